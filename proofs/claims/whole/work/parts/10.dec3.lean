abbrev b_M_init : ByteArray := prog_7_method_1_code
abbrev y_M_init : MethodName := ⟨"OldBeamsModel", "<init>", "()V"⟩
theorem d_M_init_0 : decode b_M_init 0 = .ok (.aload_n 0, 1) := by decide +kernel
theorem d_M_init_1 : decode b_M_init 1 = .ok (.invokespecial 1, 3) := by decide +kernel
theorem d_M_init_4 : decode b_M_init 4 = .ok (.aload_n 0, 1) := by decide +kernel
theorem d_M_init_5 : decode b_M_init 5 = .ok (.iconst 4, 1) := by decide +kernel
theorem d_M_init_6 : decode b_M_init 6 = .ok (.newarray .int, 2) := by decide +kernel
theorem d_M_init_8 : decode b_M_init 8 = .ok (.putfield 7, 3) := by decide +kernel
theorem d_M_init_11 : decode b_M_init 11 = .ok (.aload_n 0, 1) := by decide +kernel
theorem d_M_init_12 : decode b_M_init 12 = .ok (.bipush 8, 2) := by decide +kernel
theorem d_M_init_14 : decode b_M_init 14 = .ok (.newarray .int, 2) := by decide +kernel
theorem d_M_init_16 : decode b_M_init 16 = .ok (.putfield 13, 3) := by decide +kernel
theorem d_M_init_19 : decode b_M_init 19 = .ok (.aload_n 0, 1) := by decide +kernel
theorem d_M_init_20 : decode b_M_init 20 = .ok (.bipush 12, 2) := by decide +kernel
theorem d_M_init_22 : decode b_M_init 22 = .ok (.newarray .int, 2) := by decide +kernel
theorem d_M_init_24 : decode b_M_init 24 = .ok (.putfield 16, 3) := by decide +kernel
theorem d_M_init_27 : decode b_M_init 27 = .ok (.aload_n 0, 1) := by decide +kernel
theorem d_M_init_28 : decode b_M_init 28 = .ok (.bipush 12, 2) := by decide +kernel
theorem d_M_init_30 : decode b_M_init 30 = .ok (.newarray .int, 2) := by decide +kernel
theorem d_M_init_32 : decode b_M_init 32 = .ok (.putfield 19, 3) := by decide +kernel
theorem d_M_init_35 : decode b_M_init 35 = .ok (.aload_n 0, 1) := by decide +kernel
theorem d_M_init_36 : decode b_M_init 36 = .ok (.bipush 12, 2) := by decide +kernel
theorem d_M_init_38 : decode b_M_init 38 = .ok (.newarray .int, 2) := by decide +kernel
theorem d_M_init_40 : decode b_M_init 40 = .ok (.putfield 22, 3) := by decide +kernel
theorem d_M_init_43 : decode b_M_init 43 = .ok (.aload_n 0, 1) := by decide +kernel
theorem d_M_init_44 : decode b_M_init 44 = .ok (.bipush 12, 2) := by decide +kernel
theorem d_M_init_46 : decode b_M_init 46 = .ok (.newarray .int, 2) := by decide +kernel
theorem d_M_init_48 : decode b_M_init 48 = .ok (.putfield 25, 3) := by decide +kernel
theorem d_M_init_51 : decode b_M_init 51 = .ok (.aload_n 0, 1) := by decide +kernel
theorem d_M_init_52 : decode b_M_init 52 = .ok (.bipush 12, 2) := by decide +kernel
theorem d_M_init_54 : decode b_M_init 54 = .ok (.newarray .boolean, 2) := by decide +kernel
theorem d_M_init_56 : decode b_M_init 56 = .ok (.putfield 28, 3) := by decide +kernel
theorem d_M_init_59 : decode b_M_init 59 = .ok (.aload_n 0, 1) := by decide +kernel
theorem d_M_init_60 : decode b_M_init 60 = .ok (.bipush 12, 2) := by decide +kernel
theorem d_M_init_62 : decode b_M_init 62 = .ok (.newarray .boolean, 2) := by decide +kernel
theorem d_M_init_64 : decode b_M_init 64 = .ok (.putfield 32, 3) := by decide +kernel
theorem d_M_init_67 : decode b_M_init 67 = .ok (.aload_n 0, 1) := by decide +kernel
theorem d_M_init_68 : decode b_M_init 68 = .ok (.bipush 24, 2) := by decide +kernel
theorem d_M_init_70 : decode b_M_init 70 = .ok (.newarray .int, 2) := by decide +kernel
theorem d_M_init_72 : decode b_M_init 72 = .ok (.putfield 35, 3) := by decide +kernel
theorem d_M_init_75 : decode b_M_init 75 = .ok (.aload_n 0, 1) := by decide +kernel
theorem d_M_init_76 : decode b_M_init 76 = .ok (.bipush 24, 2) := by decide +kernel
theorem d_M_init_78 : decode b_M_init 78 = .ok (.newarray .int, 2) := by decide +kernel
theorem d_M_init_80 : decode b_M_init 80 = .ok (.putfield 38, 3) := by decide +kernel
theorem d_M_init_83 : decode b_M_init 83 = .ok (.aload_n 0, 1) := by decide +kernel
theorem d_M_init_84 : decode b_M_init 84 = .ok (.bipush 24, 2) := by decide +kernel
theorem d_M_init_86 : decode b_M_init 86 = .ok (.newarray .int, 2) := by decide +kernel
theorem d_M_init_88 : decode b_M_init 88 = .ok (.putfield 41, 3) := by decide +kernel
theorem d_M_init_91 : decode b_M_init 91 = .ok (.aload_n 0, 1) := by decide +kernel
theorem d_M_init_92 : decode b_M_init 92 = .ok (.bipush 40, 2) := by decide +kernel
theorem d_M_init_94 : decode b_M_init 94 = .ok (.newarray .int, 2) := by decide +kernel
theorem d_M_init_96 : decode b_M_init 96 = .ok (.putfield 44, 3) := by decide +kernel
theorem d_M_init_99 : decode b_M_init 99 = .ok (.aload_n 0, 1) := by decide +kernel
theorem d_M_init_100 : decode b_M_init 100 = .ok (.bipush 40, 2) := by decide +kernel
theorem d_M_init_102 : decode b_M_init 102 = .ok (.newarray .int, 2) := by decide +kernel
theorem d_M_init_104 : decode b_M_init 104 = .ok (.putfield 47, 3) := by decide +kernel
theorem d_M_init_107 : decode b_M_init 107 = .ok (.aload_n 0, 1) := by decide +kernel
theorem d_M_init_108 : decode b_M_init 108 = .ok (.bipush 40, 2) := by decide +kernel
theorem d_M_init_110 : decode b_M_init 110 = .ok (.newarray .int, 2) := by decide +kernel
theorem d_M_init_112 : decode b_M_init 112 = .ok (.putfield 50, 3) := by decide +kernel
theorem d_M_init_115 : decode b_M_init 115 = .ok (.aload_n 0, 1) := by decide +kernel
theorem d_M_init_116 : decode b_M_init 116 = .ok (.bipush 40, 2) := by decide +kernel
theorem d_M_init_118 : decode b_M_init 118 = .ok (.newarray .boolean, 2) := by decide +kernel
theorem d_M_init_120 : decode b_M_init 120 = .ok (.putfield 53, 3) := by decide +kernel
theorem d_M_init_123 : decode b_M_init 123 = .ok (.aload_n 0, 1) := by decide +kernel
theorem d_M_init_124 : decode b_M_init 124 = .ok (.bipush 8, 2) := by decide +kernel
theorem d_M_init_126 : decode b_M_init 126 = .ok (.newarray .int, 2) := by decide +kernel
theorem d_M_init_128 : decode b_M_init 128 = .ok (.putfield 56, 3) := by decide +kernel
theorem d_M_init_131 : decode b_M_init 131 = .ok (.aload_n 0, 1) := by decide +kernel
theorem d_M_init_132 : decode b_M_init 132 = .ok (.bipush 8, 2) := by decide +kernel
theorem d_M_init_134 : decode b_M_init 134 = .ok (.newarray .int, 2) := by decide +kernel
theorem d_M_init_136 : decode b_M_init 136 = .ok (.putfield 59, 3) := by decide +kernel
theorem d_M_init_139 : decode b_M_init 139 = .ok (.aload_n 0, 1) := by decide +kernel
theorem d_M_init_140 : decode b_M_init 140 = .ok (.bipush 8, 2) := by decide +kernel
theorem d_M_init_142 : decode b_M_init 142 = .ok (.newarray .int, 2) := by decide +kernel
theorem d_M_init_144 : decode b_M_init 144 = .ok (.putfield 62, 3) := by decide +kernel
theorem d_M_init_147 : decode b_M_init 147 = .ok (.aload_n 0, 1) := by decide +kernel
theorem d_M_init_148 : decode b_M_init 148 = .ok (.bipush 8, 2) := by decide +kernel
theorem d_M_init_150 : decode b_M_init 150 = .ok (.newarray .boolean, 2) := by decide +kernel
theorem d_M_init_152 : decode b_M_init 152 = .ok (.putfield 65, 3) := by decide +kernel
theorem d_M_init_155 : decode b_M_init 155 = .ok (.aload_n 0, 1) := by decide +kernel
theorem d_M_init_156 : decode b_M_init 156 = .ok (.bipush 12, 2) := by decide +kernel
theorem d_M_init_158 : decode b_M_init 158 = .ok (.newarray .boolean, 2) := by decide +kernel
theorem d_M_init_160 : decode b_M_init 160 = .ok (.putfield 68, 3) := by decide +kernel
theorem d_M_init_163 : decode b_M_init 163 = .ok (.aload_n 0, 1) := by decide +kernel
theorem d_M_init_164 : decode b_M_init 164 = .ok (.bipush 8, 2) := by decide +kernel
theorem d_M_init_166 : decode b_M_init 166 = .ok (.newarray .boolean, 2) := by decide +kernel
theorem d_M_init_168 : decode b_M_init 168 = .ok (.putfield 71, 3) := by decide +kernel
theorem d_M_init_171 : decode b_M_init 171 = .ok (.aload_n 0, 1) := by decide +kernel
theorem d_M_init_172 : decode b_M_init 172 = .ok (.bipush 12, 2) := by decide +kernel
theorem d_M_init_174 : decode b_M_init 174 = .ok (.newarray .boolean, 2) := by decide +kernel
theorem d_M_init_176 : decode b_M_init 176 = .ok (.putfield 74, 3) := by decide +kernel
theorem d_M_init_179 : decode b_M_init 179 = .ok (.aload_n 0, 1) := by decide +kernel
theorem d_M_init_180 : decode b_M_init 180 = .ok (.sipush 732, 3) := by decide +kernel
theorem d_M_init_183 : decode b_M_init 183 = .ok (.newarray .long, 2) := by decide +kernel
theorem d_M_init_185 : decode b_M_init 185 = .ok (.putfield 77, 3) := by decide +kernel
theorem d_M_init_188 : decode b_M_init 188 = .ok (.aload_n 0, 1) := by decide +kernel
theorem d_M_init_189 : decode b_M_init 189 = .ok (.bipush 24, 2) := by decide +kernel
theorem d_M_init_191 : decode b_M_init 191 = .ok (.newarray .long, 2) := by decide +kernel
theorem d_M_init_193 : decode b_M_init 193 = .ok (.putfield 81, 3) := by decide +kernel
theorem d_M_init_196 : decode b_M_init 196 = .ok (.aload_n 0, 1) := by decide +kernel
theorem d_M_init_197 : decode b_M_init 197 = .ok (.bipush 12, 2) := by decide +kernel
theorem d_M_init_199 : decode b_M_init 199 = .ok (.newarray .long, 2) := by decide +kernel
theorem d_M_init_201 : decode b_M_init 201 = .ok (.putfield 84, 3) := by decide +kernel
theorem d_M_init_204 : decode b_M_init 204 = .ok (.aload_n 0, 1) := by decide +kernel
theorem d_M_init_205 : decode b_M_init 205 = .ok (.bipush 12, 2) := by decide +kernel
theorem d_M_init_207 : decode b_M_init 207 = .ok (.newarray .int, 2) := by decide +kernel
theorem d_M_init_209 : decode b_M_init 209 = .ok (.putfield 87, 3) := by decide +kernel
theorem d_M_init_212 : decode b_M_init 212 = .ok (.aload_n 0, 1) := by decide +kernel
theorem d_M_init_213 : decode b_M_init 213 = .ok (.sipush 132, 3) := by decide +kernel
theorem d_M_init_216 : decode b_M_init 216 = .ok (.newarray .int, 2) := by decide +kernel
theorem d_M_init_218 : decode b_M_init 218 = .ok (.putfield 90, 3) := by decide +kernel
theorem d_M_init_221 : decode b_M_init 221 = .ok (.aload_n 0, 1) := by decide +kernel
theorem d_M_init_222 : decode b_M_init 222 = .ok (.bipush 44, 2) := by decide +kernel
theorem d_M_init_224 : decode b_M_init 224 = .ok (.newarray .int, 2) := by decide +kernel
theorem d_M_init_226 : decode b_M_init 226 = .ok (.putfield 93, 3) := by decide +kernel
theorem d_M_init_229 : decode b_M_init 229 = .ok (.aload_n 0, 1) := by decide +kernel
theorem d_M_init_230 : decode b_M_init 230 = .ok (.bipush 60, 2) := by decide +kernel
theorem d_M_init_232 : decode b_M_init 232 = .ok (.newarray .int, 2) := by decide +kernel
theorem d_M_init_234 : decode b_M_init 234 = .ok (.putfield 96, 3) := by decide +kernel
theorem d_M_init_237 : decode b_M_init 237 = .ok (.aload_n 0, 1) := by decide +kernel
theorem d_M_init_238 : decode b_M_init 238 = .ok (.bipush 60, 2) := by decide +kernel
theorem d_M_init_240 : decode b_M_init 240 = .ok (.newarray .int, 2) := by decide +kernel
theorem d_M_init_242 : decode b_M_init 242 = .ok (.putfield 99, 3) := by decide +kernel
theorem d_M_init_245 : decode b_M_init 245 = .ok (.aload_n 0, 1) := by decide +kernel
theorem d_M_init_246 : decode b_M_init 246 = .ok (.bipush 60, 2) := by decide +kernel
theorem d_M_init_248 : decode b_M_init 248 = .ok (.newarray .int, 2) := by decide +kernel
theorem d_M_init_250 : decode b_M_init 250 = .ok (.putfield 102, 3) := by decide +kernel
theorem d_M_init_253 : decode b_M_init 253 = .ok (.aload_n 0, 1) := by decide +kernel
theorem d_M_init_254 : decode b_M_init 254 = .ok (.bipush 60, 2) := by decide +kernel
theorem d_M_init_256 : decode b_M_init 256 = .ok (.newarray .int, 2) := by decide +kernel
theorem d_M_init_258 : decode b_M_init 258 = .ok (.putfield 105, 3) := by decide +kernel
theorem d_M_init_261 : decode b_M_init 261 = .ok (.aload_n 0, 1) := by decide +kernel
theorem d_M_init_262 : decode b_M_init 262 = .ok (.bipush 11, 2) := by decide +kernel
theorem d_M_init_264 : decode b_M_init 264 = .ok (.newarray .long, 2) := by decide +kernel
theorem d_M_init_266 : decode b_M_init 266 = .ok (.putfield 108, 3) := by decide +kernel
theorem d_M_init_269 : decode b_M_init 269 = .ok (.aload_n 0, 1) := by decide +kernel
theorem d_M_init_270 : decode b_M_init 270 = .ok (.bipush 11, 2) := by decide +kernel
theorem d_M_init_272 : decode b_M_init 272 = .ok (.newarray .long, 2) := by decide +kernel
theorem d_M_init_274 : decode b_M_init 274 = .ok (.putfield 111, 3) := by decide +kernel
theorem d_M_init_277 : decode b_M_init 277 = .ok (.aload_n 0, 1) := by decide +kernel
theorem d_M_init_278 : decode b_M_init 278 = .ok (.bipush 12, 2) := by decide +kernel
theorem d_M_init_280 : decode b_M_init 280 = .ok (.newarray .int, 2) := by decide +kernel
theorem d_M_init_282 : decode b_M_init 282 = .ok (.putfield 114, 3) := by decide +kernel
theorem d_M_init_285 : decode b_M_init 285 = .ok (.aload_n 0, 1) := by decide +kernel
theorem d_M_init_286 : decode b_M_init 286 = .ok (.bipush 100, 2) := by decide +kernel
theorem d_M_init_288 : decode b_M_init 288 = .ok (.putfield 117, 3) := by decide +kernel
theorem d_M_init_291 : decode b_M_init 291 = .ok (.aload_n 0, 1) := by decide +kernel
theorem d_M_init_292 : decode b_M_init 292 = .ok (.sipush 1000, 3) := by decide +kernel
theorem d_M_init_295 : decode b_M_init 295 = .ok (.putfield 121, 3) := by decide +kernel
theorem d_M_init_298 : decode b_M_init 298 = .ok (.iconst 0, 1) := by decide +kernel
theorem d_M_init_299 : decode b_M_init 299 = .ok (.istore_n 1, 1) := by decide +kernel
theorem d_M_init_300 : decode b_M_init 300 = .ok (.iload_n 1, 1) := by decide +kernel
theorem d_M_init_301 : decode b_M_init 301 = .ok (.iconst 4, 1) := by decide +kernel
theorem d_M_init_302 : decode b_M_init 302 = .ok (.if_icmp .ge 28, 3) := by decide +kernel
theorem d_M_init_305 : decode b_M_init 305 = .ok (.aload_n 0, 1) := by decide +kernel
theorem d_M_init_306 : decode b_M_init 306 = .ok (.getfield 7, 3) := by decide +kernel
theorem d_M_init_309 : decode b_M_init 309 = .ok (.iload_n 1, 1) := by decide +kernel
theorem d_M_init_310 : decode b_M_init 310 = .ok (.bipush 100, 2) := by decide +kernel
theorem d_M_init_312 : decode b_M_init 312 = .ok (.iastore, 1) := by decide +kernel
theorem d_M_init_313 : decode b_M_init 313 = .ok (.aload_n 0, 1) := by decide +kernel
theorem d_M_init_314 : decode b_M_init 314 = .ok (.getfield 13, 3) := by decide +kernel
theorem d_M_init_317 : decode b_M_init 317 = .ok (.iconst 2, 1) := by decide +kernel
theorem d_M_init_318 : decode b_M_init 318 = .ok (.iload_n 1, 1) := by decide +kernel
theorem d_M_init_319 : decode b_M_init 319 = .ok (.imul, 1) := by decide +kernel
theorem d_M_init_320 : decode b_M_init 320 = .ok (.iconst 1, 1) := by decide +kernel
theorem d_M_init_321 : decode b_M_init 321 = .ok (.iadd, 1) := by decide +kernel
theorem d_M_init_322 : decode b_M_init 322 = .ok (.iconst 1, 1) := by decide +kernel
theorem d_M_init_323 : decode b_M_init 323 = .ok (.iastore, 1) := by decide +kernel
theorem d_M_init_324 : decode b_M_init 324 = .ok (.iinc 1 1, 3) := by decide +kernel
theorem d_M_init_327 : decode b_M_init 327 = .ok (.goto (-27), 3) := by decide +kernel
theorem d_M_init_330 : decode b_M_init 330 = .ok (.return_, 1) := by decide +kernel
abbrev b_M_kind : ByteArray := prog_7_method_8_code
abbrev y_M_kind : MethodName := ⟨"OldBeamsModel", "kind", "(III)I"⟩
theorem d_M_kind_0 : decode b_M_kind 0 = .ok (.iload_n 1, 1) := by decide +kernel
theorem d_M_kind_1 : decode b_M_kind 1 = .ok (.i2l, 1) := by decide +kernel
theorem d_M_kind_2 : decode b_M_kind 2 = .ok (.lconst 0, 1) := by decide +kernel
theorem d_M_kind_3 : decode b_M_kind 3 = .ok (.ldc2_w 134, 3) := by decide +kernel
theorem d_M_kind_6 : decode b_M_kind 6 = .ok (.invokestatic 126, 3) := by decide +kernel
theorem d_M_kind_9 : decode b_M_kind 9 = .ok (.ifCond .ne 6, 3) := by decide +kernel
theorem d_M_kind_12 : decode b_M_kind 12 = .ok (.ldc 136, 2) := by decide +kernel
theorem d_M_kind_14 : decode b_M_kind 14 = .ok (.ireturn, 1) := by decide +kernel
theorem d_M_kind_15 : decode b_M_kind 15 = .ok (.iload_n 2, 1) := by decide +kernel
theorem d_M_kind_16 : decode b_M_kind 16 = .ok (.ifCond .ne 15, 3) := by decide +kernel
theorem d_M_kind_19 : decode b_M_kind 19 = .ok (.iload_n 3, 1) := by decide +kernel
theorem d_M_kind_20 : decode b_M_kind 20 = .ok (.i2l, 1) := by decide +kernel
theorem d_M_kind_21 : decode b_M_kind 21 = .ok (.lconst 1, 1) := by decide +kernel
theorem d_M_kind_22 : decode b_M_kind 22 = .ok (.ldc2_w 137, 3) := by decide +kernel
theorem d_M_kind_25 : decode b_M_kind 25 = .ok (.invokestatic 126, 3) := by decide +kernel
theorem d_M_kind_28 : decode b_M_kind 28 = .ok (.ifCond .ne 30, 3) := by decide +kernel
theorem d_M_kind_31 : decode b_M_kind 31 = .ok (.iload_n 2, 1) := by decide +kernel
theorem d_M_kind_32 : decode b_M_kind 32 = .ok (.i2l, 1) := by decide +kernel
theorem d_M_kind_33 : decode b_M_kind 33 = .ok (.lconst 1, 1) := by decide +kernel
theorem d_M_kind_34 : decode b_M_kind 34 = .ok (.ldc2_w 139, 3) := by decide +kernel
theorem d_M_kind_37 : decode b_M_kind 37 = .ok (.invokestatic 126, 3) := by decide +kernel
theorem d_M_kind_40 : decode b_M_kind 40 = .ok (.ifCond .eq 15, 3) := by decide +kernel
theorem d_M_kind_43 : decode b_M_kind 43 = .ok (.iload_n 3, 1) := by decide +kernel
theorem d_M_kind_44 : decode b_M_kind 44 = .ok (.i2l, 1) := by decide +kernel
theorem d_M_kind_45 : decode b_M_kind 45 = .ok (.lconst 0, 1) := by decide +kernel
theorem d_M_kind_46 : decode b_M_kind 46 = .ok (.ldc2_w 141, 3) := by decide +kernel
theorem d_M_kind_49 : decode b_M_kind 49 = .ok (.invokestatic 126, 3) := by decide +kernel
theorem d_M_kind_52 : decode b_M_kind 52 = .ok (.ifCond .ne 6, 3) := by decide +kernel
theorem d_M_kind_55 : decode b_M_kind 55 = .ok (.ldc 143, 2) := by decide +kernel
theorem d_M_kind_57 : decode b_M_kind 57 = .ok (.ireturn, 1) := by decide +kernel
theorem d_M_kind_58 : decode b_M_kind 58 = .ok (.iload_n 2, 1) := by decide +kernel
theorem d_M_kind_59 : decode b_M_kind 59 = .ok (.ifCond .ne 21, 3) := by decide +kernel
theorem d_M_kind_62 : decode b_M_kind 62 = .ok (.aload_n 0, 1) := by decide +kernel
theorem d_M_kind_63 : decode b_M_kind 63 = .ok (.getfield 7, 3) := by decide +kernel
theorem d_M_kind_66 : decode b_M_kind 66 = .ok (.iload_n 1, 1) := by decide +kernel
theorem d_M_kind_67 : decode b_M_kind 67 = .ok (.iaload, 1) := by decide +kernel
theorem d_M_kind_68 : decode b_M_kind 68 = .ok (.istore 4, 2) := by decide +kernel
theorem d_M_kind_70 : decode b_M_kind 70 = .ok (.aload_n 0, 1) := by decide +kernel
theorem d_M_kind_71 : decode b_M_kind 71 = .ok (.getfield 7, 3) := by decide +kernel
theorem d_M_kind_74 : decode b_M_kind 74 = .ok (.iload_n 1, 1) := by decide +kernel
theorem d_M_kind_75 : decode b_M_kind 75 = .ok (.iload_n 3, 1) := by decide +kernel
theorem d_M_kind_76 : decode b_M_kind 76 = .ok (.iastore, 1) := by decide +kernel
theorem d_M_kind_77 : decode b_M_kind 77 = .ok (.iload 4, 2) := by decide +kernel
theorem d_M_kind_79 : decode b_M_kind 79 = .ok (.ireturn, 1) := by decide +kernel
theorem d_M_kind_80 : decode b_M_kind 80 = .ok (.aload_n 0, 1) := by decide +kernel
theorem d_M_kind_81 : decode b_M_kind 81 = .ok (.getfield 13, 3) := by decide +kernel
theorem d_M_kind_84 : decode b_M_kind 84 = .ok (.iconst 2, 1) := by decide +kernel
theorem d_M_kind_85 : decode b_M_kind 85 = .ok (.iload_n 1, 1) := by decide +kernel
theorem d_M_kind_86 : decode b_M_kind 86 = .ok (.imul, 1) := by decide +kernel
theorem d_M_kind_87 : decode b_M_kind 87 = .ok (.iload_n 2, 1) := by decide +kernel
theorem d_M_kind_88 : decode b_M_kind 88 = .ok (.iadd, 1) := by decide +kernel
theorem d_M_kind_89 : decode b_M_kind 89 = .ok (.iconst 1, 1) := by decide +kernel
theorem d_M_kind_90 : decode b_M_kind 90 = .ok (.isub, 1) := by decide +kernel
theorem d_M_kind_91 : decode b_M_kind 91 = .ok (.iaload, 1) := by decide +kernel
theorem d_M_kind_92 : decode b_M_kind 92 = .ok (.istore 4, 2) := by decide +kernel
theorem d_M_kind_94 : decode b_M_kind 94 = .ok (.aload_n 0, 1) := by decide +kernel
theorem d_M_kind_95 : decode b_M_kind 95 = .ok (.getfield 13, 3) := by decide +kernel
theorem d_M_kind_98 : decode b_M_kind 98 = .ok (.iconst 2, 1) := by decide +kernel
theorem d_M_kind_99 : decode b_M_kind 99 = .ok (.iload_n 1, 1) := by decide +kernel
theorem d_M_kind_100 : decode b_M_kind 100 = .ok (.imul, 1) := by decide +kernel
theorem d_M_kind_101 : decode b_M_kind 101 = .ok (.iload_n 2, 1) := by decide +kernel
theorem d_M_kind_102 : decode b_M_kind 102 = .ok (.iadd, 1) := by decide +kernel
theorem d_M_kind_103 : decode b_M_kind 103 = .ok (.iconst 1, 1) := by decide +kernel
theorem d_M_kind_104 : decode b_M_kind 104 = .ok (.isub, 1) := by decide +kernel
theorem d_M_kind_105 : decode b_M_kind 105 = .ok (.iload_n 3, 1) := by decide +kernel
theorem d_M_kind_106 : decode b_M_kind 106 = .ok (.iastore, 1) := by decide +kernel
theorem d_M_kind_107 : decode b_M_kind 107 = .ok (.iload 4, 2) := by decide +kernel
theorem d_M_kind_109 : decode b_M_kind 109 = .ok (.ireturn, 1) := by decide +kernel
abbrev b_M_in : ByteArray := prog_7_method_3_code
abbrev y_M_in : MethodName := ⟨"OldBeamsModel", "in", "(JJJ)Z"⟩
theorem d_M_in_0 : decode b_M_in 0 = .ok (.lload_n 0, 1) := by decide +kernel
theorem d_M_in_1 : decode b_M_in 1 = .ok (.lload_n 2, 1) := by decide +kernel
theorem d_M_in_2 : decode b_M_in 2 = .ok (.lcmp, 1) := by decide +kernel
theorem d_M_in_3 : decode b_M_in 3 = .ok (.ifCond .lt 14, 3) := by decide +kernel
theorem d_M_in_6 : decode b_M_in 6 = .ok (.lload_n 0, 1) := by decide +kernel
theorem d_M_in_7 : decode b_M_in 7 = .ok (.lload 4, 2) := by decide +kernel
theorem d_M_in_9 : decode b_M_in 9 = .ok (.lcmp, 1) := by decide +kernel
theorem d_M_in_10 : decode b_M_in 10 = .ok (.ifCond .gt 7, 3) := by decide +kernel
theorem d_M_in_13 : decode b_M_in 13 = .ok (.iconst 1, 1) := by decide +kernel
theorem d_M_in_14 : decode b_M_in 14 = .ok (.goto 4, 3) := by decide +kernel
theorem d_M_in_17 : decode b_M_in 17 = .ok (.iconst 0, 1) := by decide +kernel
theorem d_M_in_18 : decode b_M_in 18 = .ok (.ireturn, 1) := by decide +kernel
abbrev b_M_beam : ByteArray := prog_7_method_10_code
abbrev y_M_beam : MethodName := ⟨"OldBeamsModel", "beam", "(IIIII)I"⟩
theorem d_M_beam_0 : decode b_M_beam 0 = .ok (.iload_n 1, 1) := by decide +kernel
theorem d_M_beam_1 : decode b_M_beam 1 = .ok (.i2l, 1) := by decide +kernel
theorem d_M_beam_2 : decode b_M_beam 2 = .ok (.lconst 0, 1) := by decide +kernel
theorem d_M_beam_3 : decode b_M_beam 3 = .ok (.ldc2_w 134, 3) := by decide +kernel
theorem d_M_beam_6 : decode b_M_beam 6 = .ok (.invokestatic 126, 3) := by decide +kernel
theorem d_M_beam_9 : decode b_M_beam 9 = .ok (.ifCond .ne 6, 3) := by decide +kernel
theorem d_M_beam_12 : decode b_M_beam 12 = .ok (.ldc 136, 2) := by decide +kernel
theorem d_M_beam_14 : decode b_M_beam 14 = .ok (.ireturn, 1) := by decide +kernel
theorem d_M_beam_15 : decode b_M_beam 15 = .ok (.iload_n 2, 1) := by decide +kernel
theorem d_M_beam_16 : decode b_M_beam 16 = .ok (.i2l, 1) := by decide +kernel
theorem d_M_beam_17 : decode b_M_beam 17 = .ok (.ldc2_w 139, 3) := by decide +kernel
theorem d_M_beam_20 : decode b_M_beam 20 = .ok (.ldc2_w 147, 3) := by decide +kernel
theorem d_M_beam_23 : decode b_M_beam 23 = .ok (.invokestatic 126, 3) := by decide +kernel
theorem d_M_beam_26 : decode b_M_beam 26 = .ok (.ifCond .eq 36, 3) := by decide +kernel
theorem d_M_beam_29 : decode b_M_beam 29 = .ok (.iload_n 3, 1) := by decide +kernel
theorem d_M_beam_30 : decode b_M_beam 30 = .ok (.i2l, 1) := by decide +kernel
theorem d_M_beam_31 : decode b_M_beam 31 = .ok (.lconst 1, 1) := by decide +kernel
theorem d_M_beam_32 : decode b_M_beam 32 = .ok (.ldc2_w 149, 3) := by decide +kernel
theorem d_M_beam_35 : decode b_M_beam 35 = .ok (.invokestatic 126, 3) := by decide +kernel
theorem d_M_beam_38 : decode b_M_beam 38 = .ok (.ifCond .eq 24, 3) := by decide +kernel
theorem d_M_beam_41 : decode b_M_beam 41 = .ok (.iload 4, 2) := by decide +kernel
theorem d_M_beam_43 : decode b_M_beam 43 = .ok (.i2l, 1) := by decide +kernel
theorem d_M_beam_44 : decode b_M_beam 44 = .ok (.lconst 1, 1) := by decide +kernel
theorem d_M_beam_45 : decode b_M_beam 45 = .ok (.ldc2_w 149, 3) := by decide +kernel
theorem d_M_beam_48 : decode b_M_beam 48 = .ok (.invokestatic 126, 3) := by decide +kernel
theorem d_M_beam_51 : decode b_M_beam 51 = .ok (.ifCond .eq 11, 3) := by decide +kernel
theorem d_M_beam_54 : decode b_M_beam 54 = .ok (.iload 5, 2) := by decide +kernel
theorem d_M_beam_56 : decode b_M_beam 56 = .ok (.invokestatic 151, 3) := by decide +kernel
theorem d_M_beam_59 : decode b_M_beam 59 = .ok (.ifCond .ne 6, 3) := by decide +kernel
theorem d_M_beam_62 : decode b_M_beam 62 = .ok (.ldc 143, 2) := by decide +kernel
theorem d_M_beam_64 : decode b_M_beam 64 = .ok (.ireturn, 1) := by decide +kernel
theorem d_M_beam_65 : decode b_M_beam 65 = .ok (.aload_n 0, 1) := by decide +kernel
theorem d_M_beam_66 : decode b_M_beam 66 = .ok (.getfield 144, 3) := by decide +kernel
theorem d_M_beam_69 : decode b_M_beam 69 = .ok (.bipush 12, 2) := by decide +kernel
theorem d_M_beam_71 : decode b_M_beam 71 = .ok (.if_icmp .ne 6, 3) := by decide +kernel
theorem d_M_beam_74 : decode b_M_beam 74 = .ok (.ldc 155, 2) := by decide +kernel
theorem d_M_beam_76 : decode b_M_beam 76 = .ok (.ireturn, 1) := by decide +kernel
theorem d_M_beam_77 : decode b_M_beam 77 = .ok (.aload_n 0, 1) := by decide +kernel
theorem d_M_beam_78 : decode b_M_beam 78 = .ok (.getfield 16, 3) := by decide +kernel
theorem d_M_beam_81 : decode b_M_beam 81 = .ok (.aload_n 0, 1) := by decide +kernel
theorem d_M_beam_82 : decode b_M_beam 82 = .ok (.getfield 144, 3) := by decide +kernel
theorem d_M_beam_85 : decode b_M_beam 85 = .ok (.iload_n 1, 1) := by decide +kernel
theorem d_M_beam_86 : decode b_M_beam 86 = .ok (.iastore, 1) := by decide +kernel
theorem d_M_beam_87 : decode b_M_beam 87 = .ok (.aload_n 0, 1) := by decide +kernel
theorem d_M_beam_88 : decode b_M_beam 88 = .ok (.getfield 19, 3) := by decide +kernel
theorem d_M_beam_91 : decode b_M_beam 91 = .ok (.aload_n 0, 1) := by decide +kernel
theorem d_M_beam_92 : decode b_M_beam 92 = .ok (.getfield 144, 3) := by decide +kernel
theorem d_M_beam_95 : decode b_M_beam 95 = .ok (.iload_n 2, 1) := by decide +kernel
theorem d_M_beam_96 : decode b_M_beam 96 = .ok (.iastore, 1) := by decide +kernel
theorem d_M_beam_97 : decode b_M_beam 97 = .ok (.aload_n 0, 1) := by decide +kernel
theorem d_M_beam_98 : decode b_M_beam 98 = .ok (.getfield 22, 3) := by decide +kernel
theorem d_M_beam_101 : decode b_M_beam 101 = .ok (.aload_n 0, 1) := by decide +kernel
theorem d_M_beam_102 : decode b_M_beam 102 = .ok (.getfield 144, 3) := by decide +kernel
theorem d_M_beam_105 : decode b_M_beam 105 = .ok (.iload_n 3, 1) := by decide +kernel
theorem d_M_beam_106 : decode b_M_beam 106 = .ok (.iastore, 1) := by decide +kernel
theorem d_M_beam_107 : decode b_M_beam 107 = .ok (.aload_n 0, 1) := by decide +kernel
theorem d_M_beam_108 : decode b_M_beam 108 = .ok (.getfield 25, 3) := by decide +kernel
theorem d_M_beam_111 : decode b_M_beam 111 = .ok (.aload_n 0, 1) := by decide +kernel
theorem d_M_beam_112 : decode b_M_beam 112 = .ok (.getfield 144, 3) := by decide +kernel
theorem d_M_beam_115 : decode b_M_beam 115 = .ok (.iload 4, 2) := by decide +kernel
theorem d_M_beam_117 : decode b_M_beam 117 = .ok (.iastore, 1) := by decide +kernel
theorem d_M_beam_118 : decode b_M_beam 118 = .ok (.aload_n 0, 1) := by decide +kernel
theorem d_M_beam_119 : decode b_M_beam 119 = .ok (.getfield 35, 3) := by decide +kernel
theorem d_M_beam_122 : decode b_M_beam 122 = .ok (.iconst 2, 1) := by decide +kernel
theorem d_M_beam_123 : decode b_M_beam 123 = .ok (.aload_n 0, 1) := by decide +kernel
theorem d_M_beam_124 : decode b_M_beam 124 = .ok (.getfield 144, 3) := by decide +kernel
theorem d_M_beam_127 : decode b_M_beam 127 = .ok (.imul, 1) := by decide +kernel
theorem d_M_beam_128 : decode b_M_beam 128 = .ok (.iconst 0, 1) := by decide +kernel
theorem d_M_beam_129 : decode b_M_beam 129 = .ok (.iastore, 1) := by decide +kernel
theorem d_M_beam_130 : decode b_M_beam 130 = .ok (.aload_n 0, 1) := by decide +kernel
theorem d_M_beam_131 : decode b_M_beam 131 = .ok (.getfield 35, 3) := by decide +kernel
theorem d_M_beam_134 : decode b_M_beam 134 = .ok (.iconst 2, 1) := by decide +kernel
theorem d_M_beam_135 : decode b_M_beam 135 = .ok (.aload_n 0, 1) := by decide +kernel
theorem d_M_beam_136 : decode b_M_beam 136 = .ok (.getfield 144, 3) := by decide +kernel
theorem d_M_beam_139 : decode b_M_beam 139 = .ok (.imul, 1) := by decide +kernel
theorem d_M_beam_140 : decode b_M_beam 140 = .ok (.iconst 1, 1) := by decide +kernel
theorem d_M_beam_141 : decode b_M_beam 141 = .ok (.iadd, 1) := by decide +kernel
theorem d_M_beam_142 : decode b_M_beam 142 = .ok (.iload_n 2, 1) := by decide +kernel
theorem d_M_beam_143 : decode b_M_beam 143 = .ok (.iastore, 1) := by decide +kernel
theorem d_M_beam_144 : decode b_M_beam 144 = .ok (.aload_n 0, 1) := by decide +kernel
theorem d_M_beam_145 : decode b_M_beam 145 = .ok (.getfield 38, 3) := by decide +kernel
theorem d_M_beam_148 : decode b_M_beam 148 = .ok (.iconst 2, 1) := by decide +kernel
theorem d_M_beam_149 : decode b_M_beam 149 = .ok (.aload_n 0, 1) := by decide +kernel
theorem d_M_beam_150 : decode b_M_beam 150 = .ok (.getfield 144, 3) := by decide +kernel
theorem d_M_beam_153 : decode b_M_beam 153 = .ok (.imul, 1) := by decide +kernel
theorem d_M_beam_154 : decode b_M_beam 154 = .ok (.ldc 156, 2) := by decide +kernel
theorem d_M_beam_156 : decode b_M_beam 156 = .ok (.iastore, 1) := by decide +kernel
theorem d_M_beam_157 : decode b_M_beam 157 = .ok (.aload_n 0, 1) := by decide +kernel
theorem d_M_beam_158 : decode b_M_beam 158 = .ok (.getfield 38, 3) := by decide +kernel
theorem d_M_beam_161 : decode b_M_beam 161 = .ok (.iconst 2, 1) := by decide +kernel
theorem d_M_beam_162 : decode b_M_beam 162 = .ok (.aload_n 0, 1) := by decide +kernel
theorem d_M_beam_163 : decode b_M_beam 163 = .ok (.getfield 144, 3) := by decide +kernel
theorem d_M_beam_166 : decode b_M_beam 166 = .ok (.imul, 1) := by decide +kernel
theorem d_M_beam_167 : decode b_M_beam 167 = .ok (.iconst 1, 1) := by decide +kernel
theorem d_M_beam_168 : decode b_M_beam 168 = .ok (.iadd, 1) := by decide +kernel
theorem d_M_beam_169 : decode b_M_beam 169 = .ok (.ldc 156, 2) := by decide +kernel
theorem d_M_beam_171 : decode b_M_beam 171 = .ok (.iastore, 1) := by decide +kernel
theorem d_M_beam_172 : decode b_M_beam 172 = .ok (.iconst 0, 1) := by decide +kernel
theorem d_M_beam_173 : decode b_M_beam 173 = .ok (.istore 6, 2) := by decide +kernel
theorem d_M_beam_175 : decode b_M_beam 175 = .ok (.iload 6, 2) := by decide +kernel
theorem d_M_beam_177 : decode b_M_beam 177 = .ok (.bipush 11, 2) := by decide +kernel
theorem d_M_beam_179 : decode b_M_beam 179 = .ok (.if_icmp .ge 25, 3) := by decide +kernel
theorem d_M_beam_182 : decode b_M_beam 182 = .ok (.aload_n 0, 1) := by decide +kernel
theorem d_M_beam_183 : decode b_M_beam 183 = .ok (.getfield 90, 3) := by decide +kernel
theorem d_M_beam_186 : decode b_M_beam 186 = .ok (.bipush 11, 2) := by decide +kernel
theorem d_M_beam_188 : decode b_M_beam 188 = .ok (.aload_n 0, 1) := by decide +kernel
theorem d_M_beam_189 : decode b_M_beam 189 = .ok (.getfield 144, 3) := by decide +kernel
theorem d_M_beam_192 : decode b_M_beam 192 = .ok (.imul, 1) := by decide +kernel
theorem d_M_beam_193 : decode b_M_beam 193 = .ok (.iload 6, 2) := by decide +kernel
theorem d_M_beam_195 : decode b_M_beam 195 = .ok (.iadd, 1) := by decide +kernel
theorem d_M_beam_196 : decode b_M_beam 196 = .ok (.iconst 1, 1) := by decide +kernel
theorem d_M_beam_197 : decode b_M_beam 197 = .ok (.iastore, 1) := by decide +kernel
theorem d_M_beam_198 : decode b_M_beam 198 = .ok (.iinc 6 1, 3) := by decide +kernel
theorem d_M_beam_201 : decode b_M_beam 201 = .ok (.goto (-26), 3) := by decide +kernel
theorem d_M_beam_204 : decode b_M_beam 204 = .ok (.aload_n 0, 1) := by decide +kernel
theorem d_M_beam_205 : decode b_M_beam 205 = .ok (.dup, 1) := by decide +kernel
theorem d_M_beam_206 : decode b_M_beam 206 = .ok (.getfield 144, 3) := by decide +kernel
theorem d_M_beam_209 : decode b_M_beam 209 = .ok (.iconst 1, 1) := by decide +kernel
theorem d_M_beam_210 : decode b_M_beam 210 = .ok (.iadd, 1) := by decide +kernel
theorem d_M_beam_211 : decode b_M_beam 211 = .ok (.putfield 144, 3) := by decide +kernel
theorem d_M_beam_214 : decode b_M_beam 214 = .ok (.aload_n 0, 1) := by decide +kernel
theorem d_M_beam_215 : decode b_M_beam 215 = .ok (.getfield 144, 3) := by decide +kernel
theorem d_M_beam_218 : decode b_M_beam 218 = .ok (.iconst 1, 1) := by decide +kernel
theorem d_M_beam_219 : decode b_M_beam 219 = .ok (.isub, 1) := by decide +kernel
theorem d_M_beam_220 : decode b_M_beam 220 = .ok (.ireturn, 1) := by decide +kernel
abbrev b_M_isYear : ByteArray := prog_7_method_4_code
abbrev y_M_isYear : MethodName := ⟨"OldBeamsModel", "isYear", "(I)Z"⟩
theorem d_M_isYear_0 : decode b_M_isYear 0 = .ok (.iload_n 0, 1) := by decide +kernel
theorem d_M_isYear_1 : decode b_M_isYear 1 = .ok (.i2l, 1) := by decide +kernel
theorem d_M_isYear_2 : decode b_M_isYear 2 = .ok (.lconst 0, 1) := by decide +kernel
theorem d_M_isYear_3 : decode b_M_isYear 3 = .ok (.ldc2_w 124, 3) := by decide +kernel
theorem d_M_isYear_6 : decode b_M_isYear 6 = .ok (.invokestatic 126, 3) := by decide +kernel
theorem d_M_isYear_9 : decode b_M_isYear 9 = .ok (.ireturn, 1) := by decide +kernel
abbrev b_M_seat : ByteArray := prog_7_method_11_code
abbrev y_M_seat : MethodName := ⟨"OldBeamsModel", "seat", "(IIIII)I"⟩
theorem d_M_seat_0 : decode b_M_seat 0 = .ok (.aload_n 0, 1) := by decide +kernel
theorem d_M_seat_1 : decode b_M_seat 1 = .ok (.iload_n 1, 1) := by decide +kernel
theorem d_M_seat_2 : decode b_M_seat 2 = .ok (.invokevirtual 157, 3) := by decide +kernel
theorem d_M_seat_5 : decode b_M_seat 5 = .ok (.ifCond .ne 6, 3) := by decide +kernel
theorem d_M_seat_8 : decode b_M_seat 8 = .ok (.ldc 136, 2) := by decide +kernel
theorem d_M_seat_10 : decode b_M_seat 10 = .ok (.ireturn, 1) := by decide +kernel
theorem d_M_seat_11 : decode b_M_seat 11 = .ok (.iload 4, 2) := by decide +kernel
theorem d_M_seat_13 : decode b_M_seat 13 = .ok (.i2l, 1) := by decide +kernel
theorem d_M_seat_14 : decode b_M_seat 14 = .ok (.lconst 0, 1) := by decide +kernel
theorem d_M_seat_15 : decode b_M_seat 15 = .ok (.iload_n 1, 1) := by decide +kernel
theorem d_M_seat_16 : decode b_M_seat 16 = .ok (.iconst 1, 1) := by decide +kernel
theorem d_M_seat_17 : decode b_M_seat 17 = .ok (.isub, 1) := by decide +kernel
theorem d_M_seat_18 : decode b_M_seat 18 = .ok (.i2l, 1) := by decide +kernel
theorem d_M_seat_19 : decode b_M_seat 19 = .ok (.invokestatic 126, 3) := by decide +kernel
theorem d_M_seat_22 : decode b_M_seat 22 = .ok (.istore 6, 2) := by decide +kernel
theorem d_M_seat_24 : decode b_M_seat 24 = .ok (.iload_n 2, 1) := by decide +kernel
theorem d_M_seat_25 : decode b_M_seat 25 = .ok (.i2l, 1) := by decide +kernel
theorem d_M_seat_26 : decode b_M_seat 26 = .ok (.lconst 0, 1) := by decide +kernel
theorem d_M_seat_27 : decode b_M_seat 27 = .ok (.lconst 1, 1) := by decide +kernel
theorem d_M_seat_28 : decode b_M_seat 28 = .ok (.invokestatic 126, 3) := by decide +kernel
theorem d_M_seat_31 : decode b_M_seat 31 = .ok (.ifCond .eq 42, 3) := by decide +kernel
theorem d_M_seat_34 : decode b_M_seat 34 = .ok (.iload_n 3, 1) := by decide +kernel
theorem d_M_seat_35 : decode b_M_seat 35 = .ok (.i2l, 1) := by decide +kernel
theorem d_M_seat_36 : decode b_M_seat 36 = .ok (.lconst 0, 1) := by decide +kernel
theorem d_M_seat_37 : decode b_M_seat 37 = .ok (.aload_n 0, 1) := by decide +kernel
theorem d_M_seat_38 : decode b_M_seat 38 = .ok (.getfield 19, 3) := by decide +kernel
theorem d_M_seat_41 : decode b_M_seat 41 = .ok (.iload_n 1, 1) := by decide +kernel
theorem d_M_seat_42 : decode b_M_seat 42 = .ok (.iaload, 1) := by decide +kernel
theorem d_M_seat_43 : decode b_M_seat 43 = .ok (.i2l, 1) := by decide +kernel
theorem d_M_seat_44 : decode b_M_seat 44 = .ok (.invokestatic 126, 3) := by decide +kernel
theorem d_M_seat_47 : decode b_M_seat 47 = .ok (.ifCond .eq 26, 3) := by decide +kernel
theorem d_M_seat_50 : decode b_M_seat 50 = .ok (.iload 6, 2) := by decide +kernel
theorem d_M_seat_52 : decode b_M_seat 52 = .ok (.ifCond .eq 24, 3) := by decide +kernel
theorem d_M_seat_55 : decode b_M_seat 55 = .ok (.iload 5, 2) := by decide +kernel
theorem d_M_seat_57 : decode b_M_seat 57 = .ok (.i2l, 1) := by decide +kernel
theorem d_M_seat_58 : decode b_M_seat 58 = .ok (.lconst 0, 1) := by decide +kernel
theorem d_M_seat_59 : decode b_M_seat 59 = .ok (.aload_n 0, 1) := by decide +kernel
theorem d_M_seat_60 : decode b_M_seat 60 = .ok (.getfield 19, 3) := by decide +kernel
theorem d_M_seat_63 : decode b_M_seat 63 = .ok (.iload 4, 2) := by decide +kernel
theorem d_M_seat_65 : decode b_M_seat 65 = .ok (.iaload, 1) := by decide +kernel
theorem d_M_seat_66 : decode b_M_seat 66 = .ok (.i2l, 1) := by decide +kernel
theorem d_M_seat_67 : decode b_M_seat 67 = .ok (.invokestatic 126, 3) := by decide +kernel
theorem d_M_seat_70 : decode b_M_seat 70 = .ok (.ifCond .ne 6, 3) := by decide +kernel
theorem d_M_seat_73 : decode b_M_seat 73 = .ok (.ldc 143, 2) := by decide +kernel
theorem d_M_seat_75 : decode b_M_seat 75 = .ok (.ireturn, 1) := by decide +kernel
theorem d_M_seat_76 : decode b_M_seat 76 = .ok (.iload_n 2, 1) := by decide +kernel
theorem d_M_seat_77 : decode b_M_seat 77 = .ok (.ifCond .ne 7, 3) := by decide +kernel
theorem d_M_seat_80 : decode b_M_seat 80 = .ok (.iload_n 3, 1) := by decide +kernel
theorem d_M_seat_81 : decode b_M_seat 81 = .ok (.goto 11, 3) := by decide +kernel
theorem d_M_seat_84 : decode b_M_seat 84 = .ok (.aload_n 0, 1) := by decide +kernel
theorem d_M_seat_85 : decode b_M_seat 85 = .ok (.getfield 35, 3) := by decide +kernel
theorem d_M_seat_88 : decode b_M_seat 88 = .ok (.iconst 2, 1) := by decide +kernel
theorem d_M_seat_89 : decode b_M_seat 89 = .ok (.iload_n 1, 1) := by decide +kernel
theorem d_M_seat_90 : decode b_M_seat 90 = .ok (.imul, 1) := by decide +kernel
theorem d_M_seat_91 : decode b_M_seat 91 = .ok (.iaload, 1) := by decide +kernel
theorem d_M_seat_92 : decode b_M_seat 92 = .ok (.istore 7, 2) := by decide +kernel
theorem d_M_seat_94 : decode b_M_seat 94 = .ok (.iload_n 2, 1) := by decide +kernel
theorem d_M_seat_95 : decode b_M_seat 95 = .ok (.ifCond .ne 16, 3) := by decide +kernel
theorem d_M_seat_98 : decode b_M_seat 98 = .ok (.aload_n 0, 1) := by decide +kernel
theorem d_M_seat_99 : decode b_M_seat 99 = .ok (.getfield 35, 3) := by decide +kernel
theorem d_M_seat_102 : decode b_M_seat 102 = .ok (.iconst 2, 1) := by decide +kernel
theorem d_M_seat_103 : decode b_M_seat 103 = .ok (.iload_n 1, 1) := by decide +kernel
theorem d_M_seat_104 : decode b_M_seat 104 = .ok (.imul, 1) := by decide +kernel
theorem d_M_seat_105 : decode b_M_seat 105 = .ok (.iconst 1, 1) := by decide +kernel
theorem d_M_seat_106 : decode b_M_seat 106 = .ok (.iadd, 1) := by decide +kernel
theorem d_M_seat_107 : decode b_M_seat 107 = .ok (.iaload, 1) := by decide +kernel
theorem d_M_seat_108 : decode b_M_seat 108 = .ok (.goto 4, 3) := by decide +kernel
theorem d_M_seat_111 : decode b_M_seat 111 = .ok (.iload_n 3, 1) := by decide +kernel
theorem d_M_seat_112 : decode b_M_seat 112 = .ok (.istore 8, 2) := by decide +kernel
theorem d_M_seat_114 : decode b_M_seat 114 = .ok (.iload 4, 2) := by decide +kernel
theorem d_M_seat_116 : decode b_M_seat 116 = .ok (.ldc 156, 2) := by decide +kernel
theorem d_M_seat_118 : decode b_M_seat 118 = .ok (.if_icmp .eq 8, 3) := by decide +kernel
theorem d_M_seat_121 : decode b_M_seat 121 = .ok (.iload 6, 2) := by decide +kernel
theorem d_M_seat_123 : decode b_M_seat 123 = .ok (.ifCond .eq 26, 3) := by decide +kernel
theorem d_M_seat_126 : decode b_M_seat 126 = .ok (.iload 7, 2) := by decide +kernel
theorem d_M_seat_128 : decode b_M_seat 128 = .ok (.iload 8, 2) := by decide +kernel
theorem d_M_seat_130 : decode b_M_seat 130 = .ok (.if_icmp .ge 19, 3) := by decide +kernel
theorem d_M_seat_133 : decode b_M_seat 133 = .ok (.iconst 3, 1) := by decide +kernel
theorem d_M_seat_134 : decode b_M_seat 134 = .ok (.iload 8, 2) := by decide +kernel
theorem d_M_seat_136 : decode b_M_seat 136 = .ok (.iload 7, 2) := by decide +kernel
theorem d_M_seat_138 : decode b_M_seat 138 = .ok (.isub, 1) := by decide +kernel
theorem d_M_seat_139 : decode b_M_seat 139 = .ok (.imul, 1) := by decide +kernel
theorem d_M_seat_140 : decode b_M_seat 140 = .ok (.aload_n 0, 1) := by decide +kernel
theorem d_M_seat_141 : decode b_M_seat 141 = .ok (.getfield 19, 3) := by decide +kernel
theorem d_M_seat_144 : decode b_M_seat 144 = .ok (.iload_n 1, 1) := by decide +kernel
theorem d_M_seat_145 : decode b_M_seat 145 = .ok (.iaload, 1) := by decide +kernel
theorem d_M_seat_146 : decode b_M_seat 146 = .ok (.if_icmp .ge 6, 3) := by decide +kernel
theorem d_M_seat_149 : decode b_M_seat 149 = .ok (.ldc 160, 2) := by decide +kernel
theorem d_M_seat_151 : decode b_M_seat 151 = .ok (.ireturn, 1) := by decide +kernel
theorem d_M_seat_152 : decode b_M_seat 152 = .ok (.aload_n 0, 1) := by decide +kernel
theorem d_M_seat_153 : decode b_M_seat 153 = .ok (.getfield 35, 3) := by decide +kernel
theorem d_M_seat_156 : decode b_M_seat 156 = .ok (.iconst 2, 1) := by decide +kernel
theorem d_M_seat_157 : decode b_M_seat 157 = .ok (.iload_n 1, 1) := by decide +kernel
theorem d_M_seat_158 : decode b_M_seat 158 = .ok (.imul, 1) := by decide +kernel
theorem d_M_seat_159 : decode b_M_seat 159 = .ok (.iload_n 2, 1) := by decide +kernel
theorem d_M_seat_160 : decode b_M_seat 160 = .ok (.iadd, 1) := by decide +kernel
theorem d_M_seat_161 : decode b_M_seat 161 = .ok (.iaload, 1) := by decide +kernel
theorem d_M_seat_162 : decode b_M_seat 162 = .ok (.istore 9, 2) := by decide +kernel
theorem d_M_seat_164 : decode b_M_seat 164 = .ok (.aload_n 0, 1) := by decide +kernel
theorem d_M_seat_165 : decode b_M_seat 165 = .ok (.getfield 35, 3) := by decide +kernel
theorem d_M_seat_168 : decode b_M_seat 168 = .ok (.iconst 2, 1) := by decide +kernel
theorem d_M_seat_169 : decode b_M_seat 169 = .ok (.iload_n 1, 1) := by decide +kernel
theorem d_M_seat_170 : decode b_M_seat 170 = .ok (.imul, 1) := by decide +kernel
theorem d_M_seat_171 : decode b_M_seat 171 = .ok (.iload_n 2, 1) := by decide +kernel
theorem d_M_seat_172 : decode b_M_seat 172 = .ok (.iadd, 1) := by decide +kernel
theorem d_M_seat_173 : decode b_M_seat 173 = .ok (.iload_n 3, 1) := by decide +kernel
theorem d_M_seat_174 : decode b_M_seat 174 = .ok (.iastore, 1) := by decide +kernel
theorem d_M_seat_175 : decode b_M_seat 175 = .ok (.aload_n 0, 1) := by decide +kernel
theorem d_M_seat_176 : decode b_M_seat 176 = .ok (.getfield 38, 3) := by decide +kernel
theorem d_M_seat_179 : decode b_M_seat 179 = .ok (.iconst 2, 1) := by decide +kernel
theorem d_M_seat_180 : decode b_M_seat 180 = .ok (.iload_n 1, 1) := by decide +kernel
theorem d_M_seat_181 : decode b_M_seat 181 = .ok (.imul, 1) := by decide +kernel
theorem d_M_seat_182 : decode b_M_seat 182 = .ok (.iload_n 2, 1) := by decide +kernel
theorem d_M_seat_183 : decode b_M_seat 183 = .ok (.iadd, 1) := by decide +kernel
theorem d_M_seat_184 : decode b_M_seat 184 = .ok (.iload 4, 2) := by decide +kernel
theorem d_M_seat_186 : decode b_M_seat 186 = .ok (.iastore, 1) := by decide +kernel
theorem d_M_seat_187 : decode b_M_seat 187 = .ok (.aload_n 0, 1) := by decide +kernel
theorem d_M_seat_188 : decode b_M_seat 188 = .ok (.getfield 41, 3) := by decide +kernel
theorem d_M_seat_191 : decode b_M_seat 191 = .ok (.iconst 2, 1) := by decide +kernel
theorem d_M_seat_192 : decode b_M_seat 192 = .ok (.iload_n 1, 1) := by decide +kernel
theorem d_M_seat_193 : decode b_M_seat 193 = .ok (.imul, 1) := by decide +kernel
theorem d_M_seat_194 : decode b_M_seat 194 = .ok (.iload_n 2, 1) := by decide +kernel
theorem d_M_seat_195 : decode b_M_seat 195 = .ok (.iadd, 1) := by decide +kernel
theorem d_M_seat_196 : decode b_M_seat 196 = .ok (.iload 5, 2) := by decide +kernel
theorem d_M_seat_198 : decode b_M_seat 198 = .ok (.iastore, 1) := by decide +kernel
theorem d_M_seat_199 : decode b_M_seat 199 = .ok (.iload 9, 2) := by decide +kernel
theorem d_M_seat_201 : decode b_M_seat 201 = .ok (.ireturn, 1) := by decide +kernel
abbrev b_M_isBeam : ByteArray := prog_7_method_9_code
abbrev y_M_isBeam : MethodName := ⟨"OldBeamsModel", "isBeam", "(I)Z"⟩
theorem d_M_isBeam_0 : decode b_M_isBeam 0 = .ok (.iload_n 1, 1) := by decide +kernel
theorem d_M_isBeam_1 : decode b_M_isBeam 1 = .ok (.i2l, 1) := by decide +kernel
theorem d_M_isBeam_2 : decode b_M_isBeam 2 = .ok (.lconst 0, 1) := by decide +kernel
theorem d_M_isBeam_3 : decode b_M_isBeam 3 = .ok (.aload_n 0, 1) := by decide +kernel
theorem d_M_isBeam_4 : decode b_M_isBeam 4 = .ok (.getfield 144, 3) := by decide +kernel
theorem d_M_isBeam_7 : decode b_M_isBeam 7 = .ok (.iconst 1, 1) := by decide +kernel
theorem d_M_isBeam_8 : decode b_M_isBeam 8 = .ok (.isub, 1) := by decide +kernel
theorem d_M_isBeam_9 : decode b_M_isBeam 9 = .ok (.i2l, 1) := by decide +kernel
theorem d_M_isBeam_10 : decode b_M_isBeam 10 = .ok (.invokestatic 126, 3) := by decide +kernel
theorem d_M_isBeam_13 : decode b_M_isBeam 13 = .ok (.ireturn, 1) := by decide +kernel
abbrev b_M_about : ByteArray := prog_7_method_13_code
abbrev y_M_about : MethodName := ⟨"OldBeamsModel", "about", "(II)I"⟩
theorem d_M_about_0 : decode b_M_about 0 = .ok (.aload_n 0, 1) := by decide +kernel
theorem d_M_about_1 : decode b_M_about 1 = .ok (.iload_n 1, 1) := by decide +kernel
theorem d_M_about_2 : decode b_M_about 2 = .ok (.invokevirtual 157, 3) := by decide +kernel
theorem d_M_about_5 : decode b_M_about 5 = .ok (.ifCond .ne 6, 3) := by decide +kernel
theorem d_M_about_8 : decode b_M_about 8 = .ok (.ldc 136, 2) := by decide +kernel
theorem d_M_about_10 : decode b_M_about 10 = .ok (.ireturn, 1) := by decide +kernel
theorem d_M_about_11 : decode b_M_about 11 = .ok (.aload_n 0, 1) := by decide +kernel
theorem d_M_about_12 : decode b_M_about 12 = .ok (.invokevirtual 161, 3) := by decide +kernel
theorem d_M_about_15 : decode b_M_about 15 = .ok (.iload_n 2, 1) := by decide +kernel
theorem d_M_about_16 : decode b_M_about 16 = .ok (.tableswitch 131 0 7 #[48, 55, 64, 75, 84, 95, 101, 116], 48) := by decide +kernel
theorem d_M_about_64 : decode b_M_about 64 = .ok (.aload_n 0, 1) := by decide +kernel
theorem d_M_about_65 : decode b_M_about 65 = .ok (.getfield 19, 3) := by decide +kernel
theorem d_M_about_68 : decode b_M_about 68 = .ok (.iload_n 1, 1) := by decide +kernel
theorem d_M_about_69 : decode b_M_about 69 = .ok (.iaload, 1) := by decide +kernel
theorem d_M_about_70 : decode b_M_about 70 = .ok (.ireturn, 1) := by decide +kernel
theorem d_M_about_71 : decode b_M_about 71 = .ok (.aload_n 0, 1) := by decide +kernel
theorem d_M_about_72 : decode b_M_about 72 = .ok (.getfield 35, 3) := by decide +kernel
theorem d_M_about_75 : decode b_M_about 75 = .ok (.iconst 2, 1) := by decide +kernel
theorem d_M_about_76 : decode b_M_about 76 = .ok (.iload_n 1, 1) := by decide +kernel
theorem d_M_about_77 : decode b_M_about 77 = .ok (.imul, 1) := by decide +kernel
theorem d_M_about_78 : decode b_M_about 78 = .ok (.iaload, 1) := by decide +kernel
theorem d_M_about_79 : decode b_M_about 79 = .ok (.ireturn, 1) := by decide +kernel
theorem d_M_about_80 : decode b_M_about 80 = .ok (.aload_n 0, 1) := by decide +kernel
theorem d_M_about_81 : decode b_M_about 81 = .ok (.getfield 35, 3) := by decide +kernel
theorem d_M_about_84 : decode b_M_about 84 = .ok (.iconst 2, 1) := by decide +kernel
theorem d_M_about_85 : decode b_M_about 85 = .ok (.iload_n 1, 1) := by decide +kernel
theorem d_M_about_86 : decode b_M_about 86 = .ok (.imul, 1) := by decide +kernel
theorem d_M_about_87 : decode b_M_about 87 = .ok (.iconst 1, 1) := by decide +kernel
theorem d_M_about_88 : decode b_M_about 88 = .ok (.iadd, 1) := by decide +kernel
theorem d_M_about_89 : decode b_M_about 89 = .ok (.iaload, 1) := by decide +kernel
theorem d_M_about_90 : decode b_M_about 90 = .ok (.ireturn, 1) := by decide +kernel
theorem d_M_about_91 : decode b_M_about 91 = .ok (.aload_n 0, 1) := by decide +kernel
theorem d_M_about_92 : decode b_M_about 92 = .ok (.getfield 38, 3) := by decide +kernel
theorem d_M_about_95 : decode b_M_about 95 = .ok (.iconst 2, 1) := by decide +kernel
theorem d_M_about_96 : decode b_M_about 96 = .ok (.iload_n 1, 1) := by decide +kernel
theorem d_M_about_97 : decode b_M_about 97 = .ok (.imul, 1) := by decide +kernel
theorem d_M_about_98 : decode b_M_about 98 = .ok (.iaload, 1) := by decide +kernel
theorem d_M_about_99 : decode b_M_about 99 = .ok (.ireturn, 1) := by decide +kernel
theorem d_M_about_100 : decode b_M_about 100 = .ok (.aload_n 0, 1) := by decide +kernel
theorem d_M_about_101 : decode b_M_about 101 = .ok (.getfield 38, 3) := by decide +kernel
theorem d_M_about_104 : decode b_M_about 104 = .ok (.iconst 2, 1) := by decide +kernel
theorem d_M_about_105 : decode b_M_about 105 = .ok (.iload_n 1, 1) := by decide +kernel
theorem d_M_about_106 : decode b_M_about 106 = .ok (.imul, 1) := by decide +kernel
theorem d_M_about_107 : decode b_M_about 107 = .ok (.iconst 1, 1) := by decide +kernel
theorem d_M_about_108 : decode b_M_about 108 = .ok (.iadd, 1) := by decide +kernel
theorem d_M_about_109 : decode b_M_about 109 = .ok (.iaload, 1) := by decide +kernel
theorem d_M_about_110 : decode b_M_about 110 = .ok (.ireturn, 1) := by decide +kernel
theorem d_M_about_111 : decode b_M_about 111 = .ok (.aload_n 0, 1) := by decide +kernel
theorem d_M_about_112 : decode b_M_about 112 = .ok (.iload_n 1, 1) := by decide +kernel
theorem d_M_about_113 : decode b_M_about 113 = .ok (.invokevirtual 164, 3) := by decide +kernel
theorem d_M_about_116 : decode b_M_about 116 = .ok (.ireturn, 1) := by decide +kernel
theorem d_M_about_117 : decode b_M_about 117 = .ok (.aload_n 0, 1) := by decide +kernel
theorem d_M_about_118 : decode b_M_about 118 = .ok (.getfield 28, 3) := by decide +kernel
theorem d_M_about_121 : decode b_M_about 121 = .ok (.iload_n 1, 1) := by decide +kernel
theorem d_M_about_122 : decode b_M_about 122 = .ok (.baload, 1) := by decide +kernel
theorem d_M_about_123 : decode b_M_about 123 = .ok (.ifCond .eq 7, 3) := by decide +kernel
theorem d_M_about_126 : decode b_M_about 126 = .ok (.iconst 1, 1) := by decide +kernel
theorem d_M_about_127 : decode b_M_about 127 = .ok (.goto 4, 3) := by decide +kernel
theorem d_M_about_130 : decode b_M_about 130 = .ok (.iconst 0, 1) := by decide +kernel
theorem d_M_about_131 : decode b_M_about 131 = .ok (.ireturn, 1) := by decide +kernel
theorem d_M_about_132 : decode b_M_about 132 = .ok (.aload_n 0, 1) := by decide +kernel
theorem d_M_about_133 : decode b_M_about 133 = .ok (.getfield 74, 3) := by decide +kernel
theorem d_M_about_136 : decode b_M_about 136 = .ok (.iload_n 1, 1) := by decide +kernel
theorem d_M_about_137 : decode b_M_about 137 = .ok (.baload, 1) := by decide +kernel
theorem d_M_about_138 : decode b_M_about 138 = .ok (.ifCond .eq 7, 3) := by decide +kernel
theorem d_M_about_141 : decode b_M_about 141 = .ok (.iconst 1, 1) := by decide +kernel
theorem d_M_about_142 : decode b_M_about 142 = .ok (.goto 4, 3) := by decide +kernel
theorem d_M_about_145 : decode b_M_about 145 = .ok (.iconst 0, 1) := by decide +kernel
theorem d_M_about_146 : decode b_M_about 146 = .ok (.ireturn, 1) := by decide +kernel
theorem d_M_about_147 : decode b_M_about 147 = .ok (.ldc 143, 2) := by decide +kernel
theorem d_M_about_149 : decode b_M_about 149 = .ok (.ireturn, 1) := by decide +kernel
abbrev b_M_layNow : ByteArray := prog_7_method_26_code
abbrev y_M_layNow : MethodName := ⟨"OldBeamsModel", "layNow", "()V"⟩
theorem d_M_layNow_0 : decode b_M_layNow 0 = .ok (.aload_n 0, 1) := by decide +kernel
theorem d_M_layNow_1 : decode b_M_layNow 1 = .ok (.invokevirtual 193, 3) := by decide +kernel
theorem d_M_layNow_4 : decode b_M_layNow 4 = .ok (.aload_n 0, 1) := by decide +kernel
theorem d_M_layNow_5 : decode b_M_layNow 5 = .ok (.invokevirtual 196, 3) := by decide +kernel
theorem d_M_layNow_8 : decode b_M_layNow 8 = .ok (.return_, 1) := by decide +kernel
abbrev b_M_tryNow : ByteArray := prog_7_method_19_code
abbrev y_M_tryNow : MethodName := ⟨"OldBeamsModel", "tryNow", "()V"⟩
theorem d_M_tryNow_0 : decode b_M_tryNow 0 = .ok (.iconst 0, 1) := by decide +kernel
theorem d_M_tryNow_1 : decode b_M_tryNow 1 = .ok (.istore_n 1, 1) := by decide +kernel
theorem d_M_tryNow_2 : decode b_M_tryNow 2 = .ok (.iload_n 1, 1) := by decide +kernel
theorem d_M_tryNow_3 : decode b_M_tryNow 3 = .ok (.bipush 12, 2) := by decide +kernel
theorem d_M_tryNow_5 : decode b_M_tryNow 5 = .ok (.if_icmp .ge 21, 3) := by decide +kernel
theorem d_M_tryNow_8 : decode b_M_tryNow 8 = .ok (.aload_n 0, 1) := by decide +kernel
theorem d_M_tryNow_9 : decode b_M_tryNow 9 = .ok (.getfield 68, 3) := by decide +kernel
theorem d_M_tryNow_12 : decode b_M_tryNow 12 = .ok (.iload_n 1, 1) := by decide +kernel
theorem d_M_tryNow_13 : decode b_M_tryNow 13 = .ok (.aload_n 0, 1) := by decide +kernel
theorem d_M_tryNow_14 : decode b_M_tryNow 14 = .ok (.getfield 32, 3) := by decide +kernel
theorem d_M_tryNow_17 : decode b_M_tryNow 17 = .ok (.iload_n 1, 1) := by decide +kernel
theorem d_M_tryNow_18 : decode b_M_tryNow 18 = .ok (.baload, 1) := by decide +kernel
theorem d_M_tryNow_19 : decode b_M_tryNow 19 = .ok (.bastore, 1) := by decide +kernel
theorem d_M_tryNow_20 : decode b_M_tryNow 20 = .ok (.iinc 1 1, 3) := by decide +kernel
theorem d_M_tryNow_23 : decode b_M_tryNow 23 = .ok (.goto (-21), 3) := by decide +kernel
theorem d_M_tryNow_26 : decode b_M_tryNow 26 = .ok (.iconst 0, 1) := by decide +kernel
theorem d_M_tryNow_27 : decode b_M_tryNow 27 = .ok (.istore_n 1, 1) := by decide +kernel
theorem d_M_tryNow_28 : decode b_M_tryNow 28 = .ok (.iload_n 1, 1) := by decide +kernel
theorem d_M_tryNow_29 : decode b_M_tryNow 29 = .ok (.bipush 8, 2) := by decide +kernel
theorem d_M_tryNow_31 : decode b_M_tryNow 31 = .ok (.if_icmp .ge 21, 3) := by decide +kernel
theorem d_M_tryNow_34 : decode b_M_tryNow 34 = .ok (.aload_n 0, 1) := by decide +kernel
theorem d_M_tryNow_35 : decode b_M_tryNow 35 = .ok (.getfield 71, 3) := by decide +kernel
theorem d_M_tryNow_38 : decode b_M_tryNow 38 = .ok (.iload_n 1, 1) := by decide +kernel
theorem d_M_tryNow_39 : decode b_M_tryNow 39 = .ok (.aload_n 0, 1) := by decide +kernel
theorem d_M_tryNow_40 : decode b_M_tryNow 40 = .ok (.getfield 65, 3) := by decide +kernel
theorem d_M_tryNow_43 : decode b_M_tryNow 43 = .ok (.iload_n 1, 1) := by decide +kernel
theorem d_M_tryNow_44 : decode b_M_tryNow 44 = .ok (.baload, 1) := by decide +kernel
theorem d_M_tryNow_45 : decode b_M_tryNow 45 = .ok (.bastore, 1) := by decide +kernel
theorem d_M_tryNow_46 : decode b_M_tryNow 46 = .ok (.iinc 1 1, 3) := by decide +kernel
theorem d_M_tryNow_49 : decode b_M_tryNow 49 = .ok (.goto (-21), 3) := by decide +kernel
theorem d_M_tryNow_52 : decode b_M_tryNow 52 = .ok (.return_, 1) := by decide +kernel
abbrev b_M_layTried : ByteArray := prog_7_method_21_code
abbrev y_M_layTried : MethodName := ⟨"OldBeamsModel", "layTried", "()V"⟩
theorem d_M_layTried_0 : decode b_M_layTried 0 = .ok (.aload_n 0, 1) := by decide +kernel
theorem d_M_layTried_1 : decode b_M_layTried 1 = .ok (.invokevirtual 176, 3) := by decide +kernel
theorem d_M_layTried_4 : decode b_M_layTried 4 = .ok (.iconst 0, 1) := by decide +kernel
theorem d_M_layTried_5 : decode b_M_layTried 5 = .ok (.istore_n 1, 1) := by decide +kernel
theorem d_M_layTried_6 : decode b_M_layTried 6 = .ok (.iload_n 1, 1) := by decide +kernel
theorem d_M_layTried_7 : decode b_M_layTried 7 = .ok (.sipush 732, 3) := by decide +kernel
theorem d_M_layTried_10 : decode b_M_layTried 10 = .ok (.if_icmp .ge 16, 3) := by decide +kernel
theorem d_M_layTried_13 : decode b_M_layTried 13 = .ok (.aload_n 0, 1) := by decide +kernel
theorem d_M_layTried_14 : decode b_M_layTried 14 = .ok (.getfield 77, 3) := by decide +kernel
theorem d_M_layTried_17 : decode b_M_layTried 17 = .ok (.iload_n 1, 1) := by decide +kernel
theorem d_M_layTried_18 : decode b_M_layTried 18 = .ok (.lconst 0, 1) := by decide +kernel
theorem d_M_layTried_19 : decode b_M_layTried 19 = .ok (.lastore, 1) := by decide +kernel
theorem d_M_layTried_20 : decode b_M_layTried 20 = .ok (.iinc 1 1, 3) := by decide +kernel
theorem d_M_layTried_23 : decode b_M_layTried 23 = .ok (.goto (-17), 3) := by decide +kernel
theorem d_M_layTried_26 : decode b_M_layTried 26 = .ok (.iconst 0, 1) := by decide +kernel
theorem d_M_layTried_27 : decode b_M_layTried 27 = .ok (.istore_n 1, 1) := by decide +kernel
theorem d_M_layTried_28 : decode b_M_layTried 28 = .ok (.iload_n 1, 1) := by decide +kernel
theorem d_M_layTried_29 : decode b_M_layTried 29 = .ok (.aload_n 0, 1) := by decide +kernel
theorem d_M_layTried_30 : decode b_M_layTried 30 = .ok (.getfield 170, 3) := by decide +kernel
theorem d_M_layTried_33 : decode b_M_layTried 33 = .ok (.if_icmp .ge 53, 3) := by decide +kernel
theorem d_M_layTried_36 : decode b_M_layTried 36 = .ok (.aload_n 0, 1) := by decide +kernel
theorem d_M_layTried_37 : decode b_M_layTried 37 = .ok (.getfield 77, 3) := by decide +kernel
theorem d_M_layTried_40 : decode b_M_layTried 40 = .ok (.bipush 61, 2) := by decide +kernel
theorem d_M_layTried_42 : decode b_M_layTried 42 = .ok (.aload_n 0, 1) := by decide +kernel
theorem d_M_layTried_43 : decode b_M_layTried 43 = .ok (.getfield 44, 3) := by decide +kernel
theorem d_M_layTried_46 : decode b_M_layTried 46 = .ok (.iload_n 1, 1) := by decide +kernel
theorem d_M_layTried_47 : decode b_M_layTried 47 = .ok (.iaload, 1) := by decide +kernel
theorem d_M_layTried_48 : decode b_M_layTried 48 = .ok (.imul, 1) := by decide +kernel
theorem d_M_layTried_49 : decode b_M_layTried 49 = .ok (.aload_n 0, 1) := by decide +kernel
theorem d_M_layTried_50 : decode b_M_layTried 50 = .ok (.getfield 47, 3) := by decide +kernel
theorem d_M_layTried_53 : decode b_M_layTried 53 = .ok (.iload_n 1, 1) := by decide +kernel
theorem d_M_layTried_54 : decode b_M_layTried 54 = .ok (.iaload, 1) := by decide +kernel
theorem d_M_layTried_55 : decode b_M_layTried 55 = .ok (.iadd, 1) := by decide +kernel
theorem d_M_layTried_56 : decode b_M_layTried 56 = .ok (.dup2, 1) := by decide +kernel
theorem d_M_layTried_57 : decode b_M_layTried 57 = .ok (.laload, 1) := by decide +kernel
theorem d_M_layTried_58 : decode b_M_layTried 58 = .ok (.aload_n 0, 1) := by decide +kernel
theorem d_M_layTried_59 : decode b_M_layTried 59 = .ok (.getfield 53, 3) := by decide +kernel
theorem d_M_layTried_62 : decode b_M_layTried 62 = .ok (.iload_n 1, 1) := by decide +kernel
theorem d_M_layTried_63 : decode b_M_layTried 63 = .ok (.baload, 1) := by decide +kernel
theorem d_M_layTried_64 : decode b_M_layTried 64 = .ok (.ifCond .eq 7, 3) := by decide +kernel
theorem d_M_layTried_67 : decode b_M_layTried 67 = .ok (.lconst 0, 1) := by decide +kernel
theorem d_M_layTried_68 : decode b_M_layTried 68 = .ok (.goto 10, 3) := by decide +kernel
theorem d_M_layTried_71 : decode b_M_layTried 71 = .ok (.aload_n 0, 1) := by decide +kernel
theorem d_M_layTried_72 : decode b_M_layTried 72 = .ok (.getfield 50, 3) := by decide +kernel
theorem d_M_layTried_75 : decode b_M_layTried 75 = .ok (.iload_n 1, 1) := by decide +kernel
theorem d_M_layTried_76 : decode b_M_layTried 76 = .ok (.iaload, 1) := by decide +kernel
theorem d_M_layTried_77 : decode b_M_layTried 77 = .ok (.i2l, 1) := by decide +kernel
theorem d_M_layTried_78 : decode b_M_layTried 78 = .ok (.ladd, 1) := by decide +kernel
theorem d_M_layTried_79 : decode b_M_layTried 79 = .ok (.lastore, 1) := by decide +kernel
theorem d_M_layTried_80 : decode b_M_layTried 80 = .ok (.iinc 1 1, 3) := by decide +kernel
theorem d_M_layTried_83 : decode b_M_layTried 83 = .ok (.goto (-55), 3) := by decide +kernel
theorem d_M_layTried_86 : decode b_M_layTried 86 = .ok (.iconst 0, 1) := by decide +kernel
theorem d_M_layTried_87 : decode b_M_layTried 87 = .ok (.istore_n 1, 1) := by decide +kernel
theorem d_M_layTried_88 : decode b_M_layTried 88 = .ok (.iload_n 1, 1) := by decide +kernel
theorem d_M_layTried_89 : decode b_M_layTried 89 = .ok (.aload_n 0, 1) := by decide +kernel
theorem d_M_layTried_90 : decode b_M_layTried 90 = .ok (.getfield 173, 3) := by decide +kernel
theorem d_M_layTried_93 : decode b_M_layTried 93 = .ok (.if_icmp .ge 53, 3) := by decide +kernel
theorem d_M_layTried_96 : decode b_M_layTried 96 = .ok (.aload_n 0, 1) := by decide +kernel
theorem d_M_layTried_97 : decode b_M_layTried 97 = .ok (.getfield 77, 3) := by decide +kernel
theorem d_M_layTried_100 : decode b_M_layTried 100 = .ok (.bipush 61, 2) := by decide +kernel
theorem d_M_layTried_102 : decode b_M_layTried 102 = .ok (.aload_n 0, 1) := by decide +kernel
theorem d_M_layTried_103 : decode b_M_layTried 103 = .ok (.getfield 56, 3) := by decide +kernel
theorem d_M_layTried_106 : decode b_M_layTried 106 = .ok (.iload_n 1, 1) := by decide +kernel
theorem d_M_layTried_107 : decode b_M_layTried 107 = .ok (.iaload, 1) := by decide +kernel
theorem d_M_layTried_108 : decode b_M_layTried 108 = .ok (.imul, 1) := by decide +kernel
theorem d_M_layTried_109 : decode b_M_layTried 109 = .ok (.aload_n 0, 1) := by decide +kernel
theorem d_M_layTried_110 : decode b_M_layTried 110 = .ok (.getfield 59, 3) := by decide +kernel
theorem d_M_layTried_113 : decode b_M_layTried 113 = .ok (.iload_n 1, 1) := by decide +kernel
theorem d_M_layTried_114 : decode b_M_layTried 114 = .ok (.iaload, 1) := by decide +kernel
theorem d_M_layTried_115 : decode b_M_layTried 115 = .ok (.iadd, 1) := by decide +kernel
theorem d_M_layTried_116 : decode b_M_layTried 116 = .ok (.dup2, 1) := by decide +kernel
theorem d_M_layTried_117 : decode b_M_layTried 117 = .ok (.laload, 1) := by decide +kernel
theorem d_M_layTried_118 : decode b_M_layTried 118 = .ok (.aload_n 0, 1) := by decide +kernel
theorem d_M_layTried_119 : decode b_M_layTried 119 = .ok (.getfield 71, 3) := by decide +kernel
theorem d_M_layTried_122 : decode b_M_layTried 122 = .ok (.iload_n 1, 1) := by decide +kernel
theorem d_M_layTried_123 : decode b_M_layTried 123 = .ok (.baload, 1) := by decide +kernel
theorem d_M_layTried_124 : decode b_M_layTried 124 = .ok (.ifCond .eq 13, 3) := by decide +kernel
theorem d_M_layTried_127 : decode b_M_layTried 127 = .ok (.aload_n 0, 1) := by decide +kernel
theorem d_M_layTried_128 : decode b_M_layTried 128 = .ok (.getfield 62, 3) := by decide +kernel
theorem d_M_layTried_131 : decode b_M_layTried 131 = .ok (.iload_n 1, 1) := by decide +kernel
theorem d_M_layTried_132 : decode b_M_layTried 132 = .ok (.iaload, 1) := by decide +kernel
theorem d_M_layTried_133 : decode b_M_layTried 133 = .ok (.i2l, 1) := by decide +kernel
theorem d_M_layTried_134 : decode b_M_layTried 134 = .ok (.goto 4, 3) := by decide +kernel
theorem d_M_layTried_137 : decode b_M_layTried 137 = .ok (.lconst 0, 1) := by decide +kernel
theorem d_M_layTried_138 : decode b_M_layTried 138 = .ok (.lsub, 1) := by decide +kernel
theorem d_M_layTried_139 : decode b_M_layTried 139 = .ok (.lastore, 1) := by decide +kernel
theorem d_M_layTried_140 : decode b_M_layTried 140 = .ok (.iinc 1 1, 3) := by decide +kernel
theorem d_M_layTried_143 : decode b_M_layTried 143 = .ok (.goto (-55), 3) := by decide +kernel
theorem d_M_layTried_146 : decode b_M_layTried 146 = .ok (.aload_n 0, 1) := by decide +kernel
theorem d_M_layTried_147 : decode b_M_layTried 147 = .ok (.getfield 144, 3) := by decide +kernel
theorem d_M_layTried_150 : decode b_M_layTried 150 = .ok (.iconst 1, 1) := by decide +kernel
theorem d_M_layTried_151 : decode b_M_layTried 151 = .ok (.isub, 1) := by decide +kernel
theorem d_M_layTried_152 : decode b_M_layTried 152 = .ok (.istore_n 1, 1) := by decide +kernel
theorem d_M_layTried_153 : decode b_M_layTried 153 = .ok (.iload_n 1, 1) := by decide +kernel
theorem d_M_layTried_154 : decode b_M_layTried 154 = .ok (.ifCond .lt 28, 3) := by decide +kernel
theorem d_M_layTried_157 : decode b_M_layTried 157 = .ok (.aload_n 0, 1) := by decide +kernel
theorem d_M_layTried_158 : decode b_M_layTried 158 = .ok (.getfield 74, 3) := by decide +kernel
theorem d_M_layTried_161 : decode b_M_layTried 161 = .ok (.iload_n 1, 1) := by decide +kernel
theorem d_M_layTried_162 : decode b_M_layTried 162 = .ok (.baload, 1) := by decide +kernel
theorem d_M_layTried_163 : decode b_M_layTried 163 = .ok (.ifCond .ne 13, 3) := by decide +kernel
theorem d_M_layTried_166 : decode b_M_layTried 166 = .ok (.aload_n 0, 1) := by decide +kernel
theorem d_M_layTried_167 : decode b_M_layTried 167 = .ok (.iload_n 1, 1) := by decide +kernel
theorem d_M_layTried_168 : decode b_M_layTried 168 = .ok (.invokevirtual 179, 3) := by decide +kernel
theorem d_M_layTried_171 : decode b_M_layTried 171 = .ok (.aload_n 0, 1) := by decide +kernel
theorem d_M_layTried_172 : decode b_M_layTried 172 = .ok (.iload_n 1, 1) := by decide +kernel
theorem d_M_layTried_173 : decode b_M_layTried 173 = .ok (.invokevirtual 183, 3) := by decide +kernel
theorem d_M_layTried_176 : decode b_M_layTried 176 = .ok (.iinc 1 (-1), 3) := by decide +kernel
theorem d_M_layTried_179 : decode b_M_layTried 179 = .ok (.goto (-26), 3) := by decide +kernel
theorem d_M_layTried_182 : decode b_M_layTried 182 = .ok (.return_, 1) := by decide +kernel
abbrev b_M_layDown : ByteArray := prog_7_method_20_code
abbrev y_M_layDown : MethodName := ⟨"OldBeamsModel", "layDown", "()V"⟩
theorem d_M_layDown_0 : decode b_M_layDown 0 = .ok (.iconst 0, 1) := by decide +kernel
theorem d_M_layDown_1 : decode b_M_layDown 1 = .ok (.istore_n 1, 1) := by decide +kernel
theorem d_M_layDown_2 : decode b_M_layDown 2 = .ok (.iload_n 1, 1) := by decide +kernel
theorem d_M_layDown_3 : decode b_M_layDown 3 = .ok (.aload_n 0, 1) := by decide +kernel
theorem d_M_layDown_4 : decode b_M_layDown 4 = .ok (.getfield 144, 3) := by decide +kernel
theorem d_M_layDown_7 : decode b_M_layDown 7 = .ok (.if_icmp .ge 85, 3) := by decide +kernel
theorem d_M_layDown_10 : decode b_M_layDown 10 = .ok (.aload_n 0, 1) := by decide +kernel
theorem d_M_layDown_11 : decode b_M_layDown 11 = .ok (.getfield 74, 3) := by decide +kernel
theorem d_M_layDown_14 : decode b_M_layDown 14 = .ok (.iload_n 1, 1) := by decide +kernel
theorem d_M_layDown_15 : decode b_M_layDown 15 = .ok (.aload_n 0, 1) := by decide +kernel
theorem d_M_layDown_16 : decode b_M_layDown 16 = .ok (.getfield 68, 3) := by decide +kernel
theorem d_M_layDown_19 : decode b_M_layDown 19 = .ok (.iload_n 1, 1) := by decide +kernel
theorem d_M_layDown_20 : decode b_M_layDown 20 = .ok (.baload, 1) := by decide +kernel
theorem d_M_layDown_21 : decode b_M_layDown 21 = .ok (.bastore, 1) := by decide +kernel
theorem d_M_layDown_22 : decode b_M_layDown 22 = .ok (.iconst 2, 1) := by decide +kernel
theorem d_M_layDown_23 : decode b_M_layDown 23 = .ok (.iload_n 1, 1) := by decide +kernel
theorem d_M_layDown_24 : decode b_M_layDown 24 = .ok (.imul, 1) := by decide +kernel
theorem d_M_layDown_25 : decode b_M_layDown 25 = .ok (.istore_n 2, 1) := by decide +kernel
theorem d_M_layDown_26 : decode b_M_layDown 26 = .ok (.iload_n 2, 1) := by decide +kernel
theorem d_M_layDown_27 : decode b_M_layDown 27 = .ok (.iconst 2, 1) := by decide +kernel
theorem d_M_layDown_28 : decode b_M_layDown 28 = .ok (.iload_n 1, 1) := by decide +kernel
theorem d_M_layDown_29 : decode b_M_layDown 29 = .ok (.imul, 1) := by decide +kernel
theorem d_M_layDown_30 : decode b_M_layDown 30 = .ok (.iconst 2, 1) := by decide +kernel
theorem d_M_layDown_31 : decode b_M_layDown 31 = .ok (.iadd, 1) := by decide +kernel
theorem d_M_layDown_32 : decode b_M_layDown 32 = .ok (.if_icmp .ge 54, 3) := by decide +kernel
theorem d_M_layDown_35 : decode b_M_layDown 35 = .ok (.aload_n 0, 1) := by decide +kernel
theorem d_M_layDown_36 : decode b_M_layDown 36 = .ok (.getfield 74, 3) := by decide +kernel
theorem d_M_layDown_39 : decode b_M_layDown 39 = .ok (.iload_n 1, 1) := by decide +kernel
theorem d_M_layDown_40 : decode b_M_layDown 40 = .ok (.aload_n 0, 1) := by decide +kernel
theorem d_M_layDown_41 : decode b_M_layDown 41 = .ok (.getfield 74, 3) := by decide +kernel
theorem d_M_layDown_44 : decode b_M_layDown 44 = .ok (.iload_n 1, 1) := by decide +kernel
theorem d_M_layDown_45 : decode b_M_layDown 45 = .ok (.baload, 1) := by decide +kernel
theorem d_M_layDown_46 : decode b_M_layDown 46 = .ok (.ifCond .ne 28, 3) := by decide +kernel
theorem d_M_layDown_49 : decode b_M_layDown 49 = .ok (.aload_n 0, 1) := by decide +kernel
theorem d_M_layDown_50 : decode b_M_layDown 50 = .ok (.getfield 38, 3) := by decide +kernel
theorem d_M_layDown_53 : decode b_M_layDown 53 = .ok (.iload_n 2, 1) := by decide +kernel
theorem d_M_layDown_54 : decode b_M_layDown 54 = .ok (.iaload, 1) := by decide +kernel
theorem d_M_layDown_55 : decode b_M_layDown 55 = .ok (.ldc 156, 2) := by decide +kernel
theorem d_M_layDown_57 : decode b_M_layDown 57 = .ok (.if_icmp .eq 21, 3) := by decide +kernel
theorem d_M_layDown_60 : decode b_M_layDown 60 = .ok (.aload_n 0, 1) := by decide +kernel
theorem d_M_layDown_61 : decode b_M_layDown 61 = .ok (.getfield 74, 3) := by decide +kernel
theorem d_M_layDown_64 : decode b_M_layDown 64 = .ok (.aload_n 0, 1) := by decide +kernel
theorem d_M_layDown_65 : decode b_M_layDown 65 = .ok (.getfield 38, 3) := by decide +kernel
theorem d_M_layDown_68 : decode b_M_layDown 68 = .ok (.iload_n 2, 1) := by decide +kernel
theorem d_M_layDown_69 : decode b_M_layDown 69 = .ok (.iaload, 1) := by decide +kernel
theorem d_M_layDown_70 : decode b_M_layDown 70 = .ok (.baload, 1) := by decide +kernel
theorem d_M_layDown_71 : decode b_M_layDown 71 = .ok (.ifCond .eq 7, 3) := by decide +kernel
theorem d_M_layDown_74 : decode b_M_layDown 74 = .ok (.iconst 1, 1) := by decide +kernel
theorem d_M_layDown_75 : decode b_M_layDown 75 = .ok (.goto 4, 3) := by decide +kernel
theorem d_M_layDown_78 : decode b_M_layDown 78 = .ok (.iconst 0, 1) := by decide +kernel
theorem d_M_layDown_79 : decode b_M_layDown 79 = .ok (.bastore, 1) := by decide +kernel
theorem d_M_layDown_80 : decode b_M_layDown 80 = .ok (.iinc 2 1, 3) := by decide +kernel
theorem d_M_layDown_83 : decode b_M_layDown 83 = .ok (.goto (-57), 3) := by decide +kernel
theorem d_M_layDown_86 : decode b_M_layDown 86 = .ok (.iinc 1 1, 3) := by decide +kernel
theorem d_M_layDown_89 : decode b_M_layDown 89 = .ok (.goto (-87), 3) := by decide +kernel
theorem d_M_layDown_92 : decode b_M_layDown 92 = .ok (.return_, 1) := by decide +kernel
abbrev b_M_layPush : ByteArray := prog_7_method_23_code
abbrev y_M_layPush : MethodName := ⟨"OldBeamsModel", "layPush", "(I)V"⟩
theorem d_M_layPush_0 : decode b_M_layPush 0 = .ok (.lconst 0, 1) := by decide +kernel
theorem d_M_layPush_1 : decode b_M_layPush 1 = .ok (.lstore_n 2, 1) := by decide +kernel
theorem d_M_layPush_2 : decode b_M_layPush 2 = .ok (.lconst 0, 1) := by decide +kernel
theorem d_M_layPush_3 : decode b_M_layPush 3 = .ok (.lstore 4, 2) := by decide +kernel
theorem d_M_layPush_5 : decode b_M_layPush 5 = .ok (.iconst 0, 1) := by decide +kernel
theorem d_M_layPush_6 : decode b_M_layPush 6 = .ok (.istore 6, 2) := by decide +kernel
theorem d_M_layPush_8 : decode b_M_layPush 8 = .ok (.iload 6, 2) := by decide +kernel
theorem d_M_layPush_10 : decode b_M_layPush 10 = .ok (.aload_n 0, 1) := by decide +kernel
theorem d_M_layPush_11 : decode b_M_layPush 11 = .ok (.getfield 19, 3) := by decide +kernel
theorem d_M_layPush_14 : decode b_M_layPush 14 = .ok (.iload_n 1, 1) := by decide +kernel
theorem d_M_layPush_15 : decode b_M_layPush 15 = .ok (.iaload, 1) := by decide +kernel
theorem d_M_layPush_16 : decode b_M_layPush 16 = .ok (.if_icmp .gt 54, 3) := by decide +kernel
theorem d_M_layPush_19 : decode b_M_layPush 19 = .ok (.lload_n 2, 1) := by decide +kernel
theorem d_M_layPush_20 : decode b_M_layPush 20 = .ok (.aload_n 0, 1) := by decide +kernel
theorem d_M_layPush_21 : decode b_M_layPush 21 = .ok (.getfield 77, 3) := by decide +kernel
theorem d_M_layPush_24 : decode b_M_layPush 24 = .ok (.bipush 61, 2) := by decide +kernel
theorem d_M_layPush_26 : decode b_M_layPush 26 = .ok (.iload_n 1, 1) := by decide +kernel
theorem d_M_layPush_27 : decode b_M_layPush 27 = .ok (.imul, 1) := by decide +kernel
theorem d_M_layPush_28 : decode b_M_layPush 28 = .ok (.iload 6, 2) := by decide +kernel
theorem d_M_layPush_30 : decode b_M_layPush 30 = .ok (.iadd, 1) := by decide +kernel
theorem d_M_layPush_31 : decode b_M_layPush 31 = .ok (.laload, 1) := by decide +kernel
theorem d_M_layPush_32 : decode b_M_layPush 32 = .ok (.ladd, 1) := by decide +kernel
theorem d_M_layPush_33 : decode b_M_layPush 33 = .ok (.lstore_n 2, 1) := by decide +kernel
theorem d_M_layPush_34 : decode b_M_layPush 34 = .ok (.lload 4, 2) := by decide +kernel
theorem d_M_layPush_36 : decode b_M_layPush 36 = .ok (.aload_n 0, 1) := by decide +kernel
theorem d_M_layPush_37 : decode b_M_layPush 37 = .ok (.getfield 77, 3) := by decide +kernel
theorem d_M_layPush_40 : decode b_M_layPush 40 = .ok (.bipush 61, 2) := by decide +kernel
theorem d_M_layPush_42 : decode b_M_layPush 42 = .ok (.iload_n 1, 1) := by decide +kernel
theorem d_M_layPush_43 : decode b_M_layPush 43 = .ok (.imul, 1) := by decide +kernel
theorem d_M_layPush_44 : decode b_M_layPush 44 = .ok (.iload 6, 2) := by decide +kernel
theorem d_M_layPush_46 : decode b_M_layPush 46 = .ok (.iadd, 1) := by decide +kernel
theorem d_M_layPush_47 : decode b_M_layPush 47 = .ok (.laload, 1) := by decide +kernel
theorem d_M_layPush_48 : decode b_M_layPush 48 = .ok (.iload 6, 2) := by decide +kernel
theorem d_M_layPush_50 : decode b_M_layPush 50 = .ok (.aload_n 0, 1) := by decide +kernel
theorem d_M_layPush_51 : decode b_M_layPush 51 = .ok (.getfield 35, 3) := by decide +kernel
theorem d_M_layPush_54 : decode b_M_layPush 54 = .ok (.iconst 2, 1) := by decide +kernel
theorem d_M_layPush_55 : decode b_M_layPush 55 = .ok (.iload_n 1, 1) := by decide +kernel
theorem d_M_layPush_56 : decode b_M_layPush 56 = .ok (.imul, 1) := by decide +kernel
theorem d_M_layPush_57 : decode b_M_layPush 57 = .ok (.iaload, 1) := by decide +kernel
theorem d_M_layPush_58 : decode b_M_layPush 58 = .ok (.isub, 1) := by decide +kernel
theorem d_M_layPush_59 : decode b_M_layPush 59 = .ok (.i2l, 1) := by decide +kernel
theorem d_M_layPush_60 : decode b_M_layPush 60 = .ok (.lmul, 1) := by decide +kernel
theorem d_M_layPush_61 : decode b_M_layPush 61 = .ok (.ladd, 1) := by decide +kernel
theorem d_M_layPush_62 : decode b_M_layPush 62 = .ok (.lstore 4, 2) := by decide +kernel
theorem d_M_layPush_64 : decode b_M_layPush 64 = .ok (.iinc 6 1, 3) := by decide +kernel
theorem d_M_layPush_67 : decode b_M_layPush 67 = .ok (.goto (-59), 3) := by decide +kernel
theorem d_M_layPush_70 : decode b_M_layPush 70 = .ok (.aload_n 0, 1) := by decide +kernel
theorem d_M_layPush_71 : decode b_M_layPush 71 = .ok (.getfield 81, 3) := by decide +kernel
theorem d_M_layPush_74 : decode b_M_layPush 74 = .ok (.iconst 2, 1) := by decide +kernel
theorem d_M_layPush_75 : decode b_M_layPush 75 = .ok (.iload_n 1, 1) := by decide +kernel
theorem d_M_layPush_76 : decode b_M_layPush 76 = .ok (.imul, 1) := by decide +kernel
theorem d_M_layPush_77 : decode b_M_layPush 77 = .ok (.iconst 1, 1) := by decide +kernel
theorem d_M_layPush_78 : decode b_M_layPush 78 = .ok (.iadd, 1) := by decide +kernel
theorem d_M_layPush_79 : decode b_M_layPush 79 = .ok (.lload 4, 2) := by decide +kernel
theorem d_M_layPush_81 : decode b_M_layPush 81 = .ok (.aload_n 0, 1) := by decide +kernel
theorem d_M_layPush_82 : decode b_M_layPush 82 = .ok (.getfield 35, 3) := by decide +kernel
theorem d_M_layPush_85 : decode b_M_layPush 85 = .ok (.iconst 2, 1) := by decide +kernel
theorem d_M_layPush_86 : decode b_M_layPush 86 = .ok (.iload_n 1, 1) := by decide +kernel
theorem d_M_layPush_87 : decode b_M_layPush 87 = .ok (.imul, 1) := by decide +kernel
theorem d_M_layPush_88 : decode b_M_layPush 88 = .ok (.iconst 1, 1) := by decide +kernel
theorem d_M_layPush_89 : decode b_M_layPush 89 = .ok (.iadd, 1) := by decide +kernel
theorem d_M_layPush_90 : decode b_M_layPush 90 = .ok (.iaload, 1) := by decide +kernel
theorem d_M_layPush_91 : decode b_M_layPush 91 = .ok (.aload_n 0, 1) := by decide +kernel
theorem d_M_layPush_92 : decode b_M_layPush 92 = .ok (.getfield 35, 3) := by decide +kernel
theorem d_M_layPush_95 : decode b_M_layPush 95 = .ok (.iconst 2, 1) := by decide +kernel
theorem d_M_layPush_96 : decode b_M_layPush 96 = .ok (.iload_n 1, 1) := by decide +kernel
theorem d_M_layPush_97 : decode b_M_layPush 97 = .ok (.imul, 1) := by decide +kernel
theorem d_M_layPush_98 : decode b_M_layPush 98 = .ok (.iaload, 1) := by decide +kernel
theorem d_M_layPush_99 : decode b_M_layPush 99 = .ok (.isub, 1) := by decide +kernel
theorem d_M_layPush_100 : decode b_M_layPush 100 = .ok (.i2l, 1) := by decide +kernel
theorem d_M_layPush_101 : decode b_M_layPush 101 = .ok (.invokestatic 186, 3) := by decide +kernel
theorem d_M_layPush_104 : decode b_M_layPush 104 = .ok (.lastore, 1) := by decide +kernel
theorem d_M_layPush_105 : decode b_M_layPush 105 = .ok (.aload_n 0, 1) := by decide +kernel
theorem d_M_layPush_106 : decode b_M_layPush 106 = .ok (.getfield 81, 3) := by decide +kernel
theorem d_M_layPush_109 : decode b_M_layPush 109 = .ok (.iconst 2, 1) := by decide +kernel
theorem d_M_layPush_110 : decode b_M_layPush 110 = .ok (.iload_n 1, 1) := by decide +kernel
theorem d_M_layPush_111 : decode b_M_layPush 111 = .ok (.imul, 1) := by decide +kernel
theorem d_M_layPush_112 : decode b_M_layPush 112 = .ok (.lload_n 2, 1) := by decide +kernel
theorem d_M_layPush_113 : decode b_M_layPush 113 = .ok (.aload_n 0, 1) := by decide +kernel
theorem d_M_layPush_114 : decode b_M_layPush 114 = .ok (.getfield 81, 3) := by decide +kernel
theorem d_M_layPush_117 : decode b_M_layPush 117 = .ok (.iconst 2, 1) := by decide +kernel
theorem d_M_layPush_118 : decode b_M_layPush 118 = .ok (.iload_n 1, 1) := by decide +kernel
theorem d_M_layPush_119 : decode b_M_layPush 119 = .ok (.imul, 1) := by decide +kernel
theorem d_M_layPush_120 : decode b_M_layPush 120 = .ok (.iconst 1, 1) := by decide +kernel
theorem d_M_layPush_121 : decode b_M_layPush 121 = .ok (.iadd, 1) := by decide +kernel
theorem d_M_layPush_122 : decode b_M_layPush 122 = .ok (.laload, 1) := by decide +kernel
theorem d_M_layPush_123 : decode b_M_layPush 123 = .ok (.lsub, 1) := by decide +kernel
theorem d_M_layPush_124 : decode b_M_layPush 124 = .ok (.lastore, 1) := by decide +kernel
theorem d_M_layPush_125 : decode b_M_layPush 125 = .ok (.iconst 2, 1) := by decide +kernel
theorem d_M_layPush_126 : decode b_M_layPush 126 = .ok (.iload_n 1, 1) := by decide +kernel
theorem d_M_layPush_127 : decode b_M_layPush 127 = .ok (.imul, 1) := by decide +kernel
theorem d_M_layPush_128 : decode b_M_layPush 128 = .ok (.istore 6, 2) := by decide +kernel
theorem d_M_layPush_130 : decode b_M_layPush 130 = .ok (.iload 6, 2) := by decide +kernel
theorem d_M_layPush_132 : decode b_M_layPush 132 = .ok (.iconst 2, 1) := by decide +kernel
theorem d_M_layPush_133 : decode b_M_layPush 133 = .ok (.iload_n 1, 1) := by decide +kernel
theorem d_M_layPush_134 : decode b_M_layPush 134 = .ok (.imul, 1) := by decide +kernel
theorem d_M_layPush_135 : decode b_M_layPush 135 = .ok (.iconst 2, 1) := by decide +kernel
theorem d_M_layPush_136 : decode b_M_layPush 136 = .ok (.iadd, 1) := by decide +kernel
theorem d_M_layPush_137 : decode b_M_layPush 137 = .ok (.if_icmp .ge 54, 3) := by decide +kernel
theorem d_M_layPush_140 : decode b_M_layPush 140 = .ok (.aload_n 0, 1) := by decide +kernel
theorem d_M_layPush_141 : decode b_M_layPush 141 = .ok (.getfield 38, 3) := by decide +kernel
theorem d_M_layPush_144 : decode b_M_layPush 144 = .ok (.iload 6, 2) := by decide +kernel
theorem d_M_layPush_146 : decode b_M_layPush 146 = .ok (.iaload, 1) := by decide +kernel
theorem d_M_layPush_147 : decode b_M_layPush 147 = .ok (.ldc 156, 2) := by decide +kernel
theorem d_M_layPush_149 : decode b_M_layPush 149 = .ok (.if_icmp .eq 36, 3) := by decide +kernel
theorem d_M_layPush_152 : decode b_M_layPush 152 = .ok (.aload_n 0, 1) := by decide +kernel
theorem d_M_layPush_153 : decode b_M_layPush 153 = .ok (.getfield 77, 3) := by decide +kernel
theorem d_M_layPush_156 : decode b_M_layPush 156 = .ok (.bipush 61, 2) := by decide +kernel
theorem d_M_layPush_158 : decode b_M_layPush 158 = .ok (.aload_n 0, 1) := by decide +kernel
theorem d_M_layPush_159 : decode b_M_layPush 159 = .ok (.getfield 38, 3) := by decide +kernel
theorem d_M_layPush_162 : decode b_M_layPush 162 = .ok (.iload 6, 2) := by decide +kernel
theorem d_M_layPush_164 : decode b_M_layPush 164 = .ok (.iaload, 1) := by decide +kernel
theorem d_M_layPush_165 : decode b_M_layPush 165 = .ok (.imul, 1) := by decide +kernel
theorem d_M_layPush_166 : decode b_M_layPush 166 = .ok (.aload_n 0, 1) := by decide +kernel
theorem d_M_layPush_167 : decode b_M_layPush 167 = .ok (.getfield 41, 3) := by decide +kernel
theorem d_M_layPush_170 : decode b_M_layPush 170 = .ok (.iload 6, 2) := by decide +kernel
theorem d_M_layPush_172 : decode b_M_layPush 172 = .ok (.iaload, 1) := by decide +kernel
theorem d_M_layPush_173 : decode b_M_layPush 173 = .ok (.iadd, 1) := by decide +kernel
theorem d_M_layPush_174 : decode b_M_layPush 174 = .ok (.dup2, 1) := by decide +kernel
theorem d_M_layPush_175 : decode b_M_layPush 175 = .ok (.laload, 1) := by decide +kernel
theorem d_M_layPush_176 : decode b_M_layPush 176 = .ok (.aload_n 0, 1) := by decide +kernel
theorem d_M_layPush_177 : decode b_M_layPush 177 = .ok (.getfield 81, 3) := by decide +kernel
theorem d_M_layPush_180 : decode b_M_layPush 180 = .ok (.iload 6, 2) := by decide +kernel
theorem d_M_layPush_182 : decode b_M_layPush 182 = .ok (.laload, 1) := by decide +kernel
theorem d_M_layPush_183 : decode b_M_layPush 183 = .ok (.ladd, 1) := by decide +kernel
theorem d_M_layPush_184 : decode b_M_layPush 184 = .ok (.lastore, 1) := by decide +kernel
theorem d_M_layPush_185 : decode b_M_layPush 185 = .ok (.iinc 6 1, 3) := by decide +kernel
theorem d_M_layPush_188 : decode b_M_layPush 188 = .ok (.goto (-58), 3) := by decide +kernel
theorem d_M_layPush_191 : decode b_M_layPush 191 = .ok (.return_, 1) := by decide +kernel
abbrev b_M_cutDown : ByteArray := prog_7_method_22_code
abbrev y_M_cutDown : MethodName := ⟨"OldBeamsModel", "cutDown", "(JJ)J"⟩
theorem d_M_cutDown_0 : decode b_M_cutDown 0 = .ok (.lload_n 0, 1) := by decide +kernel
theorem d_M_cutDown_1 : decode b_M_cutDown 1 = .ok (.lload_n 2, 1) := by decide +kernel
theorem d_M_cutDown_2 : decode b_M_cutDown 2 = .ok (.ldiv, 1) := by decide +kernel
theorem d_M_cutDown_3 : decode b_M_cutDown 3 = .ok (.lstore 4, 2) := by decide +kernel
theorem d_M_cutDown_5 : decode b_M_cutDown 5 = .ok (.lload_n 0, 1) := by decide +kernel
theorem d_M_cutDown_6 : decode b_M_cutDown 6 = .ok (.lload_n 2, 1) := by decide +kernel
theorem d_M_cutDown_7 : decode b_M_cutDown 7 = .ok (.lrem, 1) := by decide +kernel
theorem d_M_cutDown_8 : decode b_M_cutDown 8 = .ok (.lconst 0, 1) := by decide +kernel
theorem d_M_cutDown_9 : decode b_M_cutDown 9 = .ok (.lcmp, 1) := by decide +kernel
theorem d_M_cutDown_10 : decode b_M_cutDown 10 = .ok (.ifCond .ge 10, 3) := by decide +kernel
theorem d_M_cutDown_13 : decode b_M_cutDown 13 = .ok (.lload 4, 2) := by decide +kernel
theorem d_M_cutDown_15 : decode b_M_cutDown 15 = .ok (.lconst 1, 1) := by decide +kernel
theorem d_M_cutDown_16 : decode b_M_cutDown 16 = .ok (.lsub, 1) := by decide +kernel
theorem d_M_cutDown_17 : decode b_M_cutDown 17 = .ok (.goto 5, 3) := by decide +kernel
theorem d_M_cutDown_20 : decode b_M_cutDown 20 = .ok (.lload 4, 2) := by decide +kernel
theorem d_M_cutDown_22 : decode b_M_cutDown 22 = .ok (.lreturn, 1) := by decide +kernel
abbrev b_M_layGreat : ByteArray := prog_7_method_25_code
abbrev y_M_layGreat : MethodName := ⟨"OldBeamsModel", "layGreat", "(I)V"⟩
theorem d_M_layGreat_0 : decode b_M_layGreat 0 = .ok (.aload_n 0, 1) := by decide +kernel
theorem d_M_layGreat_1 : decode b_M_layGreat 1 = .ok (.getfield 84, 3) := by decide +kernel
theorem d_M_layGreat_4 : decode b_M_layGreat 4 = .ok (.iload_n 1, 1) := by decide +kernel
theorem d_M_layGreat_5 : decode b_M_layGreat 5 = .ok (.lconst 0, 1) := by decide +kernel
theorem d_M_layGreat_6 : decode b_M_layGreat 6 = .ok (.lastore, 1) := by decide +kernel
theorem d_M_layGreat_7 : decode b_M_layGreat 7 = .ok (.aload_n 0, 1) := by decide +kernel
theorem d_M_layGreat_8 : decode b_M_layGreat 8 = .ok (.getfield 87, 3) := by decide +kernel
theorem d_M_layGreat_11 : decode b_M_layGreat 11 = .ok (.iload_n 1, 1) := by decide +kernel
theorem d_M_layGreat_12 : decode b_M_layGreat 12 = .ok (.iconst 0, 1) := by decide +kernel
theorem d_M_layGreat_13 : decode b_M_layGreat 13 = .ok (.iastore, 1) := by decide +kernel
theorem d_M_layGreat_14 : decode b_M_layGreat 14 = .ok (.iconst 0, 1) := by decide +kernel
theorem d_M_layGreat_15 : decode b_M_layGreat 15 = .ok (.istore_n 2, 1) := by decide +kernel
theorem d_M_layGreat_16 : decode b_M_layGreat 16 = .ok (.iload_n 2, 1) := by decide +kernel
theorem d_M_layGreat_17 : decode b_M_layGreat 17 = .ok (.aload_n 0, 1) := by decide +kernel
theorem d_M_layGreat_18 : decode b_M_layGreat 18 = .ok (.getfield 19, 3) := by decide +kernel
theorem d_M_layGreat_21 : decode b_M_layGreat 21 = .ok (.iload_n 1, 1) := by decide +kernel
theorem d_M_layGreat_22 : decode b_M_layGreat 22 = .ok (.iaload, 1) := by decide +kernel
theorem d_M_layGreat_23 : decode b_M_layGreat 23 = .ok (.if_icmp .gt 83, 3) := by decide +kernel
theorem d_M_layGreat_26 : decode b_M_layGreat 26 = .ok (.aload_n 0, 1) := by decide +kernel
theorem d_M_layGreat_27 : decode b_M_layGreat 27 = .ok (.iload_n 1, 1) := by decide +kernel
theorem d_M_layGreat_28 : decode b_M_layGreat 28 = .ok (.iload_n 2, 1) := by decide +kernel
theorem d_M_layGreat_29 : decode b_M_layGreat 29 = .ok (.invokevirtual 189, 3) := by decide +kernel
theorem d_M_layGreat_32 : decode b_M_layGreat 32 = .ok (.lstore_n 3, 1) := by decide +kernel
theorem d_M_layGreat_33 : decode b_M_layGreat 33 = .ok (.lload_n 3, 1) := by decide +kernel
theorem d_M_layGreat_34 : decode b_M_layGreat 34 = .ok (.lconst 0, 1) := by decide +kernel
theorem d_M_layGreat_35 : decode b_M_layGreat 35 = .ok (.lcmp, 1) := by decide +kernel
theorem d_M_layGreat_36 : decode b_M_layGreat 36 = .ok (.ifCond .ge 8, 3) := by decide +kernel
theorem d_M_layGreat_39 : decode b_M_layGreat 39 = .ok (.lload_n 3, 1) := by decide +kernel
theorem d_M_layGreat_40 : decode b_M_layGreat 40 = .ok (.lneg, 1) := by decide +kernel
theorem d_M_layGreat_41 : decode b_M_layGreat 41 = .ok (.goto 4, 3) := by decide +kernel
theorem d_M_layGreat_44 : decode b_M_layGreat 44 = .ok (.lload_n 3, 1) := by decide +kernel
theorem d_M_layGreat_45 : decode b_M_layGreat 45 = .ok (.lstore_n 3, 1) := by decide +kernel
theorem d_M_layGreat_46 : decode b_M_layGreat 46 = .ok (.aload_n 0, 1) := by decide +kernel
theorem d_M_layGreat_47 : decode b_M_layGreat 47 = .ok (.getfield 87, 3) := by decide +kernel
theorem d_M_layGreat_50 : decode b_M_layGreat 50 = .ok (.iload_n 1, 1) := by decide +kernel
theorem d_M_layGreat_51 : decode b_M_layGreat 51 = .ok (.lload_n 3, 1) := by decide +kernel
theorem d_M_layGreat_52 : decode b_M_layGreat 52 = .ok (.aload_n 0, 1) := by decide +kernel
theorem d_M_layGreat_53 : decode b_M_layGreat 53 = .ok (.getfield 84, 3) := by decide +kernel
theorem d_M_layGreat_56 : decode b_M_layGreat 56 = .ok (.iload_n 1, 1) := by decide +kernel
theorem d_M_layGreat_57 : decode b_M_layGreat 57 = .ok (.laload, 1) := by decide +kernel
theorem d_M_layGreat_58 : decode b_M_layGreat 58 = .ok (.lcmp, 1) := by decide +kernel
theorem d_M_layGreat_59 : decode b_M_layGreat 59 = .ok (.ifCond .le 7, 3) := by decide +kernel
theorem d_M_layGreat_62 : decode b_M_layGreat 62 = .ok (.iload_n 2, 1) := by decide +kernel
theorem d_M_layGreat_63 : decode b_M_layGreat 63 = .ok (.goto 9, 3) := by decide +kernel
theorem d_M_layGreat_66 : decode b_M_layGreat 66 = .ok (.aload_n 0, 1) := by decide +kernel
theorem d_M_layGreat_67 : decode b_M_layGreat 67 = .ok (.getfield 87, 3) := by decide +kernel
theorem d_M_layGreat_70 : decode b_M_layGreat 70 = .ok (.iload_n 1, 1) := by decide +kernel
theorem d_M_layGreat_71 : decode b_M_layGreat 71 = .ok (.iaload, 1) := by decide +kernel
theorem d_M_layGreat_72 : decode b_M_layGreat 72 = .ok (.iastore, 1) := by decide +kernel
theorem d_M_layGreat_73 : decode b_M_layGreat 73 = .ok (.aload_n 0, 1) := by decide +kernel
theorem d_M_layGreat_74 : decode b_M_layGreat 74 = .ok (.getfield 84, 3) := by decide +kernel
theorem d_M_layGreat_77 : decode b_M_layGreat 77 = .ok (.iload_n 1, 1) := by decide +kernel
theorem d_M_layGreat_78 : decode b_M_layGreat 78 = .ok (.lload_n 3, 1) := by decide +kernel
theorem d_M_layGreat_79 : decode b_M_layGreat 79 = .ok (.aload_n 0, 1) := by decide +kernel
theorem d_M_layGreat_80 : decode b_M_layGreat 80 = .ok (.getfield 84, 3) := by decide +kernel
theorem d_M_layGreat_83 : decode b_M_layGreat 83 = .ok (.iload_n 1, 1) := by decide +kernel
theorem d_M_layGreat_84 : decode b_M_layGreat 84 = .ok (.laload, 1) := by decide +kernel
theorem d_M_layGreat_85 : decode b_M_layGreat 85 = .ok (.lcmp, 1) := by decide +kernel
theorem d_M_layGreat_86 : decode b_M_layGreat 86 = .ok (.ifCond .le 7, 3) := by decide +kernel
theorem d_M_layGreat_89 : decode b_M_layGreat 89 = .ok (.lload_n 3, 1) := by decide +kernel
theorem d_M_layGreat_90 : decode b_M_layGreat 90 = .ok (.goto 9, 3) := by decide +kernel
theorem d_M_layGreat_93 : decode b_M_layGreat 93 = .ok (.aload_n 0, 1) := by decide +kernel
theorem d_M_layGreat_94 : decode b_M_layGreat 94 = .ok (.getfield 84, 3) := by decide +kernel
theorem d_M_layGreat_97 : decode b_M_layGreat 97 = .ok (.iload_n 1, 1) := by decide +kernel
theorem d_M_layGreat_98 : decode b_M_layGreat 98 = .ok (.laload, 1) := by decide +kernel
theorem d_M_layGreat_99 : decode b_M_layGreat 99 = .ok (.lastore, 1) := by decide +kernel
theorem d_M_layGreat_100 : decode b_M_layGreat 100 = .ok (.iinc 2 1, 3) := by decide +kernel
theorem d_M_layGreat_103 : decode b_M_layGreat 103 = .ok (.goto (-87), 3) := by decide +kernel
theorem d_M_layGreat_106 : decode b_M_layGreat 106 = .ok (.return_, 1) := by decide +kernel
abbrev b_M_bendingOf : ByteArray := prog_7_method_24_code
abbrev y_M_bendingOf : MethodName := ⟨"OldBeamsModel", "bendingOf", "(II)J"⟩
theorem d_M_bendingOf_0 : decode b_M_bendingOf 0 = .ok (.lconst 0, 1) := by decide +kernel
theorem d_M_bendingOf_1 : decode b_M_bendingOf 1 = .ok (.lstore_n 3, 1) := by decide +kernel
theorem d_M_bendingOf_2 : decode b_M_bendingOf 2 = .ok (.iconst 0, 1) := by decide +kernel
theorem d_M_bendingOf_3 : decode b_M_bendingOf 3 = .ok (.istore 5, 2) := by decide +kernel
theorem d_M_bendingOf_5 : decode b_M_bendingOf 5 = .ok (.iload 5, 2) := by decide +kernel
theorem d_M_bendingOf_7 : decode b_M_bendingOf 7 = .ok (.iload_n 2, 1) := by decide +kernel
theorem d_M_bendingOf_8 : decode b_M_bendingOf 8 = .ok (.if_icmp .ge 30, 3) := by decide +kernel
theorem d_M_bendingOf_11 : decode b_M_bendingOf 11 = .ok (.lload_n 3, 1) := by decide +kernel
theorem d_M_bendingOf_12 : decode b_M_bendingOf 12 = .ok (.aload_n 0, 1) := by decide +kernel
theorem d_M_bendingOf_13 : decode b_M_bendingOf 13 = .ok (.getfield 77, 3) := by decide +kernel
theorem d_M_bendingOf_16 : decode b_M_bendingOf 16 = .ok (.bipush 61, 2) := by decide +kernel
theorem d_M_bendingOf_18 : decode b_M_bendingOf 18 = .ok (.iload_n 1, 1) := by decide +kernel
theorem d_M_bendingOf_19 : decode b_M_bendingOf 19 = .ok (.imul, 1) := by decide +kernel
theorem d_M_bendingOf_20 : decode b_M_bendingOf 20 = .ok (.iload 5, 2) := by decide +kernel
theorem d_M_bendingOf_22 : decode b_M_bendingOf 22 = .ok (.iadd, 1) := by decide +kernel
theorem d_M_bendingOf_23 : decode b_M_bendingOf 23 = .ok (.laload, 1) := by decide +kernel
theorem d_M_bendingOf_24 : decode b_M_bendingOf 24 = .ok (.iload_n 2, 1) := by decide +kernel
theorem d_M_bendingOf_25 : decode b_M_bendingOf 25 = .ok (.iload 5, 2) := by decide +kernel
theorem d_M_bendingOf_27 : decode b_M_bendingOf 27 = .ok (.isub, 1) := by decide +kernel
theorem d_M_bendingOf_28 : decode b_M_bendingOf 28 = .ok (.i2l, 1) := by decide +kernel
theorem d_M_bendingOf_29 : decode b_M_bendingOf 29 = .ok (.lmul, 1) := by decide +kernel
theorem d_M_bendingOf_30 : decode b_M_bendingOf 30 = .ok (.ladd, 1) := by decide +kernel
theorem d_M_bendingOf_31 : decode b_M_bendingOf 31 = .ok (.lstore_n 3, 1) := by decide +kernel
theorem d_M_bendingOf_32 : decode b_M_bendingOf 32 = .ok (.iinc 5 1, 3) := by decide +kernel
theorem d_M_bendingOf_35 : decode b_M_bendingOf 35 = .ok (.goto (-30), 3) := by decide +kernel
theorem d_M_bendingOf_38 : decode b_M_bendingOf 38 = .ok (.iconst 2, 1) := by decide +kernel
theorem d_M_bendingOf_39 : decode b_M_bendingOf 39 = .ok (.iload_n 1, 1) := by decide +kernel
theorem d_M_bendingOf_40 : decode b_M_bendingOf 40 = .ok (.imul, 1) := by decide +kernel
theorem d_M_bendingOf_41 : decode b_M_bendingOf 41 = .ok (.istore 5, 2) := by decide +kernel
theorem d_M_bendingOf_43 : decode b_M_bendingOf 43 = .ok (.iload 5, 2) := by decide +kernel
theorem d_M_bendingOf_45 : decode b_M_bendingOf 45 = .ok (.iconst 2, 1) := by decide +kernel
theorem d_M_bendingOf_46 : decode b_M_bendingOf 46 = .ok (.iload_n 1, 1) := by decide +kernel
theorem d_M_bendingOf_47 : decode b_M_bendingOf 47 = .ok (.imul, 1) := by decide +kernel
theorem d_M_bendingOf_48 : decode b_M_bendingOf 48 = .ok (.iconst 2, 1) := by decide +kernel
theorem d_M_bendingOf_49 : decode b_M_bendingOf 49 = .ok (.iadd, 1) := by decide +kernel
theorem d_M_bendingOf_50 : decode b_M_bendingOf 50 = .ok (.if_icmp .ge 45, 3) := by decide +kernel
theorem d_M_bendingOf_53 : decode b_M_bendingOf 53 = .ok (.lload_n 3, 1) := by decide +kernel
theorem d_M_bendingOf_54 : decode b_M_bendingOf 54 = .ok (.aload_n 0, 1) := by decide +kernel
theorem d_M_bendingOf_55 : decode b_M_bendingOf 55 = .ok (.getfield 35, 3) := by decide +kernel
theorem d_M_bendingOf_58 : decode b_M_bendingOf 58 = .ok (.iload 5, 2) := by decide +kernel
theorem d_M_bendingOf_60 : decode b_M_bendingOf 60 = .ok (.iaload, 1) := by decide +kernel
theorem d_M_bendingOf_61 : decode b_M_bendingOf 61 = .ok (.iload_n 2, 1) := by decide +kernel
theorem d_M_bendingOf_62 : decode b_M_bendingOf 62 = .ok (.if_icmp .ge 24, 3) := by decide +kernel
theorem d_M_bendingOf_65 : decode b_M_bendingOf 65 = .ok (.aload_n 0, 1) := by decide +kernel
theorem d_M_bendingOf_66 : decode b_M_bendingOf 66 = .ok (.getfield 81, 3) := by decide +kernel
theorem d_M_bendingOf_69 : decode b_M_bendingOf 69 = .ok (.iload 5, 2) := by decide +kernel
theorem d_M_bendingOf_71 : decode b_M_bendingOf 71 = .ok (.laload, 1) := by decide +kernel
theorem d_M_bendingOf_72 : decode b_M_bendingOf 72 = .ok (.iload_n 2, 1) := by decide +kernel
theorem d_M_bendingOf_73 : decode b_M_bendingOf 73 = .ok (.aload_n 0, 1) := by decide +kernel
theorem d_M_bendingOf_74 : decode b_M_bendingOf 74 = .ok (.getfield 35, 3) := by decide +kernel
theorem d_M_bendingOf_77 : decode b_M_bendingOf 77 = .ok (.iload 5, 2) := by decide +kernel
theorem d_M_bendingOf_79 : decode b_M_bendingOf 79 = .ok (.iaload, 1) := by decide +kernel
theorem d_M_bendingOf_80 : decode b_M_bendingOf 80 = .ok (.isub, 1) := by decide +kernel
theorem d_M_bendingOf_81 : decode b_M_bendingOf 81 = .ok (.i2l, 1) := by decide +kernel
theorem d_M_bendingOf_82 : decode b_M_bendingOf 82 = .ok (.lmul, 1) := by decide +kernel
theorem d_M_bendingOf_83 : decode b_M_bendingOf 83 = .ok (.goto 4, 3) := by decide +kernel
theorem d_M_bendingOf_86 : decode b_M_bendingOf 86 = .ok (.lconst 0, 1) := by decide +kernel
theorem d_M_bendingOf_87 : decode b_M_bendingOf 87 = .ok (.lsub, 1) := by decide +kernel
theorem d_M_bendingOf_88 : decode b_M_bendingOf 88 = .ok (.lstore_n 3, 1) := by decide +kernel
theorem d_M_bendingOf_89 : decode b_M_bendingOf 89 = .ok (.iinc 5 1, 3) := by decide +kernel
theorem d_M_bendingOf_92 : decode b_M_bendingOf 92 = .ok (.goto (-49), 3) := by decide +kernel
theorem d_M_bendingOf_95 : decode b_M_bendingOf 95 = .ok (.lload_n 3, 1) := by decide +kernel
theorem d_M_bendingOf_96 : decode b_M_bendingOf 96 = .ok (.lreturn, 1) := by decide +kernel
abbrev b_M_whole : ByteArray := prog_7_method_12_code
abbrev y_M_whole : MethodName := ⟨"OldBeamsModel", "whole", "(I)I"⟩
theorem d_M_whole_0 : decode b_M_whole 0 = .ok (.aload_n 0, 1) := by decide +kernel
theorem d_M_whole_1 : decode b_M_whole 1 = .ok (.getfield 7, 3) := by decide +kernel
theorem d_M_whole_4 : decode b_M_whole 4 = .ok (.aload_n 0, 1) := by decide +kernel
theorem d_M_whole_5 : decode b_M_whole 5 = .ok (.getfield 16, 3) := by decide +kernel
theorem d_M_whole_8 : decode b_M_whole 8 = .ok (.iload_n 1, 1) := by decide +kernel
theorem d_M_whole_9 : decode b_M_whole 9 = .ok (.iaload, 1) := by decide +kernel
theorem d_M_whole_10 : decode b_M_whole 10 = .ok (.iaload, 1) := by decide +kernel
theorem d_M_whole_11 : decode b_M_whole 11 = .ok (.aload_n 0, 1) := by decide +kernel
theorem d_M_whole_12 : decode b_M_whole 12 = .ok (.getfield 22, 3) := by decide +kernel
theorem d_M_whole_15 : decode b_M_whole 15 = .ok (.iload_n 1, 1) := by decide +kernel
theorem d_M_whole_16 : decode b_M_whole 16 = .ok (.iaload, 1) := by decide +kernel
theorem d_M_whole_17 : decode b_M_whole 17 = .ok (.imul, 1) := by decide +kernel
theorem d_M_whole_18 : decode b_M_whole 18 = .ok (.aload_n 0, 1) := by decide +kernel
theorem d_M_whole_19 : decode b_M_whole 19 = .ok (.getfield 25, 3) := by decide +kernel
theorem d_M_whole_22 : decode b_M_whole 22 = .ok (.iload_n 1, 1) := by decide +kernel
theorem d_M_whole_23 : decode b_M_whole 23 = .ok (.iaload, 1) := by decide +kernel
theorem d_M_whole_24 : decode b_M_whole 24 = .ok (.imul, 1) := by decide +kernel
theorem d_M_whole_25 : decode b_M_whole 25 = .ok (.aload_n 0, 1) := by decide +kernel
theorem d_M_whole_26 : decode b_M_whole 26 = .ok (.getfield 25, 3) := by decide +kernel
theorem d_M_whole_29 : decode b_M_whole 29 = .ok (.iload_n 1, 1) := by decide +kernel
theorem d_M_whole_30 : decode b_M_whole 30 = .ok (.iaload, 1) := by decide +kernel
theorem d_M_whole_31 : decode b_M_whole 31 = .ok (.imul, 1) := by decide +kernel
theorem d_M_whole_32 : decode b_M_whole 32 = .ok (.bipush 100, 2) := by decide +kernel
theorem d_M_whole_34 : decode b_M_whole 34 = .ok (.idiv, 1) := by decide +kernel
theorem d_M_whole_35 : decode b_M_whole 35 = .ok (.ireturn, 1) := by decide +kernel
abbrev b_M_wet : ByteArray := prog_7_method_14_code
abbrev y_M_wet : MethodName := ⟨"OldBeamsModel", "wet", "(IZ)I"⟩
theorem d_M_wet_0 : decode b_M_wet 0 = .ok (.aload_n 0, 1) := by decide +kernel
theorem d_M_wet_1 : decode b_M_wet 1 = .ok (.iload_n 1, 1) := by decide +kernel
theorem d_M_wet_2 : decode b_M_wet 2 = .ok (.invokevirtual 157, 3) := by decide +kernel
theorem d_M_wet_5 : decode b_M_wet 5 = .ok (.ifCond .ne 6, 3) := by decide +kernel
theorem d_M_wet_8 : decode b_M_wet 8 = .ok (.ldc 136, 2) := by decide +kernel
theorem d_M_wet_10 : decode b_M_wet 10 = .ok (.ireturn, 1) := by decide +kernel
theorem d_M_wet_11 : decode b_M_wet 11 = .ok (.aload_n 0, 1) := by decide +kernel
theorem d_M_wet_12 : decode b_M_wet 12 = .ok (.getfield 28, 3) := by decide +kernel
theorem d_M_wet_15 : decode b_M_wet 15 = .ok (.iload_n 1, 1) := by decide +kernel
theorem d_M_wet_16 : decode b_M_wet 16 = .ok (.baload, 1) := by decide +kernel
theorem d_M_wet_17 : decode b_M_wet 17 = .ok (.ifCond .eq 7, 3) := by decide +kernel
theorem d_M_wet_20 : decode b_M_wet 20 = .ok (.iconst 1, 1) := by decide +kernel
theorem d_M_wet_21 : decode b_M_wet 21 = .ok (.goto 4, 3) := by decide +kernel
theorem d_M_wet_24 : decode b_M_wet 24 = .ok (.iconst 0, 1) := by decide +kernel
theorem d_M_wet_25 : decode b_M_wet 25 = .ok (.istore_n 3, 1) := by decide +kernel
theorem d_M_wet_26 : decode b_M_wet 26 = .ok (.aload_n 0, 1) := by decide +kernel
theorem d_M_wet_27 : decode b_M_wet 27 = .ok (.getfield 28, 3) := by decide +kernel
theorem d_M_wet_30 : decode b_M_wet 30 = .ok (.iload_n 1, 1) := by decide +kernel
theorem d_M_wet_31 : decode b_M_wet 31 = .ok (.iload_n 2, 1) := by decide +kernel
theorem d_M_wet_32 : decode b_M_wet 32 = .ok (.bastore, 1) := by decide +kernel
theorem d_M_wet_33 : decode b_M_wet 33 = .ok (.iload_n 3, 1) := by decide +kernel
theorem d_M_wet_34 : decode b_M_wet 34 = .ok (.ireturn, 1) := by decide +kernel
abbrev b_M_load : ByteArray := prog_7_method_15_code
abbrev y_M_load : MethodName := ⟨"OldBeamsModel", "load", "(III)I"⟩
theorem d_M_load_0 : decode b_M_load 0 = .ok (.aload_n 0, 1) := by decide +kernel
theorem d_M_load_1 : decode b_M_load 1 = .ok (.iload_n 1, 1) := by decide +kernel
theorem d_M_load_2 : decode b_M_load 2 = .ok (.invokevirtual 157, 3) := by decide +kernel
theorem d_M_load_5 : decode b_M_load 5 = .ok (.ifCond .ne 6, 3) := by decide +kernel
theorem d_M_load_8 : decode b_M_load 8 = .ok (.ldc 136, 2) := by decide +kernel
theorem d_M_load_10 : decode b_M_load 10 = .ok (.ireturn, 1) := by decide +kernel
theorem d_M_load_11 : decode b_M_load 11 = .ok (.iload_n 2, 1) := by decide +kernel
theorem d_M_load_12 : decode b_M_load 12 = .ok (.i2l, 1) := by decide +kernel
theorem d_M_load_13 : decode b_M_load 13 = .ok (.lconst 0, 1) := by decide +kernel
theorem d_M_load_14 : decode b_M_load 14 = .ok (.aload_n 0, 1) := by decide +kernel
theorem d_M_load_15 : decode b_M_load 15 = .ok (.getfield 19, 3) := by decide +kernel
theorem d_M_load_18 : decode b_M_load 18 = .ok (.iload_n 1, 1) := by decide +kernel
theorem d_M_load_19 : decode b_M_load 19 = .ok (.iaload, 1) := by decide +kernel
theorem d_M_load_20 : decode b_M_load 20 = .ok (.i2l, 1) := by decide +kernel
theorem d_M_load_21 : decode b_M_load 21 = .ok (.invokestatic 126, 3) := by decide +kernel
theorem d_M_load_24 : decode b_M_load 24 = .ok (.ifCond .eq 15, 3) := by decide +kernel
theorem d_M_load_27 : decode b_M_load 27 = .ok (.iload_n 3, 1) := by decide +kernel
theorem d_M_load_28 : decode b_M_load 28 = .ok (.i2l, 1) := by decide +kernel
theorem d_M_load_29 : decode b_M_load 29 = .ok (.lconst 1, 1) := by decide +kernel
theorem d_M_load_30 : decode b_M_load 30 = .ok (.ldc2_w 168, 3) := by decide +kernel
theorem d_M_load_33 : decode b_M_load 33 = .ok (.invokestatic 126, 3) := by decide +kernel
theorem d_M_load_36 : decode b_M_load 36 = .ok (.ifCond .ne 6, 3) := by decide +kernel
theorem d_M_load_39 : decode b_M_load 39 = .ok (.ldc 143, 2) := by decide +kernel
theorem d_M_load_41 : decode b_M_load 41 = .ok (.ireturn, 1) := by decide +kernel
theorem d_M_load_42 : decode b_M_load 42 = .ok (.aload_n 0, 1) := by decide +kernel
theorem d_M_load_43 : decode b_M_load 43 = .ok (.getfield 170, 3) := by decide +kernel
theorem d_M_load_46 : decode b_M_load 46 = .ok (.bipush 40, 2) := by decide +kernel
theorem d_M_load_48 : decode b_M_load 48 = .ok (.if_icmp .ne 6, 3) := by decide +kernel
theorem d_M_load_51 : decode b_M_load 51 = .ok (.ldc 155, 2) := by decide +kernel
theorem d_M_load_53 : decode b_M_load 53 = .ok (.ireturn, 1) := by decide +kernel
theorem d_M_load_54 : decode b_M_load 54 = .ok (.aload_n 0, 1) := by decide +kernel
theorem d_M_load_55 : decode b_M_load 55 = .ok (.getfield 44, 3) := by decide +kernel
theorem d_M_load_58 : decode b_M_load 58 = .ok (.aload_n 0, 1) := by decide +kernel
theorem d_M_load_59 : decode b_M_load 59 = .ok (.getfield 170, 3) := by decide +kernel
theorem d_M_load_62 : decode b_M_load 62 = .ok (.iload_n 1, 1) := by decide +kernel
theorem d_M_load_63 : decode b_M_load 63 = .ok (.iastore, 1) := by decide +kernel
theorem d_M_load_64 : decode b_M_load 64 = .ok (.aload_n 0, 1) := by decide +kernel
theorem d_M_load_65 : decode b_M_load 65 = .ok (.getfield 47, 3) := by decide +kernel
theorem d_M_load_68 : decode b_M_load 68 = .ok (.aload_n 0, 1) := by decide +kernel
theorem d_M_load_69 : decode b_M_load 69 = .ok (.getfield 170, 3) := by decide +kernel
theorem d_M_load_72 : decode b_M_load 72 = .ok (.iload_n 2, 1) := by decide +kernel
theorem d_M_load_73 : decode b_M_load 73 = .ok (.iastore, 1) := by decide +kernel
theorem d_M_load_74 : decode b_M_load 74 = .ok (.aload_n 0, 1) := by decide +kernel
theorem d_M_load_75 : decode b_M_load 75 = .ok (.getfield 50, 3) := by decide +kernel
theorem d_M_load_78 : decode b_M_load 78 = .ok (.aload_n 0, 1) := by decide +kernel
theorem d_M_load_79 : decode b_M_load 79 = .ok (.getfield 170, 3) := by decide +kernel
theorem d_M_load_82 : decode b_M_load 82 = .ok (.iload_n 3, 1) := by decide +kernel
theorem d_M_load_83 : decode b_M_load 83 = .ok (.iastore, 1) := by decide +kernel
theorem d_M_load_84 : decode b_M_load 84 = .ok (.aload_n 0, 1) := by decide +kernel
theorem d_M_load_85 : decode b_M_load 85 = .ok (.dup, 1) := by decide +kernel
theorem d_M_load_86 : decode b_M_load 86 = .ok (.getfield 170, 3) := by decide +kernel
theorem d_M_load_89 : decode b_M_load 89 = .ok (.iconst 1, 1) := by decide +kernel
theorem d_M_load_90 : decode b_M_load 90 = .ok (.iadd, 1) := by decide +kernel
theorem d_M_load_91 : decode b_M_load 91 = .ok (.putfield 170, 3) := by decide +kernel
theorem d_M_load_94 : decode b_M_load 94 = .ok (.aload_n 0, 1) := by decide +kernel
theorem d_M_load_95 : decode b_M_load 95 = .ok (.getfield 170, 3) := by decide +kernel
theorem d_M_load_98 : decode b_M_load 98 = .ok (.iconst 1, 1) := by decide +kernel
theorem d_M_load_99 : decode b_M_load 99 = .ok (.isub, 1) := by decide +kernel
theorem d_M_load_100 : decode b_M_load 100 = .ok (.ireturn, 1) := by decide +kernel
abbrev b_M_takeOff : ByteArray := prog_7_method_16_code
abbrev y_M_takeOff : MethodName := ⟨"OldBeamsModel", "takeOff", "(I)I"⟩
theorem d_M_takeOff_0 : decode b_M_takeOff 0 = .ok (.iload_n 1, 1) := by decide +kernel
theorem d_M_takeOff_1 : decode b_M_takeOff 1 = .ok (.i2l, 1) := by decide +kernel
theorem d_M_takeOff_2 : decode b_M_takeOff 2 = .ok (.lconst 0, 1) := by decide +kernel
theorem d_M_takeOff_3 : decode b_M_takeOff 3 = .ok (.aload_n 0, 1) := by decide +kernel
theorem d_M_takeOff_4 : decode b_M_takeOff 4 = .ok (.getfield 170, 3) := by decide +kernel
theorem d_M_takeOff_7 : decode b_M_takeOff 7 = .ok (.iconst 1, 1) := by decide +kernel
theorem d_M_takeOff_8 : decode b_M_takeOff 8 = .ok (.isub, 1) := by decide +kernel
theorem d_M_takeOff_9 : decode b_M_takeOff 9 = .ok (.i2l, 1) := by decide +kernel
theorem d_M_takeOff_10 : decode b_M_takeOff 10 = .ok (.invokestatic 126, 3) := by decide +kernel
theorem d_M_takeOff_13 : decode b_M_takeOff 13 = .ok (.ifCond .ne 6, 3) := by decide +kernel
theorem d_M_takeOff_16 : decode b_M_takeOff 16 = .ok (.ldc 136, 2) := by decide +kernel
theorem d_M_takeOff_18 : decode b_M_takeOff 18 = .ok (.ireturn, 1) := by decide +kernel
theorem d_M_takeOff_19 : decode b_M_takeOff 19 = .ok (.aload_n 0, 1) := by decide +kernel
theorem d_M_takeOff_20 : decode b_M_takeOff 20 = .ok (.getfield 53, 3) := by decide +kernel
theorem d_M_takeOff_23 : decode b_M_takeOff 23 = .ok (.iload_n 1, 1) := by decide +kernel
theorem d_M_takeOff_24 : decode b_M_takeOff 24 = .ok (.baload, 1) := by decide +kernel
theorem d_M_takeOff_25 : decode b_M_takeOff 25 = .ok (.ifCond .eq 6, 3) := by decide +kernel
theorem d_M_takeOff_28 : decode b_M_takeOff 28 = .ok (.ldc 160, 2) := by decide +kernel
theorem d_M_takeOff_30 : decode b_M_takeOff 30 = .ok (.ireturn, 1) := by decide +kernel
theorem d_M_takeOff_31 : decode b_M_takeOff 31 = .ok (.aload_n 0, 1) := by decide +kernel
theorem d_M_takeOff_32 : decode b_M_takeOff 32 = .ok (.getfield 53, 3) := by decide +kernel
theorem d_M_takeOff_35 : decode b_M_takeOff 35 = .ok (.iload_n 1, 1) := by decide +kernel
theorem d_M_takeOff_36 : decode b_M_takeOff 36 = .ok (.iconst 1, 1) := by decide +kernel
theorem d_M_takeOff_37 : decode b_M_takeOff 37 = .ok (.bastore, 1) := by decide +kernel
theorem d_M_takeOff_38 : decode b_M_takeOff 38 = .ok (.aload_n 0, 1) := by decide +kernel
theorem d_M_takeOff_39 : decode b_M_takeOff 39 = .ok (.getfield 50, 3) := by decide +kernel
theorem d_M_takeOff_42 : decode b_M_takeOff 42 = .ok (.iload_n 1, 1) := by decide +kernel
theorem d_M_takeOff_43 : decode b_M_takeOff 43 = .ok (.iaload, 1) := by decide +kernel
theorem d_M_takeOff_44 : decode b_M_takeOff 44 = .ok (.ireturn, 1) := by decide +kernel
abbrev b_M_prop : ByteArray := prog_7_method_17_code
abbrev y_M_prop : MethodName := ⟨"OldBeamsModel", "prop", "(III)I"⟩
theorem d_M_prop_0 : decode b_M_prop 0 = .ok (.aload_n 0, 1) := by decide +kernel
theorem d_M_prop_1 : decode b_M_prop 1 = .ok (.iload_n 1, 1) := by decide +kernel
theorem d_M_prop_2 : decode b_M_prop 2 = .ok (.invokevirtual 157, 3) := by decide +kernel
theorem d_M_prop_5 : decode b_M_prop 5 = .ok (.ifCond .ne 6, 3) := by decide +kernel
theorem d_M_prop_8 : decode b_M_prop 8 = .ok (.ldc 136, 2) := by decide +kernel
theorem d_M_prop_10 : decode b_M_prop 10 = .ok (.ireturn, 1) := by decide +kernel
theorem d_M_prop_11 : decode b_M_prop 11 = .ok (.iload_n 2, 1) := by decide +kernel
theorem d_M_prop_12 : decode b_M_prop 12 = .ok (.i2l, 1) := by decide +kernel
theorem d_M_prop_13 : decode b_M_prop 13 = .ok (.lconst 0, 1) := by decide +kernel
theorem d_M_prop_14 : decode b_M_prop 14 = .ok (.aload_n 0, 1) := by decide +kernel
theorem d_M_prop_15 : decode b_M_prop 15 = .ok (.getfield 19, 3) := by decide +kernel
theorem d_M_prop_18 : decode b_M_prop 18 = .ok (.iload_n 1, 1) := by decide +kernel
theorem d_M_prop_19 : decode b_M_prop 19 = .ok (.iaload, 1) := by decide +kernel
theorem d_M_prop_20 : decode b_M_prop 20 = .ok (.i2l, 1) := by decide +kernel
theorem d_M_prop_21 : decode b_M_prop 21 = .ok (.invokestatic 126, 3) := by decide +kernel
theorem d_M_prop_24 : decode b_M_prop 24 = .ok (.ifCond .eq 15, 3) := by decide +kernel
theorem d_M_prop_27 : decode b_M_prop 27 = .ok (.iload_n 3, 1) := by decide +kernel
theorem d_M_prop_28 : decode b_M_prop 28 = .ok (.i2l, 1) := by decide +kernel
theorem d_M_prop_29 : decode b_M_prop 29 = .ok (.lconst 1, 1) := by decide +kernel
theorem d_M_prop_30 : decode b_M_prop 30 = .ok (.ldc2_w 168, 3) := by decide +kernel
theorem d_M_prop_33 : decode b_M_prop 33 = .ok (.invokestatic 126, 3) := by decide +kernel
theorem d_M_prop_36 : decode b_M_prop 36 = .ok (.ifCond .ne 6, 3) := by decide +kernel
theorem d_M_prop_39 : decode b_M_prop 39 = .ok (.ldc 143, 2) := by decide +kernel
theorem d_M_prop_41 : decode b_M_prop 41 = .ok (.ireturn, 1) := by decide +kernel
theorem d_M_prop_42 : decode b_M_prop 42 = .ok (.aload_n 0, 1) := by decide +kernel
theorem d_M_prop_43 : decode b_M_prop 43 = .ok (.getfield 173, 3) := by decide +kernel
theorem d_M_prop_46 : decode b_M_prop 46 = .ok (.bipush 8, 2) := by decide +kernel
theorem d_M_prop_48 : decode b_M_prop 48 = .ok (.if_icmp .ne 6, 3) := by decide +kernel
theorem d_M_prop_51 : decode b_M_prop 51 = .ok (.ldc 155, 2) := by decide +kernel
theorem d_M_prop_53 : decode b_M_prop 53 = .ok (.ireturn, 1) := by decide +kernel
theorem d_M_prop_54 : decode b_M_prop 54 = .ok (.aload_n 0, 1) := by decide +kernel
theorem d_M_prop_55 : decode b_M_prop 55 = .ok (.getfield 56, 3) := by decide +kernel
theorem d_M_prop_58 : decode b_M_prop 58 = .ok (.aload_n 0, 1) := by decide +kernel
theorem d_M_prop_59 : decode b_M_prop 59 = .ok (.getfield 173, 3) := by decide +kernel
theorem d_M_prop_62 : decode b_M_prop 62 = .ok (.iload_n 1, 1) := by decide +kernel
theorem d_M_prop_63 : decode b_M_prop 63 = .ok (.iastore, 1) := by decide +kernel
theorem d_M_prop_64 : decode b_M_prop 64 = .ok (.aload_n 0, 1) := by decide +kernel
theorem d_M_prop_65 : decode b_M_prop 65 = .ok (.getfield 59, 3) := by decide +kernel
theorem d_M_prop_68 : decode b_M_prop 68 = .ok (.aload_n 0, 1) := by decide +kernel
theorem d_M_prop_69 : decode b_M_prop 69 = .ok (.getfield 173, 3) := by decide +kernel
theorem d_M_prop_72 : decode b_M_prop 72 = .ok (.iload_n 2, 1) := by decide +kernel
theorem d_M_prop_73 : decode b_M_prop 73 = .ok (.iastore, 1) := by decide +kernel
theorem d_M_prop_74 : decode b_M_prop 74 = .ok (.aload_n 0, 1) := by decide +kernel
theorem d_M_prop_75 : decode b_M_prop 75 = .ok (.getfield 62, 3) := by decide +kernel
theorem d_M_prop_78 : decode b_M_prop 78 = .ok (.aload_n 0, 1) := by decide +kernel
theorem d_M_prop_79 : decode b_M_prop 79 = .ok (.getfield 173, 3) := by decide +kernel
theorem d_M_prop_82 : decode b_M_prop 82 = .ok (.iload_n 3, 1) := by decide +kernel
theorem d_M_prop_83 : decode b_M_prop 83 = .ok (.iastore, 1) := by decide +kernel
theorem d_M_prop_84 : decode b_M_prop 84 = .ok (.aload_n 0, 1) := by decide +kernel
theorem d_M_prop_85 : decode b_M_prop 85 = .ok (.dup, 1) := by decide +kernel
theorem d_M_prop_86 : decode b_M_prop 86 = .ok (.getfield 173, 3) := by decide +kernel
theorem d_M_prop_89 : decode b_M_prop 89 = .ok (.iconst 1, 1) := by decide +kernel
theorem d_M_prop_90 : decode b_M_prop 90 = .ok (.iadd, 1) := by decide +kernel
theorem d_M_prop_91 : decode b_M_prop 91 = .ok (.putfield 173, 3) := by decide +kernel
theorem d_M_prop_94 : decode b_M_prop 94 = .ok (.aload_n 0, 1) := by decide +kernel
theorem d_M_prop_95 : decode b_M_prop 95 = .ok (.getfield 173, 3) := by decide +kernel
theorem d_M_prop_98 : decode b_M_prop 98 = .ok (.iconst 1, 1) := by decide +kernel
theorem d_M_prop_99 : decode b_M_prop 99 = .ok (.isub, 1) := by decide +kernel
theorem d_M_prop_100 : decode b_M_prop 100 = .ok (.ireturn, 1) := by decide +kernel
abbrev b_M_set : ByteArray := prog_7_method_18_code
abbrev y_M_set : MethodName := ⟨"OldBeamsModel", "set", "(IZ)I"⟩
theorem d_M_set_0 : decode b_M_set 0 = .ok (.iload_n 1, 1) := by decide +kernel
theorem d_M_set_1 : decode b_M_set 1 = .ok (.i2l, 1) := by decide +kernel
theorem d_M_set_2 : decode b_M_set 2 = .ok (.lconst 0, 1) := by decide +kernel
theorem d_M_set_3 : decode b_M_set 3 = .ok (.aload_n 0, 1) := by decide +kernel
theorem d_M_set_4 : decode b_M_set 4 = .ok (.getfield 173, 3) := by decide +kernel
theorem d_M_set_7 : decode b_M_set 7 = .ok (.iconst 1, 1) := by decide +kernel
theorem d_M_set_8 : decode b_M_set 8 = .ok (.isub, 1) := by decide +kernel
theorem d_M_set_9 : decode b_M_set 9 = .ok (.i2l, 1) := by decide +kernel
theorem d_M_set_10 : decode b_M_set 10 = .ok (.invokestatic 126, 3) := by decide +kernel
theorem d_M_set_13 : decode b_M_set 13 = .ok (.ifCond .ne 6, 3) := by decide +kernel
theorem d_M_set_16 : decode b_M_set 16 = .ok (.ldc 136, 2) := by decide +kernel
theorem d_M_set_18 : decode b_M_set 18 = .ok (.ireturn, 1) := by decide +kernel
theorem d_M_set_19 : decode b_M_set 19 = .ok (.aload_n 0, 1) := by decide +kernel
theorem d_M_set_20 : decode b_M_set 20 = .ok (.getfield 65, 3) := by decide +kernel
theorem d_M_set_23 : decode b_M_set 23 = .ok (.iload_n 1, 1) := by decide +kernel
theorem d_M_set_24 : decode b_M_set 24 = .ok (.baload, 1) := by decide +kernel
theorem d_M_set_25 : decode b_M_set 25 = .ok (.ifCond .eq 7, 3) := by decide +kernel
theorem d_M_set_28 : decode b_M_set 28 = .ok (.iconst 1, 1) := by decide +kernel
theorem d_M_set_29 : decode b_M_set 29 = .ok (.goto 4, 3) := by decide +kernel
theorem d_M_set_32 : decode b_M_set 32 = .ok (.iconst 0, 1) := by decide +kernel
theorem d_M_set_33 : decode b_M_set 33 = .ok (.istore_n 3, 1) := by decide +kernel
theorem d_M_set_34 : decode b_M_set 34 = .ok (.aload_n 0, 1) := by decide +kernel
theorem d_M_set_35 : decode b_M_set 35 = .ok (.getfield 65, 3) := by decide +kernel
theorem d_M_set_38 : decode b_M_set 38 = .ok (.iload_n 1, 1) := by decide +kernel
theorem d_M_set_39 : decode b_M_set 39 = .ok (.iload_n 2, 1) := by decide +kernel
theorem d_M_set_40 : decode b_M_set 40 = .ok (.bastore, 1) := by decide +kernel
theorem d_M_set_41 : decode b_M_set 41 = .ok (.iload_n 3, 1) := by decide +kernel
theorem d_M_set_42 : decode b_M_set 42 = .ok (.ireturn, 1) := by decide +kernel
abbrev b_M_fall : ByteArray := prog_7_method_30_code
abbrev y_M_fall : MethodName := ⟨"OldBeamsModel", "fall", "(I)I"⟩
theorem d_M_fall_0 : decode b_M_fall 0 = .ok (.aload_n 0, 1) := by decide +kernel
theorem d_M_fall_1 : decode b_M_fall 1 = .ok (.iload_n 1, 1) := by decide +kernel
theorem d_M_fall_2 : decode b_M_fall 2 = .ok (.invokevirtual 157, 3) := by decide +kernel
theorem d_M_fall_5 : decode b_M_fall 5 = .ok (.ifCond .ne 6, 3) := by decide +kernel
theorem d_M_fall_8 : decode b_M_fall 8 = .ok (.ldc 136, 2) := by decide +kernel
theorem d_M_fall_10 : decode b_M_fall 10 = .ok (.ireturn, 1) := by decide +kernel
theorem d_M_fall_11 : decode b_M_fall 11 = .ok (.aload_n 0, 1) := by decide +kernel
theorem d_M_fall_12 : decode b_M_fall 12 = .ok (.getfield 32, 3) := by decide +kernel
theorem d_M_fall_15 : decode b_M_fall 15 = .ok (.iload_n 1, 1) := by decide +kernel
theorem d_M_fall_16 : decode b_M_fall 16 = .ok (.baload, 1) := by decide +kernel
theorem d_M_fall_17 : decode b_M_fall 17 = .ok (.ifCond .eq 6, 3) := by decide +kernel
theorem d_M_fall_20 : decode b_M_fall 20 = .ok (.ldc 160, 2) := by decide +kernel
theorem d_M_fall_22 : decode b_M_fall 22 = .ok (.ireturn, 1) := by decide +kernel
theorem d_M_fall_23 : decode b_M_fall 23 = .ok (.aload_n 0, 1) := by decide +kernel
theorem d_M_fall_24 : decode b_M_fall 24 = .ok (.getfield 32, 3) := by decide +kernel
theorem d_M_fall_27 : decode b_M_fall 27 = .ok (.iload_n 1, 1) := by decide +kernel
theorem d_M_fall_28 : decode b_M_fall 28 = .ok (.iconst 1, 1) := by decide +kernel
theorem d_M_fall_29 : decode b_M_fall 29 = .ok (.bastore, 1) := by decide +kernel
theorem d_M_fall_30 : decode b_M_fall 30 = .ok (.aload_n 0, 1) := by decide +kernel
theorem d_M_fall_31 : decode b_M_fall 31 = .ok (.invokevirtual 161, 3) := by decide +kernel
theorem d_M_fall_34 : decode b_M_fall 34 = .ok (.aload_n 0, 1) := by decide +kernel
theorem d_M_fall_35 : decode b_M_fall 35 = .ok (.invokevirtual 202, 3) := by decide +kernel
theorem d_M_fall_38 : decode b_M_fall 38 = .ok (.ireturn, 1) := by decide +kernel
abbrev b_M_downMany : ByteArray := prog_7_method_29_code
abbrev y_M_downMany : MethodName := ⟨"OldBeamsModel", "downMany", "()I"⟩
theorem d_M_downMany_0 : decode b_M_downMany 0 = .ok (.iconst 0, 1) := by decide +kernel
theorem d_M_downMany_1 : decode b_M_downMany 1 = .ok (.istore_n 1, 1) := by decide +kernel
theorem d_M_downMany_2 : decode b_M_downMany 2 = .ok (.iconst 0, 1) := by decide +kernel
theorem d_M_downMany_3 : decode b_M_downMany 3 = .ok (.istore_n 2, 1) := by decide +kernel
theorem d_M_downMany_4 : decode b_M_downMany 4 = .ok (.iload_n 2, 1) := by decide +kernel
theorem d_M_downMany_5 : decode b_M_downMany 5 = .ok (.aload_n 0, 1) := by decide +kernel
theorem d_M_downMany_6 : decode b_M_downMany 6 = .ok (.getfield 144, 3) := by decide +kernel
theorem d_M_downMany_9 : decode b_M_downMany 9 = .ok (.if_icmp .ge 26, 3) := by decide +kernel
theorem d_M_downMany_12 : decode b_M_downMany 12 = .ok (.iload_n 1, 1) := by decide +kernel
theorem d_M_downMany_13 : decode b_M_downMany 13 = .ok (.aload_n 0, 1) := by decide +kernel
theorem d_M_downMany_14 : decode b_M_downMany 14 = .ok (.getfield 74, 3) := by decide +kernel
theorem d_M_downMany_17 : decode b_M_downMany 17 = .ok (.iload_n 2, 1) := by decide +kernel
theorem d_M_downMany_18 : decode b_M_downMany 18 = .ok (.baload, 1) := by decide +kernel
theorem d_M_downMany_19 : decode b_M_downMany 19 = .ok (.ifCond .eq 7, 3) := by decide +kernel
theorem d_M_downMany_22 : decode b_M_downMany 22 = .ok (.iconst 1, 1) := by decide +kernel
theorem d_M_downMany_23 : decode b_M_downMany 23 = .ok (.goto 4, 3) := by decide +kernel
theorem d_M_downMany_26 : decode b_M_downMany 26 = .ok (.iconst 0, 1) := by decide +kernel
theorem d_M_downMany_27 : decode b_M_downMany 27 = .ok (.iadd, 1) := by decide +kernel
theorem d_M_downMany_28 : decode b_M_downMany 28 = .ok (.istore_n 1, 1) := by decide +kernel
theorem d_M_downMany_29 : decode b_M_downMany 29 = .ok (.iinc 2 1, 3) := by decide +kernel
theorem d_M_downMany_32 : decode b_M_downMany 32 = .ok (.goto (-28), 3) := by decide +kernel
theorem d_M_downMany_35 : decode b_M_downMany 35 = .ok (.iload_n 1, 1) := by decide +kernel
theorem d_M_downMany_36 : decode b_M_downMany 36 = .ok (.ireturn, 1) := by decide +kernel
abbrev b_M_push : ByteArray := prog_7_method_32_code
abbrev y_M_push : MethodName := ⟨"OldBeamsModel", "push", "(II)J"⟩
theorem d_M_push_0 : decode b_M_push 0 = .ok (.aload_n 0, 1) := by decide +kernel
theorem d_M_push_1 : decode b_M_push 1 = .ok (.iload_n 1, 1) := by decide +kernel
theorem d_M_push_2 : decode b_M_push 2 = .ok (.iload_n 2, 1) := by decide +kernel
theorem d_M_push_3 : decode b_M_push 3 = .ok (.i2l, 1) := by decide +kernel
theorem d_M_push_4 : decode b_M_push 4 = .ok (.lconst 0, 1) := by decide +kernel
theorem d_M_push_5 : decode b_M_push 5 = .ok (.lconst 1, 1) := by decide +kernel
theorem d_M_push_6 : decode b_M_push 6 = .ok (.invokestatic 126, 3) := by decide +kernel
theorem d_M_push_9 : decode b_M_push 9 = .ok (.invokevirtual 206, 3) := by decide +kernel
theorem d_M_push_12 : decode b_M_push 12 = .ok (.istore_n 3, 1) := by decide +kernel
theorem d_M_push_13 : decode b_M_push 13 = .ok (.iload_n 3, 1) := by decide +kernel
theorem d_M_push_14 : decode b_M_push 14 = .ok (.ifCond .ge 8, 3) := by decide +kernel
theorem d_M_push_17 : decode b_M_push 17 = .ok (.iload_n 3, 1) := by decide +kernel
theorem d_M_push_18 : decode b_M_push 18 = .ok (.i2l, 1) := by decide +kernel
theorem d_M_push_19 : decode b_M_push 19 = .ok (.goto 13, 3) := by decide +kernel
theorem d_M_push_22 : decode b_M_push 22 = .ok (.aload_n 0, 1) := by decide +kernel
theorem d_M_push_23 : decode b_M_push 23 = .ok (.getfield 81, 3) := by decide +kernel
theorem d_M_push_26 : decode b_M_push 26 = .ok (.iconst 2, 1) := by decide +kernel
theorem d_M_push_27 : decode b_M_push 27 = .ok (.iload_n 1, 1) := by decide +kernel
theorem d_M_push_28 : decode b_M_push 28 = .ok (.imul, 1) := by decide +kernel
theorem d_M_push_29 : decode b_M_push 29 = .ok (.iload_n 2, 1) := by decide +kernel
theorem d_M_push_30 : decode b_M_push 30 = .ok (.iadd, 1) := by decide +kernel
theorem d_M_push_31 : decode b_M_push 31 = .ok (.laload, 1) := by decide +kernel
theorem d_M_push_32 : decode b_M_push 32 = .ok (.lreturn, 1) := by decide +kernel
abbrev b_M_mayTell : ByteArray := prog_7_method_31_code
abbrev y_M_mayTell : MethodName := ⟨"OldBeamsModel", "mayTell", "(IZ)I"⟩
theorem d_M_mayTell_0 : decode b_M_mayTell 0 = .ok (.aload_n 0, 1) := by decide +kernel
theorem d_M_mayTell_1 : decode b_M_mayTell 1 = .ok (.iload_n 1, 1) := by decide +kernel
theorem d_M_mayTell_2 : decode b_M_mayTell 2 = .ok (.invokevirtual 157, 3) := by decide +kernel
theorem d_M_mayTell_5 : decode b_M_mayTell 5 = .ok (.ifCond .ne 6, 3) := by decide +kernel
theorem d_M_mayTell_8 : decode b_M_mayTell 8 = .ok (.ldc 136, 2) := by decide +kernel
theorem d_M_mayTell_10 : decode b_M_mayTell 10 = .ok (.ireturn, 1) := by decide +kernel
theorem d_M_mayTell_11 : decode b_M_mayTell 11 = .ok (.iload_n 2, 1) := by decide +kernel
theorem d_M_mayTell_12 : decode b_M_mayTell 12 = .ok (.ifCond .ne 6, 3) := by decide +kernel
theorem d_M_mayTell_15 : decode b_M_mayTell 15 = .ok (.ldc 143, 2) := by decide +kernel
theorem d_M_mayTell_17 : decode b_M_mayTell 17 = .ok (.ireturn, 1) := by decide +kernel
theorem d_M_mayTell_18 : decode b_M_mayTell 18 = .ok (.aload_n 0, 1) := by decide +kernel
theorem d_M_mayTell_19 : decode b_M_mayTell 19 = .ok (.invokevirtual 161, 3) := by decide +kernel
theorem d_M_mayTell_22 : decode b_M_mayTell 22 = .ok (.aload_n 0, 1) := by decide +kernel
theorem d_M_mayTell_23 : decode b_M_mayTell 23 = .ok (.getfield 74, 3) := by decide +kernel
theorem d_M_mayTell_26 : decode b_M_mayTell 26 = .ok (.iload_n 1, 1) := by decide +kernel
theorem d_M_mayTell_27 : decode b_M_mayTell 27 = .ok (.baload, 1) := by decide +kernel
theorem d_M_mayTell_28 : decode b_M_mayTell 28 = .ok (.ifCond .eq 8, 3) := by decide +kernel
theorem d_M_mayTell_31 : decode b_M_mayTell 31 = .ok (.ldc 160, 2) := by decide +kernel
theorem d_M_mayTell_33 : decode b_M_mayTell 33 = .ok (.goto 4, 3) := by decide +kernel
theorem d_M_mayTell_36 : decode b_M_mayTell 36 = .ok (.iconst 0, 1) := by decide +kernel
theorem d_M_mayTell_37 : decode b_M_mayTell 37 = .ok (.ireturn, 1) := by decide +kernel
abbrev b_M_bending : ByteArray := prog_7_method_33_code
abbrev y_M_bending : MethodName := ⟨"OldBeamsModel", "bending", "(II)J"⟩
theorem d_M_bending_0 : decode b_M_bending 0 = .ok (.aload_n 0, 1) := by decide +kernel
theorem d_M_bending_1 : decode b_M_bending 1 = .ok (.iload_n 1, 1) := by decide +kernel
theorem d_M_bending_2 : decode b_M_bending 2 = .ok (.aload_n 0, 1) := by decide +kernel
theorem d_M_bending_3 : decode b_M_bending 3 = .ok (.iload_n 1, 1) := by decide +kernel
theorem d_M_bending_4 : decode b_M_bending 4 = .ok (.invokevirtual 157, 3) := by decide +kernel
theorem d_M_bending_7 : decode b_M_bending 7 = .ok (.ifCond .eq 23, 3) := by decide +kernel
theorem d_M_bending_10 : decode b_M_bending 10 = .ok (.iload_n 2, 1) := by decide +kernel
theorem d_M_bending_11 : decode b_M_bending 11 = .ok (.i2l, 1) := by decide +kernel
theorem d_M_bending_12 : decode b_M_bending 12 = .ok (.lconst 0, 1) := by decide +kernel
theorem d_M_bending_13 : decode b_M_bending 13 = .ok (.aload_n 0, 1) := by decide +kernel
theorem d_M_bending_14 : decode b_M_bending 14 = .ok (.getfield 19, 3) := by decide +kernel
theorem d_M_bending_17 : decode b_M_bending 17 = .ok (.iload_n 1, 1) := by decide +kernel
theorem d_M_bending_18 : decode b_M_bending 18 = .ok (.iaload, 1) := by decide +kernel
theorem d_M_bending_19 : decode b_M_bending 19 = .ok (.i2l, 1) := by decide +kernel
theorem d_M_bending_20 : decode b_M_bending 20 = .ok (.invokestatic 126, 3) := by decide +kernel
theorem d_M_bending_23 : decode b_M_bending 23 = .ok (.ifCond .eq 7, 3) := by decide +kernel
theorem d_M_bending_26 : decode b_M_bending 26 = .ok (.iconst 1, 1) := by decide +kernel
theorem d_M_bending_27 : decode b_M_bending 27 = .ok (.goto 4, 3) := by decide +kernel
theorem d_M_bending_30 : decode b_M_bending 30 = .ok (.iconst 0, 1) := by decide +kernel
theorem d_M_bending_31 : decode b_M_bending 31 = .ok (.invokevirtual 206, 3) := by decide +kernel
theorem d_M_bending_34 : decode b_M_bending 34 = .ok (.istore_n 3, 1) := by decide +kernel
theorem d_M_bending_35 : decode b_M_bending 35 = .ok (.iload_n 3, 1) := by decide +kernel
theorem d_M_bending_36 : decode b_M_bending 36 = .ok (.ifCond .ge 8, 3) := by decide +kernel
theorem d_M_bending_39 : decode b_M_bending 39 = .ok (.iload_n 3, 1) := by decide +kernel
theorem d_M_bending_40 : decode b_M_bending 40 = .ok (.i2l, 1) := by decide +kernel
theorem d_M_bending_41 : decode b_M_bending 41 = .ok (.goto 9, 3) := by decide +kernel
theorem d_M_bending_44 : decode b_M_bending 44 = .ok (.aload_n 0, 1) := by decide +kernel
theorem d_M_bending_45 : decode b_M_bending 45 = .ok (.iload_n 1, 1) := by decide +kernel
theorem d_M_bending_46 : decode b_M_bending 46 = .ok (.iload_n 2, 1) := by decide +kernel
theorem d_M_bending_47 : decode b_M_bending 47 = .ok (.invokevirtual 189, 3) := by decide +kernel
theorem d_M_bending_50 : decode b_M_bending 50 = .ok (.lreturn, 1) := by decide +kernel
abbrev b_M_greatest : ByteArray := prog_7_method_34_code
abbrev y_M_greatest : MethodName := ⟨"OldBeamsModel", "greatest", "(IZ)J"⟩
theorem d_M_greatest_0 : decode b_M_greatest 0 = .ok (.aload_n 0, 1) := by decide +kernel
theorem d_M_greatest_1 : decode b_M_greatest 1 = .ok (.iload_n 1, 1) := by decide +kernel
theorem d_M_greatest_2 : decode b_M_greatest 2 = .ok (.iconst 1, 1) := by decide +kernel
theorem d_M_greatest_3 : decode b_M_greatest 3 = .ok (.invokevirtual 206, 3) := by decide +kernel
theorem d_M_greatest_6 : decode b_M_greatest 6 = .ok (.istore_n 3, 1) := by decide +kernel
theorem d_M_greatest_7 : decode b_M_greatest 7 = .ok (.iload_n 3, 1) := by decide +kernel
theorem d_M_greatest_8 : decode b_M_greatest 8 = .ok (.ifCond .ge 8, 3) := by decide +kernel
theorem d_M_greatest_11 : decode b_M_greatest 11 = .ok (.iload_n 3, 1) := by decide +kernel
theorem d_M_greatest_12 : decode b_M_greatest 12 = .ok (.i2l, 1) := by decide +kernel
theorem d_M_greatest_13 : decode b_M_greatest 13 = .ok (.goto 23, 3) := by decide +kernel
theorem d_M_greatest_16 : decode b_M_greatest 16 = .ok (.iload_n 2, 1) := by decide +kernel
theorem d_M_greatest_17 : decode b_M_greatest 17 = .ok (.ifCond .eq 13, 3) := by decide +kernel
theorem d_M_greatest_20 : decode b_M_greatest 20 = .ok (.aload_n 0, 1) := by decide +kernel
theorem d_M_greatest_21 : decode b_M_greatest 21 = .ok (.getfield 87, 3) := by decide +kernel
theorem d_M_greatest_24 : decode b_M_greatest 24 = .ok (.iload_n 1, 1) := by decide +kernel
theorem d_M_greatest_25 : decode b_M_greatest 25 = .ok (.iaload, 1) := by decide +kernel
theorem d_M_greatest_26 : decode b_M_greatest 26 = .ok (.i2l, 1) := by decide +kernel
theorem d_M_greatest_27 : decode b_M_greatest 27 = .ok (.goto 9, 3) := by decide +kernel
theorem d_M_greatest_30 : decode b_M_greatest 30 = .ok (.aload_n 0, 1) := by decide +kernel
theorem d_M_greatest_31 : decode b_M_greatest 31 = .ok (.getfield 84, 3) := by decide +kernel
theorem d_M_greatest_34 : decode b_M_greatest 34 = .ok (.iload_n 1, 1) := by decide +kernel
theorem d_M_greatest_35 : decode b_M_greatest 35 = .ok (.laload, 1) := by decide +kernel
theorem d_M_greatest_36 : decode b_M_greatest 36 = .ok (.lreturn, 1) := by decide +kernel
abbrev b_M_lifts : ByteArray := prog_7_method_35_code
abbrev y_M_lifts : MethodName := ⟨"OldBeamsModel", "lifts", "(I)I"⟩
theorem d_M_lifts_0 : decode b_M_lifts 0 = .ok (.aload_n 0, 1) := by decide +kernel
theorem d_M_lifts_1 : decode b_M_lifts 1 = .ok (.iload_n 1, 1) := by decide +kernel
theorem d_M_lifts_2 : decode b_M_lifts 2 = .ok (.iconst 1, 1) := by decide +kernel
theorem d_M_lifts_3 : decode b_M_lifts 3 = .ok (.invokevirtual 206, 3) := by decide +kernel
theorem d_M_lifts_6 : decode b_M_lifts 6 = .ok (.istore_n 2, 1) := by decide +kernel
theorem d_M_lifts_7 : decode b_M_lifts 7 = .ok (.iload_n 2, 1) := by decide +kernel
theorem d_M_lifts_8 : decode b_M_lifts 8 = .ok (.ifCond .ge 7, 3) := by decide +kernel
theorem d_M_lifts_11 : decode b_M_lifts 11 = .ok (.iload_n 2, 1) := by decide +kernel
theorem d_M_lifts_12 : decode b_M_lifts 12 = .ok (.goto 16, 3) := by decide +kernel
theorem d_M_lifts_15 : decode b_M_lifts 15 = .ok (.aload_n 0, 1) := by decide +kernel
theorem d_M_lifts_16 : decode b_M_lifts 16 = .ok (.iload_n 1, 1) := by decide +kernel
theorem d_M_lifts_17 : decode b_M_lifts 17 = .ok (.invokevirtual 199, 3) := by decide +kernel
theorem d_M_lifts_20 : decode b_M_lifts 20 = .ok (.ifCond .eq 7, 3) := by decide +kernel
theorem d_M_lifts_23 : decode b_M_lifts 23 = .ok (.iconst 1, 1) := by decide +kernel
theorem d_M_lifts_24 : decode b_M_lifts 24 = .ok (.goto 4, 3) := by decide +kernel
theorem d_M_lifts_27 : decode b_M_lifts 27 = .ok (.iconst 0, 1) := by decide +kernel
theorem d_M_lifts_28 : decode b_M_lifts 28 = .ok (.ireturn, 1) := by decide +kernel
abbrev b_M_isLifting : ByteArray := prog_7_method_27_code
abbrev y_M_isLifting : MethodName := ⟨"OldBeamsModel", "isLifting", "(I)Z"⟩
theorem d_M_isLifting_0 : decode b_M_isLifting 0 = .ok (.aload_n 0, 1) := by decide +kernel
theorem d_M_isLifting_1 : decode b_M_isLifting 1 = .ok (.getfield 81, 3) := by decide +kernel
theorem d_M_isLifting_4 : decode b_M_isLifting 4 = .ok (.iconst 2, 1) := by decide +kernel
theorem d_M_isLifting_5 : decode b_M_isLifting 5 = .ok (.iload_n 1, 1) := by decide +kernel
theorem d_M_isLifting_6 : decode b_M_isLifting 6 = .ok (.imul, 1) := by decide +kernel
theorem d_M_isLifting_7 : decode b_M_isLifting 7 = .ok (.laload, 1) := by decide +kernel
theorem d_M_isLifting_8 : decode b_M_isLifting 8 = .ok (.lconst 0, 1) := by decide +kernel
theorem d_M_isLifting_9 : decode b_M_isLifting 9 = .ok (.lcmp, 1) := by decide +kernel
theorem d_M_isLifting_10 : decode b_M_isLifting 10 = .ok (.ifCond .lt 18, 3) := by decide +kernel
theorem d_M_isLifting_13 : decode b_M_isLifting 13 = .ok (.aload_n 0, 1) := by decide +kernel
theorem d_M_isLifting_14 : decode b_M_isLifting 14 = .ok (.getfield 81, 3) := by decide +kernel
theorem d_M_isLifting_17 : decode b_M_isLifting 17 = .ok (.iconst 2, 1) := by decide +kernel
theorem d_M_isLifting_18 : decode b_M_isLifting 18 = .ok (.iload_n 1, 1) := by decide +kernel
theorem d_M_isLifting_19 : decode b_M_isLifting 19 = .ok (.imul, 1) := by decide +kernel
theorem d_M_isLifting_20 : decode b_M_isLifting 20 = .ok (.iconst 1, 1) := by decide +kernel
theorem d_M_isLifting_21 : decode b_M_isLifting 21 = .ok (.iadd, 1) := by decide +kernel
theorem d_M_isLifting_22 : decode b_M_isLifting 22 = .ok (.laload, 1) := by decide +kernel
theorem d_M_isLifting_23 : decode b_M_isLifting 23 = .ok (.lconst 0, 1) := by decide +kernel
theorem d_M_isLifting_24 : decode b_M_isLifting 24 = .ok (.lcmp, 1) := by decide +kernel
theorem d_M_isLifting_25 : decode b_M_isLifting 25 = .ok (.ifCond .ge 7, 3) := by decide +kernel
theorem d_M_isLifting_28 : decode b_M_isLifting 28 = .ok (.iconst 1, 1) := by decide +kernel
theorem d_M_isLifting_29 : decode b_M_isLifting 29 = .ok (.goto 4, 3) := by decide +kernel
theorem d_M_isLifting_32 : decode b_M_isLifting 32 = .ok (.iconst 0, 1) := by decide +kernel
theorem d_M_isLifting_33 : decode b_M_isLifting 33 = .ok (.ireturn, 1) := by decide +kernel
abbrev b_M_holds : ByteArray := prog_7_method_36_code
abbrev y_M_holds : MethodName := ⟨"OldBeamsModel", "holds", "(II)I"⟩
theorem d_M_holds_0 : decode b_M_holds 0 = .ok (.aload_n 0, 1) := by decide +kernel
theorem d_M_holds_1 : decode b_M_holds 1 = .ok (.iload_n 1, 1) := by decide +kernel
theorem d_M_holds_2 : decode b_M_holds 2 = .ok (.iload_n 2, 1) := by decide +kernel
theorem d_M_holds_3 : decode b_M_holds 3 = .ok (.i2l, 1) := by decide +kernel
theorem d_M_holds_4 : decode b_M_holds 4 = .ok (.lconst 0, 1) := by decide +kernel
theorem d_M_holds_5 : decode b_M_holds 5 = .ok (.ldc2_w 141, 3) := by decide +kernel
theorem d_M_holds_8 : decode b_M_holds 8 = .ok (.invokestatic 126, 3) := by decide +kernel
theorem d_M_holds_11 : decode b_M_holds 11 = .ok (.invokevirtual 206, 3) := by decide +kernel
theorem d_M_holds_14 : decode b_M_holds 14 = .ok (.istore_n 3, 1) := by decide +kernel
theorem d_M_holds_15 : decode b_M_holds 15 = .ok (.iload_n 3, 1) := by decide +kernel
theorem d_M_holds_16 : decode b_M_holds 16 = .ok (.ifCond .ge 7, 3) := by decide +kernel
theorem d_M_holds_19 : decode b_M_holds 19 = .ok (.iload_n 3, 1) := by decide +kernel
theorem d_M_holds_20 : decode b_M_holds 20 = .ok (.goto 17, 3) := by decide +kernel
theorem d_M_holds_23 : decode b_M_holds 23 = .ok (.aload_n 0, 1) := by decide +kernel
theorem d_M_holds_24 : decode b_M_holds 24 = .ok (.iload_n 1, 1) := by decide +kernel
theorem d_M_holds_25 : decode b_M_holds 25 = .ok (.iload_n 2, 1) := by decide +kernel
theorem d_M_holds_26 : decode b_M_holds 26 = .ok (.invokevirtual 210, 3) := by decide +kernel
theorem d_M_holds_29 : decode b_M_holds 29 = .ok (.ifCond .eq 7, 3) := by decide +kernel
theorem d_M_holds_32 : decode b_M_holds 32 = .ok (.iconst 1, 1) := by decide +kernel
theorem d_M_holds_33 : decode b_M_holds 33 = .ok (.goto 4, 3) := by decide +kernel
theorem d_M_holds_36 : decode b_M_holds 36 = .ok (.iconst 0, 1) := by decide +kernel
theorem d_M_holds_37 : decode b_M_holds 37 = .ok (.ireturn, 1) := by decide +kernel
abbrev b_M_isHolding : ByteArray := prog_7_method_28_code
abbrev y_M_isHolding : MethodName := ⟨"OldBeamsModel", "isHolding", "(II)Z"⟩
theorem d_M_isHolding_0 : decode b_M_isHolding 0 = .ok (.aload_n 0, 1) := by decide +kernel
theorem d_M_isHolding_1 : decode b_M_isHolding 1 = .ok (.iload_n 1, 1) := by decide +kernel
theorem d_M_isHolding_2 : decode b_M_isHolding 2 = .ok (.invokevirtual 199, 3) := by decide +kernel
theorem d_M_isHolding_5 : decode b_M_isHolding 5 = .ok (.ifCond .ne 30, 3) := by decide +kernel
theorem d_M_isHolding_8 : decode b_M_isHolding 8 = .ok (.aload_n 0, 1) := by decide +kernel
theorem d_M_isHolding_9 : decode b_M_isHolding 9 = .ok (.getfield 84, 3) := by decide +kernel
theorem d_M_isHolding_12 : decode b_M_isHolding 12 = .ok (.iload_n 1, 1) := by decide +kernel
theorem d_M_isHolding_13 : decode b_M_isHolding 13 = .ok (.laload, 1) := by decide +kernel
theorem d_M_isHolding_14 : decode b_M_isHolding 14 = .ok (.aload_n 0, 1) := by decide +kernel
theorem d_M_isHolding_15 : decode b_M_isHolding 15 = .ok (.iload_n 1, 1) := by decide +kernel
theorem d_M_isHolding_16 : decode b_M_isHolding 16 = .ok (.invokevirtual 164, 3) := by decide +kernel
theorem d_M_isHolding_19 : decode b_M_isHolding 19 = .ok (.i2l, 1) := by decide +kernel
theorem d_M_isHolding_20 : decode b_M_isHolding 20 = .ok (.iload_n 2, 1) := by decide +kernel
theorem d_M_isHolding_21 : decode b_M_isHolding 21 = .ok (.i2l, 1) := by decide +kernel
theorem d_M_isHolding_22 : decode b_M_isHolding 22 = .ok (.lmul, 1) := by decide +kernel
theorem d_M_isHolding_23 : decode b_M_isHolding 23 = .ok (.ldc2_w 141, 3) := by decide +kernel
theorem d_M_isHolding_26 : decode b_M_isHolding 26 = .ok (.ldiv, 1) := by decide +kernel
theorem d_M_isHolding_27 : decode b_M_isHolding 27 = .ok (.lcmp, 1) := by decide +kernel
theorem d_M_isHolding_28 : decode b_M_isHolding 28 = .ok (.ifCond .gt 7, 3) := by decide +kernel
theorem d_M_isHolding_31 : decode b_M_isHolding 31 = .ok (.iconst 1, 1) := by decide +kernel
theorem d_M_isHolding_32 : decode b_M_isHolding 32 = .ok (.goto 4, 3) := by decide +kernel
theorem d_M_isHolding_35 : decode b_M_isHolding 35 = .ok (.iconst 0, 1) := by decide +kernel
theorem d_M_isHolding_36 : decode b_M_isHolding 36 = .ok (.ireturn, 1) := by decide +kernel
abbrev b_M_needs : ByteArray := prog_7_method_37_code
abbrev y_M_needs : MethodName := ⟨"OldBeamsModel", "needs", "(I)I"⟩
theorem d_M_needs_0 : decode b_M_needs 0 = .ok (.aload_n 0, 1) := by decide +kernel
theorem d_M_needs_1 : decode b_M_needs 1 = .ok (.iload_n 1, 1) := by decide +kernel
theorem d_M_needs_2 : decode b_M_needs 2 = .ok (.iconst 1, 1) := by decide +kernel
theorem d_M_needs_3 : decode b_M_needs 3 = .ok (.invokevirtual 206, 3) := by decide +kernel
theorem d_M_needs_6 : decode b_M_needs 6 = .ok (.istore_n 2, 1) := by decide +kernel
theorem d_M_needs_7 : decode b_M_needs 7 = .ok (.iload_n 2, 1) := by decide +kernel
theorem d_M_needs_8 : decode b_M_needs 8 = .ok (.ifCond .ge 5, 3) := by decide +kernel
theorem d_M_needs_11 : decode b_M_needs 11 = .ok (.iload_n 2, 1) := by decide +kernel
theorem d_M_needs_12 : decode b_M_needs 12 = .ok (.ireturn, 1) := by decide +kernel
theorem d_M_needs_13 : decode b_M_needs 13 = .ok (.iconst 0, 1) := by decide +kernel
theorem d_M_needs_14 : decode b_M_needs 14 = .ok (.istore_n 3, 1) := by decide +kernel
theorem d_M_needs_15 : decode b_M_needs 15 = .ok (.iload_n 3, 1) := by decide +kernel
theorem d_M_needs_16 : decode b_M_needs 16 = .ok (.bipush 11, 2) := by decide +kernel
theorem d_M_needs_18 : decode b_M_needs 18 = .ok (.if_icmp .ge 20, 3) := by decide +kernel
theorem d_M_needs_21 : decode b_M_needs 21 = .ok (.aload_n 0, 1) := by decide +kernel
theorem d_M_needs_22 : decode b_M_needs 22 = .ok (.iload_n 1, 1) := by decide +kernel
theorem d_M_needs_23 : decode b_M_needs 23 = .ok (.iload_n 3, 1) := by decide +kernel
theorem d_M_needs_24 : decode b_M_needs 24 = .ok (.invokevirtual 210, 3) := by decide +kernel
theorem d_M_needs_27 : decode b_M_needs 27 = .ok (.ifCond .eq 5, 3) := by decide +kernel
theorem d_M_needs_30 : decode b_M_needs 30 = .ok (.iload_n 3, 1) := by decide +kernel
theorem d_M_needs_31 : decode b_M_needs 31 = .ok (.ireturn, 1) := by decide +kernel
theorem d_M_needs_32 : decode b_M_needs 32 = .ok (.iinc 3 1, 3) := by decide +kernel
theorem d_M_needs_35 : decode b_M_needs 35 = .ok (.goto (-20), 3) := by decide +kernel
theorem d_M_needs_38 : decode b_M_needs 38 = .ok (.ldc 156, 2) := by decide +kernel
theorem d_M_needs_40 : decode b_M_needs 40 = .ok (.ireturn, 1) := by decide +kernel
abbrev b_M_weight : ByteArray := prog_7_method_39_code
abbrev y_M_weight : MethodName := ⟨"OldBeamsModel", "weight", "(III)I"⟩
theorem d_M_weight_0 : decode b_M_weight 0 = .ok (.aload_n 0, 1) := by decide +kernel
theorem d_M_weight_1 : decode b_M_weight 1 = .ok (.iload_n 1, 1) := by decide +kernel
theorem d_M_weight_2 : decode b_M_weight 2 = .ok (.invokevirtual 157, 3) := by decide +kernel
theorem d_M_weight_5 : decode b_M_weight 5 = .ok (.ifCond .ne 6, 3) := by decide +kernel
theorem d_M_weight_8 : decode b_M_weight 8 = .ok (.ldc 136, 2) := by decide +kernel
theorem d_M_weight_10 : decode b_M_weight 10 = .ok (.ireturn, 1) := by decide +kernel
theorem d_M_weight_11 : decode b_M_weight 11 = .ok (.iload_n 2, 1) := by decide +kernel
theorem d_M_weight_12 : decode b_M_weight 12 = .ok (.i2l, 1) := by decide +kernel
theorem d_M_weight_13 : decode b_M_weight 13 = .ok (.lconst 0, 1) := by decide +kernel
theorem d_M_weight_14 : decode b_M_weight 14 = .ok (.ldc2_w 141, 3) := by decide +kernel
theorem d_M_weight_17 : decode b_M_weight 17 = .ok (.invokestatic 126, 3) := by decide +kernel
theorem d_M_weight_20 : decode b_M_weight 20 = .ok (.ifCond .eq 15, 3) := by decide +kernel
theorem d_M_weight_23 : decode b_M_weight 23 = .ok (.iload_n 3, 1) := by decide +kernel
theorem d_M_weight_24 : decode b_M_weight 24 = .ok (.i2l, 1) := by decide +kernel
theorem d_M_weight_25 : decode b_M_weight 25 = .ok (.lconst 0, 1) := by decide +kernel
theorem d_M_weight_26 : decode b_M_weight 26 = .ok (.ldc2_w 217, 3) := by decide +kernel
theorem d_M_weight_29 : decode b_M_weight 29 = .ok (.invokestatic 126, 3) := by decide +kernel
theorem d_M_weight_32 : decode b_M_weight 32 = .ok (.ifCond .ne 6, 3) := by decide +kernel
theorem d_M_weight_35 : decode b_M_weight 35 = .ok (.ldc 143, 2) := by decide +kernel
theorem d_M_weight_37 : decode b_M_weight 37 = .ok (.ireturn, 1) := by decide +kernel
theorem d_M_weight_38 : decode b_M_weight 38 = .ok (.iconst 0, 1) := by decide +kernel
theorem d_M_weight_39 : decode b_M_weight 39 = .ok (.istore 4, 2) := by decide +kernel
theorem d_M_weight_41 : decode b_M_weight 41 = .ok (.iconst 0, 1) := by decide +kernel
theorem d_M_weight_42 : decode b_M_weight 42 = .ok (.istore 5, 2) := by decide +kernel
theorem d_M_weight_44 : decode b_M_weight 44 = .ok (.iload 5, 2) := by decide +kernel
theorem d_M_weight_46 : decode b_M_weight 46 = .ok (.bipush 11, 2) := by decide +kernel
theorem d_M_weight_48 : decode b_M_weight 48 = .ok (.if_icmp .ge 36, 3) := by decide +kernel
theorem d_M_weight_51 : decode b_M_weight 51 = .ok (.iload 4, 2) := by decide +kernel
theorem d_M_weight_53 : decode b_M_weight 53 = .ok (.iload 5, 2) := by decide +kernel
theorem d_M_weight_55 : decode b_M_weight 55 = .ok (.iload_n 2, 1) := by decide +kernel
theorem d_M_weight_56 : decode b_M_weight 56 = .ok (.if_icmp .ne 7, 3) := by decide +kernel
theorem d_M_weight_59 : decode b_M_weight 59 = .ok (.iconst 0, 1) := by decide +kernel
theorem d_M_weight_60 : decode b_M_weight 60 = .ok (.goto 15, 3) := by decide +kernel
theorem d_M_weight_63 : decode b_M_weight 63 = .ok (.aload_n 0, 1) := by decide +kernel
theorem d_M_weight_64 : decode b_M_weight 64 = .ok (.getfield 90, 3) := by decide +kernel
theorem d_M_weight_67 : decode b_M_weight 67 = .ok (.bipush 11, 2) := by decide +kernel
theorem d_M_weight_69 : decode b_M_weight 69 = .ok (.iload_n 1, 1) := by decide +kernel
theorem d_M_weight_70 : decode b_M_weight 70 = .ok (.imul, 1) := by decide +kernel
theorem d_M_weight_71 : decode b_M_weight 71 = .ok (.iload 5, 2) := by decide +kernel
theorem d_M_weight_73 : decode b_M_weight 73 = .ok (.iadd, 1) := by decide +kernel
theorem d_M_weight_74 : decode b_M_weight 74 = .ok (.iaload, 1) := by decide +kernel
theorem d_M_weight_75 : decode b_M_weight 75 = .ok (.iadd, 1) := by decide +kernel
theorem d_M_weight_76 : decode b_M_weight 76 = .ok (.istore 4, 2) := by decide +kernel
theorem d_M_weight_78 : decode b_M_weight 78 = .ok (.iinc 5 1, 3) := by decide +kernel
theorem d_M_weight_81 : decode b_M_weight 81 = .ok (.goto (-37), 3) := by decide +kernel
theorem d_M_weight_84 : decode b_M_weight 84 = .ok (.aload_n 0, 1) := by decide +kernel
theorem d_M_weight_85 : decode b_M_weight 85 = .ok (.iload_n 1, 1) := by decide +kernel
theorem d_M_weight_86 : decode b_M_weight 86 = .ok (.invokevirtual 219, 3) := by decide +kernel
theorem d_M_weight_89 : decode b_M_weight 89 = .ok (.ifCond .gt 10, 3) := by decide +kernel
theorem d_M_weight_92 : decode b_M_weight 92 = .ok (.iload 4, 2) := by decide +kernel
theorem d_M_weight_94 : decode b_M_weight 94 = .ok (.iload_n 3, 1) := by decide +kernel
theorem d_M_weight_95 : decode b_M_weight 95 = .ok (.iadd, 1) := by decide +kernel
theorem d_M_weight_96 : decode b_M_weight 96 = .ok (.ifCond .ne 6, 3) := by decide +kernel
theorem d_M_weight_99 : decode b_M_weight 99 = .ok (.ldc 160, 2) := by decide +kernel
theorem d_M_weight_101 : decode b_M_weight 101 = .ok (.ireturn, 1) := by decide +kernel
theorem d_M_weight_102 : decode b_M_weight 102 = .ok (.aload_n 0, 1) := by decide +kernel
theorem d_M_weight_103 : decode b_M_weight 103 = .ok (.getfield 90, 3) := by decide +kernel
theorem d_M_weight_106 : decode b_M_weight 106 = .ok (.bipush 11, 2) := by decide +kernel
theorem d_M_weight_108 : decode b_M_weight 108 = .ok (.iload_n 1, 1) := by decide +kernel
theorem d_M_weight_109 : decode b_M_weight 109 = .ok (.imul, 1) := by decide +kernel
theorem d_M_weight_110 : decode b_M_weight 110 = .ok (.iload_n 2, 1) := by decide +kernel
theorem d_M_weight_111 : decode b_M_weight 111 = .ok (.iadd, 1) := by decide +kernel
theorem d_M_weight_112 : decode b_M_weight 112 = .ok (.iaload, 1) := by decide +kernel
theorem d_M_weight_113 : decode b_M_weight 113 = .ok (.istore 5, 2) := by decide +kernel
theorem d_M_weight_115 : decode b_M_weight 115 = .ok (.aload_n 0, 1) := by decide +kernel
theorem d_M_weight_116 : decode b_M_weight 116 = .ok (.getfield 90, 3) := by decide +kernel
theorem d_M_weight_119 : decode b_M_weight 119 = .ok (.bipush 11, 2) := by decide +kernel
theorem d_M_weight_121 : decode b_M_weight 121 = .ok (.iload_n 1, 1) := by decide +kernel
theorem d_M_weight_122 : decode b_M_weight 122 = .ok (.imul, 1) := by decide +kernel
theorem d_M_weight_123 : decode b_M_weight 123 = .ok (.iload_n 2, 1) := by decide +kernel
theorem d_M_weight_124 : decode b_M_weight 124 = .ok (.iadd, 1) := by decide +kernel
theorem d_M_weight_125 : decode b_M_weight 125 = .ok (.iload_n 3, 1) := by decide +kernel
theorem d_M_weight_126 : decode b_M_weight 126 = .ok (.iastore, 1) := by decide +kernel
theorem d_M_weight_127 : decode b_M_weight 127 = .ok (.iload 5, 2) := by decide +kernel
theorem d_M_weight_129 : decode b_M_weight 129 = .ok (.ireturn, 1) := by decide +kernel
abbrev b_M_looksAt : ByteArray := prog_7_method_38_code
abbrev y_M_looksAt : MethodName := ⟨"OldBeamsModel", "looksAt", "(I)I"⟩
theorem d_M_looksAt_0 : decode b_M_looksAt 0 = .ok (.iconst 0, 1) := by decide +kernel
theorem d_M_looksAt_1 : decode b_M_looksAt 1 = .ok (.istore_n 2, 1) := by decide +kernel
theorem d_M_looksAt_2 : decode b_M_looksAt 2 = .ok (.iconst 0, 1) := by decide +kernel
theorem d_M_looksAt_3 : decode b_M_looksAt 3 = .ok (.istore_n 3, 1) := by decide +kernel
theorem d_M_looksAt_4 : decode b_M_looksAt 4 = .ok (.iload_n 3, 1) := by decide +kernel
theorem d_M_looksAt_5 : decode b_M_looksAt 5 = .ok (.aload_n 0, 1) := by decide +kernel
theorem d_M_looksAt_6 : decode b_M_looksAt 6 = .ok (.getfield 214, 3) := by decide +kernel
theorem d_M_looksAt_9 : decode b_M_looksAt 9 = .ok (.if_icmp .ge 27, 3) := by decide +kernel
theorem d_M_looksAt_12 : decode b_M_looksAt 12 = .ok (.iload_n 2, 1) := by decide +kernel
theorem d_M_looksAt_13 : decode b_M_looksAt 13 = .ok (.aload_n 0, 1) := by decide +kernel
theorem d_M_looksAt_14 : decode b_M_looksAt 14 = .ok (.getfield 96, 3) := by decide +kernel
theorem d_M_looksAt_17 : decode b_M_looksAt 17 = .ok (.iload_n 3, 1) := by decide +kernel
theorem d_M_looksAt_18 : decode b_M_looksAt 18 = .ok (.iaload, 1) := by decide +kernel
theorem d_M_looksAt_19 : decode b_M_looksAt 19 = .ok (.iload_n 1, 1) := by decide +kernel
theorem d_M_looksAt_20 : decode b_M_looksAt 20 = .ok (.if_icmp .ne 7, 3) := by decide +kernel
theorem d_M_looksAt_23 : decode b_M_looksAt 23 = .ok (.iconst 1, 1) := by decide +kernel
theorem d_M_looksAt_24 : decode b_M_looksAt 24 = .ok (.goto 4, 3) := by decide +kernel
theorem d_M_looksAt_27 : decode b_M_looksAt 27 = .ok (.iconst 0, 1) := by decide +kernel
theorem d_M_looksAt_28 : decode b_M_looksAt 28 = .ok (.iadd, 1) := by decide +kernel
theorem d_M_looksAt_29 : decode b_M_looksAt 29 = .ok (.istore_n 2, 1) := by decide +kernel
theorem d_M_looksAt_30 : decode b_M_looksAt 30 = .ok (.iinc 3 1, 3) := by decide +kernel
theorem d_M_looksAt_33 : decode b_M_looksAt 33 = .ok (.goto (-29), 3) := by decide +kernel
theorem d_M_looksAt_36 : decode b_M_looksAt 36 = .ok (.iload_n 2, 1) := by decide +kernel
theorem d_M_looksAt_37 : decode b_M_looksAt 37 = .ok (.ireturn, 1) := by decide +kernel
abbrev b_M_tool : ByteArray := prog_7_method_40_code
abbrev y_M_tool : MethodName := ⟨"OldBeamsModel", "tool", "(III)I"⟩
theorem d_M_tool_0 : decode b_M_tool 0 = .ok (.iload_n 1, 1) := by decide +kernel
theorem d_M_tool_1 : decode b_M_tool 1 = .ok (.i2l, 1) := by decide +kernel
theorem d_M_tool_2 : decode b_M_tool 2 = .ok (.lconst 0, 1) := by decide +kernel
theorem d_M_tool_3 : decode b_M_tool 3 = .ok (.ldc2_w 134, 3) := by decide +kernel
theorem d_M_tool_6 : decode b_M_tool 6 = .ok (.invokestatic 126, 3) := by decide +kernel
theorem d_M_tool_9 : decode b_M_tool 9 = .ok (.ifCond .ne 6, 3) := by decide +kernel
theorem d_M_tool_12 : decode b_M_tool 12 = .ok (.ldc 136, 2) := by decide +kernel
theorem d_M_tool_14 : decode b_M_tool 14 = .ok (.ireturn, 1) := by decide +kernel
theorem d_M_tool_15 : decode b_M_tool 15 = .ok (.iload_n 2, 1) := by decide +kernel
theorem d_M_tool_16 : decode b_M_tool 16 = .ok (.i2l, 1) := by decide +kernel
theorem d_M_tool_17 : decode b_M_tool 17 = .ok (.lconst 0, 1) := by decide +kernel
theorem d_M_tool_18 : decode b_M_tool 18 = .ok (.ldc2_w 141, 3) := by decide +kernel
theorem d_M_tool_21 : decode b_M_tool 21 = .ok (.invokestatic 126, 3) := by decide +kernel
theorem d_M_tool_24 : decode b_M_tool 24 = .ok (.ifCond .eq 15, 3) := by decide +kernel
theorem d_M_tool_27 : decode b_M_tool 27 = .ok (.iload_n 3, 1) := by decide +kernel
theorem d_M_tool_28 : decode b_M_tool 28 = .ok (.i2l, 1) := by decide +kernel
theorem d_M_tool_29 : decode b_M_tool 29 = .ok (.lconst 0, 1) := by decide +kernel
theorem d_M_tool_30 : decode b_M_tool 30 = .ok (.ldc2_w 222, 3) := by decide +kernel
theorem d_M_tool_33 : decode b_M_tool 33 = .ok (.invokestatic 126, 3) := by decide +kernel
theorem d_M_tool_36 : decode b_M_tool 36 = .ok (.ifCond .ne 6, 3) := by decide +kernel
theorem d_M_tool_39 : decode b_M_tool 39 = .ok (.ldc 143, 2) := by decide +kernel
theorem d_M_tool_41 : decode b_M_tool 41 = .ok (.ireturn, 1) := by decide +kernel
theorem d_M_tool_42 : decode b_M_tool 42 = .ok (.iconst 0, 1) := by decide +kernel
theorem d_M_tool_43 : decode b_M_tool 43 = .ok (.istore 4, 2) := by decide +kernel
theorem d_M_tool_45 : decode b_M_tool 45 = .ok (.iload 4, 2) := by decide +kernel
theorem d_M_tool_47 : decode b_M_tool 47 = .ok (.aload_n 0, 1) := by decide +kernel
theorem d_M_tool_48 : decode b_M_tool 48 = .ok (.getfield 214, 3) := by decide +kernel
theorem d_M_tool_51 : decode b_M_tool 51 = .ok (.if_icmp .ge 23, 3) := by decide +kernel
theorem d_M_tool_54 : decode b_M_tool 54 = .ok (.aload_n 0, 1) := by decide +kernel
theorem d_M_tool_55 : decode b_M_tool 55 = .ok (.getfield 99, 3) := by decide +kernel
theorem d_M_tool_58 : decode b_M_tool 58 = .ok (.iload 4, 2) := by decide +kernel
theorem d_M_tool_60 : decode b_M_tool 60 = .ok (.iaload, 1) := by decide +kernel
theorem d_M_tool_61 : decode b_M_tool 61 = .ok (.iload_n 1, 1) := by decide +kernel
theorem d_M_tool_62 : decode b_M_tool 62 = .ok (.if_icmp .ne 6, 3) := by decide +kernel
theorem d_M_tool_65 : decode b_M_tool 65 = .ok (.ldc 160, 2) := by decide +kernel
theorem d_M_tool_67 : decode b_M_tool 67 = .ok (.ireturn, 1) := by decide +kernel
theorem d_M_tool_68 : decode b_M_tool 68 = .ok (.iinc 4 1, 3) := by decide +kernel
theorem d_M_tool_71 : decode b_M_tool 71 = .ok (.goto (-26), 3) := by decide +kernel
theorem d_M_tool_74 : decode b_M_tool 74 = .ok (.aload_n 0, 1) := by decide +kernel
theorem d_M_tool_75 : decode b_M_tool 75 = .ok (.getfield 93, 3) := by decide +kernel
theorem d_M_tool_78 : decode b_M_tool 78 = .ok (.bipush 11, 2) := by decide +kernel
theorem d_M_tool_80 : decode b_M_tool 80 = .ok (.iload_n 1, 1) := by decide +kernel
theorem d_M_tool_81 : decode b_M_tool 81 = .ok (.imul, 1) := by decide +kernel
theorem d_M_tool_82 : decode b_M_tool 82 = .ok (.iload_n 2, 1) := by decide +kernel
theorem d_M_tool_83 : decode b_M_tool 83 = .ok (.iadd, 1) := by decide +kernel
theorem d_M_tool_84 : decode b_M_tool 84 = .ok (.iaload, 1) := by decide +kernel
theorem d_M_tool_85 : decode b_M_tool 85 = .ok (.istore 4, 2) := by decide +kernel
theorem d_M_tool_87 : decode b_M_tool 87 = .ok (.aload_n 0, 1) := by decide +kernel
theorem d_M_tool_88 : decode b_M_tool 88 = .ok (.getfield 93, 3) := by decide +kernel
theorem d_M_tool_91 : decode b_M_tool 91 = .ok (.bipush 11, 2) := by decide +kernel
theorem d_M_tool_93 : decode b_M_tool 93 = .ok (.iload_n 1, 1) := by decide +kernel
theorem d_M_tool_94 : decode b_M_tool 94 = .ok (.imul, 1) := by decide +kernel
theorem d_M_tool_95 : decode b_M_tool 95 = .ok (.iload_n 2, 1) := by decide +kernel
theorem d_M_tool_96 : decode b_M_tool 96 = .ok (.iadd, 1) := by decide +kernel
theorem d_M_tool_97 : decode b_M_tool 97 = .ok (.iload_n 3, 1) := by decide +kernel
theorem d_M_tool_98 : decode b_M_tool 98 = .ok (.iastore, 1) := by decide +kernel
theorem d_M_tool_99 : decode b_M_tool 99 = .ok (.iload 4, 2) := by decide +kernel
theorem d_M_tool_101 : decode b_M_tool 101 = .ok (.ireturn, 1) := by decide +kernel
abbrev b_M_look : ByteArray := prog_7_method_41_code
abbrev y_M_look : MethodName := ⟨"OldBeamsModel", "look", "(IIII)I"⟩
theorem d_M_look_0 : decode b_M_look 0 = .ok (.aload_n 0, 1) := by decide +kernel
theorem d_M_look_1 : decode b_M_look 1 = .ok (.iload_n 1, 1) := by decide +kernel
theorem d_M_look_2 : decode b_M_look 2 = .ok (.invokevirtual 157, 3) := by decide +kernel
theorem d_M_look_5 : decode b_M_look 5 = .ok (.ifCond .eq 15, 3) := by decide +kernel
theorem d_M_look_8 : decode b_M_look 8 = .ok (.iload_n 2, 1) := by decide +kernel
theorem d_M_look_9 : decode b_M_look 9 = .ok (.i2l, 1) := by decide +kernel
theorem d_M_look_10 : decode b_M_look 10 = .ok (.lconst 0, 1) := by decide +kernel
theorem d_M_look_11 : decode b_M_look 11 = .ok (.ldc2_w 134, 3) := by decide +kernel
theorem d_M_look_14 : decode b_M_look 14 = .ok (.invokestatic 126, 3) := by decide +kernel
theorem d_M_look_17 : decode b_M_look 17 = .ok (.ifCond .ne 6, 3) := by decide +kernel
theorem d_M_look_20 : decode b_M_look 20 = .ok (.ldc 136, 2) := by decide +kernel
theorem d_M_look_22 : decode b_M_look 22 = .ok (.ireturn, 1) := by decide +kernel
theorem d_M_look_23 : decode b_M_look 23 = .ok (.iload_n 3, 1) := by decide +kernel
theorem d_M_look_24 : decode b_M_look 24 = .ok (.i2l, 1) := by decide +kernel
theorem d_M_look_25 : decode b_M_look 25 = .ok (.lconst 0, 1) := by decide +kernel
theorem d_M_look_26 : decode b_M_look 26 = .ok (.lconst 1, 1) := by decide +kernel
theorem d_M_look_27 : decode b_M_look 27 = .ok (.invokestatic 126, 3) := by decide +kernel
theorem d_M_look_30 : decode b_M_look 30 = .ok (.ifCond .eq 11, 3) := by decide +kernel
theorem d_M_look_33 : decode b_M_look 33 = .ok (.iload 4, 2) := by decide +kernel
theorem d_M_look_35 : decode b_M_look 35 = .ok (.invokestatic 151, 3) := by decide +kernel
theorem d_M_look_38 : decode b_M_look 38 = .ok (.ifCond .ne 6, 3) := by decide +kernel
theorem d_M_look_41 : decode b_M_look 41 = .ok (.ldc 143, 2) := by decide +kernel
theorem d_M_look_43 : decode b_M_look 43 = .ok (.ireturn, 1) := by decide +kernel
theorem d_M_look_44 : decode b_M_look 44 = .ok (.aload_n 0, 1) := by decide +kernel
theorem d_M_look_45 : decode b_M_look 45 = .ok (.getfield 214, 3) := by decide +kernel
theorem d_M_look_48 : decode b_M_look 48 = .ok (.ifCond .le 22, 3) := by decide +kernel
theorem d_M_look_51 : decode b_M_look 51 = .ok (.iload 4, 2) := by decide +kernel
theorem d_M_look_53 : decode b_M_look 53 = .ok (.aload_n 0, 1) := by decide +kernel
theorem d_M_look_54 : decode b_M_look 54 = .ok (.getfield 105, 3) := by decide +kernel
theorem d_M_look_57 : decode b_M_look 57 = .ok (.aload_n 0, 1) := by decide +kernel
theorem d_M_look_58 : decode b_M_look 58 = .ok (.getfield 214, 3) := by decide +kernel
theorem d_M_look_61 : decode b_M_look 61 = .ok (.iconst 1, 1) := by decide +kernel
theorem d_M_look_62 : decode b_M_look 62 = .ok (.isub, 1) := by decide +kernel
theorem d_M_look_63 : decode b_M_look 63 = .ok (.iaload, 1) := by decide +kernel
theorem d_M_look_64 : decode b_M_look 64 = .ok (.if_icmp .ge 6, 3) := by decide +kernel
theorem d_M_look_67 : decode b_M_look 67 = .ok (.ldc 160, 2) := by decide +kernel
theorem d_M_look_69 : decode b_M_look 69 = .ok (.ireturn, 1) := by decide +kernel
theorem d_M_look_70 : decode b_M_look 70 = .ok (.aload_n 0, 1) := by decide +kernel
theorem d_M_look_71 : decode b_M_look 71 = .ok (.getfield 214, 3) := by decide +kernel
theorem d_M_look_74 : decode b_M_look 74 = .ok (.bipush 60, 2) := by decide +kernel
theorem d_M_look_76 : decode b_M_look 76 = .ok (.if_icmp .eq 13, 3) := by decide +kernel
theorem d_M_look_79 : decode b_M_look 79 = .ok (.aload_n 0, 1) := by decide +kernel
theorem d_M_look_80 : decode b_M_look 80 = .ok (.iload_n 1, 1) := by decide +kernel
theorem d_M_look_81 : decode b_M_look 81 = .ok (.invokevirtual 219, 3) := by decide +kernel
theorem d_M_look_84 : decode b_M_look 84 = .ok (.bipush 8, 2) := by decide +kernel
theorem d_M_look_86 : decode b_M_look 86 = .ok (.if_icmp .ne 6, 3) := by decide +kernel
theorem d_M_look_89 : decode b_M_look 89 = .ok (.ldc 155, 2) := by decide +kernel
theorem d_M_look_91 : decode b_M_look 91 = .ok (.ireturn, 1) := by decide +kernel
theorem d_M_look_92 : decode b_M_look 92 = .ok (.aload_n 0, 1) := by decide +kernel
theorem d_M_look_93 : decode b_M_look 93 = .ok (.getfield 96, 3) := by decide +kernel
theorem d_M_look_96 : decode b_M_look 96 = .ok (.aload_n 0, 1) := by decide +kernel
theorem d_M_look_97 : decode b_M_look 97 = .ok (.getfield 214, 3) := by decide +kernel
theorem d_M_look_100 : decode b_M_look 100 = .ok (.iload_n 1, 1) := by decide +kernel
theorem d_M_look_101 : decode b_M_look 101 = .ok (.iastore, 1) := by decide +kernel
theorem d_M_look_102 : decode b_M_look 102 = .ok (.aload_n 0, 1) := by decide +kernel
theorem d_M_look_103 : decode b_M_look 103 = .ok (.getfield 99, 3) := by decide +kernel
theorem d_M_look_106 : decode b_M_look 106 = .ok (.aload_n 0, 1) := by decide +kernel
theorem d_M_look_107 : decode b_M_look 107 = .ok (.getfield 214, 3) := by decide +kernel
theorem d_M_look_110 : decode b_M_look 110 = .ok (.iload_n 2, 1) := by decide +kernel
theorem d_M_look_111 : decode b_M_look 111 = .ok (.iastore, 1) := by decide +kernel
theorem d_M_look_112 : decode b_M_look 112 = .ok (.aload_n 0, 1) := by decide +kernel
theorem d_M_look_113 : decode b_M_look 113 = .ok (.getfield 102, 3) := by decide +kernel
theorem d_M_look_116 : decode b_M_look 116 = .ok (.aload_n 0, 1) := by decide +kernel
theorem d_M_look_117 : decode b_M_look 117 = .ok (.getfield 214, 3) := by decide +kernel
theorem d_M_look_120 : decode b_M_look 120 = .ok (.iload_n 3, 1) := by decide +kernel
theorem d_M_look_121 : decode b_M_look 121 = .ok (.iastore, 1) := by decide +kernel
theorem d_M_look_122 : decode b_M_look 122 = .ok (.aload_n 0, 1) := by decide +kernel
theorem d_M_look_123 : decode b_M_look 123 = .ok (.getfield 105, 3) := by decide +kernel
theorem d_M_look_126 : decode b_M_look 126 = .ok (.aload_n 0, 1) := by decide +kernel
theorem d_M_look_127 : decode b_M_look 127 = .ok (.getfield 214, 3) := by decide +kernel
theorem d_M_look_130 : decode b_M_look 130 = .ok (.iload 4, 2) := by decide +kernel
theorem d_M_look_132 : decode b_M_look 132 = .ok (.iastore, 1) := by decide +kernel
theorem d_M_look_133 : decode b_M_look 133 = .ok (.aload_n 0, 1) := by decide +kernel
theorem d_M_look_134 : decode b_M_look 134 = .ok (.dup, 1) := by decide +kernel
theorem d_M_look_135 : decode b_M_look 135 = .ok (.getfield 214, 3) := by decide +kernel
theorem d_M_look_138 : decode b_M_look 138 = .ok (.iconst 1, 1) := by decide +kernel
theorem d_M_look_139 : decode b_M_look 139 = .ok (.iadd, 1) := by decide +kernel
theorem d_M_look_140 : decode b_M_look 140 = .ok (.putfield 214, 3) := by decide +kernel
theorem d_M_look_143 : decode b_M_look 143 = .ok (.aload_n 0, 1) := by decide +kernel
theorem d_M_look_144 : decode b_M_look 144 = .ok (.getfield 214, 3) := by decide +kernel
theorem d_M_look_147 : decode b_M_look 147 = .ok (.iconst 1, 1) := by decide +kernel
theorem d_M_look_148 : decode b_M_look 148 = .ok (.isub, 1) := by decide +kernel
theorem d_M_look_149 : decode b_M_look 149 = .ok (.ireturn, 1) := by decide +kernel
abbrev b_M_odds : ByteArray := prog_7_method_45_code
abbrev y_M_odds : MethodName := ⟨"OldBeamsModel", "odds", "(III)J"⟩
theorem d_M_odds_0 : decode b_M_odds 0 = .ok (.aload_n 0, 1) := by decide +kernel
theorem d_M_odds_1 : decode b_M_odds 1 = .ok (.iload_n 1, 1) := by decide +kernel
theorem d_M_odds_2 : decode b_M_odds 2 = .ok (.invokevirtual 157, 3) := by decide +kernel
theorem d_M_odds_5 : decode b_M_odds 5 = .ok (.ifCond .ne 7, 3) := by decide +kernel
theorem d_M_odds_8 : decode b_M_odds 8 = .ok (.ldc2_w 234, 3) := by decide +kernel
theorem d_M_odds_11 : decode b_M_odds 11 = .ok (.lreturn, 1) := by decide +kernel
theorem d_M_odds_12 : decode b_M_odds 12 = .ok (.iload_n 2, 1) := by decide +kernel
theorem d_M_odds_13 : decode b_M_odds 13 = .ok (.i2l, 1) := by decide +kernel
theorem d_M_odds_14 : decode b_M_odds 14 = .ok (.lconst 0, 1) := by decide +kernel
theorem d_M_odds_15 : decode b_M_odds 15 = .ok (.ldc2_w 141, 3) := by decide +kernel
theorem d_M_odds_18 : decode b_M_odds 18 = .ok (.invokestatic 126, 3) := by decide +kernel
theorem d_M_odds_21 : decode b_M_odds 21 = .ok (.ifCond .eq 10, 3) := by decide +kernel
theorem d_M_odds_24 : decode b_M_odds 24 = .ok (.iload_n 3, 1) := by decide +kernel
theorem d_M_odds_25 : decode b_M_odds 25 = .ok (.invokestatic 151, 3) := by decide +kernel
theorem d_M_odds_28 : decode b_M_odds 28 = .ok (.ifCond .ne 7, 3) := by decide +kernel
theorem d_M_odds_31 : decode b_M_odds 31 = .ok (.ldc2_w 236, 3) := by decide +kernel
theorem d_M_odds_34 : decode b_M_odds 34 = .ok (.lreturn, 1) := by decide +kernel
theorem d_M_odds_35 : decode b_M_odds 35 = .ok (.aload_n 0, 1) := by decide +kernel
theorem d_M_odds_36 : decode b_M_odds 36 = .ok (.iload_n 1, 1) := by decide +kernel
theorem d_M_odds_37 : decode b_M_odds 37 = .ok (.iload_n 3, 1) := by decide +kernel
theorem d_M_odds_38 : decode b_M_odds 38 = .ok (.invokevirtual 238, 3) := by decide +kernel
theorem d_M_odds_41 : decode b_M_odds 41 = .ok (.aload_n 0, 1) := by decide +kernel
theorem d_M_odds_42 : decode b_M_odds 42 = .ok (.getfield 108, 3) := by decide +kernel
theorem d_M_odds_45 : decode b_M_odds 45 = .ok (.iload_n 2, 1) := by decide +kernel
theorem d_M_odds_46 : decode b_M_odds 46 = .ok (.laload, 1) := by decide +kernel
theorem d_M_odds_47 : decode b_M_odds 47 = .ok (.lreturn, 1) := by decide +kernel
abbrev b_M_layOdds : ByteArray := prog_7_method_43_code
abbrev y_M_layOdds : MethodName := ⟨"OldBeamsModel", "layOdds", "(II)V"⟩
theorem d_M_layOdds_0 : decode b_M_layOdds 0 = .ok (.aload_n 0, 1) := by decide +kernel
theorem d_M_layOdds_1 : decode b_M_layOdds 1 = .ok (.ldc 156, 2) := by decide +kernel
theorem d_M_layOdds_3 : decode b_M_layOdds 3 = .ok (.putfield 224, 3) := by decide +kernel
theorem d_M_layOdds_6 : decode b_M_layOdds 6 = .ok (.iconst 0, 1) := by decide +kernel
theorem d_M_layOdds_7 : decode b_M_layOdds 7 = .ok (.istore_n 3, 1) := by decide +kernel
theorem d_M_layOdds_8 : decode b_M_layOdds 8 = .ok (.iload_n 3, 1) := by decide +kernel
theorem d_M_layOdds_9 : decode b_M_layOdds 9 = .ok (.bipush 11, 2) := by decide +kernel
theorem d_M_layOdds_11 : decode b_M_layOdds 11 = .ok (.if_icmp .ge 27, 3) := by decide +kernel
theorem d_M_layOdds_14 : decode b_M_layOdds 14 = .ok (.aload_n 0, 1) := by decide +kernel
theorem d_M_layOdds_15 : decode b_M_layOdds 15 = .ok (.getfield 108, 3) := by decide +kernel
theorem d_M_layOdds_18 : decode b_M_layOdds 18 = .ok (.iload_n 3, 1) := by decide +kernel
theorem d_M_layOdds_19 : decode b_M_layOdds 19 = .ok (.aload_n 0, 1) := by decide +kernel
theorem d_M_layOdds_20 : decode b_M_layOdds 20 = .ok (.getfield 90, 3) := by decide +kernel
theorem d_M_layOdds_23 : decode b_M_layOdds 23 = .ok (.bipush 11, 2) := by decide +kernel
theorem d_M_layOdds_25 : decode b_M_layOdds 25 = .ok (.iload_n 1, 1) := by decide +kernel
theorem d_M_layOdds_26 : decode b_M_layOdds 26 = .ok (.imul, 1) := by decide +kernel
theorem d_M_layOdds_27 : decode b_M_layOdds 27 = .ok (.iload_n 3, 1) := by decide +kernel
theorem d_M_layOdds_28 : decode b_M_layOdds 28 = .ok (.iadd, 1) := by decide +kernel
theorem d_M_layOdds_29 : decode b_M_layOdds 29 = .ok (.iaload, 1) := by decide +kernel
theorem d_M_layOdds_30 : decode b_M_layOdds 30 = .ok (.i2l, 1) := by decide +kernel
theorem d_M_layOdds_31 : decode b_M_layOdds 31 = .ok (.lastore, 1) := by decide +kernel
theorem d_M_layOdds_32 : decode b_M_layOdds 32 = .ok (.iinc 3 1, 3) := by decide +kernel
theorem d_M_layOdds_35 : decode b_M_layOdds 35 = .ok (.goto (-27), 3) := by decide +kernel
theorem d_M_layOdds_38 : decode b_M_layOdds 38 = .ok (.iconst 0, 1) := by decide +kernel
theorem d_M_layOdds_39 : decode b_M_layOdds 39 = .ok (.istore_n 3, 1) := by decide +kernel
theorem d_M_layOdds_40 : decode b_M_layOdds 40 = .ok (.iload_n 3, 1) := by decide +kernel
theorem d_M_layOdds_41 : decode b_M_layOdds 41 = .ok (.aload_n 0, 1) := by decide +kernel
theorem d_M_layOdds_42 : decode b_M_layOdds 42 = .ok (.getfield 214, 3) := by decide +kernel
theorem d_M_layOdds_45 : decode b_M_layOdds 45 = .ok (.if_icmp .ge 34, 3) := by decide +kernel
theorem d_M_layOdds_48 : decode b_M_layOdds 48 = .ok (.aload_n 0, 1) := by decide +kernel
theorem d_M_layOdds_49 : decode b_M_layOdds 49 = .ok (.getfield 96, 3) := by decide +kernel
theorem d_M_layOdds_52 : decode b_M_layOdds 52 = .ok (.iload_n 3, 1) := by decide +kernel
theorem d_M_layOdds_53 : decode b_M_layOdds 53 = .ok (.iaload, 1) := by decide +kernel
theorem d_M_layOdds_54 : decode b_M_layOdds 54 = .ok (.iload_n 1, 1) := by decide +kernel
theorem d_M_layOdds_55 : decode b_M_layOdds 55 = .ok (.if_icmp .ne 18, 3) := by decide +kernel
theorem d_M_layOdds_58 : decode b_M_layOdds 58 = .ok (.aload_n 0, 1) := by decide +kernel
theorem d_M_layOdds_59 : decode b_M_layOdds 59 = .ok (.getfield 105, 3) := by decide +kernel
theorem d_M_layOdds_62 : decode b_M_layOdds 62 = .ok (.iload_n 3, 1) := by decide +kernel
theorem d_M_layOdds_63 : decode b_M_layOdds 63 = .ok (.iaload, 1) := by decide +kernel
theorem d_M_layOdds_64 : decode b_M_layOdds 64 = .ok (.iload_n 2, 1) := by decide +kernel
theorem d_M_layOdds_65 : decode b_M_layOdds 65 = .ok (.if_icmp .gt 8, 3) := by decide +kernel
theorem d_M_layOdds_68 : decode b_M_layOdds 68 = .ok (.aload_n 0, 1) := by decide +kernel
theorem d_M_layOdds_69 : decode b_M_layOdds 69 = .ok (.iload_n 3, 1) := by decide +kernel
theorem d_M_layOdds_70 : decode b_M_layOdds 70 = .ok (.invokevirtual 227, 3) := by decide +kernel
theorem d_M_layOdds_73 : decode b_M_layOdds 73 = .ok (.iinc 3 1, 3) := by decide +kernel
theorem d_M_layOdds_76 : decode b_M_layOdds 76 = .ok (.goto (-36), 3) := by decide +kernel
theorem d_M_layOdds_79 : decode b_M_layOdds 79 = .ok (.return_, 1) := by decide +kernel
abbrev b_M_takeLook : ByteArray := prog_7_method_44_code
abbrev y_M_takeLook : MethodName := ⟨"OldBeamsModel", "takeLook", "(I)V"⟩
theorem d_M_takeLook_0 : decode b_M_takeLook 0 = .ok (.lconst 0, 1) := by decide +kernel
theorem d_M_takeLook_1 : decode b_M_takeLook 1 = .ok (.lstore_n 2, 1) := by decide +kernel
theorem d_M_takeLook_2 : decode b_M_takeLook 2 = .ok (.iconst 0, 1) := by decide +kernel
theorem d_M_takeLook_3 : decode b_M_takeLook 3 = .ok (.istore 4, 2) := by decide +kernel
theorem d_M_takeLook_5 : decode b_M_takeLook 5 = .ok (.iload 4, 2) := by decide +kernel
theorem d_M_takeLook_7 : decode b_M_takeLook 7 = .ok (.bipush 11, 2) := by decide +kernel
theorem d_M_takeLook_9 : decode b_M_takeLook 9 = .ok (.if_icmp .ge 55, 3) := by decide +kernel
theorem d_M_takeLook_12 : decode b_M_takeLook 12 = .ok (.aload_n 0, 1) := by decide +kernel
theorem d_M_takeLook_13 : decode b_M_takeLook 13 = .ok (.getfield 111, 3) := by decide +kernel
theorem d_M_takeLook_16 : decode b_M_takeLook 16 = .ok (.iload 4, 2) := by decide +kernel
theorem d_M_takeLook_18 : decode b_M_takeLook 18 = .ok (.aload_n 0, 1) := by decide +kernel
theorem d_M_takeLook_19 : decode b_M_takeLook 19 = .ok (.getfield 108, 3) := by decide +kernel
theorem d_M_takeLook_22 : decode b_M_takeLook 22 = .ok (.iload 4, 2) := by decide +kernel
theorem d_M_takeLook_24 : decode b_M_takeLook 24 = .ok (.laload, 1) := by decide +kernel
theorem d_M_takeLook_25 : decode b_M_takeLook 25 = .ok (.aload_n 0, 1) := by decide +kernel
theorem d_M_takeLook_26 : decode b_M_takeLook 26 = .ok (.aload_n 0, 1) := by decide +kernel
theorem d_M_takeLook_27 : decode b_M_takeLook 27 = .ok (.getfield 99, 3) := by decide +kernel
theorem d_M_takeLook_30 : decode b_M_takeLook 30 = .ok (.iload_n 1, 1) := by decide +kernel
theorem d_M_takeLook_31 : decode b_M_takeLook 31 = .ok (.iaload, 1) := by decide +kernel
theorem d_M_takeLook_32 : decode b_M_takeLook 32 = .ok (.aload_n 0, 1) := by decide +kernel
theorem d_M_takeLook_33 : decode b_M_takeLook 33 = .ok (.getfield 102, 3) := by decide +kernel
theorem d_M_takeLook_36 : decode b_M_takeLook 36 = .ok (.iload_n 1, 1) := by decide +kernel
theorem d_M_takeLook_37 : decode b_M_takeLook 37 = .ok (.iaload, 1) := by decide +kernel
theorem d_M_takeLook_38 : decode b_M_takeLook 38 = .ok (.iload 4, 2) := by decide +kernel
theorem d_M_takeLook_40 : decode b_M_takeLook 40 = .ok (.invokevirtual 230, 3) := by decide +kernel
theorem d_M_takeLook_43 : decode b_M_takeLook 43 = .ok (.i2l, 1) := by decide +kernel
theorem d_M_takeLook_44 : decode b_M_takeLook 44 = .ok (.lmul, 1) := by decide +kernel
theorem d_M_takeLook_45 : decode b_M_takeLook 45 = .ok (.lastore, 1) := by decide +kernel
theorem d_M_takeLook_46 : decode b_M_takeLook 46 = .ok (.aload_n 0, 1) := by decide +kernel
theorem d_M_takeLook_47 : decode b_M_takeLook 47 = .ok (.getfield 111, 3) := by decide +kernel
theorem d_M_takeLook_50 : decode b_M_takeLook 50 = .ok (.iload 4, 2) := by decide +kernel
theorem d_M_takeLook_52 : decode b_M_takeLook 52 = .ok (.laload, 1) := by decide +kernel
theorem d_M_takeLook_53 : decode b_M_takeLook 53 = .ok (.lload_n 2, 1) := by decide +kernel
theorem d_M_takeLook_54 : decode b_M_takeLook 54 = .ok (.invokestatic 130, 3) := by decide +kernel
theorem d_M_takeLook_57 : decode b_M_takeLook 57 = .ok (.lstore_n 2, 1) := by decide +kernel
theorem d_M_takeLook_58 : decode b_M_takeLook 58 = .ok (.iinc 4 1, 3) := by decide +kernel
theorem d_M_takeLook_61 : decode b_M_takeLook 61 = .ok (.goto (-56), 3) := by decide +kernel
theorem d_M_takeLook_64 : decode b_M_takeLook 64 = .ok (.lload_n 2, 1) := by decide +kernel
theorem d_M_takeLook_65 : decode b_M_takeLook 65 = .ok (.lconst 0, 1) := by decide +kernel
theorem d_M_takeLook_66 : decode b_M_takeLook 66 = .ok (.lcmp, 1) := by decide +kernel
theorem d_M_takeLook_67 : decode b_M_takeLook 67 = .ok (.ifCond .ne 25, 3) := by decide +kernel
theorem d_M_takeLook_70 : decode b_M_takeLook 70 = .ok (.aload_n 0, 1) := by decide +kernel
theorem d_M_takeLook_71 : decode b_M_takeLook 71 = .ok (.aload_n 0, 1) := by decide +kernel
theorem d_M_takeLook_72 : decode b_M_takeLook 72 = .ok (.getfield 224, 3) := by decide +kernel
theorem d_M_takeLook_75 : decode b_M_takeLook 75 = .ok (.ldc 156, 2) := by decide +kernel
theorem d_M_takeLook_77 : decode b_M_takeLook 77 = .ok (.if_icmp .ne 7, 3) := by decide +kernel
theorem d_M_takeLook_80 : decode b_M_takeLook 80 = .ok (.iload_n 1, 1) := by decide +kernel
theorem d_M_takeLook_81 : decode b_M_takeLook 81 = .ok (.goto 7, 3) := by decide +kernel
theorem d_M_takeLook_84 : decode b_M_takeLook 84 = .ok (.aload_n 0, 1) := by decide +kernel
theorem d_M_takeLook_85 : decode b_M_takeLook 85 = .ok (.getfield 224, 3) := by decide +kernel
theorem d_M_takeLook_88 : decode b_M_takeLook 88 = .ok (.putfield 224, 3) := by decide +kernel
theorem d_M_takeLook_91 : decode b_M_takeLook 91 = .ok (.return_, 1) := by decide +kernel
theorem d_M_takeLook_92 : decode b_M_takeLook 92 = .ok (.iconst 0, 1) := by decide +kernel
theorem d_M_takeLook_93 : decode b_M_takeLook 93 = .ok (.istore 4, 2) := by decide +kernel
theorem d_M_takeLook_95 : decode b_M_takeLook 95 = .ok (.iload 4, 2) := by decide +kernel
theorem d_M_takeLook_97 : decode b_M_takeLook 97 = .ok (.bipush 11, 2) := by decide +kernel
theorem d_M_takeLook_99 : decode b_M_takeLook 99 = .ok (.if_icmp .ge 25, 3) := by decide +kernel
theorem d_M_takeLook_102 : decode b_M_takeLook 102 = .ok (.aload_n 0, 1) := by decide +kernel
theorem d_M_takeLook_103 : decode b_M_takeLook 103 = .ok (.getfield 108, 3) := by decide +kernel
theorem d_M_takeLook_106 : decode b_M_takeLook 106 = .ok (.iload 4, 2) := by decide +kernel
theorem d_M_takeLook_108 : decode b_M_takeLook 108 = .ok (.aload_n 0, 1) := by decide +kernel
theorem d_M_takeLook_109 : decode b_M_takeLook 109 = .ok (.getfield 111, 3) := by decide +kernel
theorem d_M_takeLook_112 : decode b_M_takeLook 112 = .ok (.iload 4, 2) := by decide +kernel
theorem d_M_takeLook_114 : decode b_M_takeLook 114 = .ok (.laload, 1) := by decide +kernel
theorem d_M_takeLook_115 : decode b_M_takeLook 115 = .ok (.lload_n 2, 1) := by decide +kernel
theorem d_M_takeLook_116 : decode b_M_takeLook 116 = .ok (.ldiv, 1) := by decide +kernel
theorem d_M_takeLook_117 : decode b_M_takeLook 117 = .ok (.lastore, 1) := by decide +kernel
theorem d_M_takeLook_118 : decode b_M_takeLook 118 = .ok (.iinc 4 1, 3) := by decide +kernel
theorem d_M_takeLook_121 : decode b_M_takeLook 121 = .ok (.goto (-26), 3) := by decide +kernel
theorem d_M_takeLook_124 : decode b_M_takeLook 124 = .ok (.return_, 1) := by decide +kernel
abbrev b_M_comes : ByteArray := prog_7_method_42_code
abbrev y_M_comes : MethodName := ⟨"OldBeamsModel", "comes", "(III)I"⟩
theorem d_M_comes_0 : decode b_M_comes 0 = .ok (.iload_n 2, 1) := by decide +kernel
theorem d_M_comes_1 : decode b_M_comes 1 = .ok (.iconst 1, 1) := by decide +kernel
theorem d_M_comes_2 : decode b_M_comes 2 = .ok (.if_icmp .ne 17, 3) := by decide +kernel
theorem d_M_comes_5 : decode b_M_comes 5 = .ok (.aload_n 0, 1) := by decide +kernel
theorem d_M_comes_6 : decode b_M_comes 6 = .ok (.getfield 93, 3) := by decide +kernel
theorem d_M_comes_9 : decode b_M_comes 9 = .ok (.bipush 11, 2) := by decide +kernel
theorem d_M_comes_11 : decode b_M_comes 11 = .ok (.iload_n 1, 1) := by decide +kernel
theorem d_M_comes_12 : decode b_M_comes 12 = .ok (.imul, 1) := by decide +kernel
theorem d_M_comes_13 : decode b_M_comes 13 = .ok (.iload_n 3, 1) := by decide +kernel
theorem d_M_comes_14 : decode b_M_comes 14 = .ok (.iadd, 1) := by decide +kernel
theorem d_M_comes_15 : decode b_M_comes 15 = .ok (.iaload, 1) := by decide +kernel
theorem d_M_comes_16 : decode b_M_comes 16 = .ok (.goto 17, 3) := by decide +kernel
theorem d_M_comes_19 : decode b_M_comes 19 = .ok (.bipush 9, 2) := by decide +kernel
theorem d_M_comes_21 : decode b_M_comes 21 = .ok (.aload_n 0, 1) := by decide +kernel
theorem d_M_comes_22 : decode b_M_comes 22 = .ok (.getfield 93, 3) := by decide +kernel
theorem d_M_comes_25 : decode b_M_comes 25 = .ok (.bipush 11, 2) := by decide +kernel
theorem d_M_comes_27 : decode b_M_comes 27 = .ok (.iload_n 1, 1) := by decide +kernel
theorem d_M_comes_28 : decode b_M_comes 28 = .ok (.imul, 1) := by decide +kernel
theorem d_M_comes_29 : decode b_M_comes 29 = .ok (.iload_n 3, 1) := by decide +kernel
theorem d_M_comes_30 : decode b_M_comes 30 = .ok (.iadd, 1) := by decide +kernel
theorem d_M_comes_31 : decode b_M_comes 31 = .ok (.iaload, 1) := by decide +kernel
theorem d_M_comes_32 : decode b_M_comes 32 = .ok (.isub, 1) := by decide +kernel
theorem d_M_comes_33 : decode b_M_comes 33 = .ok (.ireturn, 1) := by decide +kernel
abbrev b_M_common : ByteArray := prog_7_method_5_code
abbrev y_M_common : MethodName := ⟨"OldBeamsModel", "common", "(JJ)J"⟩
theorem d_M_common_0 : decode b_M_common 0 = .ok (.lload_n 0, 1) := by decide +kernel
theorem d_M_common_1 : decode b_M_common 1 = .ok (.lconst 0, 1) := by decide +kernel
theorem d_M_common_2 : decode b_M_common 2 = .ok (.lcmp, 1) := by decide +kernel
theorem d_M_common_3 : decode b_M_common 3 = .ok (.ifCond .ge 8, 3) := by decide +kernel
theorem d_M_common_6 : decode b_M_common 6 = .ok (.lload_n 0, 1) := by decide +kernel
theorem d_M_common_7 : decode b_M_common 7 = .ok (.lneg, 1) := by decide +kernel
theorem d_M_common_8 : decode b_M_common 8 = .ok (.goto 4, 3) := by decide +kernel
theorem d_M_common_11 : decode b_M_common 11 = .ok (.lload_n 0, 1) := by decide +kernel
theorem d_M_common_12 : decode b_M_common 12 = .ok (.lstore 4, 2) := by decide +kernel
theorem d_M_common_14 : decode b_M_common 14 = .ok (.lload_n 2, 1) := by decide +kernel
theorem d_M_common_15 : decode b_M_common 15 = .ok (.lstore 6, 2) := by decide +kernel
theorem d_M_common_17 : decode b_M_common 17 = .ok (.lload 6, 2) := by decide +kernel
theorem d_M_common_19 : decode b_M_common 19 = .ok (.lconst 0, 1) := by decide +kernel
theorem d_M_common_20 : decode b_M_common 20 = .ok (.lcmp, 1) := by decide +kernel
theorem d_M_common_21 : decode b_M_common 21 = .ok (.ifCond .eq 21, 3) := by decide +kernel
theorem d_M_common_24 : decode b_M_common 24 = .ok (.lload 4, 2) := by decide +kernel
theorem d_M_common_26 : decode b_M_common 26 = .ok (.lload 6, 2) := by decide +kernel
theorem d_M_common_28 : decode b_M_common 28 = .ok (.lrem, 1) := by decide +kernel
theorem d_M_common_29 : decode b_M_common 29 = .ok (.lstore 8, 2) := by decide +kernel
theorem d_M_common_31 : decode b_M_common 31 = .ok (.lload 6, 2) := by decide +kernel
theorem d_M_common_33 : decode b_M_common 33 = .ok (.lstore 4, 2) := by decide +kernel
theorem d_M_common_35 : decode b_M_common 35 = .ok (.lload 8, 2) := by decide +kernel
theorem d_M_common_37 : decode b_M_common 37 = .ok (.lstore 6, 2) := by decide +kernel
theorem d_M_common_39 : decode b_M_common 39 = .ok (.goto (-22), 3) := by decide +kernel
theorem d_M_common_42 : decode b_M_common 42 = .ok (.lload 4, 2) := by decide +kernel
theorem d_M_common_44 : decode b_M_common 44 = .ok (.lreturn, 1) := by decide +kernel
abbrev b_M_quarrel : ByteArray := prog_7_method_46_code
abbrev y_M_quarrel : MethodName := ⟨"OldBeamsModel", "quarrel", "(II)I"⟩
theorem d_M_quarrel_0 : decode b_M_quarrel 0 = .ok (.aload_n 0, 1) := by decide +kernel
theorem d_M_quarrel_1 : decode b_M_quarrel 1 = .ok (.iload_n 1, 1) := by decide +kernel
theorem d_M_quarrel_2 : decode b_M_quarrel 2 = .ok (.invokevirtual 157, 3) := by decide +kernel
theorem d_M_quarrel_5 : decode b_M_quarrel 5 = .ok (.ifCond .ne 6, 3) := by decide +kernel
theorem d_M_quarrel_8 : decode b_M_quarrel 8 = .ok (.ldc 136, 2) := by decide +kernel
theorem d_M_quarrel_10 : decode b_M_quarrel 10 = .ok (.ireturn, 1) := by decide +kernel
theorem d_M_quarrel_11 : decode b_M_quarrel 11 = .ok (.iload_n 2, 1) := by decide +kernel
theorem d_M_quarrel_12 : decode b_M_quarrel 12 = .ok (.invokestatic 151, 3) := by decide +kernel
theorem d_M_quarrel_15 : decode b_M_quarrel 15 = .ok (.ifCond .ne 6, 3) := by decide +kernel
theorem d_M_quarrel_18 : decode b_M_quarrel 18 = .ok (.ldc 143, 2) := by decide +kernel
theorem d_M_quarrel_20 : decode b_M_quarrel 20 = .ok (.ireturn, 1) := by decide +kernel
theorem d_M_quarrel_21 : decode b_M_quarrel 21 = .ok (.aload_n 0, 1) := by decide +kernel
theorem d_M_quarrel_22 : decode b_M_quarrel 22 = .ok (.iload_n 1, 1) := by decide +kernel
theorem d_M_quarrel_23 : decode b_M_quarrel 23 = .ok (.iload_n 2, 1) := by decide +kernel
theorem d_M_quarrel_24 : decode b_M_quarrel 24 = .ok (.invokevirtual 238, 3) := by decide +kernel
theorem d_M_quarrel_27 : decode b_M_quarrel 27 = .ok (.aload_n 0, 1) := by decide +kernel
theorem d_M_quarrel_28 : decode b_M_quarrel 28 = .ok (.getfield 224, 3) := by decide +kernel
theorem d_M_quarrel_31 : decode b_M_quarrel 31 = .ok (.ireturn, 1) := by decide +kernel
abbrev b_M_share : ByteArray := prog_7_method_49_code
abbrev y_M_share : MethodName := ⟨"OldBeamsModel", "share", "(IIIZ)I"⟩
theorem d_M_share_0 : decode b_M_share 0 = .ok (.aload_n 0, 1) := by decide +kernel
theorem d_M_share_1 : decode b_M_share 1 = .ok (.iload_n 1, 1) := by decide +kernel
theorem d_M_share_2 : decode b_M_share 2 = .ok (.invokevirtual 157, 3) := by decide +kernel
theorem d_M_share_5 : decode b_M_share 5 = .ok (.ifCond .ne 6, 3) := by decide +kernel
theorem d_M_share_8 : decode b_M_share 8 = .ok (.ldc 136, 2) := by decide +kernel
theorem d_M_share_10 : decode b_M_share 10 = .ok (.ireturn, 1) := by decide +kernel
theorem d_M_share_11 : decode b_M_share 11 = .ok (.iload_n 2, 1) := by decide +kernel
theorem d_M_share_12 : decode b_M_share 12 = .ok (.iload_n 3, 1) := by decide +kernel
theorem d_M_share_13 : decode b_M_share 13 = .ok (.invokestatic 242, 3) := by decide +kernel
theorem d_M_share_16 : decode b_M_share 16 = .ok (.ifCond .eq 15, 3) := by decide +kernel
theorem d_M_share_19 : decode b_M_share 19 = .ok (.aload_n 0, 1) := by decide +kernel
theorem d_M_share_20 : decode b_M_share 20 = .ok (.iload_n 1, 1) := by decide +kernel
theorem d_M_share_21 : decode b_M_share 21 = .ok (.iload_n 2, 1) := by decide +kernel
theorem d_M_share_22 : decode b_M_share 22 = .ok (.iload_n 3, 1) := by decide +kernel
theorem d_M_share_23 : decode b_M_share 23 = .ok (.iload 4, 2) := by decide +kernel
theorem d_M_share_25 : decode b_M_share 25 = .ok (.invokevirtual 245, 3) := by decide +kernel
theorem d_M_share_28 : decode b_M_share 28 = .ok (.goto 5, 3) := by decide +kernel
theorem d_M_share_31 : decode b_M_share 31 = .ok (.ldc 143, 2) := by decide +kernel
theorem d_M_share_33 : decode b_M_share 33 = .ok (.ireturn, 1) := by decide +kernel
abbrev b_M_areYears : ByteArray := prog_7_method_48_code
abbrev y_M_areYears : MethodName := ⟨"OldBeamsModel", "areYears", "(II)Z"⟩
theorem d_M_areYears_0 : decode b_M_areYears 0 = .ok (.iload_n 0, 1) := by decide +kernel
theorem d_M_areYears_1 : decode b_M_areYears 1 = .ok (.invokestatic 151, 3) := by decide +kernel
theorem d_M_areYears_4 : decode b_M_areYears 4 = .ok (.ifCond .eq 20, 3) := by decide +kernel
theorem d_M_areYears_7 : decode b_M_areYears 7 = .ok (.iload_n 1, 1) := by decide +kernel
theorem d_M_areYears_8 : decode b_M_areYears 8 = .ok (.i2l, 1) := by decide +kernel
theorem d_M_areYears_9 : decode b_M_areYears 9 = .ok (.iload_n 0, 1) := by decide +kernel
theorem d_M_areYears_10 : decode b_M_areYears 10 = .ok (.i2l, 1) := by decide +kernel
theorem d_M_areYears_11 : decode b_M_areYears 11 = .ok (.ldc2_w 124, 3) := by decide +kernel
theorem d_M_areYears_14 : decode b_M_areYears 14 = .ok (.invokestatic 126, 3) := by decide +kernel
theorem d_M_areYears_17 : decode b_M_areYears 17 = .ok (.ifCond .eq 7, 3) := by decide +kernel
theorem d_M_areYears_20 : decode b_M_areYears 20 = .ok (.iconst 1, 1) := by decide +kernel
theorem d_M_areYears_21 : decode b_M_areYears 21 = .ok (.goto 4, 3) := by decide +kernel
theorem d_M_areYears_24 : decode b_M_areYears 24 = .ok (.iconst 0, 1) := by decide +kernel
theorem d_M_areYears_25 : decode b_M_areYears 25 = .ok (.ireturn, 1) := by decide +kernel
abbrev b_M_shareOf : ByteArray := prog_7_method_47_code
abbrev y_M_shareOf : MethodName := ⟨"OldBeamsModel", "shareOf", "(IIIZ)I"⟩
theorem d_M_shareOf_0 : decode b_M_shareOf 0 = .ok (.aload_n 0, 1) := by decide +kernel
theorem d_M_shareOf_1 : decode b_M_shareOf 1 = .ok (.iload_n 1, 1) := by decide +kernel
theorem d_M_shareOf_2 : decode b_M_shareOf 2 = .ok (.iload_n 2, 1) := by decide +kernel
theorem d_M_shareOf_3 : decode b_M_shareOf 3 = .ok (.invokevirtual 238, 3) := by decide +kernel
theorem d_M_shareOf_6 : decode b_M_shareOf 6 = .ok (.iload 4, 2) := by decide +kernel
theorem d_M_shareOf_8 : decode b_M_shareOf 8 = .ok (.ifCond .eq 8, 3) := by decide +kernel
theorem d_M_shareOf_11 : decode b_M_shareOf 11 = .ok (.bipush 10, 2) := by decide +kernel
theorem d_M_shareOf_13 : decode b_M_shareOf 13 = .ok (.goto 4, 3) := by decide +kernel
theorem d_M_shareOf_16 : decode b_M_shareOf 16 = .ok (.iconst 0, 1) := by decide +kernel
theorem d_M_shareOf_17 : decode b_M_shareOf 17 = .ok (.istore 5, 2) := by decide +kernel
theorem d_M_shareOf_19 : decode b_M_shareOf 19 = .ok (.aload_n 0, 1) := by decide +kernel
theorem d_M_shareOf_20 : decode b_M_shareOf 20 = .ok (.getfield 108, 3) := by decide +kernel
theorem d_M_shareOf_23 : decode b_M_shareOf 23 = .ok (.iload 5, 2) := by decide +kernel
theorem d_M_shareOf_25 : decode b_M_shareOf 25 = .ok (.laload, 1) := by decide +kernel
theorem d_M_shareOf_26 : decode b_M_shareOf 26 = .ok (.lconst 0, 1) := by decide +kernel
theorem d_M_shareOf_27 : decode b_M_shareOf 27 = .ok (.lcmp, 1) := by decide +kernel
theorem d_M_shareOf_28 : decode b_M_shareOf 28 = .ok (.ifCond .ne 21, 3) := by decide +kernel
theorem d_M_shareOf_31 : decode b_M_shareOf 31 = .ok (.iload 5, 2) := by decide +kernel
theorem d_M_shareOf_33 : decode b_M_shareOf 33 = .ok (.iload 4, 2) := by decide +kernel
theorem d_M_shareOf_35 : decode b_M_shareOf 35 = .ok (.ifCond .eq 7, 3) := by decide +kernel
theorem d_M_shareOf_38 : decode b_M_shareOf 38 = .ok (.iconst (-1), 1) := by decide +kernel
theorem d_M_shareOf_39 : decode b_M_shareOf 39 = .ok (.goto 4, 3) := by decide +kernel
theorem d_M_shareOf_42 : decode b_M_shareOf 42 = .ok (.iconst 1, 1) := by decide +kernel
theorem d_M_shareOf_43 : decode b_M_shareOf 43 = .ok (.iadd, 1) := by decide +kernel
theorem d_M_shareOf_44 : decode b_M_shareOf 44 = .ok (.istore 5, 2) := by decide +kernel
theorem d_M_shareOf_46 : decode b_M_shareOf 46 = .ok (.goto (-27), 3) := by decide +kernel
theorem d_M_shareOf_49 : decode b_M_shareOf 49 = .ok (.iload_n 3, 1) := by decide +kernel
theorem d_M_shareOf_50 : decode b_M_shareOf 50 = .ok (.iload_n 2, 1) := by decide +kernel
theorem d_M_shareOf_51 : decode b_M_shareOf 51 = .ok (.isub, 1) := by decide +kernel
theorem d_M_shareOf_52 : decode b_M_shareOf 52 = .ok (.aload_n 0, 1) := by decide +kernel
theorem d_M_shareOf_53 : decode b_M_shareOf 53 = .ok (.getfield 13, 3) := by decide +kernel
theorem d_M_shareOf_56 : decode b_M_shareOf 56 = .ok (.iconst 2, 1) := by decide +kernel
theorem d_M_shareOf_57 : decode b_M_shareOf 57 = .ok (.aload_n 0, 1) := by decide +kernel
theorem d_M_shareOf_58 : decode b_M_shareOf 58 = .ok (.getfield 16, 3) := by decide +kernel
theorem d_M_shareOf_61 : decode b_M_shareOf 61 = .ok (.iload_n 1, 1) := by decide +kernel
theorem d_M_shareOf_62 : decode b_M_shareOf 62 = .ok (.iaload, 1) := by decide +kernel
theorem d_M_shareOf_63 : decode b_M_shareOf 63 = .ok (.imul, 1) := by decide +kernel
theorem d_M_shareOf_64 : decode b_M_shareOf 64 = .ok (.aload_n 0, 1) := by decide +kernel
theorem d_M_shareOf_65 : decode b_M_shareOf 65 = .ok (.getfield 28, 3) := by decide +kernel
theorem d_M_shareOf_68 : decode b_M_shareOf 68 = .ok (.iload_n 1, 1) := by decide +kernel
theorem d_M_shareOf_69 : decode b_M_shareOf 69 = .ok (.baload, 1) := by decide +kernel
theorem d_M_shareOf_70 : decode b_M_shareOf 70 = .ok (.ifCond .eq 7, 3) := by decide +kernel
theorem d_M_shareOf_73 : decode b_M_shareOf 73 = .ok (.iconst 1, 1) := by decide +kernel
theorem d_M_shareOf_74 : decode b_M_shareOf 74 = .ok (.goto 4, 3) := by decide +kernel
theorem d_M_shareOf_77 : decode b_M_shareOf 77 = .ok (.iconst 0, 1) := by decide +kernel
theorem d_M_shareOf_78 : decode b_M_shareOf 78 = .ok (.iadd, 1) := by decide +kernel
theorem d_M_shareOf_79 : decode b_M_shareOf 79 = .ok (.iaload, 1) := by decide +kernel
theorem d_M_shareOf_80 : decode b_M_shareOf 80 = .ok (.imul, 1) := by decide +kernel
theorem d_M_shareOf_81 : decode b_M_shareOf 81 = .ok (.bipush 10, 2) := by decide +kernel
theorem d_M_shareOf_83 : decode b_M_shareOf 83 = .ok (.idiv, 1) := by decide +kernel
theorem d_M_shareOf_84 : decode b_M_shareOf 84 = .ok (.istore 6, 2) := by decide +kernel
theorem d_M_shareOf_86 : decode b_M_shareOf 86 = .ok (.iload 5, 2) := by decide +kernel
theorem d_M_shareOf_88 : decode b_M_shareOf 88 = .ok (.iload 6, 2) := by decide +kernel
theorem d_M_shareOf_90 : decode b_M_shareOf 90 = .ok (.if_icmp .ge 7, 3) := by decide +kernel
theorem d_M_shareOf_93 : decode b_M_shareOf 93 = .ok (.iconst 0, 1) := by decide +kernel
theorem d_M_shareOf_94 : decode b_M_shareOf 94 = .ok (.goto 8, 3) := by decide +kernel
theorem d_M_shareOf_97 : decode b_M_shareOf 97 = .ok (.iload 5, 2) := by decide +kernel
theorem d_M_shareOf_99 : decode b_M_shareOf 99 = .ok (.iload 6, 2) := by decide +kernel
theorem d_M_shareOf_101 : decode b_M_shareOf 101 = .ok (.isub, 1) := by decide +kernel
theorem d_M_shareOf_102 : decode b_M_shareOf 102 = .ok (.ireturn, 1) := by decide +kernel
abbrev b_M_stands : ByteArray := prog_7_method_51_code
abbrev y_M_stands : MethodName := ⟨"OldBeamsModel", "stands", "(IIZ)I"⟩
theorem d_M_stands_0 : decode b_M_stands 0 = .ok (.iload_n 1, 1) := by decide +kernel
theorem d_M_stands_1 : decode b_M_stands 1 = .ok (.iload_n 2, 1) := by decide +kernel
theorem d_M_stands_2 : decode b_M_stands 2 = .ok (.invokestatic 242, 3) := by decide +kernel
theorem d_M_stands_5 : decode b_M_stands 5 = .ok (.ifCond .ne 6, 3) := by decide +kernel
theorem d_M_stands_8 : decode b_M_stands 8 = .ok (.ldc 143, 2) := by decide +kernel
theorem d_M_stands_10 : decode b_M_stands 10 = .ok (.ireturn, 1) := by decide +kernel
theorem d_M_stands_11 : decode b_M_stands 11 = .ok (.aload_n 0, 1) := by decide +kernel
theorem d_M_stands_12 : decode b_M_stands 12 = .ok (.invokevirtual 161, 3) := by decide +kernel
theorem d_M_stands_15 : decode b_M_stands 15 = .ok (.aload_n 0, 1) := by decide +kernel
theorem d_M_stands_16 : decode b_M_stands 16 = .ok (.iload_n 1, 1) := by decide +kernel
theorem d_M_stands_17 : decode b_M_stands 17 = .ok (.iload_n 2, 1) := by decide +kernel
theorem d_M_stands_18 : decode b_M_stands 18 = .ok (.iload_n 3, 1) := by decide +kernel
theorem d_M_stands_19 : decode b_M_stands 19 = .ok (.invokevirtual 249, 3) := by decide +kernel
theorem d_M_stands_22 : decode b_M_stands 22 = .ok (.ifCond .eq 7, 3) := by decide +kernel
theorem d_M_stands_25 : decode b_M_stands 25 = .ok (.iconst 1, 1) := by decide +kernel
theorem d_M_stands_26 : decode b_M_stands 26 = .ok (.goto 4, 3) := by decide +kernel
theorem d_M_stands_29 : decode b_M_stands 29 = .ok (.iconst 0, 1) := by decide +kernel
theorem d_M_stands_30 : decode b_M_stands 30 = .ok (.ireturn, 1) := by decide +kernel
abbrev b_M_isStanding : ByteArray := prog_7_method_50_code
abbrev y_M_isStanding : MethodName := ⟨"OldBeamsModel", "isStanding", "(IIZ)Z"⟩
theorem d_M_isStanding_0 : decode b_M_isStanding 0 = .ok (.aload_n 0, 1) := by decide +kernel
theorem d_M_isStanding_1 : decode b_M_isStanding 1 = .ok (.invokevirtual 202, 3) := by decide +kernel
theorem d_M_isStanding_4 : decode b_M_isStanding 4 = .ok (.ifCond .ne 7, 3) := by decide +kernel
theorem d_M_isStanding_7 : decode b_M_isStanding 7 = .ok (.iconst 1, 1) := by decide +kernel
theorem d_M_isStanding_8 : decode b_M_isStanding 8 = .ok (.goto 4, 3) := by decide +kernel
theorem d_M_isStanding_11 : decode b_M_isStanding 11 = .ok (.iconst 0, 1) := by decide +kernel
theorem d_M_isStanding_12 : decode b_M_isStanding 12 = .ok (.istore 4, 2) := by decide +kernel
theorem d_M_isStanding_14 : decode b_M_isStanding 14 = .ok (.iconst 0, 1) := by decide +kernel
theorem d_M_isStanding_15 : decode b_M_isStanding 15 = .ok (.istore 5, 2) := by decide +kernel
theorem d_M_isStanding_17 : decode b_M_isStanding 17 = .ok (.iload 5, 2) := by decide +kernel
theorem d_M_isStanding_19 : decode b_M_isStanding 19 = .ok (.aload_n 0, 1) := by decide +kernel
theorem d_M_isStanding_20 : decode b_M_isStanding 20 = .ok (.getfield 144, 3) := by decide +kernel
theorem d_M_isStanding_23 : decode b_M_isStanding 23 = .ok (.if_icmp .ge 31, 3) := by decide +kernel
theorem d_M_isStanding_26 : decode b_M_isStanding 26 = .ok (.iload 4, 2) := by decide +kernel
theorem d_M_isStanding_28 : decode b_M_isStanding 28 = .ok (.ifCond .eq 26, 3) := by decide +kernel
theorem d_M_isStanding_31 : decode b_M_isStanding 31 = .ok (.aload_n 0, 1) := by decide +kernel
theorem d_M_isStanding_32 : decode b_M_isStanding 32 = .ok (.iload 5, 2) := by decide +kernel
theorem d_M_isStanding_34 : decode b_M_isStanding 34 = .ok (.aload_n 0, 1) := by decide +kernel
theorem d_M_isStanding_35 : decode b_M_isStanding 35 = .ok (.iload 5, 2) := by decide +kernel
theorem d_M_isStanding_37 : decode b_M_isStanding 37 = .ok (.iload_n 1, 1) := by decide +kernel
theorem d_M_isStanding_38 : decode b_M_isStanding 38 = .ok (.iload_n 2, 1) := by decide +kernel
theorem d_M_isStanding_39 : decode b_M_isStanding 39 = .ok (.iload_n 3, 1) := by decide +kernel
theorem d_M_isStanding_40 : decode b_M_isStanding 40 = .ok (.invokevirtual 245, 3) := by decide +kernel
theorem d_M_isStanding_43 : decode b_M_isStanding 43 = .ok (.invokevirtual 210, 3) := by decide +kernel
theorem d_M_isStanding_46 : decode b_M_isStanding 46 = .ok (.istore 4, 2) := by decide +kernel
theorem d_M_isStanding_48 : decode b_M_isStanding 48 = .ok (.iinc 5 1, 3) := by decide +kernel
theorem d_M_isStanding_51 : decode b_M_isStanding 51 = .ok (.goto (-34), 3) := by decide +kernel
theorem d_M_isStanding_54 : decode b_M_isStanding 54 = .ok (.iload 4, 2) := by decide +kernel
theorem d_M_isStanding_56 : decode b_M_isStanding 56 = .ok (.ireturn, 1) := by decide +kernel
abbrev b_M_until : ByteArray := prog_7_method_52_code
abbrev y_M_until : MethodName := ⟨"OldBeamsModel", "until", "(IZ)I"⟩
theorem d_M_until_0 : decode b_M_until 0 = .ok (.iload_n 1, 1) := by decide +kernel
theorem d_M_until_1 : decode b_M_until 1 = .ok (.invokestatic 151, 3) := by decide +kernel
theorem d_M_until_4 : decode b_M_until 4 = .ok (.ifCond .ne 6, 3) := by decide +kernel
theorem d_M_until_7 : decode b_M_until 7 = .ok (.ldc 143, 2) := by decide +kernel
theorem d_M_until_9 : decode b_M_until 9 = .ok (.ireturn, 1) := by decide +kernel
theorem d_M_until_10 : decode b_M_until 10 = .ok (.aload_n 0, 1) := by decide +kernel
theorem d_M_until_11 : decode b_M_until 11 = .ok (.invokevirtual 161, 3) := by decide +kernel
theorem d_M_until_14 : decode b_M_until 14 = .ok (.ldc 156, 2) := by decide +kernel
theorem d_M_until_16 : decode b_M_until 16 = .ok (.istore_n 3, 1) := by decide +kernel
theorem d_M_until_17 : decode b_M_until 17 = .ok (.iload_n 1, 1) := by decide +kernel
theorem d_M_until_18 : decode b_M_until 18 = .ok (.istore 4, 2) := by decide +kernel
theorem d_M_until_20 : decode b_M_until 20 = .ok (.iload 4, 2) := by decide +kernel
theorem d_M_until_22 : decode b_M_until 22 = .ok (.sipush 500, 3) := by decide +kernel
theorem d_M_until_25 : decode b_M_until 25 = .ok (.if_icmp .gt 23, 3) := by decide +kernel
theorem d_M_until_28 : decode b_M_until 28 = .ok (.aload_n 0, 1) := by decide +kernel
theorem d_M_until_29 : decode b_M_until 29 = .ok (.iload_n 1, 1) := by decide +kernel
theorem d_M_until_30 : decode b_M_until 30 = .ok (.iload 4, 2) := by decide +kernel
theorem d_M_until_32 : decode b_M_until 32 = .ok (.iload_n 2, 1) := by decide +kernel
theorem d_M_until_33 : decode b_M_until 33 = .ok (.invokevirtual 249, 3) := by decide +kernel
theorem d_M_until_36 : decode b_M_until 36 = .ok (.ifCond .eq 12, 3) := by decide +kernel
theorem d_M_until_39 : decode b_M_until 39 = .ok (.iload 4, 2) := by decide +kernel
theorem d_M_until_41 : decode b_M_until 41 = .ok (.istore_n 3, 1) := by decide +kernel
theorem d_M_until_42 : decode b_M_until 42 = .ok (.iinc 4 1, 3) := by decide +kernel
theorem d_M_until_45 : decode b_M_until 45 = .ok (.goto (-25), 3) := by decide +kernel
theorem d_M_until_48 : decode b_M_until 48 = .ok (.iload_n 3, 1) := by decide +kernel
theorem d_M_until_49 : decode b_M_until 49 = .ok (.ireturn, 1) := by decide +kernel
abbrev b_M_chance : ByteArray := prog_7_method_54_code
abbrev y_M_chance : MethodName := ⟨"OldBeamsModel", "chance", "(IIZ)J"⟩
theorem d_M_chance_0 : decode b_M_chance 0 = .ok (.aload_n 0, 1) := by decide +kernel
theorem d_M_chance_1 : decode b_M_chance 1 = .ok (.iload_n 1, 1) := by decide +kernel
theorem d_M_chance_2 : decode b_M_chance 2 = .ok (.iload_n 2, 1) := by decide +kernel
theorem d_M_chance_3 : decode b_M_chance 3 = .ok (.invokestatic 151, 3) := by decide +kernel
theorem d_M_chance_6 : decode b_M_chance 6 = .ok (.invokevirtual 206, 3) := by decide +kernel
theorem d_M_chance_9 : decode b_M_chance 9 = .ok (.istore 4, 2) := by decide +kernel
theorem d_M_chance_11 : decode b_M_chance 11 = .ok (.iload 4, 2) := by decide +kernel
theorem d_M_chance_13 : decode b_M_chance 13 = .ok (.ifCond .ge 7, 3) := by decide +kernel
theorem d_M_chance_16 : decode b_M_chance 16 = .ok (.iload 4, 2) := by decide +kernel
theorem d_M_chance_18 : decode b_M_chance 18 = .ok (.i2l, 1) := by decide +kernel
theorem d_M_chance_19 : decode b_M_chance 19 = .ok (.lreturn, 1) := by decide +kernel
theorem d_M_chance_20 : decode b_M_chance 20 = .ok (.aload_n 0, 1) := by decide +kernel
theorem d_M_chance_21 : decode b_M_chance 21 = .ok (.iload_n 1, 1) := by decide +kernel
theorem d_M_chance_22 : decode b_M_chance 22 = .ok (.iload_n 2, 1) := by decide +kernel
theorem d_M_chance_23 : decode b_M_chance 23 = .ok (.invokevirtual 260, 3) := by decide +kernel
theorem d_M_chance_26 : decode b_M_chance 26 = .ok (.aload_n 0, 1) := by decide +kernel
theorem d_M_chance_27 : decode b_M_chance 27 = .ok (.getfield 253, 3) := by decide +kernel
theorem d_M_chance_30 : decode b_M_chance 30 = .ok (.aload_n 0, 1) := by decide +kernel
theorem d_M_chance_31 : decode b_M_chance 31 = .ok (.getfield 257, 3) := by decide +kernel
theorem d_M_chance_34 : decode b_M_chance 34 = .ok (.iload_n 3, 1) := by decide +kernel
theorem d_M_chance_35 : decode b_M_chance 35 = .ok (.invokestatic 263, 3) := by decide +kernel
theorem d_M_chance_38 : decode b_M_chance 38 = .ok (.lreturn, 1) := by decide +kernel
abbrev b_M_layChance : ByteArray := prog_7_method_53_code
abbrev y_M_layChance : MethodName := ⟨"OldBeamsModel", "layChance", "(II)V"⟩
theorem d_M_layChance_0 : decode b_M_layChance 0 = .ok (.aload_n 0, 1) := by decide +kernel
theorem d_M_layChance_1 : decode b_M_layChance 1 = .ok (.iload_n 1, 1) := by decide +kernel
theorem d_M_layChance_2 : decode b_M_layChance 2 = .ok (.iload_n 2, 1) := by decide +kernel
theorem d_M_layChance_3 : decode b_M_layChance 3 = .ok (.invokevirtual 238, 3) := by decide +kernel
theorem d_M_layChance_6 : decode b_M_layChance 6 = .ok (.aload_n 0, 1) := by decide +kernel
theorem d_M_layChance_7 : decode b_M_layChance 7 = .ok (.lconst 0, 1) := by decide +kernel
theorem d_M_layChance_8 : decode b_M_layChance 8 = .ok (.putfield 253, 3) := by decide +kernel
theorem d_M_layChance_11 : decode b_M_layChance 11 = .ok (.aload_n 0, 1) := by decide +kernel
theorem d_M_layChance_12 : decode b_M_layChance 12 = .ok (.lconst 0, 1) := by decide +kernel
theorem d_M_layChance_13 : decode b_M_layChance 13 = .ok (.putfield 257, 3) := by decide +kernel
theorem d_M_layChance_16 : decode b_M_layChance 16 = .ok (.iconst 0, 1) := by decide +kernel
theorem d_M_layChance_17 : decode b_M_layChance 17 = .ok (.istore_n 3, 1) := by decide +kernel
theorem d_M_layChance_18 : decode b_M_layChance 18 = .ok (.iload_n 3, 1) := by decide +kernel
theorem d_M_layChance_19 : decode b_M_layChance 19 = .ok (.bipush 11, 2) := by decide +kernel
theorem d_M_layChance_21 : decode b_M_layChance 21 = .ok (.if_icmp .ge 52, 3) := by decide +kernel
theorem d_M_layChance_24 : decode b_M_layChance 24 = .ok (.aload_n 0, 1) := by decide +kernel
theorem d_M_layChance_25 : decode b_M_layChance 25 = .ok (.dup, 1) := by decide +kernel
theorem d_M_layChance_26 : decode b_M_layChance 26 = .ok (.getfield 257, 3) := by decide +kernel
theorem d_M_layChance_29 : decode b_M_layChance 29 = .ok (.aload_n 0, 1) := by decide +kernel
theorem d_M_layChance_30 : decode b_M_layChance 30 = .ok (.getfield 108, 3) := by decide +kernel
theorem d_M_layChance_33 : decode b_M_layChance 33 = .ok (.iload_n 3, 1) := by decide +kernel
theorem d_M_layChance_34 : decode b_M_layChance 34 = .ok (.laload, 1) := by decide +kernel
theorem d_M_layChance_35 : decode b_M_layChance 35 = .ok (.ladd, 1) := by decide +kernel
theorem d_M_layChance_36 : decode b_M_layChance 36 = .ok (.putfield 257, 3) := by decide +kernel
theorem d_M_layChance_39 : decode b_M_layChance 39 = .ok (.aload_n 0, 1) := by decide +kernel
theorem d_M_layChance_40 : decode b_M_layChance 40 = .ok (.dup, 1) := by decide +kernel
theorem d_M_layChance_41 : decode b_M_layChance 41 = .ok (.getfield 253, 3) := by decide +kernel
theorem d_M_layChance_44 : decode b_M_layChance 44 = .ok (.aload_n 0, 1) := by decide +kernel
theorem d_M_layChance_45 : decode b_M_layChance 45 = .ok (.iload_n 1, 1) := by decide +kernel
theorem d_M_layChance_46 : decode b_M_layChance 46 = .ok (.iload_n 3, 1) := by decide +kernel
theorem d_M_layChance_47 : decode b_M_layChance 47 = .ok (.invokevirtual 210, 3) := by decide +kernel
theorem d_M_layChance_50 : decode b_M_layChance 50 = .ok (.ifCond .eq 12, 3) := by decide +kernel
theorem d_M_layChance_53 : decode b_M_layChance 53 = .ok (.aload_n 0, 1) := by decide +kernel
theorem d_M_layChance_54 : decode b_M_layChance 54 = .ok (.getfield 108, 3) := by decide +kernel
theorem d_M_layChance_57 : decode b_M_layChance 57 = .ok (.iload_n 3, 1) := by decide +kernel
theorem d_M_layChance_58 : decode b_M_layChance 58 = .ok (.laload, 1) := by decide +kernel
theorem d_M_layChance_59 : decode b_M_layChance 59 = .ok (.goto 4, 3) := by decide +kernel
theorem d_M_layChance_62 : decode b_M_layChance 62 = .ok (.lconst 0, 1) := by decide +kernel
theorem d_M_layChance_63 : decode b_M_layChance 63 = .ok (.ladd, 1) := by decide +kernel
theorem d_M_layChance_64 : decode b_M_layChance 64 = .ok (.putfield 253, 3) := by decide +kernel
theorem d_M_layChance_67 : decode b_M_layChance 67 = .ok (.iinc 3 1, 3) := by decide +kernel
theorem d_M_layChance_70 : decode b_M_layChance 70 = .ok (.goto (-52), 3) := by decide +kernel
theorem d_M_layChance_73 : decode b_M_layChance 73 = .ok (.return_, 1) := by decide +kernel
abbrev b_M_told : ByteArray := prog_7_method_6_code
abbrev y_M_told : MethodName := ⟨"OldBeamsModel", "told", "(JJZ)J"⟩
theorem d_M_told_0 : decode b_M_told 0 = .ok (.lload_n 0, 1) := by decide +kernel
theorem d_M_told_1 : decode b_M_told 1 = .ok (.lload_n 2, 1) := by decide +kernel
theorem d_M_told_2 : decode b_M_told 2 = .ok (.invokestatic 130, 3) := by decide +kernel
theorem d_M_told_5 : decode b_M_told 5 = .ok (.lstore 5, 2) := by decide +kernel
theorem d_M_told_7 : decode b_M_told 7 = .ok (.iload 4, 2) := by decide +kernel
theorem d_M_told_9 : decode b_M_told 9 = .ok (.ifCond .eq 10, 3) := by decide +kernel
theorem d_M_told_12 : decode b_M_told 12 = .ok (.lload_n 0, 1) := by decide +kernel
theorem d_M_told_13 : decode b_M_told 13 = .ok (.lload 5, 2) := by decide +kernel
theorem d_M_told_15 : decode b_M_told 15 = .ok (.ldiv, 1) := by decide +kernel
theorem d_M_told_16 : decode b_M_told 16 = .ok (.goto 7, 3) := by decide +kernel
theorem d_M_told_19 : decode b_M_told 19 = .ok (.lload_n 2, 1) := by decide +kernel
theorem d_M_told_20 : decode b_M_told 20 = .ok (.lload 5, 2) := by decide +kernel
theorem d_M_told_22 : decode b_M_told 22 = .ok (.ldiv, 1) := by decide +kernel
theorem d_M_told_23 : decode b_M_told 23 = .ok (.lreturn, 1) := by decide +kernel
abbrev b_M_weakest : ByteArray := prog_7_method_55_code
abbrev y_M_weakest : MethodName := ⟨"OldBeamsModel", "weakest", "(I)I"⟩
theorem d_M_weakest_0 : decode b_M_weakest 0 = .ok (.iload_n 1, 1) := by decide +kernel
theorem d_M_weakest_1 : decode b_M_weakest 1 = .ok (.invokestatic 151, 3) := by decide +kernel
theorem d_M_weakest_4 : decode b_M_weakest 4 = .ok (.ifCond .ne 6, 3) := by decide +kernel
theorem d_M_weakest_7 : decode b_M_weakest 7 = .ok (.ldc 143, 2) := by decide +kernel
theorem d_M_weakest_9 : decode b_M_weakest 9 = .ok (.ireturn, 1) := by decide +kernel
theorem d_M_weakest_10 : decode b_M_weakest 10 = .ok (.aload_n 0, 1) := by decide +kernel
theorem d_M_weakest_11 : decode b_M_weakest 11 = .ok (.invokevirtual 161, 3) := by decide +kernel
theorem d_M_weakest_14 : decode b_M_weakest 14 = .ok (.ldc 156, 2) := by decide +kernel
theorem d_M_weakest_16 : decode b_M_weakest 16 = .ok (.istore_n 2, 1) := by decide +kernel
theorem d_M_weakest_17 : decode b_M_weakest 17 = .ok (.lconst 0, 1) := by decide +kernel
theorem d_M_weakest_18 : decode b_M_weakest 18 = .ok (.lstore_n 3, 1) := by decide +kernel
theorem d_M_weakest_19 : decode b_M_weakest 19 = .ok (.lconst 1, 1) := by decide +kernel
theorem d_M_weakest_20 : decode b_M_weakest 20 = .ok (.lstore 5, 2) := by decide +kernel
theorem d_M_weakest_22 : decode b_M_weakest 22 = .ok (.iconst 0, 1) := by decide +kernel
theorem d_M_weakest_23 : decode b_M_weakest 23 = .ok (.istore 7, 2) := by decide +kernel
theorem d_M_weakest_25 : decode b_M_weakest 25 = .ok (.iload 7, 2) := by decide +kernel
theorem d_M_weakest_27 : decode b_M_weakest 27 = .ok (.aload_n 0, 1) := by decide +kernel
theorem d_M_weakest_28 : decode b_M_weakest 28 = .ok (.getfield 144, 3) := by decide +kernel
theorem d_M_weakest_31 : decode b_M_weakest 31 = .ok (.if_icmp .ge 63, 3) := by decide +kernel
theorem d_M_weakest_34 : decode b_M_weakest 34 = .ok (.aload_n 0, 1) := by decide +kernel
theorem d_M_weakest_35 : decode b_M_weakest 35 = .ok (.getfield 74, 3) := by decide +kernel
theorem d_M_weakest_38 : decode b_M_weakest 38 = .ok (.iload 7, 2) := by decide +kernel
theorem d_M_weakest_40 : decode b_M_weakest 40 = .ok (.baload, 1) := by decide +kernel
theorem d_M_weakest_41 : decode b_M_weakest 41 = .ok (.ifCond .ne 47, 3) := by decide +kernel
theorem d_M_weakest_44 : decode b_M_weakest 44 = .ok (.aload_n 0, 1) := by decide +kernel
theorem d_M_weakest_45 : decode b_M_weakest 45 = .ok (.iload 7, 2) := by decide +kernel
theorem d_M_weakest_47 : decode b_M_weakest 47 = .ok (.iload_n 1, 1) := by decide +kernel
theorem d_M_weakest_48 : decode b_M_weakest 48 = .ok (.invokevirtual 260, 3) := by decide +kernel
theorem d_M_weakest_51 : decode b_M_weakest 51 = .ok (.iload_n 2, 1) := by decide +kernel
theorem d_M_weakest_52 : decode b_M_weakest 52 = .ok (.ldc 156, 2) := by decide +kernel
theorem d_M_weakest_54 : decode b_M_weakest 54 = .ok (.if_icmp .eq 20, 3) := by decide +kernel
theorem d_M_weakest_57 : decode b_M_weakest 57 = .ok (.lload_n 3, 1) := by decide +kernel
theorem d_M_weakest_58 : decode b_M_weakest 58 = .ok (.lload 5, 2) := by decide +kernel
theorem d_M_weakest_60 : decode b_M_weakest 60 = .ok (.aload_n 0, 1) := by decide +kernel
theorem d_M_weakest_61 : decode b_M_weakest 61 = .ok (.getfield 253, 3) := by decide +kernel
theorem d_M_weakest_64 : decode b_M_weakest 64 = .ok (.aload_n 0, 1) := by decide +kernel
theorem d_M_weakest_65 : decode b_M_weakest 65 = .ok (.getfield 257, 3) := by decide +kernel
theorem d_M_weakest_68 : decode b_M_weakest 68 = .ok (.invokestatic 267, 3) := by decide +kernel
theorem d_M_weakest_71 : decode b_M_weakest 71 = .ok (.ifCond .eq 17, 3) := by decide +kernel
theorem d_M_weakest_74 : decode b_M_weakest 74 = .ok (.iload 7, 2) := by decide +kernel
theorem d_M_weakest_76 : decode b_M_weakest 76 = .ok (.istore_n 2, 1) := by decide +kernel
theorem d_M_weakest_77 : decode b_M_weakest 77 = .ok (.aload_n 0, 1) := by decide +kernel
theorem d_M_weakest_78 : decode b_M_weakest 78 = .ok (.getfield 253, 3) := by decide +kernel
theorem d_M_weakest_81 : decode b_M_weakest 81 = .ok (.lstore_n 3, 1) := by decide +kernel
theorem d_M_weakest_82 : decode b_M_weakest 82 = .ok (.aload_n 0, 1) := by decide +kernel
theorem d_M_weakest_83 : decode b_M_weakest 83 = .ok (.getfield 257, 3) := by decide +kernel
theorem d_M_weakest_86 : decode b_M_weakest 86 = .ok (.lstore 5, 2) := by decide +kernel
theorem d_M_weakest_88 : decode b_M_weakest 88 = .ok (.iinc 7 1, 3) := by decide +kernel
theorem d_M_weakest_91 : decode b_M_weakest 91 = .ok (.goto (-66), 3) := by decide +kernel
theorem d_M_weakest_94 : decode b_M_weakest 94 = .ok (.iload_n 2, 1) := by decide +kernel
theorem d_M_weakest_95 : decode b_M_weakest 95 = .ok (.ireturn, 1) := by decide +kernel
abbrev b_M_isAbove : ByteArray := prog_7_method_7_code
abbrev y_M_isAbove : MethodName := ⟨"OldBeamsModel", "isAbove", "(JJJJ)Z"⟩
theorem d_M_isAbove_0 : decode b_M_isAbove 0 = .ok (.lload_n 0, 1) := by decide +kernel
theorem d_M_isAbove_1 : decode b_M_isAbove 1 = .ok (.lstore 8, 2) := by decide +kernel
theorem d_M_isAbove_3 : decode b_M_isAbove 3 = .ok (.lload_n 2, 1) := by decide +kernel
theorem d_M_isAbove_4 : decode b_M_isAbove 4 = .ok (.lstore 10, 2) := by decide +kernel
theorem d_M_isAbove_6 : decode b_M_isAbove 6 = .ok (.lload 4, 2) := by decide +kernel
theorem d_M_isAbove_8 : decode b_M_isAbove 8 = .ok (.lstore 12, 2) := by decide +kernel
theorem d_M_isAbove_10 : decode b_M_isAbove 10 = .ok (.lload 6, 2) := by decide +kernel
theorem d_M_isAbove_12 : decode b_M_isAbove 12 = .ok (.lstore 14, 2) := by decide +kernel
theorem d_M_isAbove_14 : decode b_M_isAbove 14 = .ok (.iconst 0, 1) := by decide +kernel
theorem d_M_isAbove_15 : decode b_M_isAbove 15 = .ok (.istore 16, 2) := by decide +kernel
theorem d_M_isAbove_17 : decode b_M_isAbove 17 = .ok (.lload 8, 2) := by decide +kernel
theorem d_M_isAbove_19 : decode b_M_isAbove 19 = .ok (.lload 10, 2) := by decide +kernel
theorem d_M_isAbove_21 : decode b_M_isAbove 21 = .ok (.ldiv, 1) := by decide +kernel
theorem d_M_isAbove_22 : decode b_M_isAbove 22 = .ok (.lload 12, 2) := by decide +kernel
theorem d_M_isAbove_24 : decode b_M_isAbove 24 = .ok (.lload 14, 2) := by decide +kernel
theorem d_M_isAbove_26 : decode b_M_isAbove 26 = .ok (.ldiv, 1) := by decide +kernel
theorem d_M_isAbove_27 : decode b_M_isAbove 27 = .ok (.lcmp, 1) := by decide +kernel
theorem d_M_isAbove_28 : decode b_M_isAbove 28 = .ok (.ifCond .ne 109, 3) := by decide +kernel
theorem d_M_isAbove_31 : decode b_M_isAbove 31 = .ok (.lload 8, 2) := by decide +kernel
theorem d_M_isAbove_33 : decode b_M_isAbove 33 = .ok (.lload 10, 2) := by decide +kernel
theorem d_M_isAbove_35 : decode b_M_isAbove 35 = .ok (.lrem, 1) := by decide +kernel
theorem d_M_isAbove_36 : decode b_M_isAbove 36 = .ok (.lstore 17, 2) := by decide +kernel
theorem d_M_isAbove_38 : decode b_M_isAbove 38 = .ok (.lload 12, 2) := by decide +kernel
theorem d_M_isAbove_40 : decode b_M_isAbove 40 = .ok (.lload 14, 2) := by decide +kernel
theorem d_M_isAbove_42 : decode b_M_isAbove 42 = .ok (.lrem, 1) := by decide +kernel
theorem d_M_isAbove_43 : decode b_M_isAbove 43 = .ok (.lstore 19, 2) := by decide +kernel
theorem d_M_isAbove_45 : decode b_M_isAbove 45 = .ok (.lload 17, 2) := by decide +kernel
theorem d_M_isAbove_47 : decode b_M_isAbove 47 = .ok (.lconst 0, 1) := by decide +kernel
theorem d_M_isAbove_48 : decode b_M_isAbove 48 = .ok (.lcmp, 1) := by decide +kernel
theorem d_M_isAbove_49 : decode b_M_isAbove 49 = .ok (.ifCond .eq 10, 3) := by decide +kernel
theorem d_M_isAbove_52 : decode b_M_isAbove 52 = .ok (.lload 19, 2) := by decide +kernel
theorem d_M_isAbove_54 : decode b_M_isAbove 54 = .ok (.lconst 0, 1) := by decide +kernel
theorem d_M_isAbove_55 : decode b_M_isAbove 55 = .ok (.lcmp, 1) := by decide +kernel
theorem d_M_isAbove_56 : decode b_M_isAbove 56 = .ok (.ifCond .ne 50, 3) := by decide +kernel
theorem d_M_isAbove_59 : decode b_M_isAbove 59 = .ok (.iload 16, 2) := by decide +kernel
theorem d_M_isAbove_61 : decode b_M_isAbove 61 = .ok (.ifCond .eq 25, 3) := by decide +kernel
theorem d_M_isAbove_64 : decode b_M_isAbove 64 = .ok (.lload 17, 2) := by decide +kernel
theorem d_M_isAbove_66 : decode b_M_isAbove 66 = .ok (.lconst 0, 1) := by decide +kernel
theorem d_M_isAbove_67 : decode b_M_isAbove 67 = .ok (.lcmp, 1) := by decide +kernel
theorem d_M_isAbove_68 : decode b_M_isAbove 68 = .ok (.ifCond .ne 14, 3) := by decide +kernel
theorem d_M_isAbove_71 : decode b_M_isAbove 71 = .ok (.lload 19, 2) := by decide +kernel
theorem d_M_isAbove_73 : decode b_M_isAbove 73 = .ok (.lconst 0, 1) := by decide +kernel
theorem d_M_isAbove_74 : decode b_M_isAbove 74 = .ok (.lcmp, 1) := by decide +kernel
theorem d_M_isAbove_75 : decode b_M_isAbove 75 = .ok (.ifCond .le 7, 3) := by decide +kernel
theorem d_M_isAbove_78 : decode b_M_isAbove 78 = .ok (.iconst 1, 1) := by decide +kernel
theorem d_M_isAbove_79 : decode b_M_isAbove 79 = .ok (.goto 26, 3) := by decide +kernel
theorem d_M_isAbove_82 : decode b_M_isAbove 82 = .ok (.iconst 0, 1) := by decide +kernel
theorem d_M_isAbove_83 : decode b_M_isAbove 83 = .ok (.goto 22, 3) := by decide +kernel
theorem d_M_isAbove_86 : decode b_M_isAbove 86 = .ok (.lload 19, 2) := by decide +kernel
theorem d_M_isAbove_88 : decode b_M_isAbove 88 = .ok (.lconst 0, 1) := by decide +kernel
theorem d_M_isAbove_89 : decode b_M_isAbove 89 = .ok (.lcmp, 1) := by decide +kernel
theorem d_M_isAbove_90 : decode b_M_isAbove 90 = .ok (.ifCond .ne 14, 3) := by decide +kernel
theorem d_M_isAbove_93 : decode b_M_isAbove 93 = .ok (.lload 17, 2) := by decide +kernel
theorem d_M_isAbove_95 : decode b_M_isAbove 95 = .ok (.lconst 0, 1) := by decide +kernel
theorem d_M_isAbove_96 : decode b_M_isAbove 96 = .ok (.lcmp, 1) := by decide +kernel
theorem d_M_isAbove_97 : decode b_M_isAbove 97 = .ok (.ifCond .le 7, 3) := by decide +kernel
theorem d_M_isAbove_100 : decode b_M_isAbove 100 = .ok (.iconst 1, 1) := by decide +kernel
theorem d_M_isAbove_101 : decode b_M_isAbove 101 = .ok (.goto 4, 3) := by decide +kernel
theorem d_M_isAbove_104 : decode b_M_isAbove 104 = .ok (.iconst 0, 1) := by decide +kernel
theorem d_M_isAbove_105 : decode b_M_isAbove 105 = .ok (.ireturn, 1) := by decide +kernel
theorem d_M_isAbove_106 : decode b_M_isAbove 106 = .ok (.lload 10, 2) := by decide +kernel
theorem d_M_isAbove_108 : decode b_M_isAbove 108 = .ok (.lstore 8, 2) := by decide +kernel
theorem d_M_isAbove_110 : decode b_M_isAbove 110 = .ok (.lload 17, 2) := by decide +kernel
theorem d_M_isAbove_112 : decode b_M_isAbove 112 = .ok (.lstore 10, 2) := by decide +kernel
theorem d_M_isAbove_114 : decode b_M_isAbove 114 = .ok (.lload 14, 2) := by decide +kernel
theorem d_M_isAbove_116 : decode b_M_isAbove 116 = .ok (.lstore 12, 2) := by decide +kernel
theorem d_M_isAbove_118 : decode b_M_isAbove 118 = .ok (.lload 19, 2) := by decide +kernel
theorem d_M_isAbove_120 : decode b_M_isAbove 120 = .ok (.lstore 14, 2) := by decide +kernel
theorem d_M_isAbove_122 : decode b_M_isAbove 122 = .ok (.iload 16, 2) := by decide +kernel
theorem d_M_isAbove_124 : decode b_M_isAbove 124 = .ok (.ifCond .ne 7, 3) := by decide +kernel
theorem d_M_isAbove_127 : decode b_M_isAbove 127 = .ok (.iconst 1, 1) := by decide +kernel
theorem d_M_isAbove_128 : decode b_M_isAbove 128 = .ok (.goto 4, 3) := by decide +kernel
theorem d_M_isAbove_131 : decode b_M_isAbove 131 = .ok (.iconst 0, 1) := by decide +kernel
theorem d_M_isAbove_132 : decode b_M_isAbove 132 = .ok (.istore 16, 2) := by decide +kernel
theorem d_M_isAbove_134 : decode b_M_isAbove 134 = .ok (.goto (-117), 3) := by decide +kernel
theorem d_M_isAbove_137 : decode b_M_isAbove 137 = .ok (.lload 8, 2) := by decide +kernel
theorem d_M_isAbove_139 : decode b_M_isAbove 139 = .ok (.lload 10, 2) := by decide +kernel
theorem d_M_isAbove_141 : decode b_M_isAbove 141 = .ok (.ldiv, 1) := by decide +kernel
theorem d_M_isAbove_142 : decode b_M_isAbove 142 = .ok (.lload 12, 2) := by decide +kernel
theorem d_M_isAbove_144 : decode b_M_isAbove 144 = .ok (.lload 14, 2) := by decide +kernel
theorem d_M_isAbove_146 : decode b_M_isAbove 146 = .ok (.ldiv, 1) := by decide +kernel
theorem d_M_isAbove_147 : decode b_M_isAbove 147 = .ok (.lcmp, 1) := by decide +kernel
theorem d_M_isAbove_148 : decode b_M_isAbove 148 = .ok (.ifCond .le 7, 3) := by decide +kernel
theorem d_M_isAbove_151 : decode b_M_isAbove 151 = .ok (.iconst 1, 1) := by decide +kernel
theorem d_M_isAbove_152 : decode b_M_isAbove 152 = .ok (.goto 4, 3) := by decide +kernel
theorem d_M_isAbove_155 : decode b_M_isAbove 155 = .ok (.iconst 0, 1) := by decide +kernel
theorem d_M_isAbove_156 : decode b_M_isAbove 156 = .ok (.iload 16, 2) := by decide +kernel
theorem d_M_isAbove_158 : decode b_M_isAbove 158 = .ok (.if_icmp .eq 7, 3) := by decide +kernel
theorem d_M_isAbove_161 : decode b_M_isAbove 161 = .ok (.iconst 1, 1) := by decide +kernel
theorem d_M_isAbove_162 : decode b_M_isAbove 162 = .ok (.goto 4, 3) := by decide +kernel
theorem d_M_isAbove_165 : decode b_M_isAbove 165 = .ok (.iconst 0, 1) := by decide +kernel
theorem d_M_isAbove_166 : decode b_M_isAbove 166 = .ok (.ireturn, 1) := by decide +kernel
abbrev b_M_chain : ByteArray := prog_7_method_58_code
abbrev y_M_chain : MethodName := ⟨"OldBeamsModel", "chain", "(II)I"⟩
theorem d_M_chain_0 : decode b_M_chain 0 = .ok (.aload_n 0, 1) := by decide +kernel
theorem d_M_chain_1 : decode b_M_chain 1 = .ok (.iload_n 1, 1) := by decide +kernel
theorem d_M_chain_2 : decode b_M_chain 2 = .ok (.iload_n 2, 1) := by decide +kernel
theorem d_M_chain_3 : decode b_M_chain 3 = .ok (.invokestatic 151, 3) := by decide +kernel
theorem d_M_chain_6 : decode b_M_chain 6 = .ok (.invokevirtual 206, 3) := by decide +kernel
theorem d_M_chain_9 : decode b_M_chain 9 = .ok (.istore_n 3, 1) := by decide +kernel
theorem d_M_chain_10 : decode b_M_chain 10 = .ok (.iload_n 3, 1) := by decide +kernel
theorem d_M_chain_11 : decode b_M_chain 11 = .ok (.ifCond .ge 5, 3) := by decide +kernel
theorem d_M_chain_14 : decode b_M_chain 14 = .ok (.iload_n 3, 1) := by decide +kernel
theorem d_M_chain_15 : decode b_M_chain 15 = .ok (.ireturn, 1) := by decide +kernel
theorem d_M_chain_16 : decode b_M_chain 16 = .ok (.aload_n 0, 1) := by decide +kernel
theorem d_M_chain_17 : decode b_M_chain 17 = .ok (.iload_n 1, 1) := by decide +kernel
theorem d_M_chain_18 : decode b_M_chain 18 = .ok (.iload_n 2, 1) := by decide +kernel
theorem d_M_chain_19 : decode b_M_chain 19 = .ok (.invokevirtual 277, 3) := by decide +kernel
theorem d_M_chain_22 : decode b_M_chain 22 = .ok (.aload_n 0, 1) := by decide +kernel
theorem d_M_chain_23 : decode b_M_chain 23 = .ok (.invokevirtual 202, 3) := by decide +kernel
theorem d_M_chain_26 : decode b_M_chain 26 = .ok (.ireturn, 1) := by decide +kernel
abbrev b_M_layFall : ByteArray := prog_7_method_56_code
abbrev y_M_layFall : MethodName := ⟨"OldBeamsModel", "layFall", "(II)V"⟩
theorem d_M_layFall_0 : decode b_M_layFall 0 = .ok (.aload_n 0, 1) := by decide +kernel
theorem d_M_layFall_1 : decode b_M_layFall 1 = .ok (.invokevirtual 193, 3) := by decide +kernel
theorem d_M_layFall_4 : decode b_M_layFall 4 = .ok (.aload_n 0, 1) := by decide +kernel
theorem d_M_layFall_5 : decode b_M_layFall 5 = .ok (.getfield 68, 3) := by decide +kernel
theorem d_M_layFall_8 : decode b_M_layFall 8 = .ok (.iload_n 1, 1) := by decide +kernel
theorem d_M_layFall_9 : decode b_M_layFall 9 = .ok (.iconst 1, 1) := by decide +kernel
theorem d_M_layFall_10 : decode b_M_layFall 10 = .ok (.bastore, 1) := by decide +kernel
theorem d_M_layFall_11 : decode b_M_layFall 11 = .ok (.aload_n 0, 1) := by decide +kernel
theorem d_M_layFall_12 : decode b_M_layFall 12 = .ok (.getfield 114, 3) := by decide +kernel
theorem d_M_layFall_15 : decode b_M_layFall 15 = .ok (.iconst 0, 1) := by decide +kernel
theorem d_M_layFall_16 : decode b_M_layFall 16 = .ok (.iload_n 1, 1) := by decide +kernel
theorem d_M_layFall_17 : decode b_M_layFall 17 = .ok (.iastore, 1) := by decide +kernel
theorem d_M_layFall_18 : decode b_M_layFall 18 = .ok (.aload_n 0, 1) := by decide +kernel
theorem d_M_layFall_19 : decode b_M_layFall 19 = .ok (.iconst 1, 1) := by decide +kernel
theorem d_M_layFall_20 : decode b_M_layFall 20 = .ok (.putfield 271, 3) := by decide +kernel
theorem d_M_layFall_23 : decode b_M_layFall 23 = .ok (.aload_n 0, 1) := by decide +kernel
theorem d_M_layFall_24 : decode b_M_layFall 24 = .ok (.invokevirtual 196, 3) := by decide +kernel
theorem d_M_layFall_27 : decode b_M_layFall 27 = .ok (.aload_n 0, 1) := by decide +kernel
theorem d_M_layFall_28 : decode b_M_layFall 28 = .ok (.iload_n 2, 1) := by decide +kernel
theorem d_M_layFall_29 : decode b_M_layFall 29 = .ok (.invokevirtual 274, 3) := by decide +kernel
theorem d_M_layFall_32 : decode b_M_layFall 32 = .ok (.istore_n 3, 1) := by decide +kernel
theorem d_M_layFall_33 : decode b_M_layFall 33 = .ok (.iload_n 3, 1) := by decide +kernel
theorem d_M_layFall_34 : decode b_M_layFall 34 = .ok (.ldc 156, 2) := by decide +kernel
theorem d_M_layFall_36 : decode b_M_layFall 36 = .ok (.if_icmp .eq 43, 3) := by decide +kernel
theorem d_M_layFall_39 : decode b_M_layFall 39 = .ok (.aload_n 0, 1) := by decide +kernel
theorem d_M_layFall_40 : decode b_M_layFall 40 = .ok (.getfield 68, 3) := by decide +kernel
theorem d_M_layFall_43 : decode b_M_layFall 43 = .ok (.iload_n 3, 1) := by decide +kernel
theorem d_M_layFall_44 : decode b_M_layFall 44 = .ok (.iconst 1, 1) := by decide +kernel
theorem d_M_layFall_45 : decode b_M_layFall 45 = .ok (.bastore, 1) := by decide +kernel
theorem d_M_layFall_46 : decode b_M_layFall 46 = .ok (.aload_n 0, 1) := by decide +kernel
theorem d_M_layFall_47 : decode b_M_layFall 47 = .ok (.getfield 114, 3) := by decide +kernel
theorem d_M_layFall_50 : decode b_M_layFall 50 = .ok (.aload_n 0, 1) := by decide +kernel
theorem d_M_layFall_51 : decode b_M_layFall 51 = .ok (.getfield 271, 3) := by decide +kernel
theorem d_M_layFall_54 : decode b_M_layFall 54 = .ok (.iload_n 3, 1) := by decide +kernel
theorem d_M_layFall_55 : decode b_M_layFall 55 = .ok (.iastore, 1) := by decide +kernel
theorem d_M_layFall_56 : decode b_M_layFall 56 = .ok (.aload_n 0, 1) := by decide +kernel
theorem d_M_layFall_57 : decode b_M_layFall 57 = .ok (.dup, 1) := by decide +kernel
theorem d_M_layFall_58 : decode b_M_layFall 58 = .ok (.getfield 271, 3) := by decide +kernel
theorem d_M_layFall_61 : decode b_M_layFall 61 = .ok (.iconst 1, 1) := by decide +kernel
theorem d_M_layFall_62 : decode b_M_layFall 62 = .ok (.iadd, 1) := by decide +kernel
theorem d_M_layFall_63 : decode b_M_layFall 63 = .ok (.putfield 271, 3) := by decide +kernel
theorem d_M_layFall_66 : decode b_M_layFall 66 = .ok (.aload_n 0, 1) := by decide +kernel
theorem d_M_layFall_67 : decode b_M_layFall 67 = .ok (.invokevirtual 196, 3) := by decide +kernel
theorem d_M_layFall_70 : decode b_M_layFall 70 = .ok (.aload_n 0, 1) := by decide +kernel
theorem d_M_layFall_71 : decode b_M_layFall 71 = .ok (.iload_n 2, 1) := by decide +kernel
theorem d_M_layFall_72 : decode b_M_layFall 72 = .ok (.invokevirtual 274, 3) := by decide +kernel
theorem d_M_layFall_75 : decode b_M_layFall 75 = .ok (.istore_n 3, 1) := by decide +kernel
theorem d_M_layFall_76 : decode b_M_layFall 76 = .ok (.goto (-43), 3) := by decide +kernel
theorem d_M_layFall_79 : decode b_M_layFall 79 = .ok (.return_, 1) := by decide +kernel
abbrev b_M_firstFalling : ByteArray := prog_7_method_57_code
abbrev y_M_firstFalling : MethodName := ⟨"OldBeamsModel", "firstFalling", "(I)I"⟩
theorem d_M_firstFalling_0 : decode b_M_firstFalling 0 = .ok (.iconst 0, 1) := by decide +kernel
theorem d_M_firstFalling_1 : decode b_M_firstFalling 1 = .ok (.istore_n 2, 1) := by decide +kernel
theorem d_M_firstFalling_2 : decode b_M_firstFalling 2 = .ok (.iload_n 2, 1) := by decide +kernel
theorem d_M_firstFalling_3 : decode b_M_firstFalling 3 = .ok (.aload_n 0, 1) := by decide +kernel
theorem d_M_firstFalling_4 : decode b_M_firstFalling 4 = .ok (.getfield 144, 3) := by decide +kernel
theorem d_M_firstFalling_7 : decode b_M_firstFalling 7 = .ok (.if_icmp .ge 36, 3) := by decide +kernel
theorem d_M_firstFalling_10 : decode b_M_firstFalling 10 = .ok (.aload_n 0, 1) := by decide +kernel
theorem d_M_firstFalling_11 : decode b_M_firstFalling 11 = .ok (.getfield 74, 3) := by decide +kernel
theorem d_M_firstFalling_14 : decode b_M_firstFalling 14 = .ok (.iload_n 2, 1) := by decide +kernel
theorem d_M_firstFalling_15 : decode b_M_firstFalling 15 = .ok (.baload, 1) := by decide +kernel
theorem d_M_firstFalling_16 : decode b_M_firstFalling 16 = .ok (.ifCond .ne 21, 3) := by decide +kernel
theorem d_M_firstFalling_19 : decode b_M_firstFalling 19 = .ok (.aload_n 0, 1) := by decide +kernel
theorem d_M_firstFalling_20 : decode b_M_firstFalling 20 = .ok (.iload_n 2, 1) := by decide +kernel
theorem d_M_firstFalling_21 : decode b_M_firstFalling 21 = .ok (.aload_n 0, 1) := by decide +kernel
theorem d_M_firstFalling_22 : decode b_M_firstFalling 22 = .ok (.iload_n 2, 1) := by decide +kernel
theorem d_M_firstFalling_23 : decode b_M_firstFalling 23 = .ok (.iload_n 1, 1) := by decide +kernel
theorem d_M_firstFalling_24 : decode b_M_firstFalling 24 = .ok (.iload_n 1, 1) := by decide +kernel
theorem d_M_firstFalling_25 : decode b_M_firstFalling 25 = .ok (.iconst 0, 1) := by decide +kernel
theorem d_M_firstFalling_26 : decode b_M_firstFalling 26 = .ok (.invokevirtual 245, 3) := by decide +kernel
theorem d_M_firstFalling_29 : decode b_M_firstFalling 29 = .ok (.invokevirtual 210, 3) := by decide +kernel
theorem d_M_firstFalling_32 : decode b_M_firstFalling 32 = .ok (.ifCond .ne 5, 3) := by decide +kernel
theorem d_M_firstFalling_35 : decode b_M_firstFalling 35 = .ok (.iload_n 2, 1) := by decide +kernel
theorem d_M_firstFalling_36 : decode b_M_firstFalling 36 = .ok (.ireturn, 1) := by decide +kernel
theorem d_M_firstFalling_37 : decode b_M_firstFalling 37 = .ok (.iinc 2 1, 3) := by decide +kernel
theorem d_M_firstFalling_40 : decode b_M_firstFalling 40 = .ok (.goto (-38), 3) := by decide +kernel
theorem d_M_firstFalling_43 : decode b_M_firstFalling 43 = .ok (.ldc 156, 2) := by decide +kernel
theorem d_M_firstFalling_45 : decode b_M_firstFalling 45 = .ok (.ireturn, 1) := by decide +kernel
abbrev b_M_chainAt : ByteArray := prog_7_method_59_code
abbrev y_M_chainAt : MethodName := ⟨"OldBeamsModel", "chainAt", "(III)I"⟩
theorem d_M_chainAt_0 : decode b_M_chainAt 0 = .ok (.aload_n 0, 1) := by decide +kernel
theorem d_M_chainAt_1 : decode b_M_chainAt 1 = .ok (.iload_n 1, 1) := by decide +kernel
theorem d_M_chainAt_2 : decode b_M_chainAt 2 = .ok (.iload_n 2, 1) := by decide +kernel
theorem d_M_chainAt_3 : decode b_M_chainAt 3 = .ok (.invokestatic 151, 3) := by decide +kernel
theorem d_M_chainAt_6 : decode b_M_chainAt 6 = .ok (.invokevirtual 206, 3) := by decide +kernel
theorem d_M_chainAt_9 : decode b_M_chainAt 9 = .ok (.istore 4, 2) := by decide +kernel
theorem d_M_chainAt_11 : decode b_M_chainAt 11 = .ok (.iload 4, 2) := by decide +kernel
theorem d_M_chainAt_13 : decode b_M_chainAt 13 = .ok (.ifCond .ge 6, 3) := by decide +kernel
theorem d_M_chainAt_16 : decode b_M_chainAt 16 = .ok (.iload 4, 2) := by decide +kernel
theorem d_M_chainAt_18 : decode b_M_chainAt 18 = .ok (.ireturn, 1) := by decide +kernel
theorem d_M_chainAt_19 : decode b_M_chainAt 19 = .ok (.aload_n 0, 1) := by decide +kernel
theorem d_M_chainAt_20 : decode b_M_chainAt 20 = .ok (.iload_n 1, 1) := by decide +kernel
theorem d_M_chainAt_21 : decode b_M_chainAt 21 = .ok (.iload_n 2, 1) := by decide +kernel
theorem d_M_chainAt_22 : decode b_M_chainAt 22 = .ok (.invokevirtual 277, 3) := by decide +kernel
theorem d_M_chainAt_25 : decode b_M_chainAt 25 = .ok (.iload_n 3, 1) := by decide +kernel
theorem d_M_chainAt_26 : decode b_M_chainAt 26 = .ok (.i2l, 1) := by decide +kernel
theorem d_M_chainAt_27 : decode b_M_chainAt 27 = .ok (.lconst 0, 1) := by decide +kernel
theorem d_M_chainAt_28 : decode b_M_chainAt 28 = .ok (.aload_n 0, 1) := by decide +kernel
theorem d_M_chainAt_29 : decode b_M_chainAt 29 = .ok (.getfield 271, 3) := by decide +kernel
theorem d_M_chainAt_32 : decode b_M_chainAt 32 = .ok (.iconst 1, 1) := by decide +kernel
theorem d_M_chainAt_33 : decode b_M_chainAt 33 = .ok (.isub, 1) := by decide +kernel
theorem d_M_chainAt_34 : decode b_M_chainAt 34 = .ok (.i2l, 1) := by decide +kernel
theorem d_M_chainAt_35 : decode b_M_chainAt 35 = .ok (.invokestatic 126, 3) := by decide +kernel
theorem d_M_chainAt_38 : decode b_M_chainAt 38 = .ok (.ifCond .eq 12, 3) := by decide +kernel
theorem d_M_chainAt_41 : decode b_M_chainAt 41 = .ok (.aload_n 0, 1) := by decide +kernel
theorem d_M_chainAt_42 : decode b_M_chainAt 42 = .ok (.getfield 114, 3) := by decide +kernel
theorem d_M_chainAt_45 : decode b_M_chainAt 45 = .ok (.iload_n 3, 1) := by decide +kernel
theorem d_M_chainAt_46 : decode b_M_chainAt 46 = .ok (.iaload, 1) := by decide +kernel
theorem d_M_chainAt_47 : decode b_M_chainAt 47 = .ok (.goto 5, 3) := by decide +kernel
theorem d_M_chainAt_50 : decode b_M_chainAt 50 = .ok (.ldc 156, 2) := by decide +kernel
theorem d_M_chainAt_52 : decode b_M_chainAt 52 = .ok (.ireturn, 1) := by decide +kernel
abbrev b_M_fewest : ByteArray := prog_7_method_63_code
abbrev y_M_fewest : MethodName := ⟨"OldBeamsModel", "fewest", "(I)I"⟩
theorem d_M_fewest_0 : decode b_M_fewest 0 = .ok (.iload_n 1, 1) := by decide +kernel
theorem d_M_fewest_1 : decode b_M_fewest 1 = .ok (.invokestatic 151, 3) := by decide +kernel
theorem d_M_fewest_4 : decode b_M_fewest 4 = .ok (.ifCond .ne 6, 3) := by decide +kernel
theorem d_M_fewest_7 : decode b_M_fewest 7 = .ok (.ldc 143, 2) := by decide +kernel
theorem d_M_fewest_9 : decode b_M_fewest 9 = .ok (.ireturn, 1) := by decide +kernel
theorem d_M_fewest_10 : decode b_M_fewest 10 = .ok (.aload_n 0, 1) := by decide +kernel
theorem d_M_fewest_11 : decode b_M_fewest 11 = .ok (.iload_n 1, 1) := by decide +kernel
theorem d_M_fewest_12 : decode b_M_fewest 12 = .ok (.invokevirtual 286, 3) := by decide +kernel
theorem d_M_fewest_15 : decode b_M_fewest 15 = .ok (.istore_n 2, 1) := by decide +kernel
theorem d_M_fewest_16 : decode b_M_fewest 16 = .ok (.iload_n 2, 1) := by decide +kernel
theorem d_M_fewest_17 : decode b_M_fewest 17 = .ok (.ldc 156, 2) := by decide +kernel
theorem d_M_fewest_19 : decode b_M_fewest 19 = .ok (.if_icmp .ne 8, 3) := by decide +kernel
theorem d_M_fewest_22 : decode b_M_fewest 22 = .ok (.ldc 156, 2) := by decide +kernel
theorem d_M_fewest_24 : decode b_M_fewest 24 = .ok (.goto 7, 3) := by decide +kernel
theorem d_M_fewest_27 : decode b_M_fewest 27 = .ok (.iload_n 2, 1) := by decide +kernel
theorem d_M_fewest_28 : decode b_M_fewest 28 = .ok (.invokestatic 280, 3) := by decide +kernel
theorem d_M_fewest_31 : decode b_M_fewest 31 = .ok (.ireturn, 1) := by decide +kernel
abbrev b_M_bestProps : ByteArray := prog_7_method_62_code
abbrev y_M_bestProps : MethodName := ⟨"OldBeamsModel", "bestProps", "(I)I"⟩
theorem d_M_bestProps_0 : decode b_M_bestProps 0 = .ok (.ldc 156, 2) := by decide +kernel
theorem d_M_bestProps_2 : decode b_M_bestProps 2 = .ok (.istore_n 2, 1) := by decide +kernel
theorem d_M_bestProps_3 : decode b_M_bestProps 3 = .ok (.iconst 0, 1) := by decide +kernel
theorem d_M_bestProps_4 : decode b_M_bestProps 4 = .ok (.istore_n 3, 1) := by decide +kernel
theorem d_M_bestProps_5 : decode b_M_bestProps 5 = .ok (.iload_n 3, 1) := by decide +kernel
theorem d_M_bestProps_6 : decode b_M_bestProps 6 = .ok (.iconst 1, 1) := by decide +kernel
theorem d_M_bestProps_7 : decode b_M_bestProps 7 = .ok (.aload_n 0, 1) := by decide +kernel
theorem d_M_bestProps_8 : decode b_M_bestProps 8 = .ok (.getfield 173, 3) := by decide +kernel
theorem d_M_bestProps_11 : decode b_M_bestProps 11 = .ok (.ishl, 1) := by decide +kernel
theorem d_M_bestProps_12 : decode b_M_bestProps 12 = .ok (.if_icmp .ge 121, 3) := by decide +kernel
theorem d_M_bestProps_15 : decode b_M_bestProps 15 = .ok (.iload_n 2, 1) := by decide +kernel
theorem d_M_bestProps_16 : decode b_M_bestProps 16 = .ok (.ldc 156, 2) := by decide +kernel
theorem d_M_bestProps_18 : decode b_M_bestProps 18 = .ok (.if_icmp .eq 33, 3) := by decide +kernel
theorem d_M_bestProps_21 : decode b_M_bestProps 21 = .ok (.iload_n 3, 1) := by decide +kernel
theorem d_M_bestProps_22 : decode b_M_bestProps 22 = .ok (.invokestatic 280, 3) := by decide +kernel
theorem d_M_bestProps_25 : decode b_M_bestProps 25 = .ok (.iload_n 2, 1) := by decide +kernel
theorem d_M_bestProps_26 : decode b_M_bestProps 26 = .ok (.invokestatic 280, 3) := by decide +kernel
theorem d_M_bestProps_29 : decode b_M_bestProps 29 = .ok (.if_icmp .lt 22, 3) := by decide +kernel
theorem d_M_bestProps_32 : decode b_M_bestProps 32 = .ok (.iload_n 3, 1) := by decide +kernel
theorem d_M_bestProps_33 : decode b_M_bestProps 33 = .ok (.invokestatic 280, 3) := by decide +kernel
theorem d_M_bestProps_36 : decode b_M_bestProps 36 = .ok (.iload_n 2, 1) := by decide +kernel
theorem d_M_bestProps_37 : decode b_M_bestProps 37 = .ok (.invokestatic 280, 3) := by decide +kernel
theorem d_M_bestProps_40 : decode b_M_bestProps 40 = .ok (.if_icmp .ne 15, 3) := by decide +kernel
theorem d_M_bestProps_43 : decode b_M_bestProps 43 = .ok (.iload_n 3, 1) := by decide +kernel
theorem d_M_bestProps_44 : decode b_M_bestProps 44 = .ok (.iload_n 2, 1) := by decide +kernel
theorem d_M_bestProps_45 : decode b_M_bestProps 45 = .ok (.invokestatic 283, 3) := by decide +kernel
theorem d_M_bestProps_48 : decode b_M_bestProps 48 = .ok (.ifCond .eq 7, 3) := by decide +kernel
theorem d_M_bestProps_51 : decode b_M_bestProps 51 = .ok (.iconst 1, 1) := by decide +kernel
theorem d_M_bestProps_52 : decode b_M_bestProps 52 = .ok (.goto 4, 3) := by decide +kernel
theorem d_M_bestProps_55 : decode b_M_bestProps 55 = .ok (.iconst 0, 1) := by decide +kernel
theorem d_M_bestProps_56 : decode b_M_bestProps 56 = .ok (.istore 4, 2) := by decide +kernel
theorem d_M_bestProps_58 : decode b_M_bestProps 58 = .ok (.aload_n 0, 1) := by decide +kernel
theorem d_M_bestProps_59 : decode b_M_bestProps 59 = .ok (.invokevirtual 193, 3) := by decide +kernel
theorem d_M_bestProps_62 : decode b_M_bestProps 62 = .ok (.iconst 0, 1) := by decide +kernel
theorem d_M_bestProps_63 : decode b_M_bestProps 63 = .ok (.istore 5, 2) := by decide +kernel
theorem d_M_bestProps_65 : decode b_M_bestProps 65 = .ok (.iload 5, 2) := by decide +kernel
theorem d_M_bestProps_67 : decode b_M_bestProps 67 = .ok (.aload_n 0, 1) := by decide +kernel
theorem d_M_bestProps_68 : decode b_M_bestProps 68 = .ok (.getfield 173, 3) := by decide +kernel
theorem d_M_bestProps_71 : decode b_M_bestProps 71 = .ok (.if_icmp .ge 31, 3) := by decide +kernel
theorem d_M_bestProps_74 : decode b_M_bestProps 74 = .ok (.aload_n 0, 1) := by decide +kernel
theorem d_M_bestProps_75 : decode b_M_bestProps 75 = .ok (.getfield 71, 3) := by decide +kernel
theorem d_M_bestProps_78 : decode b_M_bestProps 78 = .ok (.iload 5, 2) := by decide +kernel
theorem d_M_bestProps_80 : decode b_M_bestProps 80 = .ok (.iload_n 3, 1) := by decide +kernel
theorem d_M_bestProps_81 : decode b_M_bestProps 81 = .ok (.iload 5, 2) := by decide +kernel
theorem d_M_bestProps_83 : decode b_M_bestProps 83 = .ok (.ishr, 1) := by decide +kernel
theorem d_M_bestProps_84 : decode b_M_bestProps 84 = .ok (.iconst 1, 1) := by decide +kernel
theorem d_M_bestProps_85 : decode b_M_bestProps 85 = .ok (.iand, 1) := by decide +kernel
theorem d_M_bestProps_86 : decode b_M_bestProps 86 = .ok (.iconst 1, 1) := by decide +kernel
theorem d_M_bestProps_87 : decode b_M_bestProps 87 = .ok (.if_icmp .ne 7, 3) := by decide +kernel
theorem d_M_bestProps_90 : decode b_M_bestProps 90 = .ok (.iconst 1, 1) := by decide +kernel
theorem d_M_bestProps_91 : decode b_M_bestProps 91 = .ok (.goto 4, 3) := by decide +kernel
theorem d_M_bestProps_94 : decode b_M_bestProps 94 = .ok (.iconst 0, 1) := by decide +kernel
theorem d_M_bestProps_95 : decode b_M_bestProps 95 = .ok (.bastore, 1) := by decide +kernel
theorem d_M_bestProps_96 : decode b_M_bestProps 96 = .ok (.iinc 5 1, 3) := by decide +kernel
theorem d_M_bestProps_99 : decode b_M_bestProps 99 = .ok (.goto (-34), 3) := by decide +kernel
theorem d_M_bestProps_102 : decode b_M_bestProps 102 = .ok (.iload 4, 2) := by decide +kernel
theorem d_M_bestProps_104 : decode b_M_bestProps 104 = .ok (.ifCond .eq 23, 3) := by decide +kernel
theorem d_M_bestProps_107 : decode b_M_bestProps 107 = .ok (.aload_n 0, 1) := by decide +kernel
theorem d_M_bestProps_108 : decode b_M_bestProps 108 = .ok (.invokevirtual 196, 3) := by decide +kernel
theorem d_M_bestProps_111 : decode b_M_bestProps 111 = .ok (.aload_n 0, 1) := by decide +kernel
theorem d_M_bestProps_112 : decode b_M_bestProps 112 = .ok (.iload_n 1, 1) := by decide +kernel
theorem d_M_bestProps_113 : decode b_M_bestProps 113 = .ok (.iload_n 1, 1) := by decide +kernel
theorem d_M_bestProps_114 : decode b_M_bestProps 114 = .ok (.iconst 0, 1) := by decide +kernel
theorem d_M_bestProps_115 : decode b_M_bestProps 115 = .ok (.invokevirtual 249, 3) := by decide +kernel
theorem d_M_bestProps_118 : decode b_M_bestProps 118 = .ok (.ifCond .eq 7, 3) := by decide +kernel
theorem d_M_bestProps_121 : decode b_M_bestProps 121 = .ok (.iload_n 3, 1) := by decide +kernel
theorem d_M_bestProps_122 : decode b_M_bestProps 122 = .ok (.goto 4, 3) := by decide +kernel
theorem d_M_bestProps_125 : decode b_M_bestProps 125 = .ok (.iload_n 2, 1) := by decide +kernel
theorem d_M_bestProps_126 : decode b_M_bestProps 126 = .ok (.istore_n 2, 1) := by decide +kernel
theorem d_M_bestProps_127 : decode b_M_bestProps 127 = .ok (.iinc 3 1, 3) := by decide +kernel
theorem d_M_bestProps_130 : decode b_M_bestProps 130 = .ok (.goto (-125), 3) := by decide +kernel
theorem d_M_bestProps_133 : decode b_M_bestProps 133 = .ok (.iload_n 2, 1) := by decide +kernel
theorem d_M_bestProps_134 : decode b_M_bestProps 134 = .ok (.ireturn, 1) := by decide +kernel
abbrev b_M_ones : ByteArray := prog_7_method_60_code
abbrev y_M_ones : MethodName := ⟨"OldBeamsModel", "ones", "(I)I"⟩
theorem d_M_ones_0 : decode b_M_ones 0 = .ok (.iconst 0, 1) := by decide +kernel
theorem d_M_ones_1 : decode b_M_ones 1 = .ok (.istore_n 1, 1) := by decide +kernel
theorem d_M_ones_2 : decode b_M_ones 2 = .ok (.iconst 0, 1) := by decide +kernel
theorem d_M_ones_3 : decode b_M_ones 3 = .ok (.istore_n 2, 1) := by decide +kernel
theorem d_M_ones_4 : decode b_M_ones 4 = .ok (.iload_n 2, 1) := by decide +kernel
theorem d_M_ones_5 : decode b_M_ones 5 = .ok (.bipush 8, 2) := by decide +kernel
theorem d_M_ones_7 : decode b_M_ones 7 = .ok (.if_icmp .ge 17, 3) := by decide +kernel
theorem d_M_ones_10 : decode b_M_ones 10 = .ok (.iload_n 1, 1) := by decide +kernel
theorem d_M_ones_11 : decode b_M_ones 11 = .ok (.iload_n 0, 1) := by decide +kernel
theorem d_M_ones_12 : decode b_M_ones 12 = .ok (.iload_n 2, 1) := by decide +kernel
theorem d_M_ones_13 : decode b_M_ones 13 = .ok (.ishr, 1) := by decide +kernel
theorem d_M_ones_14 : decode b_M_ones 14 = .ok (.iconst 1, 1) := by decide +kernel
theorem d_M_ones_15 : decode b_M_ones 15 = .ok (.iand, 1) := by decide +kernel
theorem d_M_ones_16 : decode b_M_ones 16 = .ok (.iadd, 1) := by decide +kernel
theorem d_M_ones_17 : decode b_M_ones 17 = .ok (.istore_n 1, 1) := by decide +kernel
theorem d_M_ones_18 : decode b_M_ones 18 = .ok (.iinc 2 1, 3) := by decide +kernel
theorem d_M_ones_21 : decode b_M_ones 21 = .ok (.goto (-17), 3) := by decide +kernel
theorem d_M_ones_24 : decode b_M_ones 24 = .ok (.iload_n 1, 1) := by decide +kernel
theorem d_M_ones_25 : decode b_M_ones 25 = .ok (.ireturn, 1) := by decide +kernel
abbrev b_M_isFirst : ByteArray := prog_7_method_61_code
abbrev y_M_isFirst : MethodName := ⟨"OldBeamsModel", "isFirst", "(II)Z"⟩
theorem d_M_isFirst_0 : decode b_M_isFirst 0 = .ok (.iload_n 0, 1) := by decide +kernel
theorem d_M_isFirst_1 : decode b_M_isFirst 1 = .ok (.iload_n 1, 1) := by decide +kernel
theorem d_M_isFirst_2 : decode b_M_isFirst 2 = .ok (.ixor, 1) := by decide +kernel
theorem d_M_isFirst_3 : decode b_M_isFirst 3 = .ok (.istore_n 2, 1) := by decide +kernel
theorem d_M_isFirst_4 : decode b_M_isFirst 4 = .ok (.iload_n 0, 1) := by decide +kernel
theorem d_M_isFirst_5 : decode b_M_isFirst 5 = .ok (.iload_n 2, 1) := by decide +kernel
theorem d_M_isFirst_6 : decode b_M_isFirst 6 = .ok (.iand, 1) := by decide +kernel
theorem d_M_isFirst_7 : decode b_M_isFirst 7 = .ok (.iload_n 2, 1) := by decide +kernel
theorem d_M_isFirst_8 : decode b_M_isFirst 8 = .ok (.ineg, 1) := by decide +kernel
theorem d_M_isFirst_9 : decode b_M_isFirst 9 = .ok (.iand, 1) := by decide +kernel
theorem d_M_isFirst_10 : decode b_M_isFirst 10 = .ok (.ifCond .eq 7, 3) := by decide +kernel
theorem d_M_isFirst_13 : decode b_M_isFirst 13 = .ok (.iconst 1, 1) := by decide +kernel
theorem d_M_isFirst_14 : decode b_M_isFirst 14 = .ok (.goto 4, 3) := by decide +kernel
theorem d_M_isFirst_17 : decode b_M_isFirst 17 = .ok (.iconst 0, 1) := by decide +kernel
theorem d_M_isFirst_18 : decode b_M_isFirst 18 = .ok (.ireturn, 1) := by decide +kernel
abbrev b_M_needed : ByteArray := prog_7_method_64_code
abbrev y_M_needed : MethodName := ⟨"OldBeamsModel", "needed", "(II)I"⟩
theorem d_M_needed_0 : decode b_M_needed 0 = .ok (.iload_n 1, 1) := by decide +kernel
theorem d_M_needed_1 : decode b_M_needed 1 = .ok (.invokestatic 151, 3) := by decide +kernel
theorem d_M_needed_4 : decode b_M_needed 4 = .ok (.ifCond .ne 6, 3) := by decide +kernel
theorem d_M_needed_7 : decode b_M_needed 7 = .ok (.ldc 143, 2) := by decide +kernel
theorem d_M_needed_9 : decode b_M_needed 9 = .ok (.ireturn, 1) := by decide +kernel
theorem d_M_needed_10 : decode b_M_needed 10 = .ok (.aload_n 0, 1) := by decide +kernel
theorem d_M_needed_11 : decode b_M_needed 11 = .ok (.iload_n 1, 1) := by decide +kernel
theorem d_M_needed_12 : decode b_M_needed 12 = .ok (.invokevirtual 286, 3) := by decide +kernel
theorem d_M_needed_15 : decode b_M_needed 15 = .ok (.istore_n 3, 1) := by decide +kernel
theorem d_M_needed_16 : decode b_M_needed 16 = .ok (.iload_n 2, 1) := by decide +kernel
theorem d_M_needed_17 : decode b_M_needed 17 = .ok (.istore 4, 2) := by decide +kernel
theorem d_M_needed_19 : decode b_M_needed 19 = .ok (.iconst 0, 1) := by decide +kernel
theorem d_M_needed_20 : decode b_M_needed 20 = .ok (.istore 5, 2) := by decide +kernel
theorem d_M_needed_22 : decode b_M_needed 22 = .ok (.iload 5, 2) := by decide +kernel
theorem d_M_needed_24 : decode b_M_needed 24 = .ok (.aload_n 0, 1) := by decide +kernel
theorem d_M_needed_25 : decode b_M_needed 25 = .ok (.getfield 173, 3) := by decide +kernel
theorem d_M_needed_28 : decode b_M_needed 28 = .ok (.if_icmp .ge 40, 3) := by decide +kernel
theorem d_M_needed_31 : decode b_M_needed 31 = .ok (.iload_n 3, 1) := by decide +kernel
theorem d_M_needed_32 : decode b_M_needed 32 = .ok (.ldc 156, 2) := by decide +kernel
theorem d_M_needed_34 : decode b_M_needed 34 = .ok (.if_icmp .eq 34, 3) := by decide +kernel
theorem d_M_needed_37 : decode b_M_needed 37 = .ok (.iload_n 2, 1) := by decide +kernel
theorem d_M_needed_38 : decode b_M_needed 38 = .ok (.ifCond .lt 30, 3) := by decide +kernel
theorem d_M_needed_41 : decode b_M_needed 41 = .ok (.iload_n 3, 1) := by decide +kernel
theorem d_M_needed_42 : decode b_M_needed 42 = .ok (.iload 5, 2) := by decide +kernel
theorem d_M_needed_44 : decode b_M_needed 44 = .ok (.ishr, 1) := by decide +kernel
theorem d_M_needed_45 : decode b_M_needed 45 = .ok (.iconst 1, 1) := by decide +kernel
theorem d_M_needed_46 : decode b_M_needed 46 = .ok (.iand, 1) := by decide +kernel
theorem d_M_needed_47 : decode b_M_needed 47 = .ok (.iconst 1, 1) := by decide +kernel
theorem d_M_needed_48 : decode b_M_needed 48 = .ok (.if_icmp .ne 14, 3) := by decide +kernel
theorem d_M_needed_51 : decode b_M_needed 51 = .ok (.iload 4, 2) := by decide +kernel
theorem d_M_needed_53 : decode b_M_needed 53 = .ok (.ifCond .ne 6, 3) := by decide +kernel
theorem d_M_needed_56 : decode b_M_needed 56 = .ok (.iload 5, 2) := by decide +kernel
theorem d_M_needed_58 : decode b_M_needed 58 = .ok (.ireturn, 1) := by decide +kernel
theorem d_M_needed_59 : decode b_M_needed 59 = .ok (.iinc 4 (-1), 3) := by decide +kernel
theorem d_M_needed_62 : decode b_M_needed 62 = .ok (.iinc 5 1, 3) := by decide +kernel
theorem d_M_needed_65 : decode b_M_needed 65 = .ok (.goto (-43), 3) := by decide +kernel
theorem d_M_needed_68 : decode b_M_needed 68 = .ok (.ldc 156, 2) := by decide +kernel
theorem d_M_needed_70 : decode b_M_needed 70 = .ok (.ireturn, 1) := by decide +kernel
abbrev b_M_price : ByteArray := prog_7_method_65_code
abbrev y_M_price : MethodName := ⟨"OldBeamsModel", "price", "(II)I"⟩
theorem d_M_price_0 : decode b_M_price 0 = .ok (.iload_n 1, 1) := by decide +kernel
theorem d_M_price_1 : decode b_M_price 1 = .ok (.i2l, 1) := by decide +kernel
theorem d_M_price_2 : decode b_M_price 2 = .ok (.lconst 0, 1) := by decide +kernel
theorem d_M_price_3 : decode b_M_price 3 = .ok (.lconst 1, 1) := by decide +kernel
theorem d_M_price_4 : decode b_M_price 4 = .ok (.invokestatic 126, 3) := by decide +kernel
theorem d_M_price_7 : decode b_M_price 7 = .ok (.ifCond .eq 15, 3) := by decide +kernel
theorem d_M_price_10 : decode b_M_price 10 = .ok (.iload_n 2, 1) := by decide +kernel
theorem d_M_price_11 : decode b_M_price 11 = .ok (.i2l, 1) := by decide +kernel
theorem d_M_price_12 : decode b_M_price 12 = .ok (.lconst 0, 1) := by decide +kernel
theorem d_M_price_13 : decode b_M_price 13 = .ok (.ldc2_w 168, 3) := by decide +kernel
theorem d_M_price_16 : decode b_M_price 16 = .ok (.invokestatic 126, 3) := by decide +kernel
theorem d_M_price_19 : decode b_M_price 19 = .ok (.ifCond .ne 6, 3) := by decide +kernel
theorem d_M_price_22 : decode b_M_price 22 = .ok (.ldc 143, 2) := by decide +kernel
theorem d_M_price_24 : decode b_M_price 24 = .ok (.ireturn, 1) := by decide +kernel
theorem d_M_price_25 : decode b_M_price 25 = .ok (.iload_n 1, 1) := by decide +kernel
theorem d_M_price_26 : decode b_M_price 26 = .ok (.ifCond .ne 10, 3) := by decide +kernel
theorem d_M_price_29 : decode b_M_price 29 = .ok (.aload_n 0, 1) := by decide +kernel
theorem d_M_price_30 : decode b_M_price 30 = .ok (.getfield 117, 3) := by decide +kernel
theorem d_M_price_33 : decode b_M_price 33 = .ok (.goto 7, 3) := by decide +kernel
theorem d_M_price_36 : decode b_M_price 36 = .ok (.aload_n 0, 1) := by decide +kernel
theorem d_M_price_37 : decode b_M_price 37 = .ok (.getfield 121, 3) := by decide +kernel
theorem d_M_price_40 : decode b_M_price 40 = .ok (.istore_n 3, 1) := by decide +kernel
theorem d_M_price_41 : decode b_M_price 41 = .ok (.aload_n 0, 1) := by decide +kernel
theorem d_M_price_42 : decode b_M_price 42 = .ok (.iload_n 1, 1) := by decide +kernel
theorem d_M_price_43 : decode b_M_price 43 = .ok (.ifCond .ne 7, 3) := by decide +kernel
theorem d_M_price_46 : decode b_M_price 46 = .ok (.iload_n 2, 1) := by decide +kernel
theorem d_M_price_47 : decode b_M_price 47 = .ok (.goto 7, 3) := by decide +kernel
theorem d_M_price_50 : decode b_M_price 50 = .ok (.aload_n 0, 1) := by decide +kernel
theorem d_M_price_51 : decode b_M_price 51 = .ok (.getfield 117, 3) := by decide +kernel
theorem d_M_price_54 : decode b_M_price 54 = .ok (.putfield 117, 3) := by decide +kernel
theorem d_M_price_57 : decode b_M_price 57 = .ok (.aload_n 0, 1) := by decide +kernel
theorem d_M_price_58 : decode b_M_price 58 = .ok (.iload_n 1, 1) := by decide +kernel
theorem d_M_price_59 : decode b_M_price 59 = .ok (.iconst 1, 1) := by decide +kernel
theorem d_M_price_60 : decode b_M_price 60 = .ok (.if_icmp .ne 7, 3) := by decide +kernel
theorem d_M_price_63 : decode b_M_price 63 = .ok (.iload_n 2, 1) := by decide +kernel
theorem d_M_price_64 : decode b_M_price 64 = .ok (.goto 7, 3) := by decide +kernel
theorem d_M_price_67 : decode b_M_price 67 = .ok (.aload_n 0, 1) := by decide +kernel
theorem d_M_price_68 : decode b_M_price 68 = .ok (.getfield 121, 3) := by decide +kernel
theorem d_M_price_71 : decode b_M_price 71 = .ok (.putfield 121, 3) := by decide +kernel
theorem d_M_price_74 : decode b_M_price 74 = .ok (.iload_n 3, 1) := by decide +kernel
theorem d_M_price_75 : decode b_M_price 75 = .ok (.ireturn, 1) := by decide +kernel
abbrev b_M_mean : ByteArray := prog_7_method_67_code
abbrev y_M_mean : MethodName := ⟨"OldBeamsModel", "mean", "(IIZ)J"⟩
theorem d_M_mean_0 : decode b_M_mean 0 = .ok (.aload_n 0, 1) := by decide +kernel
theorem d_M_mean_1 : decode b_M_mean 1 = .ok (.iload_n 1, 1) := by decide +kernel
theorem d_M_mean_2 : decode b_M_mean 2 = .ok (.iload_n 2, 1) := by decide +kernel
theorem d_M_mean_3 : decode b_M_mean 3 = .ok (.invokestatic 151, 3) := by decide +kernel
theorem d_M_mean_6 : decode b_M_mean 6 = .ok (.invokevirtual 206, 3) := by decide +kernel
theorem d_M_mean_9 : decode b_M_mean 9 = .ok (.istore 4, 2) := by decide +kernel
theorem d_M_mean_11 : decode b_M_mean 11 = .ok (.iload 4, 2) := by decide +kernel
theorem d_M_mean_13 : decode b_M_mean 13 = .ok (.ifCond .ge 7, 3) := by decide +kernel
theorem d_M_mean_16 : decode b_M_mean 16 = .ok (.iload 4, 2) := by decide +kernel
theorem d_M_mean_18 : decode b_M_mean 18 = .ok (.i2l, 1) := by decide +kernel
theorem d_M_mean_19 : decode b_M_mean 19 = .ok (.lreturn, 1) := by decide +kernel
theorem d_M_mean_20 : decode b_M_mean 20 = .ok (.aload_n 0, 1) := by decide +kernel
theorem d_M_mean_21 : decode b_M_mean 21 = .ok (.iload_n 1, 1) := by decide +kernel
theorem d_M_mean_22 : decode b_M_mean 22 = .ok (.iload_n 2, 1) := by decide +kernel
theorem d_M_mean_23 : decode b_M_mean 23 = .ok (.invokevirtual 260, 3) := by decide +kernel
theorem d_M_mean_26 : decode b_M_mean 26 = .ok (.aload_n 0, 1) := by decide +kernel
theorem d_M_mean_27 : decode b_M_mean 27 = .ok (.aload_n 0, 1) := by decide +kernel
theorem d_M_mean_28 : decode b_M_mean 28 = .ok (.getfield 257, 3) := by decide +kernel
theorem d_M_mean_31 : decode b_M_mean 31 = .ok (.aload_n 0, 1) := by decide +kernel
theorem d_M_mean_32 : decode b_M_mean 32 = .ok (.getfield 253, 3) := by decide +kernel
theorem d_M_mean_35 : decode b_M_mean 35 = .ok (.invokevirtual 289, 3) := by decide +kernel
theorem d_M_mean_38 : decode b_M_mean 38 = .ok (.aload_n 0, 1) := by decide +kernel
theorem d_M_mean_39 : decode b_M_mean 39 = .ok (.getfield 257, 3) := by decide +kernel
theorem d_M_mean_42 : decode b_M_mean 42 = .ok (.iload_n 3, 1) := by decide +kernel
theorem d_M_mean_43 : decode b_M_mean 43 = .ok (.invokestatic 263, 3) := by decide +kernel
theorem d_M_mean_46 : decode b_M_mean 46 = .ok (.lreturn, 1) := by decide +kernel
abbrev b_M_least : ByteArray := prog_7_method_66_code
abbrev y_M_least : MethodName := ⟨"OldBeamsModel", "least", "(JJ)J"⟩
theorem d_M_least_0 : decode b_M_least 0 = .ok (.aload_n 0, 1) := by decide +kernel
theorem d_M_least_1 : decode b_M_least 1 = .ok (.getfield 117, 3) := by decide +kernel
theorem d_M_least_4 : decode b_M_least 4 = .ok (.i2l, 1) := by decide +kernel
theorem d_M_least_5 : decode b_M_least 5 = .ok (.lload_n 1, 1) := by decide +kernel
theorem d_M_least_6 : decode b_M_least 6 = .ok (.lmul, 1) := by decide +kernel
theorem d_M_least_7 : decode b_M_least 7 = .ok (.lstore 5, 2) := by decide +kernel
theorem d_M_least_9 : decode b_M_least 9 = .ok (.aload_n 0, 1) := by decide +kernel
theorem d_M_least_10 : decode b_M_least 10 = .ok (.getfield 121, 3) := by decide +kernel
theorem d_M_least_13 : decode b_M_least 13 = .ok (.i2l, 1) := by decide +kernel
theorem d_M_least_14 : decode b_M_least 14 = .ok (.lload_n 1, 1) := by decide +kernel
theorem d_M_least_15 : decode b_M_least 15 = .ok (.lload_n 3, 1) := by decide +kernel
theorem d_M_least_16 : decode b_M_least 16 = .ok (.lsub, 1) := by decide +kernel
theorem d_M_least_17 : decode b_M_least 17 = .ok (.lmul, 1) := by decide +kernel
theorem d_M_least_18 : decode b_M_least 18 = .ok (.lstore 7, 2) := by decide +kernel
theorem d_M_least_20 : decode b_M_least 20 = .ok (.lload 5, 2) := by decide +kernel
theorem d_M_least_22 : decode b_M_least 22 = .ok (.lload 7, 2) := by decide +kernel
theorem d_M_least_24 : decode b_M_least 24 = .ok (.lcmp, 1) := by decide +kernel
theorem d_M_least_25 : decode b_M_least 25 = .ok (.ifCond .ge 8, 3) := by decide +kernel
theorem d_M_least_28 : decode b_M_least 28 = .ok (.lload 5, 2) := by decide +kernel
theorem d_M_least_30 : decode b_M_least 30 = .ok (.goto 5, 3) := by decide +kernel
theorem d_M_least_33 : decode b_M_least 33 = .ok (.lload 7, 2) := by decide +kernel
theorem d_M_least_35 : decode b_M_least 35 = .ok (.lreturn, 1) := by decide +kernel
abbrev b_M_worth : ByteArray := prog_7_method_69_code
abbrev y_M_worth : MethodName := ⟨"OldBeamsModel", "worth", "(IIIZ)J"⟩
theorem d_M_worth_0 : decode b_M_worth 0 = .ok (.aload_n 0, 1) := by decide +kernel
theorem d_M_worth_1 : decode b_M_worth 1 = .ok (.iload_n 1, 1) := by decide +kernel
theorem d_M_worth_2 : decode b_M_worth 2 = .ok (.invokevirtual 157, 3) := by decide +kernel
theorem d_M_worth_5 : decode b_M_worth 5 = .ok (.ifCond .eq 15, 3) := by decide +kernel
theorem d_M_worth_8 : decode b_M_worth 8 = .ok (.iload_n 2, 1) := by decide +kernel
theorem d_M_worth_9 : decode b_M_worth 9 = .ok (.i2l, 1) := by decide +kernel
theorem d_M_worth_10 : decode b_M_worth 10 = .ok (.lconst 0, 1) := by decide +kernel
theorem d_M_worth_11 : decode b_M_worth 11 = .ok (.ldc2_w 134, 3) := by decide +kernel
theorem d_M_worth_14 : decode b_M_worth 14 = .ok (.invokestatic 126, 3) := by decide +kernel
theorem d_M_worth_17 : decode b_M_worth 17 = .ok (.ifCond .ne 7, 3) := by decide +kernel
theorem d_M_worth_20 : decode b_M_worth 20 = .ok (.ldc2_w 234, 3) := by decide +kernel
theorem d_M_worth_23 : decode b_M_worth 23 = .ok (.lreturn, 1) := by decide +kernel
theorem d_M_worth_24 : decode b_M_worth 24 = .ok (.aload_n 0, 1) := by decide +kernel
theorem d_M_worth_25 : decode b_M_worth 25 = .ok (.iload_n 1, 1) := by decide +kernel
theorem d_M_worth_26 : decode b_M_worth 26 = .ok (.iload_n 3, 1) := by decide +kernel
theorem d_M_worth_27 : decode b_M_worth 27 = .ok (.invokestatic 151, 3) := by decide +kernel
theorem d_M_worth_30 : decode b_M_worth 30 = .ok (.invokevirtual 206, 3) := by decide +kernel
theorem d_M_worth_33 : decode b_M_worth 33 = .ok (.istore 5, 2) := by decide +kernel
theorem d_M_worth_35 : decode b_M_worth 35 = .ok (.iload 5, 2) := by decide +kernel
theorem d_M_worth_37 : decode b_M_worth 37 = .ok (.ifCond .ge 7, 3) := by decide +kernel
theorem d_M_worth_40 : decode b_M_worth 40 = .ok (.iload 5, 2) := by decide +kernel
theorem d_M_worth_42 : decode b_M_worth 42 = .ok (.i2l, 1) := by decide +kernel
theorem d_M_worth_43 : decode b_M_worth 43 = .ok (.lreturn, 1) := by decide +kernel
theorem d_M_worth_44 : decode b_M_worth 44 = .ok (.aload_n 0, 1) := by decide +kernel
theorem d_M_worth_45 : decode b_M_worth 45 = .ok (.iload_n 1, 1) := by decide +kernel
theorem d_M_worth_46 : decode b_M_worth 46 = .ok (.iload_n 3, 1) := by decide +kernel
theorem d_M_worth_47 : decode b_M_worth 47 = .ok (.invokevirtual 260, 3) := by decide +kernel
theorem d_M_worth_50 : decode b_M_worth 50 = .ok (.aload_n 0, 1) := by decide +kernel
theorem d_M_worth_51 : decode b_M_worth 51 = .ok (.iload_n 1, 1) := by decide +kernel
theorem d_M_worth_52 : decode b_M_worth 52 = .ok (.iload_n 2, 1) := by decide +kernel
theorem d_M_worth_53 : decode b_M_worth 53 = .ok (.invokevirtual 292, 3) := by decide +kernel
theorem d_M_worth_56 : decode b_M_worth 56 = .ok (.ldc2_w 222, 3) := by decide +kernel
theorem d_M_worth_59 : decode b_M_worth 59 = .ok (.aload_n 0, 1) := by decide +kernel
theorem d_M_worth_60 : decode b_M_worth 60 = .ok (.getfield 257, 3) := by decide +kernel
theorem d_M_worth_63 : decode b_M_worth 63 = .ok (.lmul, 1) := by decide +kernel
theorem d_M_worth_64 : decode b_M_worth 64 = .ok (.iload 4, 2) := by decide +kernel
theorem d_M_worth_66 : decode b_M_worth 66 = .ok (.invokestatic 263, 3) := by decide +kernel
theorem d_M_worth_69 : decode b_M_worth 69 = .ok (.lreturn, 1) := by decide +kernel
abbrev b_M_worthOf : ByteArray := prog_7_method_68_code
abbrev y_M_worthOf : MethodName := ⟨"OldBeamsModel", "worthOf", "(II)J"⟩
theorem d_M_worthOf_0 : decode b_M_worthOf 0 = .ok (.ldc2_w 222, 3) := by decide +kernel
theorem d_M_worthOf_3 : decode b_M_worthOf 3 = .ok (.aload_n 0, 1) := by decide +kernel
theorem d_M_worthOf_4 : decode b_M_worthOf 4 = .ok (.aload_n 0, 1) := by decide +kernel
theorem d_M_worthOf_5 : decode b_M_worthOf 5 = .ok (.getfield 257, 3) := by decide +kernel
theorem d_M_worthOf_8 : decode b_M_worthOf 8 = .ok (.aload_n 0, 1) := by decide +kernel
theorem d_M_worthOf_9 : decode b_M_worthOf 9 = .ok (.getfield 253, 3) := by decide +kernel
theorem d_M_worthOf_12 : decode b_M_worthOf 12 = .ok (.invokevirtual 289, 3) := by decide +kernel
theorem d_M_worthOf_15 : decode b_M_worthOf 15 = .ok (.lmul, 1) := by decide +kernel
theorem d_M_worthOf_16 : decode b_M_worthOf 16 = .ok (.lstore_n 3, 1) := by decide +kernel
theorem d_M_worthOf_17 : decode b_M_worthOf 17 = .ok (.iconst 0, 1) := by decide +kernel
theorem d_M_worthOf_18 : decode b_M_worthOf 18 = .ok (.istore 5, 2) := by decide +kernel
theorem d_M_worthOf_20 : decode b_M_worthOf 20 = .ok (.iload 5, 2) := by decide +kernel
theorem d_M_worthOf_22 : decode b_M_worthOf 22 = .ok (.iconst 2, 1) := by decide +kernel
theorem d_M_worthOf_23 : decode b_M_worthOf 23 = .ok (.if_icmp .ge 90, 3) := by decide +kernel
theorem d_M_worthOf_26 : decode b_M_worthOf 26 = .ok (.lconst 0, 1) := by decide +kernel
theorem d_M_worthOf_27 : decode b_M_worthOf 27 = .ok (.lstore 6, 2) := by decide +kernel
theorem d_M_worthOf_29 : decode b_M_worthOf 29 = .ok (.lconst 0, 1) := by decide +kernel
theorem d_M_worthOf_30 : decode b_M_worthOf 30 = .ok (.lstore 8, 2) := by decide +kernel
theorem d_M_worthOf_32 : decode b_M_worthOf 32 = .ok (.iconst 0, 1) := by decide +kernel
theorem d_M_worthOf_33 : decode b_M_worthOf 33 = .ok (.istore 10, 2) := by decide +kernel
theorem d_M_worthOf_35 : decode b_M_worthOf 35 = .ok (.iload 10, 2) := by decide +kernel
theorem d_M_worthOf_37 : decode b_M_worthOf 37 = .ok (.bipush 11, 2) := by decide +kernel
theorem d_M_worthOf_39 : decode b_M_worthOf 39 = .ok (.if_icmp .ge 57, 3) := by decide +kernel
theorem d_M_worthOf_42 : decode b_M_worthOf 42 = .ok (.aload_n 0, 1) := by decide +kernel
theorem d_M_worthOf_43 : decode b_M_worthOf 43 = .ok (.getfield 108, 3) := by decide +kernel
theorem d_M_worthOf_46 : decode b_M_worthOf 46 = .ok (.iload 10, 2) := by decide +kernel
theorem d_M_worthOf_48 : decode b_M_worthOf 48 = .ok (.laload, 1) := by decide +kernel
theorem d_M_worthOf_49 : decode b_M_worthOf 49 = .ok (.aload_n 0, 1) := by decide +kernel
theorem d_M_worthOf_50 : decode b_M_worthOf 50 = .ok (.iload_n 2, 1) := by decide +kernel
theorem d_M_worthOf_51 : decode b_M_worthOf 51 = .ok (.iload 5, 2) := by decide +kernel
theorem d_M_worthOf_53 : decode b_M_worthOf 53 = .ok (.iload 10, 2) := by decide +kernel
theorem d_M_worthOf_55 : decode b_M_worthOf 55 = .ok (.invokevirtual 230, 3) := by decide +kernel
theorem d_M_worthOf_58 : decode b_M_worthOf 58 = .ok (.i2l, 1) := by decide +kernel
theorem d_M_worthOf_59 : decode b_M_worthOf 59 = .ok (.lmul, 1) := by decide +kernel
theorem d_M_worthOf_60 : decode b_M_worthOf 60 = .ok (.lstore 11, 2) := by decide +kernel
theorem d_M_worthOf_62 : decode b_M_worthOf 62 = .ok (.lload 6, 2) := by decide +kernel
theorem d_M_worthOf_64 : decode b_M_worthOf 64 = .ok (.lload 11, 2) := by decide +kernel
theorem d_M_worthOf_66 : decode b_M_worthOf 66 = .ok (.ladd, 1) := by decide +kernel
theorem d_M_worthOf_67 : decode b_M_worthOf 67 = .ok (.lstore 6, 2) := by decide +kernel
theorem d_M_worthOf_69 : decode b_M_worthOf 69 = .ok (.lload 8, 2) := by decide +kernel
theorem d_M_worthOf_71 : decode b_M_worthOf 71 = .ok (.aload_n 0, 1) := by decide +kernel
theorem d_M_worthOf_72 : decode b_M_worthOf 72 = .ok (.iload_n 1, 1) := by decide +kernel
theorem d_M_worthOf_73 : decode b_M_worthOf 73 = .ok (.iload 10, 2) := by decide +kernel
theorem d_M_worthOf_75 : decode b_M_worthOf 75 = .ok (.invokevirtual 210, 3) := by decide +kernel
theorem d_M_worthOf_78 : decode b_M_worthOf 78 = .ok (.ifCond .eq 8, 3) := by decide +kernel
theorem d_M_worthOf_81 : decode b_M_worthOf 81 = .ok (.lload 11, 2) := by decide +kernel
theorem d_M_worthOf_83 : decode b_M_worthOf 83 = .ok (.goto 4, 3) := by decide +kernel
theorem d_M_worthOf_86 : decode b_M_worthOf 86 = .ok (.lconst 0, 1) := by decide +kernel
theorem d_M_worthOf_87 : decode b_M_worthOf 87 = .ok (.ladd, 1) := by decide +kernel
theorem d_M_worthOf_88 : decode b_M_worthOf 88 = .ok (.lstore 8, 2) := by decide +kernel
theorem d_M_worthOf_90 : decode b_M_worthOf 90 = .ok (.iinc 10 1, 3) := by decide +kernel
theorem d_M_worthOf_93 : decode b_M_worthOf 93 = .ok (.goto (-58), 3) := by decide +kernel
theorem d_M_worthOf_96 : decode b_M_worthOf 96 = .ok (.lload_n 3, 1) := by decide +kernel
theorem d_M_worthOf_97 : decode b_M_worthOf 97 = .ok (.aload_n 0, 1) := by decide +kernel
theorem d_M_worthOf_98 : decode b_M_worthOf 98 = .ok (.lload 6, 2) := by decide +kernel
theorem d_M_worthOf_100 : decode b_M_worthOf 100 = .ok (.lload 8, 2) := by decide +kernel
theorem d_M_worthOf_102 : decode b_M_worthOf 102 = .ok (.invokevirtual 289, 3) := by decide +kernel
theorem d_M_worthOf_105 : decode b_M_worthOf 105 = .ok (.lsub, 1) := by decide +kernel
theorem d_M_worthOf_106 : decode b_M_worthOf 106 = .ok (.lstore_n 3, 1) := by decide +kernel
theorem d_M_worthOf_107 : decode b_M_worthOf 107 = .ok (.iinc 5 1, 3) := by decide +kernel
theorem d_M_worthOf_110 : decode b_M_worthOf 110 = .ok (.goto (-90), 3) := by decide +kernel
theorem d_M_worthOf_113 : decode b_M_worthOf 113 = .ok (.lload_n 3, 1) := by decide +kernel
theorem d_M_worthOf_114 : decode b_M_worthOf 114 = .ok (.lreturn, 1) := by decide +kernel
abbrev b_M_bestLook : ByteArray := prog_7_method_70_code
abbrev y_M_bestLook : MethodName := ⟨"OldBeamsModel", "bestLook", "(I)I"⟩
theorem d_M_bestLook_0 : decode b_M_bestLook 0 = .ok (.iload_n 1, 1) := by decide +kernel
theorem d_M_bestLook_1 : decode b_M_bestLook 1 = .ok (.invokestatic 151, 3) := by decide +kernel
theorem d_M_bestLook_4 : decode b_M_bestLook 4 = .ok (.ifCond .ne 6, 3) := by decide +kernel
theorem d_M_bestLook_7 : decode b_M_bestLook 7 = .ok (.ldc 143, 2) := by decide +kernel
theorem d_M_bestLook_9 : decode b_M_bestLook 9 = .ok (.ireturn, 1) := by decide +kernel
theorem d_M_bestLook_10 : decode b_M_bestLook 10 = .ok (.aload_n 0, 1) := by decide +kernel
theorem d_M_bestLook_11 : decode b_M_bestLook 11 = .ok (.invokevirtual 161, 3) := by decide +kernel
theorem d_M_bestLook_14 : decode b_M_bestLook 14 = .ok (.ldc 156, 2) := by decide +kernel
theorem d_M_bestLook_16 : decode b_M_bestLook 16 = .ok (.istore_n 2, 1) := by decide +kernel
theorem d_M_bestLook_17 : decode b_M_bestLook 17 = .ok (.lconst 0, 1) := by decide +kernel
theorem d_M_bestLook_18 : decode b_M_bestLook 18 = .ok (.lstore_n 3, 1) := by decide +kernel
theorem d_M_bestLook_19 : decode b_M_bestLook 19 = .ok (.lconst 1, 1) := by decide +kernel
theorem d_M_bestLook_20 : decode b_M_bestLook 20 = .ok (.lstore 5, 2) := by decide +kernel
theorem d_M_bestLook_22 : decode b_M_bestLook 22 = .ok (.iconst 0, 1) := by decide +kernel
theorem d_M_bestLook_23 : decode b_M_bestLook 23 = .ok (.istore 7, 2) := by decide +kernel
theorem d_M_bestLook_25 : decode b_M_bestLook 25 = .ok (.iload 7, 2) := by decide +kernel
theorem d_M_bestLook_27 : decode b_M_bestLook 27 = .ok (.iconst 4, 1) := by decide +kernel
theorem d_M_bestLook_28 : decode b_M_bestLook 28 = .ok (.aload_n 0, 1) := by decide +kernel
theorem d_M_bestLook_29 : decode b_M_bestLook 29 = .ok (.getfield 144, 3) := by decide +kernel
theorem d_M_bestLook_32 : decode b_M_bestLook 32 = .ok (.imul, 1) := by decide +kernel
theorem d_M_bestLook_33 : decode b_M_bestLook 33 = .ok (.if_icmp .ge 94, 3) := by decide +kernel
theorem d_M_bestLook_36 : decode b_M_bestLook 36 = .ok (.iload 7, 2) := by decide +kernel
theorem d_M_bestLook_38 : decode b_M_bestLook 38 = .ok (.iconst 4, 1) := by decide +kernel
theorem d_M_bestLook_39 : decode b_M_bestLook 39 = .ok (.idiv, 1) := by decide +kernel
theorem d_M_bestLook_40 : decode b_M_bestLook 40 = .ok (.istore 8, 2) := by decide +kernel
theorem d_M_bestLook_42 : decode b_M_bestLook 42 = .ok (.aload_n 0, 1) := by decide +kernel
theorem d_M_bestLook_43 : decode b_M_bestLook 43 = .ok (.getfield 74, 3) := by decide +kernel
theorem d_M_bestLook_46 : decode b_M_bestLook 46 = .ok (.iload 8, 2) := by decide +kernel
theorem d_M_bestLook_48 : decode b_M_bestLook 48 = .ok (.baload, 1) := by decide +kernel
theorem d_M_bestLook_49 : decode b_M_bestLook 49 = .ok (.ifCond .ne 72, 3) := by decide +kernel
theorem d_M_bestLook_52 : decode b_M_bestLook 52 = .ok (.aload_n 0, 1) := by decide +kernel
theorem d_M_bestLook_53 : decode b_M_bestLook 53 = .ok (.iload 8, 2) := by decide +kernel
theorem d_M_bestLook_55 : decode b_M_bestLook 55 = .ok (.iload_n 1, 1) := by decide +kernel
theorem d_M_bestLook_56 : decode b_M_bestLook 56 = .ok (.invokevirtual 260, 3) := by decide +kernel
theorem d_M_bestLook_59 : decode b_M_bestLook 59 = .ok (.aload_n 0, 1) := by decide +kernel
theorem d_M_bestLook_60 : decode b_M_bestLook 60 = .ok (.iload 8, 2) := by decide +kernel
theorem d_M_bestLook_62 : decode b_M_bestLook 62 = .ok (.iload 7, 2) := by decide +kernel
theorem d_M_bestLook_64 : decode b_M_bestLook 64 = .ok (.iconst 4, 1) := by decide +kernel
theorem d_M_bestLook_65 : decode b_M_bestLook 65 = .ok (.irem, 1) := by decide +kernel
theorem d_M_bestLook_66 : decode b_M_bestLook 66 = .ok (.invokevirtual 292, 3) := by decide +kernel
theorem d_M_bestLook_69 : decode b_M_bestLook 69 = .ok (.lstore 9, 2) := by decide +kernel
theorem d_M_bestLook_71 : decode b_M_bestLook 71 = .ok (.lload 9, 2) := by decide +kernel
theorem d_M_bestLook_73 : decode b_M_bestLook 73 = .ok (.lconst 0, 1) := by decide +kernel
theorem d_M_bestLook_74 : decode b_M_bestLook 74 = .ok (.lcmp, 1) := by decide +kernel
theorem d_M_bestLook_75 : decode b_M_bestLook 75 = .ok (.ifCond .le 46, 3) := by decide +kernel
theorem d_M_bestLook_78 : decode b_M_bestLook 78 = .ok (.lload 9, 2) := by decide +kernel
theorem d_M_bestLook_80 : decode b_M_bestLook 80 = .ok (.ldc2_w 222, 3) := by decide +kernel
theorem d_M_bestLook_83 : decode b_M_bestLook 83 = .ok (.aload_n 0, 1) := by decide +kernel
theorem d_M_bestLook_84 : decode b_M_bestLook 84 = .ok (.getfield 257, 3) := by decide +kernel
theorem d_M_bestLook_87 : decode b_M_bestLook 87 = .ok (.lmul, 1) := by decide +kernel
theorem d_M_bestLook_88 : decode b_M_bestLook 88 = .ok (.lload_n 3, 1) := by decide +kernel
theorem d_M_bestLook_89 : decode b_M_bestLook 89 = .ok (.lload 5, 2) := by decide +kernel
theorem d_M_bestLook_91 : decode b_M_bestLook 91 = .ok (.invokestatic 267, 3) := by decide +kernel
theorem d_M_bestLook_94 : decode b_M_bestLook 94 = .ok (.ifCond .eq 27, 3) := by decide +kernel
theorem d_M_bestLook_97 : decode b_M_bestLook 97 = .ok (.bipush 10, 2) := by decide +kernel
theorem d_M_bestLook_99 : decode b_M_bestLook 99 = .ok (.iload 8, 2) := by decide +kernel
theorem d_M_bestLook_101 : decode b_M_bestLook 101 = .ok (.imul, 1) := by decide +kernel
theorem d_M_bestLook_102 : decode b_M_bestLook 102 = .ok (.iload 7, 2) := by decide +kernel
theorem d_M_bestLook_104 : decode b_M_bestLook 104 = .ok (.iconst 4, 1) := by decide +kernel
theorem d_M_bestLook_105 : decode b_M_bestLook 105 = .ok (.irem, 1) := by decide +kernel
theorem d_M_bestLook_106 : decode b_M_bestLook 106 = .ok (.iadd, 1) := by decide +kernel
theorem d_M_bestLook_107 : decode b_M_bestLook 107 = .ok (.istore_n 2, 1) := by decide +kernel
theorem d_M_bestLook_108 : decode b_M_bestLook 108 = .ok (.lload 9, 2) := by decide +kernel
theorem d_M_bestLook_110 : decode b_M_bestLook 110 = .ok (.lstore_n 3, 1) := by decide +kernel
theorem d_M_bestLook_111 : decode b_M_bestLook 111 = .ok (.ldc2_w 222, 3) := by decide +kernel
theorem d_M_bestLook_114 : decode b_M_bestLook 114 = .ok (.aload_n 0, 1) := by decide +kernel
theorem d_M_bestLook_115 : decode b_M_bestLook 115 = .ok (.getfield 257, 3) := by decide +kernel
theorem d_M_bestLook_118 : decode b_M_bestLook 118 = .ok (.lmul, 1) := by decide +kernel
theorem d_M_bestLook_119 : decode b_M_bestLook 119 = .ok (.lstore 5, 2) := by decide +kernel
theorem d_M_bestLook_121 : decode b_M_bestLook 121 = .ok (.iinc 7 1, 3) := by decide +kernel
theorem d_M_bestLook_124 : decode b_M_bestLook 124 = .ok (.goto (-99), 3) := by decide +kernel
theorem d_M_bestLook_127 : decode b_M_bestLook 127 = .ok (.iload_n 2, 1) := by decide +kernel
theorem d_M_bestLook_128 : decode b_M_bestLook 128 = .ok (.ireturn, 1) := by decide +kernel
abbrev b_M_count : ByteArray := prog_7_method_71_code
abbrev y_M_count : MethodName := ⟨"OldBeamsModel", "count", "(I)I"⟩
theorem d_M_count_0 : decode b_M_count 0 = .ok (.iconst 0, 1) := by decide +kernel
theorem d_M_count_1 : decode b_M_count 1 = .ok (.istore_n 2, 1) := by decide +kernel
theorem d_M_count_2 : decode b_M_count 2 = .ok (.iconst 0, 1) := by decide +kernel
theorem d_M_count_3 : decode b_M_count 3 = .ok (.istore_n 3, 1) := by decide +kernel
theorem d_M_count_4 : decode b_M_count 4 = .ok (.iconst 0, 1) := by decide +kernel
theorem d_M_count_5 : decode b_M_count 5 = .ok (.istore 4, 2) := by decide +kernel
theorem d_M_count_7 : decode b_M_count 7 = .ok (.iload 4, 2) := by decide +kernel
theorem d_M_count_9 : decode b_M_count 9 = .ok (.aload_n 0, 1) := by decide +kernel
theorem d_M_count_10 : decode b_M_count 10 = .ok (.getfield 170, 3) := by decide +kernel
theorem d_M_count_13 : decode b_M_count 13 = .ok (.if_icmp .ge 27, 3) := by decide +kernel
theorem d_M_count_16 : decode b_M_count 16 = .ok (.iload_n 2, 1) := by decide +kernel
theorem d_M_count_17 : decode b_M_count 17 = .ok (.aload_n 0, 1) := by decide +kernel
theorem d_M_count_18 : decode b_M_count 18 = .ok (.getfield 53, 3) := by decide +kernel
theorem d_M_count_21 : decode b_M_count 21 = .ok (.iload 4, 2) := by decide +kernel
theorem d_M_count_23 : decode b_M_count 23 = .ok (.baload, 1) := by decide +kernel
theorem d_M_count_24 : decode b_M_count 24 = .ok (.ifCond .eq 7, 3) := by decide +kernel
theorem d_M_count_27 : decode b_M_count 27 = .ok (.iconst 0, 1) := by decide +kernel
theorem d_M_count_28 : decode b_M_count 28 = .ok (.goto 4, 3) := by decide +kernel
theorem d_M_count_31 : decode b_M_count 31 = .ok (.iconst 1, 1) := by decide +kernel
theorem d_M_count_32 : decode b_M_count 32 = .ok (.iadd, 1) := by decide +kernel
theorem d_M_count_33 : decode b_M_count 33 = .ok (.istore_n 2, 1) := by decide +kernel
theorem d_M_count_34 : decode b_M_count 34 = .ok (.iinc 4 1, 3) := by decide +kernel
theorem d_M_count_37 : decode b_M_count 37 = .ok (.goto (-30), 3) := by decide +kernel
theorem d_M_count_40 : decode b_M_count 40 = .ok (.iconst 0, 1) := by decide +kernel
theorem d_M_count_41 : decode b_M_count 41 = .ok (.istore 4, 2) := by decide +kernel
theorem d_M_count_43 : decode b_M_count 43 = .ok (.iload 4, 2) := by decide +kernel
theorem d_M_count_45 : decode b_M_count 45 = .ok (.aload_n 0, 1) := by decide +kernel
theorem d_M_count_46 : decode b_M_count 46 = .ok (.getfield 173, 3) := by decide +kernel
theorem d_M_count_49 : decode b_M_count 49 = .ok (.if_icmp .ge 27, 3) := by decide +kernel
theorem d_M_count_52 : decode b_M_count 52 = .ok (.iload_n 3, 1) := by decide +kernel
theorem d_M_count_53 : decode b_M_count 53 = .ok (.aload_n 0, 1) := by decide +kernel
theorem d_M_count_54 : decode b_M_count 54 = .ok (.getfield 65, 3) := by decide +kernel
theorem d_M_count_57 : decode b_M_count 57 = .ok (.iload 4, 2) := by decide +kernel
theorem d_M_count_59 : decode b_M_count 59 = .ok (.baload, 1) := by decide +kernel
theorem d_M_count_60 : decode b_M_count 60 = .ok (.ifCond .eq 7, 3) := by decide +kernel
theorem d_M_count_63 : decode b_M_count 63 = .ok (.iconst 1, 1) := by decide +kernel
theorem d_M_count_64 : decode b_M_count 64 = .ok (.goto 4, 3) := by decide +kernel
theorem d_M_count_67 : decode b_M_count 67 = .ok (.iconst 0, 1) := by decide +kernel
theorem d_M_count_68 : decode b_M_count 68 = .ok (.iadd, 1) := by decide +kernel
theorem d_M_count_69 : decode b_M_count 69 = .ok (.istore_n 3, 1) := by decide +kernel
theorem d_M_count_70 : decode b_M_count 70 = .ok (.iinc 4 1, 3) := by decide +kernel
theorem d_M_count_73 : decode b_M_count 73 = .ok (.goto (-30), 3) := by decide +kernel
theorem d_M_count_76 : decode b_M_count 76 = .ok (.iload_n 1, 1) := by decide +kernel
theorem d_M_count_77 : decode b_M_count 77 = .ok (.tableswitch 67 0 5 #[39, 44, 46, 51, 56, 58], 39) := by decide +kernel
theorem d_M_count_116 : decode b_M_count 116 = .ok (.aload_n 0, 1) := by decide +kernel
theorem d_M_count_117 : decode b_M_count 117 = .ok (.getfield 144, 3) := by decide +kernel
theorem d_M_count_120 : decode b_M_count 120 = .ok (.ireturn, 1) := by decide +kernel
theorem d_M_count_121 : decode b_M_count 121 = .ok (.iload_n 2, 1) := by decide +kernel
theorem d_M_count_122 : decode b_M_count 122 = .ok (.ireturn, 1) := by decide +kernel
theorem d_M_count_123 : decode b_M_count 123 = .ok (.aload_n 0, 1) := by decide +kernel
theorem d_M_count_124 : decode b_M_count 124 = .ok (.getfield 214, 3) := by decide +kernel
theorem d_M_count_127 : decode b_M_count 127 = .ok (.ireturn, 1) := by decide +kernel
theorem d_M_count_128 : decode b_M_count 128 = .ok (.aload_n 0, 1) := by decide +kernel
theorem d_M_count_129 : decode b_M_count 129 = .ok (.getfield 173, 3) := by decide +kernel
theorem d_M_count_132 : decode b_M_count 132 = .ok (.ireturn, 1) := by decide +kernel
theorem d_M_count_133 : decode b_M_count 133 = .ok (.iload_n 3, 1) := by decide +kernel
theorem d_M_count_134 : decode b_M_count 134 = .ok (.ireturn, 1) := by decide +kernel
theorem d_M_count_135 : decode b_M_count 135 = .ok (.aload_n 0, 1) := by decide +kernel
theorem d_M_count_136 : decode b_M_count 136 = .ok (.invokevirtual 161, 3) := by decide +kernel
theorem d_M_count_139 : decode b_M_count 139 = .ok (.aload_n 0, 1) := by decide +kernel
theorem d_M_count_140 : decode b_M_count 140 = .ok (.invokevirtual 202, 3) := by decide +kernel
theorem d_M_count_143 : decode b_M_count 143 = .ok (.ireturn, 1) := by decide +kernel
theorem d_M_count_144 : decode b_M_count 144 = .ok (.ldc 143, 2) := by decide +kernel
theorem d_M_count_146 : decode b_M_count 146 = .ok (.ireturn, 1) := by decide +kernel
