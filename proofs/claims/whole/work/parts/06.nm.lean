theorem dX10_init_0 : decode cX10_init 0 = .ok (.aload_n 0, 1) := by decide +kernel
theorem dX10_init_1 : decode cX10_init 1 = .ok (.invokespecial 3, 3) := by decide +kernel
theorem dX10_init_4 : decode cX10_init 4 = .ok (.aload_n 0, 1) := by decide +kernel
theorem dX10_init_5 : decode cX10_init 5 = .ok (.bipush 32, 2) := by decide +kernel
theorem dX10_init_7 : decode cX10_init 7 = .ok (.newarray .int, 2) := by decide +kernel
theorem dX10_init_9 : decode cX10_init 9 = .ok (.putfield 9, 3) := by decide +kernel
theorem dX10_init_12 : decode cX10_init 12 = .ok (.aload_n 0, 1) := by decide +kernel
theorem dX10_init_13 : decode cX10_init 13 = .ok (.bipush 48, 2) := by decide +kernel
theorem dX10_init_15 : decode cX10_init 15 = .ok (.newarray .int, 2) := by decide +kernel
theorem dX10_init_17 : decode cX10_init 17 = .ok (.putfield 15, 3) := by decide +kernel
theorem dX10_init_20 : decode cX10_init 20 = .ok (.aload_n 0, 1) := by decide +kernel
theorem dX10_init_21 : decode cX10_init 21 = .ok (.iconst 4, 1) := by decide +kernel
theorem dX10_init_22 : decode cX10_init 22 = .ok (.newarray .int, 2) := by decide +kernel
theorem dX10_init_24 : decode cX10_init 24 = .ok (.putfield 18, 3) := by decide +kernel
theorem dX10_init_27 : decode cX10_init 27 = .ok (.aload_n 0, 1) := by decide +kernel
theorem dX10_init_28 : decode cX10_init 28 = .ok (.iconst 4, 1) := by decide +kernel
theorem dX10_init_29 : decode cX10_init 29 = .ok (.newarray .int, 2) := by decide +kernel
theorem dX10_init_31 : decode cX10_init 31 = .ok (.putfield 21, 3) := by decide +kernel
theorem dX10_init_34 : decode cX10_init 34 = .ok (.aload_n 0, 1) := by decide +kernel
theorem dX10_init_35 : decode cX10_init 35 = .ok (.iconst 4, 1) := by decide +kernel
theorem dX10_init_36 : decode cX10_init 36 = .ok (.newarray .int, 2) := by decide +kernel
theorem dX10_init_38 : decode cX10_init 38 = .ok (.putfield 24, 3) := by decide +kernel
theorem dX10_init_41 : decode cX10_init 41 = .ok (.aload_n 0, 1) := by decide +kernel
theorem dX10_init_42 : decode cX10_init 42 = .ok (.iconst 4, 1) := by decide +kernel
theorem dX10_init_43 : decode cX10_init 43 = .ok (.newarray .int, 2) := by decide +kernel
theorem dX10_init_45 : decode cX10_init 45 = .ok (.putfield 27, 3) := by decide +kernel
theorem dX10_init_48 : decode cX10_init 48 = .ok (.aload_n 0, 1) := by decide +kernel
theorem dX10_init_49 : decode cX10_init 49 = .ok (.iconst 4, 1) := by decide +kernel
theorem dX10_init_50 : decode cX10_init 50 = .ok (.newarray .int, 2) := by decide +kernel
theorem dX10_init_52 : decode cX10_init 52 = .ok (.putfield 30, 3) := by decide +kernel
theorem dX10_init_55 : decode cX10_init 55 = .ok (.aload_n 0, 1) := by decide +kernel
theorem dX10_init_56 : decode cX10_init 56 = .ok (.iconst 4, 1) := by decide +kernel
theorem dX10_init_57 : decode cX10_init 57 = .ok (.newarray .int, 2) := by decide +kernel
theorem dX10_init_59 : decode cX10_init 59 = .ok (.putfield 33, 3) := by decide +kernel
theorem dX10_init_62 : decode cX10_init 62 = .ok (.aload_n 0, 1) := by decide +kernel
theorem dX10_init_63 : decode cX10_init 63 = .ok (.iconst 4, 1) := by decide +kernel
theorem dX10_init_64 : decode cX10_init 64 = .ok (.newarray .int, 2) := by decide +kernel
theorem dX10_init_66 : decode cX10_init 66 = .ok (.putfield 36, 3) := by decide +kernel
theorem dX10_init_69 : decode cX10_init 69 = .ok (.aload_n 0, 1) := by decide +kernel
theorem dX10_init_70 : decode cX10_init 70 = .ok (.iconst 4, 1) := by decide +kernel
theorem dX10_init_71 : decode cX10_init 71 = .ok (.newarray .int, 2) := by decide +kernel
theorem dX10_init_73 : decode cX10_init 73 = .ok (.putfield 39, 3) := by decide +kernel
theorem dX10_init_76 : decode cX10_init 76 = .ok (.aload_n 0, 1) := by decide +kernel
theorem dX10_init_77 : decode cX10_init 77 = .ok (.iconst 4, 1) := by decide +kernel
theorem dX10_init_78 : decode cX10_init 78 = .ok (.newarray .int, 2) := by decide +kernel
theorem dX10_init_80 : decode cX10_init 80 = .ok (.putfield 42, 3) := by decide +kernel
theorem dX10_init_83 : decode cX10_init 83 = .ok (.aload_n 0, 1) := by decide +kernel
theorem dX10_init_84 : decode cX10_init 84 = .ok (.iconst 4, 1) := by decide +kernel
theorem dX10_init_85 : decode cX10_init 85 = .ok (.newarray .int, 2) := by decide +kernel
theorem dX10_init_87 : decode cX10_init 87 = .ok (.putfield 45, 3) := by decide +kernel
theorem dX10_init_90 : decode cX10_init 90 = .ok (.aload_n 0, 1) := by decide +kernel
theorem dX10_init_91 : decode cX10_init 91 = .ok (.iconst 4, 1) := by decide +kernel
theorem dX10_init_92 : decode cX10_init 92 = .ok (.newarray .int, 2) := by decide +kernel
theorem dX10_init_94 : decode cX10_init 94 = .ok (.putfield 48, 3) := by decide +kernel
theorem dX10_init_97 : decode cX10_init 97 = .ok (.aload_n 0, 1) := by decide +kernel
theorem dX10_init_98 : decode cX10_init 98 = .ok (.bipush 64, 2) := by decide +kernel
theorem dX10_init_100 : decode cX10_init 100 = .ok (.putfield 51, 3) := by decide +kernel
theorem dX10_init_103 : decode cX10_init 103 = .ok (.aload_n 0, 1) := by decide +kernel
theorem dX10_init_104 : decode cX10_init 104 = .ok (.sipush 200, 3) := by decide +kernel
theorem dX10_init_107 : decode cX10_init 107 = .ok (.newarray .int, 2) := by decide +kernel
theorem dX10_init_109 : decode cX10_init 109 = .ok (.putfield 55, 3) := by decide +kernel
theorem dX10_init_112 : decode cX10_init 112 = .ok (.aload_n 0, 1) := by decide +kernel
theorem dX10_init_113 : decode cX10_init 113 = .ok (.iconst 3, 1) := by decide +kernel
theorem dX10_init_114 : decode cX10_init 114 = .ok (.newarray .int, 2) := by decide +kernel
theorem dX10_init_116 : decode cX10_init 116 = .ok (.putfield 58, 3) := by decide +kernel
theorem dX10_init_119 : decode cX10_init 119 = .ok (.aload_n 0, 1) := by decide +kernel
theorem dX10_init_120 : decode cX10_init 120 = .ok (.bipush 72, 2) := by decide +kernel
theorem dX10_init_122 : decode cX10_init 122 = .ok (.newarray .int, 2) := by decide +kernel
theorem dX10_init_124 : decode cX10_init 124 = .ok (.putfield 61, 3) := by decide +kernel
theorem dX10_init_127 : decode cX10_init 127 = .ok (.aload_n 0, 1) := by decide +kernel
theorem dX10_init_128 : decode cX10_init 128 = .ok (.bipush 20, 2) := by decide +kernel
theorem dX10_init_130 : decode cX10_init 130 = .ok (.putfield 64, 3) := by decide +kernel
theorem dX10_init_133 : decode cX10_init 133 = .ok (.aload_n 0, 1) := by decide +kernel
theorem dX10_init_134 : decode cX10_init 134 = .ok (.bipush 64, 2) := by decide +kernel
theorem dX10_init_136 : decode cX10_init 136 = .ok (.newarray .int, 2) := by decide +kernel
theorem dX10_init_138 : decode cX10_init 138 = .ok (.putfield 67, 3) := by decide +kernel
theorem dX10_init_141 : decode cX10_init 141 = .ok (.iconst 0, 1) := by decide +kernel
theorem dX10_init_142 : decode cX10_init 142 = .ok (.istore_n 1, 1) := by decide +kernel
theorem dX10_init_143 : decode cX10_init 143 = .ok (.iload_n 1, 1) := by decide +kernel
theorem dX10_init_144 : decode cX10_init 144 = .ok (.iconst 4, 1) := by decide +kernel
theorem dX10_init_145 : decode cX10_init 145 = .ok (.if_icmp .ge 108, 3) := by decide +kernel
theorem dX10_init_148 : decode cX10_init 148 = .ok (.aload_n 0, 1) := by decide +kernel
theorem dX10_init_149 : decode cX10_init 149 = .ok (.getfield 15, 3) := by decide +kernel
theorem dX10_init_152 : decode cX10_init 152 = .ok (.iload_n 1, 1) := by decide +kernel
theorem dX10_init_153 : decode cX10_init 153 = .ok (.bipush 12, 2) := by decide +kernel
theorem dX10_init_155 : decode cX10_init 155 = .ok (.imul, 1) := by decide +kernel
theorem dX10_init_156 : decode cX10_init 156 = .ok (.iconst 4, 1) := by decide +kernel
theorem dX10_init_157 : decode cX10_init 157 = .ok (.iadd, 1) := by decide +kernel
theorem dX10_init_158 : decode cX10_init 158 = .ok (.bipush 10, 2) := by decide +kernel
theorem dX10_init_160 : decode cX10_init 160 = .ok (.iastore, 1) := by decide +kernel
theorem dX10_init_161 : decode cX10_init 161 = .ok (.aload_n 0, 1) := by decide +kernel
theorem dX10_init_162 : decode cX10_init 162 = .ok (.getfield 15, 3) := by decide +kernel
theorem dX10_init_165 : decode cX10_init 165 = .ok (.iload_n 1, 1) := by decide +kernel
theorem dX10_init_166 : decode cX10_init 166 = .ok (.bipush 12, 2) := by decide +kernel
theorem dX10_init_168 : decode cX10_init 168 = .ok (.imul, 1) := by decide +kernel
theorem dX10_init_169 : decode cX10_init 169 = .ok (.iconst 5, 1) := by decide +kernel
theorem dX10_init_170 : decode cX10_init 170 = .ok (.iadd, 1) := by decide +kernel
theorem dX10_init_171 : decode cX10_init 171 = .ok (.bipush 10, 2) := by decide +kernel
theorem dX10_init_173 : decode cX10_init 173 = .ok (.iastore, 1) := by decide +kernel
theorem dX10_init_174 : decode cX10_init 174 = .ok (.aload_n 0, 1) := by decide +kernel
theorem dX10_init_175 : decode cX10_init 175 = .ok (.getfield 15, 3) := by decide +kernel
theorem dX10_init_178 : decode cX10_init 178 = .ok (.iload_n 1, 1) := by decide +kernel
theorem dX10_init_179 : decode cX10_init 179 = .ok (.bipush 12, 2) := by decide +kernel
theorem dX10_init_181 : decode cX10_init 181 = .ok (.imul, 1) := by decide +kernel
theorem dX10_init_182 : decode cX10_init 182 = .ok (.bipush 6, 2) := by decide +kernel
theorem dX10_init_184 : decode cX10_init 184 = .ok (.iadd, 1) := by decide +kernel
theorem dX10_init_185 : decode cX10_init 185 = .ok (.sipush 1000, 3) := by decide +kernel
theorem dX10_init_188 : decode cX10_init 188 = .ok (.iastore, 1) := by decide +kernel
theorem dX10_init_189 : decode cX10_init 189 = .ok (.aload_n 0, 1) := by decide +kernel
theorem dX10_init_190 : decode cX10_init 190 = .ok (.getfield 15, 3) := by decide +kernel
theorem dX10_init_193 : decode cX10_init 193 = .ok (.iload_n 1, 1) := by decide +kernel
theorem dX10_init_194 : decode cX10_init 194 = .ok (.bipush 12, 2) := by decide +kernel
theorem dX10_init_196 : decode cX10_init 196 = .ok (.imul, 1) := by decide +kernel
theorem dX10_init_197 : decode cX10_init 197 = .ok (.bipush 7, 2) := by decide +kernel
theorem dX10_init_199 : decode cX10_init 199 = .ok (.iadd, 1) := by decide +kernel
theorem dX10_init_200 : decode cX10_init 200 = .ok (.bipush 10, 2) := by decide +kernel
theorem dX10_init_202 : decode cX10_init 202 = .ok (.iastore, 1) := by decide +kernel
theorem dX10_init_203 : decode cX10_init 203 = .ok (.aload_n 0, 1) := by decide +kernel
theorem dX10_init_204 : decode cX10_init 204 = .ok (.getfield 15, 3) := by decide +kernel
theorem dX10_init_207 : decode cX10_init 207 = .ok (.iload_n 1, 1) := by decide +kernel
theorem dX10_init_208 : decode cX10_init 208 = .ok (.bipush 12, 2) := by decide +kernel
theorem dX10_init_210 : decode cX10_init 210 = .ok (.imul, 1) := by decide +kernel
theorem dX10_init_211 : decode cX10_init 211 = .ok (.bipush 8, 2) := by decide +kernel
theorem dX10_init_213 : decode cX10_init 213 = .ok (.iadd, 1) := by decide +kernel
theorem dX10_init_214 : decode cX10_init 214 = .ok (.sipush 128, 3) := by decide +kernel
theorem dX10_init_217 : decode cX10_init 217 = .ok (.iastore, 1) := by decide +kernel
theorem dX10_init_218 : decode cX10_init 218 = .ok (.aload_n 0, 1) := by decide +kernel
theorem dX10_init_219 : decode cX10_init 219 = .ok (.getfield 15, 3) := by decide +kernel
theorem dX10_init_222 : decode cX10_init 222 = .ok (.iload_n 1, 1) := by decide +kernel
theorem dX10_init_223 : decode cX10_init 223 = .ok (.bipush 12, 2) := by decide +kernel
theorem dX10_init_225 : decode cX10_init 225 = .ok (.imul, 1) := by decide +kernel
theorem dX10_init_226 : decode cX10_init 226 = .ok (.bipush 9, 2) := by decide +kernel
theorem dX10_init_228 : decode cX10_init 228 = .ok (.iadd, 1) := by decide +kernel
theorem dX10_init_229 : decode cX10_init 229 = .ok (.sipush 256, 3) := by decide +kernel
theorem dX10_init_232 : decode cX10_init 232 = .ok (.iastore, 1) := by decide +kernel
theorem dX10_init_233 : decode cX10_init 233 = .ok (.aload_n 0, 1) := by decide +kernel
theorem dX10_init_234 : decode cX10_init 234 = .ok (.getfield 15, 3) := by decide +kernel
theorem dX10_init_237 : decode cX10_init 237 = .ok (.iload_n 1, 1) := by decide +kernel
theorem dX10_init_238 : decode cX10_init 238 = .ok (.bipush 12, 2) := by decide +kernel
theorem dX10_init_240 : decode cX10_init 240 = .ok (.imul, 1) := by decide +kernel
theorem dX10_init_241 : decode cX10_init 241 = .ok (.bipush 11, 2) := by decide +kernel
theorem dX10_init_243 : decode cX10_init 243 = .ok (.iadd, 1) := by decide +kernel
theorem dX10_init_244 : decode cX10_init 244 = .ok (.bipush 64, 2) := by decide +kernel
theorem dX10_init_246 : decode cX10_init 246 = .ok (.iastore, 1) := by decide +kernel
theorem dX10_init_247 : decode cX10_init 247 = .ok (.iinc 1 1, 3) := by decide +kernel
theorem dX10_init_250 : decode cX10_init 250 = .ok (.goto (-107), 3) := by decide +kernel
theorem dX10_init_253 : decode cX10_init 253 = .ok (.iconst 0, 1) := by decide +kernel
theorem dX10_init_254 : decode cX10_init 254 = .ok (.istore_n 1, 1) := by decide +kernel
theorem dX10_init_255 : decode cX10_init 255 = .ok (.iload_n 1, 1) := by decide +kernel
theorem dX10_init_256 : decode cX10_init 256 = .ok (.iconst 4, 1) := by decide +kernel
theorem dX10_init_257 : decode cX10_init 257 = .ok (.if_icmp .ge 16, 3) := by decide +kernel
theorem dX10_init_260 : decode cX10_init 260 = .ok (.aload_n 0, 1) := by decide +kernel
theorem dX10_init_261 : decode cX10_init 261 = .ok (.getfield 45, 3) := by decide +kernel
theorem dX10_init_264 : decode cX10_init 264 = .ok (.iload_n 1, 1) := by decide +kernel
theorem dX10_init_265 : decode cX10_init 265 = .ok (.iconst (-1), 1) := by decide +kernel
theorem dX10_init_266 : decode cX10_init 266 = .ok (.iastore, 1) := by decide +kernel
theorem dX10_init_267 : decode cX10_init 267 = .ok (.iinc 1 1, 3) := by decide +kernel
theorem dX10_init_270 : decode cX10_init 270 = .ok (.goto (-15), 3) := by decide +kernel
theorem dX10_init_273 : decode cX10_init 273 = .ok (.iconst 0, 1) := by decide +kernel
theorem dX10_init_274 : decode cX10_init 274 = .ok (.istore_n 1, 1) := by decide +kernel
theorem dX10_init_275 : decode cX10_init 275 = .ok (.iload_n 1, 1) := by decide +kernel
theorem dX10_init_276 : decode cX10_init 276 = .ok (.aload_n 0, 1) := by decide +kernel
theorem dX10_init_277 : decode cX10_init 277 = .ok (.getfield 61, 3) := by decide +kernel
theorem dX10_init_280 : decode cX10_init 280 = .ok (.arraylength, 1) := by decide +kernel
theorem dX10_init_281 : decode cX10_init 281 = .ok (.if_icmp .ge 16, 3) := by decide +kernel
theorem dX10_init_284 : decode cX10_init 284 = .ok (.aload_n 0, 1) := by decide +kernel
theorem dX10_init_285 : decode cX10_init 285 = .ok (.getfield 61, 3) := by decide +kernel
theorem dX10_init_288 : decode cX10_init 288 = .ok (.iload_n 1, 1) := by decide +kernel
theorem dX10_init_289 : decode cX10_init 289 = .ok (.iconst (-1), 1) := by decide +kernel
theorem dX10_init_290 : decode cX10_init 290 = .ok (.iastore, 1) := by decide +kernel
theorem dX10_init_291 : decode cX10_init 291 = .ok (.iinc 1 3, 3) := by decide +kernel
theorem dX10_init_294 : decode cX10_init 294 = .ok (.goto (-19), 3) := by decide +kernel
theorem dX10_init_297 : decode cX10_init 297 = .ok (.return_, 1) := by decide +kernel
set_option maxRecDepth 20000 in
theorem ggX10_copy_X10_init : GoodIn wsX10_copy wsX10_init := goodIn_r _ [36, 37, 38, 39, 40, 4, 5, 6, 7, 8, 9, 10, 11, 12, 13, 14, 15, 16, 23, 17, 18, 19, 27, 20, 48, 49, 50, 51, 52, 53, 54, 55, 56, 57, 58, 59, 60, 61, 62, 63, 64, 65, 66, 67, 68, 69, 70, 71, 72, 73, 74, 75, 76, 77, 78, 79, 80, 81, 82] (by decide +kernel) (by decide +kernel)
set_option maxRecDepth 20000 in
theorem gX10_copy_X10_init : GoodIn wsX10_copy (wsX10_init) := ggX10_copy_X10_init
set_option maxRecDepth 20000 in
theorem ggX10_copy_X11_put : GoodIn wsX10_copy wsX11_put := goodIn_r _ [43, 44, 45, 46, 47] (by decide +kernel) (by decide +kernel)
set_option maxRecDepth 20000 in
theorem gX10_copy_X11_put_n71 : GoodIn wsX10_copy (wsX11_put) := ggX10_copy_X11_put
theorem dX10_copy_0 : decode cX10_copy 0 = .ok (.new 10, 3) := by decide +kernel
theorem dX10_copy_3 : decode cX10_copy 3 = .ok (.dup, 1) := by decide +kernel
theorem dX10_copy_4 : decode cX10_copy 4 = .ok (.invokespecial 70, 3) := by decide +kernel
theorem dX10_copy_7 : decode cX10_copy 7 = .ok (.astore_n 1, 1) := by decide +kernel
theorem dX10_copy_8 : decode cX10_copy 8 = .ok (.aload_n 0, 1) := by decide +kernel
theorem dX10_copy_9 : decode cX10_copy 9 = .ok (.getfield 9, 3) := by decide +kernel
theorem dX10_copy_12 : decode cX10_copy 12 = .ok (.aload_n 1, 1) := by decide +kernel
theorem dX10_copy_13 : decode cX10_copy 13 = .ok (.getfield 9, 3) := by decide +kernel
theorem dX10_copy_16 : decode cX10_copy 16 = .ok (.invokestatic 71, 3) := by decide +kernel
theorem dX10_copy_19 : decode cX10_copy 19 = .ok (.aload_n 0, 1) := by decide +kernel
theorem dX10_copy_20 : decode cX10_copy 20 = .ok (.getfield 15, 3) := by decide +kernel
theorem dX10_copy_23 : decode cX10_copy 23 = .ok (.aload_n 1, 1) := by decide +kernel
theorem dX10_copy_24 : decode cX10_copy 24 = .ok (.getfield 15, 3) := by decide +kernel
theorem dX10_copy_27 : decode cX10_copy 27 = .ok (.invokestatic 71, 3) := by decide +kernel
theorem dX10_copy_30 : decode cX10_copy 30 = .ok (.aload_n 0, 1) := by decide +kernel
theorem dX10_copy_31 : decode cX10_copy 31 = .ok (.getfield 18, 3) := by decide +kernel
theorem dX10_copy_34 : decode cX10_copy 34 = .ok (.aload_n 1, 1) := by decide +kernel
theorem dX10_copy_35 : decode cX10_copy 35 = .ok (.getfield 18, 3) := by decide +kernel
theorem dX10_copy_38 : decode cX10_copy 38 = .ok (.invokestatic 71, 3) := by decide +kernel
theorem dX10_copy_41 : decode cX10_copy 41 = .ok (.aload_n 0, 1) := by decide +kernel
theorem dX10_copy_42 : decode cX10_copy 42 = .ok (.getfield 21, 3) := by decide +kernel
theorem dX10_copy_45 : decode cX10_copy 45 = .ok (.aload_n 1, 1) := by decide +kernel
theorem dX10_copy_46 : decode cX10_copy 46 = .ok (.getfield 21, 3) := by decide +kernel
theorem dX10_copy_49 : decode cX10_copy 49 = .ok (.invokestatic 71, 3) := by decide +kernel
theorem dX10_copy_52 : decode cX10_copy 52 = .ok (.aload_n 0, 1) := by decide +kernel
theorem dX10_copy_53 : decode cX10_copy 53 = .ok (.getfield 24, 3) := by decide +kernel
theorem dX10_copy_56 : decode cX10_copy 56 = .ok (.aload_n 1, 1) := by decide +kernel
theorem dX10_copy_57 : decode cX10_copy 57 = .ok (.getfield 24, 3) := by decide +kernel
theorem dX10_copy_60 : decode cX10_copy 60 = .ok (.invokestatic 71, 3) := by decide +kernel
theorem dX10_copy_63 : decode cX10_copy 63 = .ok (.aload_n 0, 1) := by decide +kernel
theorem dX10_copy_64 : decode cX10_copy 64 = .ok (.getfield 27, 3) := by decide +kernel
theorem dX10_copy_67 : decode cX10_copy 67 = .ok (.aload_n 1, 1) := by decide +kernel
theorem dX10_copy_68 : decode cX10_copy 68 = .ok (.getfield 27, 3) := by decide +kernel
theorem dX10_copy_71 : decode cX10_copy 71 = .ok (.invokestatic 71, 3) := by decide +kernel
theorem dX10_copy_74 : decode cX10_copy 74 = .ok (.aload_n 0, 1) := by decide +kernel
theorem dX10_copy_75 : decode cX10_copy 75 = .ok (.getfield 30, 3) := by decide +kernel
theorem dX10_copy_78 : decode cX10_copy 78 = .ok (.aload_n 1, 1) := by decide +kernel
theorem dX10_copy_79 : decode cX10_copy 79 = .ok (.getfield 30, 3) := by decide +kernel
theorem dX10_copy_82 : decode cX10_copy 82 = .ok (.invokestatic 71, 3) := by decide +kernel
theorem dX10_copy_85 : decode cX10_copy 85 = .ok (.aload_n 0, 1) := by decide +kernel
theorem dX10_copy_86 : decode cX10_copy 86 = .ok (.getfield 33, 3) := by decide +kernel
theorem dX10_copy_89 : decode cX10_copy 89 = .ok (.aload_n 1, 1) := by decide +kernel
theorem dX10_copy_90 : decode cX10_copy 90 = .ok (.getfield 33, 3) := by decide +kernel
theorem dX10_copy_93 : decode cX10_copy 93 = .ok (.invokestatic 71, 3) := by decide +kernel
theorem dX10_copy_96 : decode cX10_copy 96 = .ok (.aload_n 0, 1) := by decide +kernel
theorem dX10_copy_97 : decode cX10_copy 97 = .ok (.getfield 36, 3) := by decide +kernel
theorem dX10_copy_100 : decode cX10_copy 100 = .ok (.aload_n 1, 1) := by decide +kernel
theorem dX10_copy_101 : decode cX10_copy 101 = .ok (.getfield 36, 3) := by decide +kernel
theorem dX10_copy_104 : decode cX10_copy 104 = .ok (.invokestatic 71, 3) := by decide +kernel
theorem dX10_copy_107 : decode cX10_copy 107 = .ok (.aload_n 0, 1) := by decide +kernel
theorem dX10_copy_108 : decode cX10_copy 108 = .ok (.getfield 39, 3) := by decide +kernel
theorem dX10_copy_111 : decode cX10_copy 111 = .ok (.aload_n 1, 1) := by decide +kernel
theorem dX10_copy_112 : decode cX10_copy 112 = .ok (.getfield 39, 3) := by decide +kernel
theorem dX10_copy_115 : decode cX10_copy 115 = .ok (.invokestatic 71, 3) := by decide +kernel
theorem dX10_copy_118 : decode cX10_copy 118 = .ok (.aload_n 0, 1) := by decide +kernel
theorem dX10_copy_119 : decode cX10_copy 119 = .ok (.getfield 42, 3) := by decide +kernel
theorem dX10_copy_122 : decode cX10_copy 122 = .ok (.aload_n 1, 1) := by decide +kernel
theorem dX10_copy_123 : decode cX10_copy 123 = .ok (.getfield 42, 3) := by decide +kernel
theorem dX10_copy_126 : decode cX10_copy 126 = .ok (.invokestatic 71, 3) := by decide +kernel
theorem dX10_copy_129 : decode cX10_copy 129 = .ok (.aload_n 0, 1) := by decide +kernel
theorem dX10_copy_130 : decode cX10_copy 130 = .ok (.getfield 45, 3) := by decide +kernel
theorem dX10_copy_133 : decode cX10_copy 133 = .ok (.aload_n 1, 1) := by decide +kernel
theorem dX10_copy_134 : decode cX10_copy 134 = .ok (.getfield 45, 3) := by decide +kernel
theorem dX10_copy_137 : decode cX10_copy 137 = .ok (.invokestatic 71, 3) := by decide +kernel
theorem dX10_copy_140 : decode cX10_copy 140 = .ok (.aload_n 0, 1) := by decide +kernel
theorem dX10_copy_141 : decode cX10_copy 141 = .ok (.getfield 48, 3) := by decide +kernel
theorem dX10_copy_144 : decode cX10_copy 144 = .ok (.aload_n 1, 1) := by decide +kernel
theorem dX10_copy_145 : decode cX10_copy 145 = .ok (.getfield 48, 3) := by decide +kernel
theorem dX10_copy_148 : decode cX10_copy 148 = .ok (.invokestatic 71, 3) := by decide +kernel
theorem dX10_copy_151 : decode cX10_copy 151 = .ok (.aload_n 0, 1) := by decide +kernel
theorem dX10_copy_152 : decode cX10_copy 152 = .ok (.getfield 55, 3) := by decide +kernel
theorem dX10_copy_155 : decode cX10_copy 155 = .ok (.aload_n 1, 1) := by decide +kernel
theorem dX10_copy_156 : decode cX10_copy 156 = .ok (.getfield 55, 3) := by decide +kernel
theorem dX10_copy_159 : decode cX10_copy 159 = .ok (.invokestatic 71, 3) := by decide +kernel
theorem dX10_copy_162 : decode cX10_copy 162 = .ok (.aload_n 0, 1) := by decide +kernel
theorem dX10_copy_163 : decode cX10_copy 163 = .ok (.getfield 58, 3) := by decide +kernel
theorem dX10_copy_166 : decode cX10_copy 166 = .ok (.aload_n 1, 1) := by decide +kernel
theorem dX10_copy_167 : decode cX10_copy 167 = .ok (.getfield 58, 3) := by decide +kernel
theorem dX10_copy_170 : decode cX10_copy 170 = .ok (.invokestatic 71, 3) := by decide +kernel
theorem dX10_copy_173 : decode cX10_copy 173 = .ok (.aload_n 0, 1) := by decide +kernel
theorem dX10_copy_174 : decode cX10_copy 174 = .ok (.getfield 61, 3) := by decide +kernel
theorem dX10_copy_177 : decode cX10_copy 177 = .ok (.aload_n 1, 1) := by decide +kernel
theorem dX10_copy_178 : decode cX10_copy 178 = .ok (.getfield 61, 3) := by decide +kernel
theorem dX10_copy_181 : decode cX10_copy 181 = .ok (.invokestatic 71, 3) := by decide +kernel
theorem dX10_copy_184 : decode cX10_copy 184 = .ok (.aload_n 0, 1) := by decide +kernel
theorem dX10_copy_185 : decode cX10_copy 185 = .ok (.getfield 67, 3) := by decide +kernel
theorem dX10_copy_188 : decode cX10_copy 188 = .ok (.aload_n 1, 1) := by decide +kernel
theorem dX10_copy_189 : decode cX10_copy 189 = .ok (.getfield 67, 3) := by decide +kernel
theorem dX10_copy_192 : decode cX10_copy 192 = .ok (.invokestatic 71, 3) := by decide +kernel
theorem dX10_copy_195 : decode cX10_copy 195 = .ok (.aload_n 1, 1) := by decide +kernel
theorem dX10_copy_196 : decode cX10_copy 196 = .ok (.aload_n 0, 1) := by decide +kernel
theorem dX10_copy_197 : decode cX10_copy 197 = .ok (.getfield 75, 3) := by decide +kernel
theorem dX10_copy_200 : decode cX10_copy 200 = .ok (.putfield 75, 3) := by decide +kernel
theorem dX10_copy_203 : decode cX10_copy 203 = .ok (.aload_n 1, 1) := by decide +kernel
theorem dX10_copy_204 : decode cX10_copy 204 = .ok (.aload_n 0, 1) := by decide +kernel
theorem dX10_copy_205 : decode cX10_copy 205 = .ok (.getfield 78, 3) := by decide +kernel
theorem dX10_copy_208 : decode cX10_copy 208 = .ok (.putfield 78, 3) := by decide +kernel
theorem dX10_copy_211 : decode cX10_copy 211 = .ok (.aload_n 1, 1) := by decide +kernel
theorem dX10_copy_212 : decode cX10_copy 212 = .ok (.aload_n 0, 1) := by decide +kernel
theorem dX10_copy_213 : decode cX10_copy 213 = .ok (.getfield 51, 3) := by decide +kernel
theorem dX10_copy_216 : decode cX10_copy 216 = .ok (.putfield 51, 3) := by decide +kernel
theorem dX10_copy_219 : decode cX10_copy 219 = .ok (.aload_n 1, 1) := by decide +kernel
theorem dX10_copy_220 : decode cX10_copy 220 = .ok (.aload_n 0, 1) := by decide +kernel
theorem dX10_copy_221 : decode cX10_copy 221 = .ok (.getfield 81, 3) := by decide +kernel
theorem dX10_copy_224 : decode cX10_copy 224 = .ok (.putfield 81, 3) := by decide +kernel
theorem dX10_copy_227 : decode cX10_copy 227 = .ok (.aload_n 1, 1) := by decide +kernel
theorem dX10_copy_228 : decode cX10_copy 228 = .ok (.aload_n 0, 1) := by decide +kernel
theorem dX10_copy_229 : decode cX10_copy 229 = .ok (.getfield 84, 3) := by decide +kernel
theorem dX10_copy_232 : decode cX10_copy 232 = .ok (.putfield 84, 3) := by decide +kernel
theorem dX10_copy_235 : decode cX10_copy 235 = .ok (.aload_n 1, 1) := by decide +kernel
theorem dX10_copy_236 : decode cX10_copy 236 = .ok (.aload_n 0, 1) := by decide +kernel
theorem dX10_copy_237 : decode cX10_copy 237 = .ok (.getfield 87, 3) := by decide +kernel
theorem dX10_copy_240 : decode cX10_copy 240 = .ok (.putfield 87, 3) := by decide +kernel
theorem dX10_copy_243 : decode cX10_copy 243 = .ok (.aload_n 1, 1) := by decide +kernel
theorem dX10_copy_244 : decode cX10_copy 244 = .ok (.aload_n 0, 1) := by decide +kernel
theorem dX10_copy_245 : decode cX10_copy 245 = .ok (.getfield 64, 3) := by decide +kernel
theorem dX10_copy_248 : decode cX10_copy 248 = .ok (.putfield 64, 3) := by decide +kernel
theorem dX10_copy_251 : decode cX10_copy 251 = .ok (.aload_n 1, 1) := by decide +kernel
theorem dX10_copy_252 : decode cX10_copy 252 = .ok (.aload_n 0, 1) := by decide +kernel
theorem dX10_copy_253 : decode cX10_copy 253 = .ok (.getfield 90, 3) := by decide +kernel
theorem dX10_copy_256 : decode cX10_copy 256 = .ok (.putfield 90, 3) := by decide +kernel
theorem dX10_copy_259 : decode cX10_copy 259 = .ok (.aload_n 1, 1) := by decide +kernel
theorem dX10_copy_260 : decode cX10_copy 260 = .ok (.aload_n 0, 1) := by decide +kernel
theorem dX10_copy_261 : decode cX10_copy 261 = .ok (.getfield 93, 3) := by decide +kernel
theorem dX10_copy_264 : decode cX10_copy 264 = .ok (.putfield 93, 3) := by decide +kernel
theorem dX10_copy_267 : decode cX10_copy 267 = .ok (.aload_n 1, 1) := by decide +kernel
theorem dX10_copy_268 : decode cX10_copy 268 = .ok (.aload_n 0, 1) := by decide +kernel
theorem dX10_copy_269 : decode cX10_copy 269 = .ok (.getfield 97, 3) := by decide +kernel
theorem dX10_copy_272 : decode cX10_copy 272 = .ok (.putfield 97, 3) := by decide +kernel
theorem dX10_copy_275 : decode cX10_copy 275 = .ok (.aload_n 1, 1) := by decide +kernel
theorem dX10_copy_276 : decode cX10_copy 276 = .ok (.aload_n 0, 1) := by decide +kernel
theorem dX10_copy_277 : decode cX10_copy 277 = .ok (.getfield 100, 3) := by decide +kernel
theorem dX10_copy_280 : decode cX10_copy 280 = .ok (.putfield 100, 3) := by decide +kernel
theorem dX10_copy_283 : decode cX10_copy 283 = .ok (.aload_n 1, 1) := by decide +kernel
theorem dX10_copy_284 : decode cX10_copy 284 = .ok (.aload_n 0, 1) := by decide +kernel
theorem dX10_copy_285 : decode cX10_copy 285 = .ok (.getfield 103, 3) := by decide +kernel
theorem dX10_copy_288 : decode cX10_copy 288 = .ok (.putfield 103, 3) := by decide +kernel
theorem dX10_copy_291 : decode cX10_copy 291 = .ok (.aload_n 1, 1) := by decide +kernel
theorem dX10_copy_292 : decode cX10_copy 292 = .ok (.aload_n 0, 1) := by decide +kernel
theorem dX10_copy_293 : decode cX10_copy 293 = .ok (.getfield 106, 3) := by decide +kernel
theorem dX10_copy_296 : decode cX10_copy 296 = .ok (.putfield 106, 3) := by decide +kernel
theorem dX10_copy_299 : decode cX10_copy 299 = .ok (.aload_n 1, 1) := by decide +kernel
theorem dX10_copy_300 : decode cX10_copy 300 = .ok (.areturn, 1) := by decide +kernel
theorem dX10_value_0 : decode cX10_value 0 = .ok (.iload_n 1, 1) := by decide +kernel
theorem dX10_value_1 : decode cX10_value 1 = .ok (.tableswitch 81 0 2 #[27, 36, 52], 27) := by decide +kernel
theorem dX10_value_28 : decode cX10_value 28 = .ok (.sipush (-992), 3) := by decide +kernel
theorem dX10_value_31 : decode cX10_value 31 = .ok (.bipush 64, 2) := by decide +kernel
theorem dX10_value_33 : decode cX10_value 33 = .ok (.iload_n 2, 1) := by decide +kernel
theorem dX10_value_34 : decode cX10_value 34 = .ok (.imul, 1) := by decide +kernel
theorem dX10_value_35 : decode cX10_value 35 = .ok (.iadd, 1) := by decide +kernel
theorem dX10_value_36 : decode cX10_value 36 = .ok (.ireturn, 1) := by decide +kernel
theorem dX10_value_37 : decode cX10_value 37 = .ok (.iload_n 2, 1) := by decide +kernel
theorem dX10_value_38 : decode cX10_value 38 = .ok (.bipush 16, 2) := by decide +kernel
theorem dX10_value_40 : decode cX10_value 40 = .ok (.if_icmp .ge 9, 3) := by decide +kernel
theorem dX10_value_43 : decode cX10_value 43 = .ok (.sipush 1000, 3) := by decide +kernel
theorem dX10_value_46 : decode cX10_value 46 = .ok (.goto 6, 3) := by decide +kernel
theorem dX10_value_49 : decode cX10_value 49 = .ok (.sipush (-1000), 3) := by decide +kernel
theorem dX10_value_52 : decode cX10_value 52 = .ok (.ireturn, 1) := by decide +kernel
theorem dX10_value_53 : decode cX10_value 53 = .ok (.iload_n 2, 1) := by decide +kernel
theorem dX10_value_54 : decode cX10_value 54 = .ok (.bipush 16, 2) := by decide +kernel
theorem dX10_value_56 : decode cX10_value 56 = .ok (.if_icmp .ge 14, 3) := by decide +kernel
theorem dX10_value_59 : decode cX10_value 59 = .ok (.sipush (-1000), 3) := by decide +kernel
theorem dX10_value_62 : decode cX10_value 62 = .ok (.bipush 125, 2) := by decide +kernel
theorem dX10_value_64 : decode cX10_value 64 = .ok (.iload_n 2, 1) := by decide +kernel
theorem dX10_value_65 : decode cX10_value 65 = .ok (.imul, 1) := by decide +kernel
theorem dX10_value_66 : decode cX10_value 66 = .ok (.iadd, 1) := by decide +kernel
theorem dX10_value_67 : decode cX10_value 67 = .ok (.goto 14, 3) := by decide +kernel
theorem dX10_value_70 : decode cX10_value 70 = .ok (.sipush 1000, 3) := by decide +kernel
theorem dX10_value_73 : decode cX10_value 73 = .ok (.bipush 125, 2) := by decide +kernel
theorem dX10_value_75 : decode cX10_value 75 = .ok (.iload_n 2, 1) := by decide +kernel
theorem dX10_value_76 : decode cX10_value 76 = .ok (.bipush 16, 2) := by decide +kernel
theorem dX10_value_78 : decode cX10_value 78 = .ok (.isub, 1) := by decide +kernel
theorem dX10_value_79 : decode cX10_value 79 = .ok (.imul, 1) := by decide +kernel
theorem dX10_value_80 : decode cX10_value 80 = .ok (.isub, 1) := by decide +kernel
theorem dX10_value_81 : decode cX10_value 81 = .ok (.ireturn, 1) := by decide +kernel
theorem dX10_value_82 : decode cX10_value 82 = .ok (.aload_n 0, 1) := by decide +kernel
theorem dX10_value_83 : decode cX10_value 83 = .ok (.getfield 9, 3) := by decide +kernel
theorem dX10_value_86 : decode cX10_value 86 = .ok (.iload_n 2, 1) := by decide +kernel
theorem dX10_value_87 : decode cX10_value 87 = .ok (.iaload, 1) := by decide +kernel
theorem dX10_value_88 : decode cX10_value 88 = .ok (.ireturn, 1) := by decide +kernel
set_option maxRecDepth 20000 in
theorem ggX10_wave_X10_value : GoodIn wsX10_wave wsX10_value := goodIn_r _ [5, 6, 7, 8, 9, 10, 11, 12, 13, 14, 15, 16, 17, 18, 19, 20, 21, 22, 23, 24, 25, 26, 27, 28, 29, 30, 31, 32, 33, 34, 35, 36, 37, 38, 39, 40, 41] (by decide +kernel) (by decide +kernel)
set_option maxRecDepth 20000 in
theorem gX10_wave_X10_value : GoodIn wsX10_wave (wsV RX10 109 RX10 yX10_value wsX10_value) := goodIn_app (goodIn_of _ (by decide +kernel)) ggX10_wave_X10_value
theorem dX10_wave_0 : decode cX10_wave 0 = .ok (.iload_n 2, 1) := by decide +kernel
theorem dX10_wave_1 : decode cX10_wave 1 = .ok (.sipush 2048, 3) := by decide +kernel
theorem dX10_wave_4 : decode cX10_wave 4 = .ok (.idiv, 1) := by decide +kernel
theorem dX10_wave_5 : decode cX10_wave 5 = .ok (.istore_n 3, 1) := by decide +kernel
theorem dX10_wave_6 : decode cX10_wave 6 = .ok (.aload_n 0, 1) := by decide +kernel
theorem dX10_wave_7 : decode cX10_wave 7 = .ok (.iload_n 1, 1) := by decide +kernel
theorem dX10_wave_8 : decode cX10_wave 8 = .ok (.iload_n 3, 1) := by decide +kernel
theorem dX10_wave_9 : decode cX10_wave 9 = .ok (.invokevirtual 109, 3) := by decide +kernel
theorem dX10_wave_12 : decode cX10_wave 12 = .ok (.istore 4, 2) := by decide +kernel
theorem dX10_wave_14 : decode cX10_wave 14 = .ok (.aload_n 0, 1) := by decide +kernel
theorem dX10_wave_15 : decode cX10_wave 15 = .ok (.iload_n 1, 1) := by decide +kernel
theorem dX10_wave_16 : decode cX10_wave 16 = .ok (.iload_n 3, 1) := by decide +kernel
theorem dX10_wave_17 : decode cX10_wave 17 = .ok (.iconst 1, 1) := by decide +kernel
theorem dX10_wave_18 : decode cX10_wave 18 = .ok (.iadd, 1) := by decide +kernel
theorem dX10_wave_19 : decode cX10_wave 19 = .ok (.bipush 32, 2) := by decide +kernel
theorem dX10_wave_21 : decode cX10_wave 21 = .ok (.irem, 1) := by decide +kernel
theorem dX10_wave_22 : decode cX10_wave 22 = .ok (.invokevirtual 109, 3) := by decide +kernel
theorem dX10_wave_25 : decode cX10_wave 25 = .ok (.istore 5, 2) := by decide +kernel
theorem dX10_wave_27 : decode cX10_wave 27 = .ok (.iload 4, 2) := by decide +kernel
theorem dX10_wave_29 : decode cX10_wave 29 = .ok (.iload 5, 2) := by decide +kernel
theorem dX10_wave_31 : decode cX10_wave 31 = .ok (.iload 4, 2) := by decide +kernel
theorem dX10_wave_33 : decode cX10_wave 33 = .ok (.isub, 1) := by decide +kernel
theorem dX10_wave_34 : decode cX10_wave 34 = .ok (.iload_n 2, 1) := by decide +kernel
theorem dX10_wave_35 : decode cX10_wave 35 = .ok (.sipush 2048, 3) := by decide +kernel
theorem dX10_wave_38 : decode cX10_wave 38 = .ok (.irem, 1) := by decide +kernel
theorem dX10_wave_39 : decode cX10_wave 39 = .ok (.imul, 1) := by decide +kernel
theorem dX10_wave_40 : decode cX10_wave 40 = .ok (.sipush 2048, 3) := by decide +kernel
theorem dX10_wave_43 : decode cX10_wave 43 = .ok (.idiv, 1) := by decide +kernel
theorem dX10_wave_44 : decode cX10_wave 44 = .ok (.iadd, 1) := by decide +kernel
theorem dX10_wave_45 : decode cX10_wave 45 = .ok (.ireturn, 1) := by decide +kernel
theorem dX10_stride_0 : decode cX10_stride 0 = .ok (.bipush 12, 2) := by decide +kernel
theorem dX10_stride_2 : decode cX10_stride 2 = .ok (.newarray .int, 2) := by decide +kernel
theorem dX10_stride_4 : decode cX10_stride 4 = .ok (.dup, 1) := by decide +kernel
theorem dX10_stride_5 : decode cX10_stride 5 = .ok (.iconst 0, 1) := by decide +kernel
theorem dX10_stride_6 : decode cX10_stride 6 = .ok (.sipush 256, 3) := by decide +kernel
theorem dX10_stride_9 : decode cX10_stride 9 = .ok (.iastore, 1) := by decide +kernel
theorem dX10_stride_10 : decode cX10_stride 10 = .ok (.dup, 1) := by decide +kernel
theorem dX10_stride_11 : decode cX10_stride 11 = .ok (.iconst 1, 1) := by decide +kernel
theorem dX10_stride_12 : decode cX10_stride 12 = .ok (.sipush 271, 3) := by decide +kernel
theorem dX10_stride_15 : decode cX10_stride 15 = .ok (.iastore, 1) := by decide +kernel
theorem dX10_stride_16 : decode cX10_stride 16 = .ok (.dup, 1) := by decide +kernel
theorem dX10_stride_17 : decode cX10_stride 17 = .ok (.iconst 2, 1) := by decide +kernel
theorem dX10_stride_18 : decode cX10_stride 18 = .ok (.sipush 287, 3) := by decide +kernel
theorem dX10_stride_21 : decode cX10_stride 21 = .ok (.iastore, 1) := by decide +kernel
theorem dX10_stride_22 : decode cX10_stride 22 = .ok (.dup, 1) := by decide +kernel
theorem dX10_stride_23 : decode cX10_stride 23 = .ok (.iconst 3, 1) := by decide +kernel
theorem dX10_stride_24 : decode cX10_stride 24 = .ok (.sipush 304, 3) := by decide +kernel
theorem dX10_stride_27 : decode cX10_stride 27 = .ok (.iastore, 1) := by decide +kernel
theorem dX10_stride_28 : decode cX10_stride 28 = .ok (.dup, 1) := by decide +kernel
theorem dX10_stride_29 : decode cX10_stride 29 = .ok (.iconst 4, 1) := by decide +kernel
theorem dX10_stride_30 : decode cX10_stride 30 = .ok (.sipush 323, 3) := by decide +kernel
theorem dX10_stride_33 : decode cX10_stride 33 = .ok (.iastore, 1) := by decide +kernel
theorem dX10_stride_34 : decode cX10_stride 34 = .ok (.dup, 1) := by decide +kernel
theorem dX10_stride_35 : decode cX10_stride 35 = .ok (.iconst 5, 1) := by decide +kernel
theorem dX10_stride_36 : decode cX10_stride 36 = .ok (.sipush 342, 3) := by decide +kernel
theorem dX10_stride_39 : decode cX10_stride 39 = .ok (.iastore, 1) := by decide +kernel
theorem dX10_stride_40 : decode cX10_stride 40 = .ok (.dup, 1) := by decide +kernel
theorem dX10_stride_41 : decode cX10_stride 41 = .ok (.bipush 6, 2) := by decide +kernel
theorem dX10_stride_43 : decode cX10_stride 43 = .ok (.sipush 362, 3) := by decide +kernel
theorem dX10_stride_46 : decode cX10_stride 46 = .ok (.iastore, 1) := by decide +kernel
theorem dX10_stride_47 : decode cX10_stride 47 = .ok (.dup, 1) := by decide +kernel
theorem dX10_stride_48 : decode cX10_stride 48 = .ok (.bipush 7, 2) := by decide +kernel
theorem dX10_stride_50 : decode cX10_stride 50 = .ok (.sipush 384, 3) := by decide +kernel
theorem dX10_stride_53 : decode cX10_stride 53 = .ok (.iastore, 1) := by decide +kernel
theorem dX10_stride_54 : decode cX10_stride 54 = .ok (.dup, 1) := by decide +kernel
theorem dX10_stride_55 : decode cX10_stride 55 = .ok (.bipush 8, 2) := by decide +kernel
theorem dX10_stride_57 : decode cX10_stride 57 = .ok (.sipush 406, 3) := by decide +kernel
theorem dX10_stride_60 : decode cX10_stride 60 = .ok (.iastore, 1) := by decide +kernel
theorem dX10_stride_61 : decode cX10_stride 61 = .ok (.dup, 1) := by decide +kernel
theorem dX10_stride_62 : decode cX10_stride 62 = .ok (.bipush 9, 2) := by decide +kernel
theorem dX10_stride_64 : decode cX10_stride 64 = .ok (.sipush 431, 3) := by decide +kernel
theorem dX10_stride_67 : decode cX10_stride 67 = .ok (.iastore, 1) := by decide +kernel
theorem dX10_stride_68 : decode cX10_stride 68 = .ok (.dup, 1) := by decide +kernel
theorem dX10_stride_69 : decode cX10_stride 69 = .ok (.bipush 10, 2) := by decide +kernel
theorem dX10_stride_71 : decode cX10_stride 71 = .ok (.sipush 456, 3) := by decide +kernel
theorem dX10_stride_74 : decode cX10_stride 74 = .ok (.iastore, 1) := by decide +kernel
theorem dX10_stride_75 : decode cX10_stride 75 = .ok (.dup, 1) := by decide +kernel
theorem dX10_stride_76 : decode cX10_stride 76 = .ok (.bipush 11, 2) := by decide +kernel
theorem dX10_stride_78 : decode cX10_stride 78 = .ok (.sipush 483, 3) := by decide +kernel
theorem dX10_stride_81 : decode cX10_stride 81 = .ok (.iastore, 1) := by decide +kernel
theorem dX10_stride_82 : decode cX10_stride 82 = .ok (.astore_n 1, 1) := by decide +kernel
theorem dX10_stride_83 : decode cX10_stride 83 = .ok (.aload_n 1, 1) := by decide +kernel
theorem dX10_stride_84 : decode cX10_stride 84 = .ok (.iload_n 0, 1) := by decide +kernel
theorem dX10_stride_85 : decode cX10_stride 85 = .ok (.bipush 12, 2) := by decide +kernel
theorem dX10_stride_87 : decode cX10_stride 87 = .ok (.irem, 1) := by decide +kernel
theorem dX10_stride_88 : decode cX10_stride 88 = .ok (.iaload, 1) := by decide +kernel
theorem dX10_stride_89 : decode cX10_stride 89 = .ok (.iload_n 0, 1) := by decide +kernel
theorem dX10_stride_90 : decode cX10_stride 90 = .ok (.bipush 12, 2) := by decide +kernel
theorem dX10_stride_92 : decode cX10_stride 92 = .ok (.idiv, 1) := by decide +kernel
theorem dX10_stride_93 : decode cX10_stride 93 = .ok (.ishl, 1) := by decide +kernel
theorem dX10_stride_94 : decode cX10_stride 94 = .ok (.ireturn, 1) := by decide +kernel
theorem dX10_nextVoice_0 : decode cX10_nextVoice 0 = .ok (.iconst 0, 1) := by decide +kernel
theorem dX10_nextVoice_1 : decode cX10_nextVoice 1 = .ok (.istore_n 1, 1) := by decide +kernel
theorem dX10_nextVoice_2 : decode cX10_nextVoice 2 = .ok (.iload_n 1, 1) := by decide +kernel
theorem dX10_nextVoice_3 : decode cX10_nextVoice 3 = .ok (.iconst 4, 1) := by decide +kernel
theorem dX10_nextVoice_4 : decode cX10_nextVoice 4 = .ok (.if_icmp .ge 20, 3) := by decide +kernel
theorem dX10_nextVoice_7 : decode cX10_nextVoice 7 = .ok (.aload_n 0, 1) := by decide +kernel
theorem dX10_nextVoice_8 : decode cX10_nextVoice 8 = .ok (.getfield 18, 3) := by decide +kernel
theorem dX10_nextVoice_11 : decode cX10_nextVoice 11 = .ok (.iload_n 1, 1) := by decide +kernel
theorem dX10_nextVoice_12 : decode cX10_nextVoice 12 = .ok (.iaload, 1) := by decide +kernel
theorem dX10_nextVoice_13 : decode cX10_nextVoice 13 = .ok (.ifCond .ne 5, 3) := by decide +kernel
theorem dX10_nextVoice_16 : decode cX10_nextVoice 16 = .ok (.iload_n 1, 1) := by decide +kernel
theorem dX10_nextVoice_17 : decode cX10_nextVoice 17 = .ok (.ireturn, 1) := by decide +kernel
theorem dX10_nextVoice_18 : decode cX10_nextVoice 18 = .ok (.iinc 1 1, 3) := by decide +kernel
theorem dX10_nextVoice_21 : decode cX10_nextVoice 21 = .ok (.goto (-19), 3) := by decide +kernel
theorem dX10_nextVoice_24 : decode cX10_nextVoice 24 = .ok (.iconst (-1), 1) := by decide +kernel
theorem dX10_nextVoice_25 : decode cX10_nextVoice 25 = .ok (.istore_n 1, 1) := by decide +kernel
theorem dX10_nextVoice_26 : decode cX10_nextVoice 26 = .ok (.iconst 0, 1) := by decide +kernel
theorem dX10_nextVoice_27 : decode cX10_nextVoice 27 = .ok (.istore_n 2, 1) := by decide +kernel
theorem dX10_nextVoice_28 : decode cX10_nextVoice 28 = .ok (.iload_n 2, 1) := by decide +kernel
theorem dX10_nextVoice_29 : decode cX10_nextVoice 29 = .ok (.iconst 4, 1) := by decide +kernel
theorem dX10_nextVoice_30 : decode cX10_nextVoice 30 = .ok (.if_icmp .ge 41, 3) := by decide +kernel
theorem dX10_nextVoice_33 : decode cX10_nextVoice 33 = .ok (.aload_n 0, 1) := by decide +kernel
theorem dX10_nextVoice_34 : decode cX10_nextVoice 34 = .ok (.getfield 18, 3) := by decide +kernel
theorem dX10_nextVoice_37 : decode cX10_nextVoice 37 = .ok (.iload_n 2, 1) := by decide +kernel
theorem dX10_nextVoice_38 : decode cX10_nextVoice 38 = .ok (.iaload, 1) := by decide +kernel
theorem dX10_nextVoice_39 : decode cX10_nextVoice 39 = .ok (.iconst 4, 1) := by decide +kernel
theorem dX10_nextVoice_40 : decode cX10_nextVoice 40 = .ok (.if_icmp .ne 25, 3) := by decide +kernel
theorem dX10_nextVoice_43 : decode cX10_nextVoice 43 = .ok (.iload_n 1, 1) := by decide +kernel
theorem dX10_nextVoice_44 : decode cX10_nextVoice 44 = .ok (.iconst (-1), 1) := by decide +kernel
theorem dX10_nextVoice_45 : decode cX10_nextVoice 45 = .ok (.if_icmp .eq 18, 3) := by decide +kernel
theorem dX10_nextVoice_48 : decode cX10_nextVoice 48 = .ok (.aload_n 0, 1) := by decide +kernel
theorem dX10_nextVoice_49 : decode cX10_nextVoice 49 = .ok (.getfield 21, 3) := by decide +kernel
theorem dX10_nextVoice_52 : decode cX10_nextVoice 52 = .ok (.iload_n 2, 1) := by decide +kernel
theorem dX10_nextVoice_53 : decode cX10_nextVoice 53 = .ok (.iaload, 1) := by decide +kernel
theorem dX10_nextVoice_54 : decode cX10_nextVoice 54 = .ok (.aload_n 0, 1) := by decide +kernel
theorem dX10_nextVoice_55 : decode cX10_nextVoice 55 = .ok (.getfield 21, 3) := by decide +kernel
theorem dX10_nextVoice_58 : decode cX10_nextVoice 58 = .ok (.iload_n 1, 1) := by decide +kernel
theorem dX10_nextVoice_59 : decode cX10_nextVoice 59 = .ok (.iaload, 1) := by decide +kernel
theorem dX10_nextVoice_60 : decode cX10_nextVoice 60 = .ok (.if_icmp .ge 5, 3) := by decide +kernel
theorem dX10_nextVoice_63 : decode cX10_nextVoice 63 = .ok (.iload_n 2, 1) := by decide +kernel
theorem dX10_nextVoice_64 : decode cX10_nextVoice 64 = .ok (.istore_n 1, 1) := by decide +kernel
theorem dX10_nextVoice_65 : decode cX10_nextVoice 65 = .ok (.iinc 2 1, 3) := by decide +kernel
theorem dX10_nextVoice_68 : decode cX10_nextVoice 68 = .ok (.goto (-40), 3) := by decide +kernel
theorem dX10_nextVoice_71 : decode cX10_nextVoice 71 = .ok (.iload_n 1, 1) := by decide +kernel
theorem dX10_nextVoice_72 : decode cX10_nextVoice 72 = .ok (.iconst (-1), 1) := by decide +kernel
theorem dX10_nextVoice_73 : decode cX10_nextVoice 73 = .ok (.if_icmp .eq 5, 3) := by decide +kernel
theorem dX10_nextVoice_76 : decode cX10_nextVoice 76 = .ok (.iload_n 1, 1) := by decide +kernel
theorem dX10_nextVoice_77 : decode cX10_nextVoice 77 = .ok (.ireturn, 1) := by decide +kernel
theorem dX10_nextVoice_78 : decode cX10_nextVoice 78 = .ok (.iconst 0, 1) := by decide +kernel
theorem dX10_nextVoice_79 : decode cX10_nextVoice 79 = .ok (.istore_n 1, 1) := by decide +kernel
theorem dX10_nextVoice_80 : decode cX10_nextVoice 80 = .ok (.iconst 1, 1) := by decide +kernel
theorem dX10_nextVoice_81 : decode cX10_nextVoice 81 = .ok (.istore_n 2, 1) := by decide +kernel
theorem dX10_nextVoice_82 : decode cX10_nextVoice 82 = .ok (.iload_n 2, 1) := by decide +kernel
theorem dX10_nextVoice_83 : decode cX10_nextVoice 83 = .ok (.iconst 4, 1) := by decide +kernel
theorem dX10_nextVoice_84 : decode cX10_nextVoice 84 = .ok (.if_icmp .ge 26, 3) := by decide +kernel
theorem dX10_nextVoice_87 : decode cX10_nextVoice 87 = .ok (.aload_n 0, 1) := by decide +kernel
theorem dX10_nextVoice_88 : decode cX10_nextVoice 88 = .ok (.getfield 48, 3) := by decide +kernel
theorem dX10_nextVoice_91 : decode cX10_nextVoice 91 = .ok (.iload_n 2, 1) := by decide +kernel
theorem dX10_nextVoice_92 : decode cX10_nextVoice 92 = .ok (.iaload, 1) := by decide +kernel
theorem dX10_nextVoice_93 : decode cX10_nextVoice 93 = .ok (.aload_n 0, 1) := by decide +kernel
theorem dX10_nextVoice_94 : decode cX10_nextVoice 94 = .ok (.getfield 48, 3) := by decide +kernel
theorem dX10_nextVoice_97 : decode cX10_nextVoice 97 = .ok (.iload_n 1, 1) := by decide +kernel
theorem dX10_nextVoice_98 : decode cX10_nextVoice 98 = .ok (.iaload, 1) := by decide +kernel
theorem dX10_nextVoice_99 : decode cX10_nextVoice 99 = .ok (.if_icmp .ge 5, 3) := by decide +kernel
theorem dX10_nextVoice_102 : decode cX10_nextVoice 102 = .ok (.iload_n 2, 1) := by decide +kernel
theorem dX10_nextVoice_103 : decode cX10_nextVoice 103 = .ok (.istore_n 1, 1) := by decide +kernel
theorem dX10_nextVoice_104 : decode cX10_nextVoice 104 = .ok (.iinc 2 1, 3) := by decide +kernel
theorem dX10_nextVoice_107 : decode cX10_nextVoice 107 = .ok (.goto (-25), 3) := by decide +kernel
theorem dX10_nextVoice_110 : decode cX10_nextVoice 110 = .ok (.iload_n 1, 1) := by decide +kernel
theorem dX10_nextVoice_111 : decode cX10_nextVoice 111 = .ok (.ireturn, 1) := by decide +kernel
set_option maxRecDepth 20000 in
theorem ggX10_begin_X10_nextVoice : GoodIn wsX10_begin wsX10_nextVoice := goodIn_r _ [17, 2, 18, 11, 19, 20, 21, 22, 23, 24, 25, 26, 27, 28, 29, 30, 31, 32, 33, 34, 35, 36, 37, 38, 39, 40, 41, 42, 43, 44, 45, 46, 47, 48, 49, 50, 51, 52, 53] (by decide +kernel) (by decide +kernel)
set_option maxRecDepth 20000 in
theorem gX10_begin_X10_nextVoice : GoodIn wsX10_begin (wsV RX10 113 RX10 yX10_nextVoice wsX10_nextVoice) := goodIn_app (goodIn_of _ (by decide +kernel)) ggX10_begin_X10_nextVoice
theorem dX10_begin_0 : decode cX10_begin 0 = .ok (.aload_n 0, 1) := by decide +kernel
theorem dX10_begin_1 : decode cX10_begin 1 = .ok (.invokevirtual 113, 3) := by decide +kernel
theorem dX10_begin_4 : decode cX10_begin 4 = .ok (.istore 5, 2) := by decide +kernel
theorem dX10_begin_6 : decode cX10_begin 6 = .ok (.aload_n 0, 1) := by decide +kernel
theorem dX10_begin_7 : decode cX10_begin 7 = .ok (.dup, 1) := by decide +kernel
theorem dX10_begin_8 : decode cX10_begin 8 = .ok (.getfield 78, 3) := by decide +kernel
theorem dX10_begin_11 : decode cX10_begin 11 = .ok (.aload_n 0, 1) := by decide +kernel
theorem dX10_begin_12 : decode cX10_begin 12 = .ok (.getfield 18, 3) := by decide +kernel
theorem dX10_begin_15 : decode cX10_begin 15 = .ok (.iload 5, 2) := by decide +kernel
theorem dX10_begin_17 : decode cX10_begin 17 = .ok (.iaload, 1) := by decide +kernel
theorem dX10_begin_18 : decode cX10_begin 18 = .ok (.ifCond .ne 7, 3) := by decide +kernel
theorem dX10_begin_21 : decode cX10_begin 21 = .ok (.iconst 0, 1) := by decide +kernel
theorem dX10_begin_22 : decode cX10_begin 22 = .ok (.goto 4, 3) := by decide +kernel
theorem dX10_begin_25 : decode cX10_begin 25 = .ok (.iconst 1, 1) := by decide +kernel
theorem dX10_begin_26 : decode cX10_begin 26 = .ok (.iadd, 1) := by decide +kernel
theorem dX10_begin_27 : decode cX10_begin 27 = .ok (.putfield 78, 3) := by decide +kernel
theorem dX10_begin_30 : decode cX10_begin 30 = .ok (.aload_n 0, 1) := by decide +kernel
theorem dX10_begin_31 : decode cX10_begin 31 = .ok (.getfield 18, 3) := by decide +kernel
theorem dX10_begin_34 : decode cX10_begin 34 = .ok (.iload 5, 2) := by decide +kernel
theorem dX10_begin_36 : decode cX10_begin 36 = .ok (.iconst 1, 1) := by decide +kernel
theorem dX10_begin_37 : decode cX10_begin 37 = .ok (.iastore, 1) := by decide +kernel
theorem dX10_begin_38 : decode cX10_begin 38 = .ok (.aload_n 0, 1) := by decide +kernel
theorem dX10_begin_39 : decode cX10_begin 39 = .ok (.getfield 24, 3) := by decide +kernel
theorem dX10_begin_42 : decode cX10_begin 42 = .ok (.iload 5, 2) := by decide +kernel
theorem dX10_begin_44 : decode cX10_begin 44 = .ok (.iload_n 1, 1) := by decide +kernel
theorem dX10_begin_45 : decode cX10_begin 45 = .ok (.iastore, 1) := by decide +kernel
theorem dX10_begin_46 : decode cX10_begin 46 = .ok (.aload_n 0, 1) := by decide +kernel
theorem dX10_begin_47 : decode cX10_begin 47 = .ok (.getfield 27, 3) := by decide +kernel
theorem dX10_begin_50 : decode cX10_begin 50 = .ok (.iload 5, 2) := by decide +kernel
theorem dX10_begin_52 : decode cX10_begin 52 = .ok (.iload_n 2, 1) := by decide +kernel
theorem dX10_begin_53 : decode cX10_begin 53 = .ok (.iastore, 1) := by decide +kernel
theorem dX10_begin_54 : decode cX10_begin 54 = .ok (.aload_n 0, 1) := by decide +kernel
theorem dX10_begin_55 : decode cX10_begin 55 = .ok (.getfield 30, 3) := by decide +kernel
theorem dX10_begin_58 : decode cX10_begin 58 = .ok (.iload 5, 2) := by decide +kernel
theorem dX10_begin_60 : decode cX10_begin 60 = .ok (.iload_n 3, 1) := by decide +kernel
theorem dX10_begin_61 : decode cX10_begin 61 = .ok (.iastore, 1) := by decide +kernel
theorem dX10_begin_62 : decode cX10_begin 62 = .ok (.aload_n 0, 1) := by decide +kernel
theorem dX10_begin_63 : decode cX10_begin 63 = .ok (.getfield 33, 3) := by decide +kernel
theorem dX10_begin_66 : decode cX10_begin 66 = .ok (.iload 5, 2) := by decide +kernel
theorem dX10_begin_68 : decode cX10_begin 68 = .ok (.iconst 0, 1) := by decide +kernel
theorem dX10_begin_69 : decode cX10_begin 69 = .ok (.iastore, 1) := by decide +kernel
theorem dX10_begin_70 : decode cX10_begin 70 = .ok (.aload_n 0, 1) := by decide +kernel
theorem dX10_begin_71 : decode cX10_begin 71 = .ok (.getfield 36, 3) := by decide +kernel
theorem dX10_begin_74 : decode cX10_begin 74 = .ok (.iload 5, 2) := by decide +kernel
theorem dX10_begin_76 : decode cX10_begin 76 = .ok (.iconst 0, 1) := by decide +kernel
theorem dX10_begin_77 : decode cX10_begin 77 = .ok (.iastore, 1) := by decide +kernel
theorem dX10_begin_78 : decode cX10_begin 78 = .ok (.aload_n 0, 1) := by decide +kernel
theorem dX10_begin_79 : decode cX10_begin 79 = .ok (.getfield 39, 3) := by decide +kernel
theorem dX10_begin_82 : decode cX10_begin 82 = .ok (.iload 5, 2) := by decide +kernel
theorem dX10_begin_84 : decode cX10_begin 84 = .ok (.iconst 0, 1) := by decide +kernel
theorem dX10_begin_85 : decode cX10_begin 85 = .ok (.iastore, 1) := by decide +kernel
theorem dX10_begin_86 : decode cX10_begin 86 = .ok (.aload_n 0, 1) := by decide +kernel
theorem dX10_begin_87 : decode cX10_begin 87 = .ok (.getfield 42, 3) := by decide +kernel
theorem dX10_begin_90 : decode cX10_begin 90 = .ok (.iload 5, 2) := by decide +kernel
theorem dX10_begin_92 : decode cX10_begin 92 = .ok (.iconst 0, 1) := by decide +kernel
theorem dX10_begin_93 : decode cX10_begin 93 = .ok (.iastore, 1) := by decide +kernel
theorem dX10_begin_94 : decode cX10_begin 94 = .ok (.aload_n 0, 1) := by decide +kernel
theorem dX10_begin_95 : decode cX10_begin 95 = .ok (.getfield 45, 3) := by decide +kernel
theorem dX10_begin_98 : decode cX10_begin 98 = .ok (.iload 5, 2) := by decide +kernel
theorem dX10_begin_100 : decode cX10_begin 100 = .ok (.iload 4, 2) := by decide +kernel
theorem dX10_begin_102 : decode cX10_begin 102 = .ok (.iastore, 1) := by decide +kernel
theorem dX10_begin_103 : decode cX10_begin 103 = .ok (.aload_n 0, 1) := by decide +kernel
theorem dX10_begin_104 : decode cX10_begin 104 = .ok (.getfield 48, 3) := by decide +kernel
theorem dX10_begin_107 : decode cX10_begin 107 = .ok (.iload 5, 2) := by decide +kernel
theorem dX10_begin_109 : decode cX10_begin 109 = .ok (.aload_n 0, 1) := by decide +kernel
theorem dX10_begin_110 : decode cX10_begin 110 = .ok (.dup, 1) := by decide +kernel
theorem dX10_begin_111 : decode cX10_begin 111 = .ok (.getfield 75, 3) := by decide +kernel
theorem dX10_begin_114 : decode cX10_begin 114 = .ok (.dup_x1, 1) := by decide +kernel
theorem dX10_begin_115 : decode cX10_begin 115 = .ok (.iconst 1, 1) := by decide +kernel
theorem dX10_begin_116 : decode cX10_begin 116 = .ok (.iadd, 1) := by decide +kernel
theorem dX10_begin_117 : decode cX10_begin 117 = .ok (.putfield 75, 3) := by decide +kernel
theorem dX10_begin_120 : decode cX10_begin 120 = .ok (.iastore, 1) := by decide +kernel
theorem dX10_begin_121 : decode cX10_begin 121 = .ok (.iload 5, 2) := by decide +kernel
theorem dX10_begin_123 : decode cX10_begin 123 = .ok (.ireturn, 1) := by decide +kernel
set_option maxRecDepth 20000 in
theorem ggX10_end_X11_isIn : GoodIn wsX10_end wsX11_isIn := goodIn_r _ [4] (by decide +kernel) (by decide +kernel)
set_option maxRecDepth 20000 in
theorem gX10_end_X11_isIn_n117 : GoodIn wsX10_end (wsX11_isIn) := ggX10_end_X11_isIn
theorem dX10_end_0 : decode cX10_end 0 = .ok (.aload_n 0, 1) := by decide +kernel
theorem dX10_end_1 : decode cX10_end 1 = .ok (.getfield 18, 3) := by decide +kernel
theorem dX10_end_4 : decode cX10_end 4 = .ok (.iload_n 1, 1) := by decide +kernel
theorem dX10_end_5 : decode cX10_end 5 = .ok (.iaload, 1) := by decide +kernel
theorem dX10_end_6 : decode cX10_end 6 = .ok (.iconst 1, 1) := by decide +kernel
theorem dX10_end_7 : decode cX10_end 7 = .ok (.iconst 3, 1) := by decide +kernel
theorem dX10_end_8 : decode cX10_end 8 = .ok (.invokestatic 117, 3) := by decide +kernel
theorem dX10_end_11 : decode cX10_end 11 = .ok (.ifCond .eq 10, 3) := by decide +kernel
theorem dX10_end_14 : decode cX10_end 14 = .ok (.aload_n 0, 1) := by decide +kernel
theorem dX10_end_15 : decode cX10_end 15 = .ok (.getfield 18, 3) := by decide +kernel
theorem dX10_end_18 : decode cX10_end 18 = .ok (.iload_n 1, 1) := by decide +kernel
theorem dX10_end_19 : decode cX10_end 19 = .ok (.iconst 4, 1) := by decide +kernel
theorem dX10_end_20 : decode cX10_end 20 = .ok (.iastore, 1) := by decide +kernel
theorem dX10_end_21 : decode cX10_end 21 = .ok (.return_, 1) := by decide +kernel
set_option maxRecDepth 20000 in
theorem ggX10_goOnTracks_X10_end : GoodIn wsX10_goOnTracks wsX10_end := goodIn_r _ [14, 15, 16, 17, 18, 38, 39, 40, 41, 42, 43, 44, 45, 46, 47, 48, 49, 50, 51, 52, 53, 54, 55, 56, 57, 58, 59, 60, 61, 62, 63, 64, 65, 66, 67, 68, 69, 70, 71, 72] (by decide +kernel) (by decide +kernel)
set_option maxRecDepth 20000 in
theorem gX10_goOnTracks_X10_end : GoodIn wsX10_goOnTracks (wsV RX10 121 RX10 yX10_end wsX10_end) := goodIn_app (goodIn_of _ (by decide +kernel)) ggX10_goOnTracks_X10_end
set_option maxRecDepth 20000 in
theorem ggX10_goOnTracks_X10_begin : GoodIn wsX10_goOnTracks wsX10_begin := goodIn_r _ [22, 23, 15, 24, 25, 26, 27, 28, 29, 30, 1, 31, 32, 33, 34, 35, 13, 36, 37, 38, 39, 40, 41, 42, 43, 44, 45, 46, 47, 48, 49, 50, 51, 52, 53, 54, 55, 56, 57, 58, 59, 60, 61, 62, 63, 64, 65, 66, 67, 68, 69, 70, 71, 72] (by decide +kernel) (by decide +kernel)
set_option maxRecDepth 20000 in
theorem gX10_goOnTracks_X10_begin : GoodIn wsX10_goOnTracks (wsV RX10 125 RX10 yX10_begin wsX10_begin) := goodIn_app (goodIn_of _ (by decide +kernel)) ggX10_goOnTracks_X10_begin
theorem dX10_goOnTracks_0 : decode cX10_goOnTracks 0 = .ok (.iconst 0, 1) := by decide +kernel
theorem dX10_goOnTracks_1 : decode cX10_goOnTracks 1 = .ok (.istore_n 1, 1) := by decide +kernel
theorem dX10_goOnTracks_2 : decode cX10_goOnTracks 2 = .ok (.iload_n 1, 1) := by decide +kernel
theorem dX10_goOnTracks_3 : decode cX10_goOnTracks 3 = .ok (.iconst 4, 1) := by decide +kernel
theorem dX10_goOnTracks_4 : decode cX10_goOnTracks 4 = .ok (.if_icmp .ge 33, 3) := by decide +kernel
theorem dX10_goOnTracks_7 : decode cX10_goOnTracks 7 = .ok (.aload_n 0, 1) := by decide +kernel
theorem dX10_goOnTracks_8 : decode cX10_goOnTracks 8 = .ok (.getfield 45, 3) := by decide +kernel
theorem dX10_goOnTracks_11 : decode cX10_goOnTracks 11 = .ok (.iload_n 1, 1) := by decide +kernel
theorem dX10_goOnTracks_12 : decode cX10_goOnTracks 12 = .ok (.iaload, 1) := by decide +kernel
theorem dX10_goOnTracks_13 : decode cX10_goOnTracks 13 = .ok (.ifCond .eq 6, 3) := by decide +kernel
theorem dX10_goOnTracks_16 : decode cX10_goOnTracks 16 = .ok (.goto 15, 3) := by decide +kernel
theorem dX10_goOnTracks_19 : decode cX10_goOnTracks 19 = .ok (.aload_n 0, 1) := by decide +kernel
theorem dX10_goOnTracks_20 : decode cX10_goOnTracks 20 = .ok (.getfield 45, 3) := by decide +kernel
theorem dX10_goOnTracks_23 : decode cX10_goOnTracks 23 = .ok (.iload_n 1, 1) := by decide +kernel
theorem dX10_goOnTracks_24 : decode cX10_goOnTracks 24 = .ok (.iconst (-1), 1) := by decide +kernel
theorem dX10_goOnTracks_25 : decode cX10_goOnTracks 25 = .ok (.iastore, 1) := by decide +kernel
theorem dX10_goOnTracks_26 : decode cX10_goOnTracks 26 = .ok (.aload_n 0, 1) := by decide +kernel
theorem dX10_goOnTracks_27 : decode cX10_goOnTracks 27 = .ok (.iload_n 1, 1) := by decide +kernel
theorem dX10_goOnTracks_28 : decode cX10_goOnTracks 28 = .ok (.invokevirtual 121, 3) := by decide +kernel
theorem dX10_goOnTracks_31 : decode cX10_goOnTracks 31 = .ok (.iinc 1 1, 3) := by decide +kernel
theorem dX10_goOnTracks_34 : decode cX10_goOnTracks 34 = .ok (.goto (-32), 3) := by decide +kernel
theorem dX10_goOnTracks_37 : decode cX10_goOnTracks 37 = .ok (.aload_n 0, 1) := by decide +kernel
theorem dX10_goOnTracks_38 : decode cX10_goOnTracks 38 = .ok (.getfield 93, 3) := by decide +kernel
theorem dX10_goOnTracks_41 : decode cX10_goOnTracks 41 = .ok (.ifCond .eq 10, 3) := by decide +kernel
theorem dX10_goOnTracks_44 : decode cX10_goOnTracks 44 = .ok (.aload_n 0, 1) := by decide +kernel
theorem dX10_goOnTracks_45 : decode cX10_goOnTracks 45 = .ok (.getfield 100, 3) := by decide +kernel
theorem dX10_goOnTracks_48 : decode cX10_goOnTracks 48 = .ok (.ifCond .le 4, 3) := by decide +kernel
theorem dX10_goOnTracks_51 : decode cX10_goOnTracks 51 = .ok (.return_, 1) := by decide +kernel
theorem dX10_goOnTracks_52 : decode cX10_goOnTracks 52 = .ok (.aload_n 0, 1) := by decide +kernel
theorem dX10_goOnTracks_53 : decode cX10_goOnTracks 53 = .ok (.aload_n 0, 1) := by decide +kernel
theorem dX10_goOnTracks_54 : decode cX10_goOnTracks 54 = .ok (.getfield 97, 3) := by decide +kernel
theorem dX10_goOnTracks_57 : decode cX10_goOnTracks 57 = .ok (.iconst 2, 1) := by decide +kernel
theorem dX10_goOnTracks_58 : decode cX10_goOnTracks 58 = .ok (.irem, 1) := by decide +kernel
theorem dX10_goOnTracks_59 : decode cX10_goOnTracks 59 = .ok (.ifCond .ne 15, 3) := by decide +kernel
theorem dX10_goOnTracks_62 : decode cX10_goOnTracks 62 = .ok (.aload_n 0, 1) := by decide +kernel
theorem dX10_goOnTracks_63 : decode cX10_goOnTracks 63 = .ok (.getfield 64, 3) := by decide +kernel
theorem dX10_goOnTracks_66 : decode cX10_goOnTracks 66 = .ok (.aload_n 0, 1) := by decide +kernel
theorem dX10_goOnTracks_67 : decode cX10_goOnTracks 67 = .ok (.getfield 90, 3) := by decide +kernel
theorem dX10_goOnTracks_70 : decode cX10_goOnTracks 70 = .ok (.iadd, 1) := by decide +kernel
theorem dX10_goOnTracks_71 : decode cX10_goOnTracks 71 = .ok (.goto 12, 3) := by decide +kernel
theorem dX10_goOnTracks_74 : decode cX10_goOnTracks 74 = .ok (.aload_n 0, 1) := by decide +kernel
theorem dX10_goOnTracks_75 : decode cX10_goOnTracks 75 = .ok (.getfield 64, 3) := by decide +kernel
theorem dX10_goOnTracks_78 : decode cX10_goOnTracks 78 = .ok (.aload_n 0, 1) := by decide +kernel
theorem dX10_goOnTracks_79 : decode cX10_goOnTracks 79 = .ok (.getfield 90, 3) := by decide +kernel
theorem dX10_goOnTracks_82 : decode cX10_goOnTracks 82 = .ok (.isub, 1) := by decide +kernel
theorem dX10_goOnTracks_83 : decode cX10_goOnTracks 83 = .ok (.putfield 103, 3) := by decide +kernel
theorem dX10_goOnTracks_86 : decode cX10_goOnTracks 86 = .ok (.iconst 0, 1) := by decide +kernel
theorem dX10_goOnTracks_87 : decode cX10_goOnTracks 87 = .ok (.istore_n 1, 1) := by decide +kernel
theorem dX10_goOnTracks_88 : decode cX10_goOnTracks 88 = .ok (.iload_n 1, 1) := by decide +kernel
theorem dX10_goOnTracks_89 : decode cX10_goOnTracks 89 = .ok (.iconst 3, 1) := by decide +kernel
theorem dX10_goOnTracks_90 : decode cX10_goOnTracks 90 = .ok (.if_icmp .ge 64, 3) := by decide +kernel
theorem dX10_goOnTracks_93 : decode cX10_goOnTracks 93 = .ok (.iload_n 1, 1) := by decide +kernel
theorem dX10_goOnTracks_94 : decode cX10_goOnTracks 94 = .ok (.bipush 8, 2) := by decide +kernel
theorem dX10_goOnTracks_96 : decode cX10_goOnTracks 96 = .ok (.imul, 1) := by decide +kernel
theorem dX10_goOnTracks_97 : decode cX10_goOnTracks 97 = .ok (.aload_n 0, 1) := by decide +kernel
theorem dX10_goOnTracks_98 : decode cX10_goOnTracks 98 = .ok (.getfield 97, 3) := by decide +kernel
theorem dX10_goOnTracks_101 : decode cX10_goOnTracks 101 = .ok (.iadd, 1) := by decide +kernel
theorem dX10_goOnTracks_102 : decode cX10_goOnTracks 102 = .ok (.iconst 3, 1) := by decide +kernel
theorem dX10_goOnTracks_103 : decode cX10_goOnTracks 103 = .ok (.imul, 1) := by decide +kernel
theorem dX10_goOnTracks_104 : decode cX10_goOnTracks 104 = .ok (.istore_n 2, 1) := by decide +kernel
theorem dX10_goOnTracks_105 : decode cX10_goOnTracks 105 = .ok (.aload_n 0, 1) := by decide +kernel
theorem dX10_goOnTracks_106 : decode cX10_goOnTracks 106 = .ok (.getfield 61, 3) := by decide +kernel
theorem dX10_goOnTracks_109 : decode cX10_goOnTracks 109 = .ok (.iload_n 2, 1) := by decide +kernel
theorem dX10_goOnTracks_110 : decode cX10_goOnTracks 110 = .ok (.iaload, 1) := by decide +kernel
theorem dX10_goOnTracks_111 : decode cX10_goOnTracks 111 = .ok (.iconst (-1), 1) := by decide +kernel
theorem dX10_goOnTracks_112 : decode cX10_goOnTracks 112 = .ok (.if_icmp .eq 36, 3) := by decide +kernel
theorem dX10_goOnTracks_115 : decode cX10_goOnTracks 115 = .ok (.aload_n 0, 1) := by decide +kernel
theorem dX10_goOnTracks_116 : decode cX10_goOnTracks 116 = .ok (.aload_n 0, 1) := by decide +kernel
theorem dX10_goOnTracks_117 : decode cX10_goOnTracks 117 = .ok (.getfield 58, 3) := by decide +kernel
theorem dX10_goOnTracks_120 : decode cX10_goOnTracks 120 = .ok (.iload_n 1, 1) := by decide +kernel
theorem dX10_goOnTracks_121 : decode cX10_goOnTracks 121 = .ok (.iaload, 1) := by decide +kernel
theorem dX10_goOnTracks_122 : decode cX10_goOnTracks 122 = .ok (.aload_n 0, 1) := by decide +kernel
theorem dX10_goOnTracks_123 : decode cX10_goOnTracks 123 = .ok (.getfield 61, 3) := by decide +kernel
theorem dX10_goOnTracks_126 : decode cX10_goOnTracks 126 = .ok (.iload_n 2, 1) := by decide +kernel
theorem dX10_goOnTracks_127 : decode cX10_goOnTracks 127 = .ok (.iaload, 1) := by decide +kernel
theorem dX10_goOnTracks_128 : decode cX10_goOnTracks 128 = .ok (.aload_n 0, 1) := by decide +kernel
theorem dX10_goOnTracks_129 : decode cX10_goOnTracks 129 = .ok (.getfield 61, 3) := by decide +kernel
theorem dX10_goOnTracks_132 : decode cX10_goOnTracks 132 = .ok (.iload_n 2, 1) := by decide +kernel
theorem dX10_goOnTracks_133 : decode cX10_goOnTracks 133 = .ok (.iconst 1, 1) := by decide +kernel
theorem dX10_goOnTracks_134 : decode cX10_goOnTracks 134 = .ok (.iadd, 1) := by decide +kernel
theorem dX10_goOnTracks_135 : decode cX10_goOnTracks 135 = .ok (.iaload, 1) := by decide +kernel
theorem dX10_goOnTracks_136 : decode cX10_goOnTracks 136 = .ok (.aload_n 0, 1) := by decide +kernel
theorem dX10_goOnTracks_137 : decode cX10_goOnTracks 137 = .ok (.getfield 61, 3) := by decide +kernel
theorem dX10_goOnTracks_140 : decode cX10_goOnTracks 140 = .ok (.iload_n 2, 1) := by decide +kernel
theorem dX10_goOnTracks_141 : decode cX10_goOnTracks 141 = .ok (.iconst 2, 1) := by decide +kernel
theorem dX10_goOnTracks_142 : decode cX10_goOnTracks 142 = .ok (.iadd, 1) := by decide +kernel
theorem dX10_goOnTracks_143 : decode cX10_goOnTracks 143 = .ok (.iaload, 1) := by decide +kernel
theorem dX10_goOnTracks_144 : decode cX10_goOnTracks 144 = .ok (.invokevirtual 125, 3) := by decide +kernel
theorem dX10_goOnTracks_147 : decode cX10_goOnTracks 147 = .ok (.pop, 1) := by decide +kernel
theorem dX10_goOnTracks_148 : decode cX10_goOnTracks 148 = .ok (.iinc 1 1, 3) := by decide +kernel
theorem dX10_goOnTracks_151 : decode cX10_goOnTracks 151 = .ok (.goto (-63), 3) := by decide +kernel
theorem dX10_goOnTracks_154 : decode cX10_goOnTracks 154 = .ok (.return_, 1) := by decide +kernel
theorem dX10_told_0 : decode cX10_told 0 = .ok (.aload_n 0, 1) := by decide +kernel
theorem dX10_told_1 : decode cX10_told 1 = .ok (.getfield 15, 3) := by decide +kernel
theorem dX10_told_4 : decode cX10_told 4 = .ok (.aload_n 0, 1) := by decide +kernel
theorem dX10_told_5 : decode cX10_told 5 = .ok (.getfield 24, 3) := by decide +kernel
theorem dX10_told_8 : decode cX10_told 8 = .ok (.iload_n 1, 1) := by decide +kernel
theorem dX10_told_9 : decode cX10_told 9 = .ok (.iaload, 1) := by decide +kernel
theorem dX10_told_10 : decode cX10_told 10 = .ok (.bipush 12, 2) := by decide +kernel
theorem dX10_told_12 : decode cX10_told 12 = .ok (.imul, 1) := by decide +kernel
theorem dX10_told_13 : decode cX10_told 13 = .ok (.iload_n 2, 1) := by decide +kernel
theorem dX10_told_14 : decode cX10_told 14 = .ok (.iadd, 1) := by decide +kernel
theorem dX10_told_15 : decode cX10_told 15 = .ok (.iaload, 1) := by decide +kernel
theorem dX10_told_16 : decode cX10_told 16 = .ok (.ireturn, 1) := by decide +kernel
set_option maxRecDepth 20000 in
theorem ggX10_goOnLevel_X10_told : GoodIn wsX10_goOnLevel wsX10_told := goodIn_r _ [15, 16, 17, 18, 19, 20, 21, 22, 23, 24, 25, 26, 27, 28, 29, 30, 31, 32, 33, 34, 35, 36, 37, 38, 39, 40, 41, 42, 43, 44, 45, 46, 47, 48, 49, 50, 51, 52] (by decide +kernel) (by decide +kernel)
set_option maxRecDepth 20000 in
theorem gX10_goOnLevel_X10_told : GoodIn wsX10_goOnLevel (wsV RX10 129 RX10 yX10_told wsX10_told) := goodIn_app (goodIn_of _ (by decide +kernel)) ggX10_goOnLevel_X10_told
theorem dX10_goOnLevel_0 : decode cX10_goOnLevel 0 = .ok (.sipush 1000, 3) := by decide +kernel
theorem dX10_goOnLevel_3 : decode cX10_goOnLevel 3 = .ok (.aload_n 0, 1) := by decide +kernel
theorem dX10_goOnLevel_4 : decode cX10_goOnLevel 4 = .ok (.iload_n 1, 1) := by decide +kernel
theorem dX10_goOnLevel_5 : decode cX10_goOnLevel 5 = .ok (.bipush 6, 2) := by decide +kernel
theorem dX10_goOnLevel_7 : decode cX10_goOnLevel 7 = .ok (.invokevirtual 129, 3) := by decide +kernel
theorem dX10_goOnLevel_10 : decode cX10_goOnLevel 10 = .ok (.imul, 1) := by decide +kernel
theorem dX10_goOnLevel_11 : decode cX10_goOnLevel 11 = .ok (.istore_n 2, 1) := by decide +kernel
theorem dX10_goOnLevel_12 : decode cX10_goOnLevel 12 = .ok (.aload_n 0, 1) := by decide +kernel
theorem dX10_goOnLevel_13 : decode cX10_goOnLevel 13 = .ok (.getfield 18, 3) := by decide +kernel
theorem dX10_goOnLevel_16 : decode cX10_goOnLevel 16 = .ok (.iload_n 1, 1) := by decide +kernel
theorem dX10_goOnLevel_17 : decode cX10_goOnLevel 17 = .ok (.iaload, 1) := by decide +kernel
theorem dX10_goOnLevel_18 : decode cX10_goOnLevel 18 = .ok (.tableswitch 134 1 3 #[26, 74, 124], 26) := by decide +kernel
theorem dX10_goOnLevel_44 : decode cX10_goOnLevel 44 = .ok (.aload_n 0, 1) := by decide +kernel
theorem dX10_goOnLevel_45 : decode cX10_goOnLevel 45 = .ok (.getfield 21, 3) := by decide +kernel
theorem dX10_goOnLevel_48 : decode cX10_goOnLevel 48 = .ok (.iload_n 1, 1) := by decide +kernel
theorem dX10_goOnLevel_49 : decode cX10_goOnLevel 49 = .ok (.ldc 132, 2) := by decide +kernel
theorem dX10_goOnLevel_51 : decode cX10_goOnLevel 51 = .ok (.aload_n 0, 1) := by decide +kernel
theorem dX10_goOnLevel_52 : decode cX10_goOnLevel 52 = .ok (.getfield 21, 3) := by decide +kernel
theorem dX10_goOnLevel_55 : decode cX10_goOnLevel 55 = .ok (.iload_n 1, 1) := by decide +kernel
theorem dX10_goOnLevel_56 : decode cX10_goOnLevel 56 = .ok (.iaload, 1) := by decide +kernel
theorem dX10_goOnLevel_57 : decode cX10_goOnLevel 57 = .ok (.ldc 132, 2) := by decide +kernel
theorem dX10_goOnLevel_59 : decode cX10_goOnLevel 59 = .ok (.aload_n 0, 1) := by decide +kernel
theorem dX10_goOnLevel_60 : decode cX10_goOnLevel 60 = .ok (.iload_n 1, 1) := by decide +kernel
theorem dX10_goOnLevel_61 : decode cX10_goOnLevel 61 = .ok (.iconst 4, 1) := by decide +kernel
theorem dX10_goOnLevel_62 : decode cX10_goOnLevel 62 = .ok (.invokevirtual 129, 3) := by decide +kernel
theorem dX10_goOnLevel_65 : decode cX10_goOnLevel 65 = .ok (.idiv, 1) := by decide +kernel
theorem dX10_goOnLevel_66 : decode cX10_goOnLevel 66 = .ok (.iadd, 1) := by decide +kernel
theorem dX10_goOnLevel_67 : decode cX10_goOnLevel 67 = .ok (.invokestatic 133, 3) := by decide +kernel
theorem dX10_goOnLevel_70 : decode cX10_goOnLevel 70 = .ok (.iastore, 1) := by decide +kernel
theorem dX10_goOnLevel_71 : decode cX10_goOnLevel 71 = .ok (.aload_n 0, 1) := by decide +kernel
theorem dX10_goOnLevel_72 : decode cX10_goOnLevel 72 = .ok (.getfield 21, 3) := by decide +kernel
theorem dX10_goOnLevel_75 : decode cX10_goOnLevel 75 = .ok (.iload_n 1, 1) := by decide +kernel
theorem dX10_goOnLevel_76 : decode cX10_goOnLevel 76 = .ok (.iaload, 1) := by decide +kernel
theorem dX10_goOnLevel_77 : decode cX10_goOnLevel 77 = .ok (.ldc 132, 2) := by decide +kernel
theorem dX10_goOnLevel_79 : decode cX10_goOnLevel 79 = .ok (.if_icmp .ne 116, 3) := by decide +kernel
theorem dX10_goOnLevel_82 : decode cX10_goOnLevel 82 = .ok (.aload_n 0, 1) := by decide +kernel
theorem dX10_goOnLevel_83 : decode cX10_goOnLevel 83 = .ok (.getfield 18, 3) := by decide +kernel
theorem dX10_goOnLevel_86 : decode cX10_goOnLevel 86 = .ok (.iload_n 1, 1) := by decide +kernel
theorem dX10_goOnLevel_87 : decode cX10_goOnLevel 87 = .ok (.iconst 2, 1) := by decide +kernel
theorem dX10_goOnLevel_88 : decode cX10_goOnLevel 88 = .ok (.iastore, 1) := by decide +kernel
theorem dX10_goOnLevel_89 : decode cX10_goOnLevel 89 = .ok (.goto 106, 3) := by decide +kernel
theorem dX10_goOnLevel_92 : decode cX10_goOnLevel 92 = .ok (.aload_n 0, 1) := by decide +kernel
theorem dX10_goOnLevel_93 : decode cX10_goOnLevel 93 = .ok (.getfield 21, 3) := by decide +kernel
theorem dX10_goOnLevel_96 : decode cX10_goOnLevel 96 = .ok (.iload_n 1, 1) := by decide +kernel
theorem dX10_goOnLevel_97 : decode cX10_goOnLevel 97 = .ok (.iload_n 2, 1) := by decide +kernel
theorem dX10_goOnLevel_98 : decode cX10_goOnLevel 98 = .ok (.aload_n 0, 1) := by decide +kernel
theorem dX10_goOnLevel_99 : decode cX10_goOnLevel 99 = .ok (.getfield 21, 3) := by decide +kernel
theorem dX10_goOnLevel_102 : decode cX10_goOnLevel 102 = .ok (.iload_n 1, 1) := by decide +kernel
theorem dX10_goOnLevel_103 : decode cX10_goOnLevel 103 = .ok (.iaload, 1) := by decide +kernel
theorem dX10_goOnLevel_104 : decode cX10_goOnLevel 104 = .ok (.ldc 132, 2) := by decide +kernel
theorem dX10_goOnLevel_106 : decode cX10_goOnLevel 106 = .ok (.iload_n 2, 1) := by decide +kernel
theorem dX10_goOnLevel_107 : decode cX10_goOnLevel 107 = .ok (.isub, 1) := by decide +kernel
theorem dX10_goOnLevel_108 : decode cX10_goOnLevel 108 = .ok (.aload_n 0, 1) := by decide +kernel
theorem dX10_goOnLevel_109 : decode cX10_goOnLevel 109 = .ok (.iload_n 1, 1) := by decide +kernel
theorem dX10_goOnLevel_110 : decode cX10_goOnLevel 110 = .ok (.iconst 5, 1) := by decide +kernel
theorem dX10_goOnLevel_111 : decode cX10_goOnLevel 111 = .ok (.invokevirtual 129, 3) := by decide +kernel
theorem dX10_goOnLevel_114 : decode cX10_goOnLevel 114 = .ok (.idiv, 1) := by decide +kernel
theorem dX10_goOnLevel_115 : decode cX10_goOnLevel 115 = .ok (.isub, 1) := by decide +kernel
theorem dX10_goOnLevel_116 : decode cX10_goOnLevel 116 = .ok (.iconst 1, 1) := by decide +kernel
theorem dX10_goOnLevel_117 : decode cX10_goOnLevel 117 = .ok (.isub, 1) := by decide +kernel
theorem dX10_goOnLevel_118 : decode cX10_goOnLevel 118 = .ok (.invokestatic 138, 3) := by decide +kernel
theorem dX10_goOnLevel_121 : decode cX10_goOnLevel 121 = .ok (.iastore, 1) := by decide +kernel
theorem dX10_goOnLevel_122 : decode cX10_goOnLevel 122 = .ok (.aload_n 0, 1) := by decide +kernel
theorem dX10_goOnLevel_123 : decode cX10_goOnLevel 123 = .ok (.getfield 21, 3) := by decide +kernel
theorem dX10_goOnLevel_126 : decode cX10_goOnLevel 126 = .ok (.iload_n 1, 1) := by decide +kernel
theorem dX10_goOnLevel_127 : decode cX10_goOnLevel 127 = .ok (.iaload, 1) := by decide +kernel
theorem dX10_goOnLevel_128 : decode cX10_goOnLevel 128 = .ok (.iload_n 2, 1) := by decide +kernel
theorem dX10_goOnLevel_129 : decode cX10_goOnLevel 129 = .ok (.if_icmp .ne 66, 3) := by decide +kernel
theorem dX10_goOnLevel_132 : decode cX10_goOnLevel 132 = .ok (.aload_n 0, 1) := by decide +kernel
theorem dX10_goOnLevel_133 : decode cX10_goOnLevel 133 = .ok (.getfield 18, 3) := by decide +kernel
theorem dX10_goOnLevel_136 : decode cX10_goOnLevel 136 = .ok (.iload_n 1, 1) := by decide +kernel
theorem dX10_goOnLevel_137 : decode cX10_goOnLevel 137 = .ok (.iconst 3, 1) := by decide +kernel
theorem dX10_goOnLevel_138 : decode cX10_goOnLevel 138 = .ok (.iastore, 1) := by decide +kernel
theorem dX10_goOnLevel_139 : decode cX10_goOnLevel 139 = .ok (.goto 56, 3) := by decide +kernel
theorem dX10_goOnLevel_142 : decode cX10_goOnLevel 142 = .ok (.aload_n 0, 1) := by decide +kernel
theorem dX10_goOnLevel_143 : decode cX10_goOnLevel 143 = .ok (.getfield 21, 3) := by decide +kernel
theorem dX10_goOnLevel_146 : decode cX10_goOnLevel 146 = .ok (.iload_n 1, 1) := by decide +kernel
theorem dX10_goOnLevel_147 : decode cX10_goOnLevel 147 = .ok (.iload_n 2, 1) := by decide +kernel
theorem dX10_goOnLevel_148 : decode cX10_goOnLevel 148 = .ok (.iastore, 1) := by decide +kernel
theorem dX10_goOnLevel_149 : decode cX10_goOnLevel 149 = .ok (.goto 46, 3) := by decide +kernel
theorem dX10_goOnLevel_152 : decode cX10_goOnLevel 152 = .ok (.aload_n 0, 1) := by decide +kernel
theorem dX10_goOnLevel_153 : decode cX10_goOnLevel 153 = .ok (.getfield 21, 3) := by decide +kernel
theorem dX10_goOnLevel_156 : decode cX10_goOnLevel 156 = .ok (.iload_n 1, 1) := by decide +kernel
theorem dX10_goOnLevel_157 : decode cX10_goOnLevel 157 = .ok (.iconst 0, 1) := by decide +kernel
theorem dX10_goOnLevel_158 : decode cX10_goOnLevel 158 = .ok (.aload_n 0, 1) := by decide +kernel
theorem dX10_goOnLevel_159 : decode cX10_goOnLevel 159 = .ok (.getfield 21, 3) := by decide +kernel
theorem dX10_goOnLevel_162 : decode cX10_goOnLevel 162 = .ok (.iload_n 1, 1) := by decide +kernel
theorem dX10_goOnLevel_163 : decode cX10_goOnLevel 163 = .ok (.iaload, 1) := by decide +kernel
theorem dX10_goOnLevel_164 : decode cX10_goOnLevel 164 = .ok (.ldc 132, 2) := by decide +kernel
theorem dX10_goOnLevel_166 : decode cX10_goOnLevel 166 = .ok (.aload_n 0, 1) := by decide +kernel
theorem dX10_goOnLevel_167 : decode cX10_goOnLevel 167 = .ok (.iload_n 1, 1) := by decide +kernel
theorem dX10_goOnLevel_168 : decode cX10_goOnLevel 168 = .ok (.bipush 7, 2) := by decide +kernel
theorem dX10_goOnLevel_170 : decode cX10_goOnLevel 170 = .ok (.invokevirtual 129, 3) := by decide +kernel
theorem dX10_goOnLevel_173 : decode cX10_goOnLevel 173 = .ok (.idiv, 1) := by decide +kernel
theorem dX10_goOnLevel_174 : decode cX10_goOnLevel 174 = .ok (.isub, 1) := by decide +kernel
theorem dX10_goOnLevel_175 : decode cX10_goOnLevel 175 = .ok (.invokestatic 138, 3) := by decide +kernel
theorem dX10_goOnLevel_178 : decode cX10_goOnLevel 178 = .ok (.iastore, 1) := by decide +kernel
theorem dX10_goOnLevel_179 : decode cX10_goOnLevel 179 = .ok (.aload_n 0, 1) := by decide +kernel
theorem dX10_goOnLevel_180 : decode cX10_goOnLevel 180 = .ok (.getfield 21, 3) := by decide +kernel
theorem dX10_goOnLevel_183 : decode cX10_goOnLevel 183 = .ok (.iload_n 1, 1) := by decide +kernel
theorem dX10_goOnLevel_184 : decode cX10_goOnLevel 184 = .ok (.iaload, 1) := by decide +kernel
theorem dX10_goOnLevel_185 : decode cX10_goOnLevel 185 = .ok (.ifCond .ne 10, 3) := by decide +kernel
theorem dX10_goOnLevel_188 : decode cX10_goOnLevel 188 = .ok (.aload_n 0, 1) := by decide +kernel
theorem dX10_goOnLevel_189 : decode cX10_goOnLevel 189 = .ok (.getfield 18, 3) := by decide +kernel
theorem dX10_goOnLevel_192 : decode cX10_goOnLevel 192 = .ok (.iload_n 1, 1) := by decide +kernel
theorem dX10_goOnLevel_193 : decode cX10_goOnLevel 193 = .ok (.iconst 0, 1) := by decide +kernel
theorem dX10_goOnLevel_194 : decode cX10_goOnLevel 194 = .ok (.iastore, 1) := by decide +kernel
theorem dX10_goOnLevel_195 : decode cX10_goOnLevel 195 = .ok (.return_, 1) := by decide +kernel
set_option maxRecDepth 20000 in
theorem ggX10_gives_X10_goOnLevel : GoodIn wsX10_gives wsX10_goOnLevel := goodIn_r _ [15, 1, 10, 16, 17, 18, 19, 20, 21, 22, 23, 24, 25, 26, 14, 27, 28, 29, 48, 49, 50, 51, 52, 53, 54, 55, 56, 57, 58, 59, 60, 61, 62, 63, 64, 65, 66, 67, 68, 69, 70, 71, 72, 73, 74, 75, 76, 77, 78, 79, 80, 81, 82] (by decide +kernel) (by decide +kernel)
set_option maxRecDepth 20000 in
theorem gX10_gives_X10_goOnLevel : GoodIn wsX10_gives (wsV RX10 141 RX10 yX10_goOnLevel wsX10_goOnLevel) := goodIn_app (goodIn_of _ (by decide +kernel)) ggX10_gives_X10_goOnLevel
set_option maxRecDepth 20000 in
theorem ggX10_gives_X10_told : GoodIn wsX10_gives wsX10_told := goodIn_r _ [27, 28, 29, 48, 49, 50, 51, 52, 53, 54, 55, 56, 57, 58, 59, 60, 61, 62, 63, 64, 65, 66, 67, 68, 69, 70, 71, 72, 73, 74, 75, 76, 77, 78, 79, 80, 81, 82] (by decide +kernel) (by decide +kernel)
set_option maxRecDepth 20000 in
theorem gX10_gives_X10_told : GoodIn wsX10_gives (wsV RX10 129 RX10 yX10_told wsX10_told) := goodIn_app (goodIn_of _ (by decide +kernel)) ggX10_gives_X10_told
set_option maxRecDepth 20000 in
theorem ggX10_gives_X10_wave : GoodIn wsX10_gives wsX10_wave := goodIn_r _ [33, 34, 35, 36, 14, 37, 38, 48, 49, 50, 51, 52, 53, 54, 55, 56, 57, 58, 59, 60, 61, 62, 63, 64, 65, 66, 67, 68, 69, 70, 71, 72, 73, 74, 75, 76, 77, 78, 79, 80, 81, 82] (by decide +kernel) (by decide +kernel)
set_option maxRecDepth 20000 in
theorem gX10_gives_X10_wave : GoodIn wsX10_gives (wsV RX10 145 RX10 yX10_wave wsX10_wave) := goodIn_app (goodIn_of _ (by decide +kernel)) ggX10_gives_X10_wave
set_option maxRecDepth 20000 in
theorem ggX10_gives_X10_stride : GoodIn wsX10_gives wsX10_stride := goodIn_r _ [41, 42] (by decide +kernel) (by decide +kernel)
set_option maxRecDepth 20000 in
theorem gX10_gives_X10_stride : GoodIn wsX10_gives (va_wsS RX10 148 yX10_stride wsX10_stride) := goodIn_app (goodIn_of _ (by decide +kernel)) ggX10_gives_X10_stride
set_option maxRecDepth 20000 in
theorem ggX10_gives_X11_keep : GoodIn wsX10_gives wsX11_keep := goodIn_r _ [45, 46, 18, 19, 20, 47, 22, 23] (by decide +kernel) (by decide +kernel)
set_option maxRecDepth 20000 in
theorem gX10_gives_X11_keep_n152 : GoodIn wsX10_gives (wsX11_keep) := ggX10_gives_X11_keep
theorem dX10_gives_0 : decode cX10_gives 0 = .ok (.aload_n 0, 1) := by decide +kernel
theorem dX10_gives_1 : decode cX10_gives 1 = .ok (.getfield 18, 3) := by decide +kernel
theorem dX10_gives_4 : decode cX10_gives 4 = .ok (.iload_n 1, 1) := by decide +kernel
theorem dX10_gives_5 : decode cX10_gives 5 = .ok (.iaload, 1) := by decide +kernel
theorem dX10_gives_6 : decode cX10_gives 6 = .ok (.ifCond .ne 5, 3) := by decide +kernel
theorem dX10_gives_9 : decode cX10_gives 9 = .ok (.iconst 0, 1) := by decide +kernel
theorem dX10_gives_10 : decode cX10_gives 10 = .ok (.ireturn, 1) := by decide +kernel
theorem dX10_gives_11 : decode cX10_gives 11 = .ok (.aload_n 0, 1) := by decide +kernel
theorem dX10_gives_12 : decode cX10_gives 12 = .ok (.iload_n 1, 1) := by decide +kernel
theorem dX10_gives_13 : decode cX10_gives 13 = .ok (.invokevirtual 141, 3) := by decide +kernel
theorem dX10_gives_16 : decode cX10_gives 16 = .ok (.aload_n 0, 1) := by decide +kernel
theorem dX10_gives_17 : decode cX10_gives 17 = .ok (.getfield 18, 3) := by decide +kernel
theorem dX10_gives_20 : decode cX10_gives 20 = .ok (.iload_n 1, 1) := by decide +kernel
theorem dX10_gives_21 : decode cX10_gives 21 = .ok (.iaload, 1) := by decide +kernel
theorem dX10_gives_22 : decode cX10_gives 22 = .ok (.ifCond .ne 5, 3) := by decide +kernel
theorem dX10_gives_25 : decode cX10_gives 25 = .ok (.iconst 0, 1) := by decide +kernel
theorem dX10_gives_26 : decode cX10_gives 26 = .ok (.ireturn, 1) := by decide +kernel
theorem dX10_gives_27 : decode cX10_gives 27 = .ok (.aload_n 0, 1) := by decide +kernel
theorem dX10_gives_28 : decode cX10_gives 28 = .ok (.iload_n 1, 1) := by decide +kernel
theorem dX10_gives_29 : decode cX10_gives 29 = .ok (.bipush 11, 2) := by decide +kernel
theorem dX10_gives_31 : decode cX10_gives 31 = .ok (.invokevirtual 129, 3) := by decide +kernel
theorem dX10_gives_34 : decode cX10_gives 34 = .ok (.istore_n 2, 1) := by decide +kernel
theorem dX10_gives_35 : decode cX10_gives 35 = .ok (.aload_n 0, 1) := by decide +kernel
theorem dX10_gives_36 : decode cX10_gives 36 = .ok (.iload_n 1, 1) := by decide +kernel
theorem dX10_gives_37 : decode cX10_gives 37 = .ok (.bipush 10, 2) := by decide +kernel
theorem dX10_gives_39 : decode cX10_gives 39 = .ok (.invokevirtual 129, 3) := by decide +kernel
theorem dX10_gives_42 : decode cX10_gives 42 = .ok (.aload_n 0, 1) := by decide +kernel
theorem dX10_gives_43 : decode cX10_gives 43 = .ok (.iconst 2, 1) := by decide +kernel
theorem dX10_gives_44 : decode cX10_gives 44 = .ok (.aload_n 0, 1) := by decide +kernel
theorem dX10_gives_45 : decode cX10_gives 45 = .ok (.getfield 106, 3) := by decide +kernel
theorem dX10_gives_48 : decode cX10_gives 48 = .ok (.iload_n 2, 1) := by decide +kernel
theorem dX10_gives_49 : decode cX10_gives 49 = .ok (.irem, 1) := by decide +kernel
theorem dX10_gives_50 : decode cX10_gives 50 = .ok (.ldc 144, 2) := by decide +kernel
theorem dX10_gives_52 : decode cX10_gives 52 = .ok (.imul, 1) := by decide +kernel
theorem dX10_gives_53 : decode cX10_gives 53 = .ok (.iload_n 2, 1) := by decide +kernel
theorem dX10_gives_54 : decode cX10_gives 54 = .ok (.idiv, 1) := by decide +kernel
theorem dX10_gives_55 : decode cX10_gives 55 = .ok (.invokevirtual 145, 3) := by decide +kernel
theorem dX10_gives_58 : decode cX10_gives 58 = .ok (.imul, 1) := by decide +kernel
theorem dX10_gives_59 : decode cX10_gives 59 = .ok (.sipush 1000, 3) := by decide +kernel
theorem dX10_gives_62 : decode cX10_gives 62 = .ok (.idiv, 1) := by decide +kernel
theorem dX10_gives_63 : decode cX10_gives 63 = .ok (.istore_n 3, 1) := by decide +kernel
theorem dX10_gives_64 : decode cX10_gives 64 = .ok (.aload_n 0, 1) := by decide +kernel
theorem dX10_gives_65 : decode cX10_gives 65 = .ok (.aload_n 0, 1) := by decide +kernel
theorem dX10_gives_66 : decode cX10_gives 66 = .ok (.iload_n 1, 1) := by decide +kernel
theorem dX10_gives_67 : decode cX10_gives 67 = .ok (.iconst 0, 1) := by decide +kernel
theorem dX10_gives_68 : decode cX10_gives 68 = .ok (.invokevirtual 129, 3) := by decide +kernel
theorem dX10_gives_71 : decode cX10_gives 71 = .ok (.aload_n 0, 1) := by decide +kernel
theorem dX10_gives_72 : decode cX10_gives 72 = .ok (.getfield 33, 3) := by decide +kernel
theorem dX10_gives_75 : decode cX10_gives 75 = .ok (.iload_n 1, 1) := by decide +kernel
theorem dX10_gives_76 : decode cX10_gives 76 = .ok (.iaload, 1) := by decide +kernel
theorem dX10_gives_77 : decode cX10_gives 77 = .ok (.invokevirtual 145, 3) := by decide +kernel
theorem dX10_gives_80 : decode cX10_gives 80 = .ok (.bipush 100, 2) := by decide +kernel
theorem dX10_gives_82 : decode cX10_gives 82 = .ok (.aload_n 0, 1) := by decide +kernel
theorem dX10_gives_83 : decode cX10_gives 83 = .ok (.iload_n 1, 1) := by decide +kernel
theorem dX10_gives_84 : decode cX10_gives 84 = .ok (.iconst 3, 1) := by decide +kernel
theorem dX10_gives_85 : decode cX10_gives 85 = .ok (.invokevirtual 129, 3) := by decide +kernel
theorem dX10_gives_88 : decode cX10_gives 88 = .ok (.isub, 1) := by decide +kernel
theorem dX10_gives_89 : decode cX10_gives 89 = .ok (.imul, 1) := by decide +kernel
theorem dX10_gives_90 : decode cX10_gives 90 = .ok (.aload_n 0, 1) := by decide +kernel
theorem dX10_gives_91 : decode cX10_gives 91 = .ok (.aload_n 0, 1) := by decide +kernel
theorem dX10_gives_92 : decode cX10_gives 92 = .ok (.iload_n 1, 1) := by decide +kernel
theorem dX10_gives_93 : decode cX10_gives 93 = .ok (.iconst 1, 1) := by decide +kernel
theorem dX10_gives_94 : decode cX10_gives 94 = .ok (.invokevirtual 129, 3) := by decide +kernel
theorem dX10_gives_97 : decode cX10_gives 97 = .ok (.aload_n 0, 1) := by decide +kernel
theorem dX10_gives_98 : decode cX10_gives 98 = .ok (.getfield 36, 3) := by decide +kernel
theorem dX10_gives_101 : decode cX10_gives 101 = .ok (.iload_n 1, 1) := by decide +kernel
theorem dX10_gives_102 : decode cX10_gives 102 = .ok (.iaload, 1) := by decide +kernel
theorem dX10_gives_103 : decode cX10_gives 103 = .ok (.invokevirtual 145, 3) := by decide +kernel
theorem dX10_gives_106 : decode cX10_gives 106 = .ok (.aload_n 0, 1) := by decide +kernel
theorem dX10_gives_107 : decode cX10_gives 107 = .ok (.iload_n 1, 1) := by decide +kernel
theorem dX10_gives_108 : decode cX10_gives 108 = .ok (.iconst 3, 1) := by decide +kernel
theorem dX10_gives_109 : decode cX10_gives 109 = .ok (.invokevirtual 129, 3) := by decide +kernel
theorem dX10_gives_112 : decode cX10_gives 112 = .ok (.imul, 1) := by decide +kernel
theorem dX10_gives_113 : decode cX10_gives 113 = .ok (.iadd, 1) := by decide +kernel
theorem dX10_gives_114 : decode cX10_gives 114 = .ok (.bipush 100, 2) := by decide +kernel
theorem dX10_gives_116 : decode cX10_gives 116 = .ok (.idiv, 1) := by decide +kernel
theorem dX10_gives_117 : decode cX10_gives 117 = .ok (.istore 4, 2) := by decide +kernel
theorem dX10_gives_119 : decode cX10_gives 119 = .ok (.aload_n 0, 1) := by decide +kernel
theorem dX10_gives_120 : decode cX10_gives 120 = .ok (.getfield 27, 3) := by decide +kernel
theorem dX10_gives_123 : decode cX10_gives 123 = .ok (.iload_n 1, 1) := by decide +kernel
theorem dX10_gives_124 : decode cX10_gives 124 = .ok (.iaload, 1) := by decide +kernel
theorem dX10_gives_125 : decode cX10_gives 125 = .ok (.invokestatic 148, 3) := by decide +kernel
theorem dX10_gives_128 : decode cX10_gives 128 = .ok (.istore 5, 2) := by decide +kernel
theorem dX10_gives_130 : decode cX10_gives 130 = .ok (.aload_n 0, 1) := by decide +kernel
theorem dX10_gives_131 : decode cX10_gives 131 = .ok (.getfield 33, 3) := by decide +kernel
theorem dX10_gives_134 : decode cX10_gives 134 = .ok (.iload_n 1, 1) := by decide +kernel
theorem dX10_gives_135 : decode cX10_gives 135 = .ok (.aload_n 0, 1) := by decide +kernel
theorem dX10_gives_136 : decode cX10_gives 136 = .ok (.getfield 33, 3) := by decide +kernel
theorem dX10_gives_139 : decode cX10_gives 139 = .ok (.iload_n 1, 1) := by decide +kernel
theorem dX10_gives_140 : decode cX10_gives 140 = .ok (.iaload, 1) := by decide +kernel
theorem dX10_gives_141 : decode cX10_gives 141 = .ok (.iload 5, 2) := by decide +kernel
theorem dX10_gives_143 : decode cX10_gives 143 = .ok (.iadd, 1) := by decide +kernel
theorem dX10_gives_144 : decode cX10_gives 144 = .ok (.iload_n 3, 1) := by decide +kernel
theorem dX10_gives_145 : decode cX10_gives 145 = .ok (.iadd, 1) := by decide +kernel
theorem dX10_gives_146 : decode cX10_gives 146 = .ok (.ldc 144, 2) := by decide +kernel
theorem dX10_gives_148 : decode cX10_gives 148 = .ok (.iadd, 1) := by decide +kernel
theorem dX10_gives_149 : decode cX10_gives 149 = .ok (.ldc 144, 2) := by decide +kernel
theorem dX10_gives_151 : decode cX10_gives 151 = .ok (.irem, 1) := by decide +kernel
theorem dX10_gives_152 : decode cX10_gives 152 = .ok (.iastore, 1) := by decide +kernel
theorem dX10_gives_153 : decode cX10_gives 153 = .ok (.aload_n 0, 1) := by decide +kernel
theorem dX10_gives_154 : decode cX10_gives 154 = .ok (.getfield 36, 3) := by decide +kernel
theorem dX10_gives_157 : decode cX10_gives 157 = .ok (.iload_n 1, 1) := by decide +kernel
theorem dX10_gives_158 : decode cX10_gives 158 = .ok (.aload_n 0, 1) := by decide +kernel
theorem dX10_gives_159 : decode cX10_gives 159 = .ok (.getfield 36, 3) := by decide +kernel
theorem dX10_gives_162 : decode cX10_gives 162 = .ok (.iload_n 1, 1) := by decide +kernel
theorem dX10_gives_163 : decode cX10_gives 163 = .ok (.iaload, 1) := by decide +kernel
theorem dX10_gives_164 : decode cX10_gives 164 = .ok (.iload 5, 2) := by decide +kernel
theorem dX10_gives_166 : decode cX10_gives 166 = .ok (.iadd, 1) := by decide +kernel
theorem dX10_gives_167 : decode cX10_gives 167 = .ok (.iload_n 3, 1) := by decide +kernel
theorem dX10_gives_168 : decode cX10_gives 168 = .ok (.iadd, 1) := by decide +kernel
theorem dX10_gives_169 : decode cX10_gives 169 = .ok (.aload_n 0, 1) := by decide +kernel
theorem dX10_gives_170 : decode cX10_gives 170 = .ok (.iload_n 1, 1) := by decide +kernel
theorem dX10_gives_171 : decode cX10_gives 171 = .ok (.iconst 2, 1) := by decide +kernel
theorem dX10_gives_172 : decode cX10_gives 172 = .ok (.invokevirtual 129, 3) := by decide +kernel
theorem dX10_gives_175 : decode cX10_gives 175 = .ok (.iadd, 1) := by decide +kernel
theorem dX10_gives_176 : decode cX10_gives 176 = .ok (.ldc 144, 2) := by decide +kernel
theorem dX10_gives_178 : decode cX10_gives 178 = .ok (.iadd, 1) := by decide +kernel
theorem dX10_gives_179 : decode cX10_gives 179 = .ok (.ldc 144, 2) := by decide +kernel
theorem dX10_gives_181 : decode cX10_gives 181 = .ok (.irem, 1) := by decide +kernel
theorem dX10_gives_182 : decode cX10_gives 182 = .ok (.iastore, 1) := by decide +kernel
theorem dX10_gives_183 : decode cX10_gives 183 = .ok (.aload_n 0, 1) := by decide +kernel
theorem dX10_gives_184 : decode cX10_gives 184 = .ok (.getfield 39, 3) := by decide +kernel
theorem dX10_gives_187 : decode cX10_gives 187 = .ok (.iload_n 1, 1) := by decide +kernel
theorem dX10_gives_188 : decode cX10_gives 188 = .ok (.aload_n 0, 1) := by decide +kernel
theorem dX10_gives_189 : decode cX10_gives 189 = .ok (.getfield 39, 3) := by decide +kernel
theorem dX10_gives_192 : decode cX10_gives 192 = .ok (.iload_n 1, 1) := by decide +kernel
theorem dX10_gives_193 : decode cX10_gives 193 = .ok (.iaload, 1) := by decide +kernel
theorem dX10_gives_194 : decode cX10_gives 194 = .ok (.aload_n 0, 1) := by decide +kernel
theorem dX10_gives_195 : decode cX10_gives 195 = .ok (.iload_n 1, 1) := by decide +kernel
theorem dX10_gives_196 : decode cX10_gives 196 = .ok (.bipush 8, 2) := by decide +kernel
theorem dX10_gives_198 : decode cX10_gives 198 = .ok (.invokevirtual 129, 3) := by decide +kernel
theorem dX10_gives_201 : decode cX10_gives 201 = .ok (.aload_n 0, 1) := by decide +kernel
theorem dX10_gives_202 : decode cX10_gives 202 = .ok (.getfield 42, 3) := by decide +kernel
theorem dX10_gives_205 : decode cX10_gives 205 = .ok (.iload_n 1, 1) := by decide +kernel
theorem dX10_gives_206 : decode cX10_gives 206 = .ok (.iaload, 1) := by decide +kernel
theorem dX10_gives_207 : decode cX10_gives 207 = .ok (.imul, 1) := by decide +kernel
theorem dX10_gives_208 : decode cX10_gives 208 = .ok (.sipush 256, 3) := by decide +kernel
theorem dX10_gives_211 : decode cX10_gives 211 = .ok (.idiv, 1) := by decide +kernel
theorem dX10_gives_212 : decode cX10_gives 212 = .ok (.iadd, 1) := by decide +kernel
theorem dX10_gives_213 : decode cX10_gives 213 = .ok (.sipush 4000, 3) := by decide +kernel
theorem dX10_gives_216 : decode cX10_gives 216 = .ok (.invokestatic 152, 3) := by decide +kernel
theorem dX10_gives_219 : decode cX10_gives 219 = .ok (.iastore, 1) := by decide +kernel
theorem dX10_gives_220 : decode cX10_gives 220 = .ok (.iload 4, 2) := by decide +kernel
theorem dX10_gives_222 : decode cX10_gives 222 = .ok (.aload_n 0, 1) := by decide +kernel
theorem dX10_gives_223 : decode cX10_gives 223 = .ok (.getfield 39, 3) := by decide +kernel
theorem dX10_gives_226 : decode cX10_gives 226 = .ok (.iload_n 1, 1) := by decide +kernel
theorem dX10_gives_227 : decode cX10_gives 227 = .ok (.iaload, 1) := by decide +kernel
theorem dX10_gives_228 : decode cX10_gives 228 = .ok (.isub, 1) := by decide +kernel
theorem dX10_gives_229 : decode cX10_gives 229 = .ok (.aload_n 0, 1) := by decide +kernel
theorem dX10_gives_230 : decode cX10_gives 230 = .ok (.iload_n 1, 1) := by decide +kernel
theorem dX10_gives_231 : decode cX10_gives 231 = .ok (.bipush 9, 2) := by decide +kernel
theorem dX10_gives_233 : decode cX10_gives 233 = .ok (.invokevirtual 129, 3) := by decide +kernel
theorem dX10_gives_236 : decode cX10_gives 236 = .ok (.aload_n 0, 1) := by decide +kernel
theorem dX10_gives_237 : decode cX10_gives 237 = .ok (.getfield 42, 3) := by decide +kernel
theorem dX10_gives_240 : decode cX10_gives 240 = .ok (.iload_n 1, 1) := by decide +kernel
theorem dX10_gives_241 : decode cX10_gives 241 = .ok (.iaload, 1) := by decide +kernel
theorem dX10_gives_242 : decode cX10_gives 242 = .ok (.imul, 1) := by decide +kernel
theorem dX10_gives_243 : decode cX10_gives 243 = .ok (.sipush 256, 3) := by decide +kernel
theorem dX10_gives_246 : decode cX10_gives 246 = .ok (.idiv, 1) := by decide +kernel
theorem dX10_gives_247 : decode cX10_gives 247 = .ok (.isub, 1) := by decide +kernel
theorem dX10_gives_248 : decode cX10_gives 248 = .ok (.istore 6, 2) := by decide +kernel
theorem dX10_gives_250 : decode cX10_gives 250 = .ok (.aload_n 0, 1) := by decide +kernel
theorem dX10_gives_251 : decode cX10_gives 251 = .ok (.getfield 42, 3) := by decide +kernel
theorem dX10_gives_254 : decode cX10_gives 254 = .ok (.iload_n 1, 1) := by decide +kernel
theorem dX10_gives_255 : decode cX10_gives 255 = .ok (.aload_n 0, 1) := by decide +kernel
theorem dX10_gives_256 : decode cX10_gives 256 = .ok (.getfield 42, 3) := by decide +kernel
theorem dX10_gives_259 : decode cX10_gives 259 = .ok (.iload_n 1, 1) := by decide +kernel
theorem dX10_gives_260 : decode cX10_gives 260 = .ok (.iaload, 1) := by decide +kernel
theorem dX10_gives_261 : decode cX10_gives 261 = .ok (.aload_n 0, 1) := by decide +kernel
theorem dX10_gives_262 : decode cX10_gives 262 = .ok (.iload_n 1, 1) := by decide +kernel
theorem dX10_gives_263 : decode cX10_gives 263 = .ok (.bipush 8, 2) := by decide +kernel
theorem dX10_gives_265 : decode cX10_gives 265 = .ok (.invokevirtual 129, 3) := by decide +kernel
theorem dX10_gives_268 : decode cX10_gives 268 = .ok (.iload 6, 2) := by decide +kernel
theorem dX10_gives_270 : decode cX10_gives 270 = .ok (.imul, 1) := by decide +kernel
theorem dX10_gives_271 : decode cX10_gives 271 = .ok (.sipush 256, 3) := by decide +kernel
theorem dX10_gives_274 : decode cX10_gives 274 = .ok (.idiv, 1) := by decide +kernel
theorem dX10_gives_275 : decode cX10_gives 275 = .ok (.iadd, 1) := by decide +kernel
theorem dX10_gives_276 : decode cX10_gives 276 = .ok (.sipush 4000, 3) := by decide +kernel
theorem dX10_gives_279 : decode cX10_gives 279 = .ok (.invokestatic 152, 3) := by decide +kernel
theorem dX10_gives_282 : decode cX10_gives 282 = .ok (.iastore, 1) := by decide +kernel
theorem dX10_gives_283 : decode cX10_gives 283 = .ok (.aload_n 0, 1) := by decide +kernel
theorem dX10_gives_284 : decode cX10_gives 284 = .ok (.getfield 39, 3) := by decide +kernel
theorem dX10_gives_287 : decode cX10_gives 287 = .ok (.iload_n 1, 1) := by decide +kernel
theorem dX10_gives_288 : decode cX10_gives 288 = .ok (.iaload, 1) := by decide +kernel
theorem dX10_gives_289 : decode cX10_gives 289 = .ok (.aload_n 0, 1) := by decide +kernel
theorem dX10_gives_290 : decode cX10_gives 290 = .ok (.getfield 30, 3) := by decide +kernel
theorem dX10_gives_293 : decode cX10_gives 293 = .ok (.iload_n 1, 1) := by decide +kernel
theorem dX10_gives_294 : decode cX10_gives 294 = .ok (.iaload, 1) := by decide +kernel
theorem dX10_gives_295 : decode cX10_gives 295 = .ok (.imul, 1) := by decide +kernel
theorem dX10_gives_296 : decode cX10_gives 296 = .ok (.bipush 127, 2) := by decide +kernel
theorem dX10_gives_298 : decode cX10_gives 298 = .ok (.idiv, 1) := by decide +kernel
theorem dX10_gives_299 : decode cX10_gives 299 = .ok (.aload_n 0, 1) := by decide +kernel
theorem dX10_gives_300 : decode cX10_gives 300 = .ok (.getfield 21, 3) := by decide +kernel
theorem dX10_gives_303 : decode cX10_gives 303 = .ok (.iload_n 1, 1) := by decide +kernel
theorem dX10_gives_304 : decode cX10_gives 304 = .ok (.iaload, 1) := by decide +kernel
theorem dX10_gives_305 : decode cX10_gives 305 = .ok (.sipush 1000, 3) := by decide +kernel
theorem dX10_gives_308 : decode cX10_gives 308 = .ok (.idiv, 1) := by decide +kernel
theorem dX10_gives_309 : decode cX10_gives 309 = .ok (.imul, 1) := by decide +kernel
theorem dX10_gives_310 : decode cX10_gives 310 = .ok (.sipush 1000, 3) := by decide +kernel
theorem dX10_gives_313 : decode cX10_gives 313 = .ok (.idiv, 1) := by decide +kernel
theorem dX10_gives_314 : decode cX10_gives 314 = .ok (.ireturn, 1) := by decide +kernel
set_option maxRecDepth 20000 in
theorem ggX10_sample_X10_goOnTracks : GoodIn wsX10_sample wsX10_goOnTracks := goodIn_r _ [34, 25, 26, 27, 29, 35, 36, 28, 37, 38, 39, 40, 41, 33, 42, 43, 44, 45, 46, 47, 48, 49, 50, 51, 52, 53, 54, 55, 56, 57, 58, 59, 60, 61, 62, 63, 64, 65, 101, 102, 103, 104, 105, 106, 107, 108, 109, 110, 111, 112, 113, 114, 115, 116, 117, 118, 119, 120, 121, 122, 123, 124, 125, 126, 127, 128, 129, 130, 131, 132, 133, 134, 135] (by decide +kernel) (by decide +kernel)
set_option maxRecDepth 20000 in
theorem gX10_sample_X10_goOnTracks : GoodIn wsX10_sample (wsV RX10 155 RX10 yX10_goOnTracks wsX10_goOnTracks) := goodIn_app (goodIn_of _ (by decide +kernel)) ggX10_sample_X10_goOnTracks
set_option maxRecDepth 20000 in
theorem ggX10_sample_X10_gives : GoodIn wsX10_sample wsX10_gives := goodIn_r _ [69, 43, 24, 70, 55, 56, 53, 57, 58, 54, 65, 71, 72, 73, 33, 74, 75, 76, 77, 17, 78, 19, 20, 21, 79, 80, 81, 82, 83, 52, 84, 85, 86, 87, 88, 89, 90, 91, 92, 93, 94, 95, 96, 97, 45, 98, 99, 100, 101, 102, 103, 104, 105, 106, 107, 108, 109, 110, 111, 112, 113, 114, 115, 116, 117, 118, 119, 120, 121, 122, 123, 124, 125, 126, 127, 128, 129, 130, 131, 132, 133, 134, 135] (by decide +kernel) (by decide +kernel)
set_option maxRecDepth 20000 in
theorem gX10_sample_X10_gives : GoodIn wsX10_sample (wsV RX10 158 RX10 yX10_gives wsX10_gives) := goodIn_app (goodIn_of _ (by decide +kernel)) ggX10_sample_X10_gives
set_option maxRecDepth 20000 in
theorem ggX10_sample_X11_keep : GoodIn wsX10_sample wsX11_keep := goodIn_r _ [98, 99, 77, 17, 78, 100, 20, 21] (by decide +kernel) (by decide +kernel)
set_option maxRecDepth 20000 in
theorem gX10_sample_X11_keep_n152 : GoodIn wsX10_sample (wsX11_keep) := ggX10_sample_X11_keep
theorem dX10_sample_0 : decode cX10_sample 0 = .ok (.aload_n 0, 1) := by decide +kernel
theorem dX10_sample_1 : decode cX10_sample 1 = .ok (.invokevirtual 155, 3) := by decide +kernel
theorem dX10_sample_4 : decode cX10_sample 4 = .ok (.iconst 0, 1) := by decide +kernel
theorem dX10_sample_5 : decode cX10_sample 5 = .ok (.istore_n 1, 1) := by decide +kernel
theorem dX10_sample_6 : decode cX10_sample 6 = .ok (.iconst 0, 1) := by decide +kernel
theorem dX10_sample_7 : decode cX10_sample 7 = .ok (.istore_n 2, 1) := by decide +kernel
theorem dX10_sample_8 : decode cX10_sample 8 = .ok (.iload_n 2, 1) := by decide +kernel
theorem dX10_sample_9 : decode cX10_sample 9 = .ok (.iconst 4, 1) := by decide +kernel
theorem dX10_sample_10 : decode cX10_sample 10 = .ok (.if_icmp .ge 17, 3) := by decide +kernel
theorem dX10_sample_13 : decode cX10_sample 13 = .ok (.iload_n 1, 1) := by decide +kernel
theorem dX10_sample_14 : decode cX10_sample 14 = .ok (.aload_n 0, 1) := by decide +kernel
theorem dX10_sample_15 : decode cX10_sample 15 = .ok (.iload_n 2, 1) := by decide +kernel
theorem dX10_sample_16 : decode cX10_sample 16 = .ok (.invokevirtual 158, 3) := by decide +kernel
theorem dX10_sample_19 : decode cX10_sample 19 = .ok (.iadd, 1) := by decide +kernel
theorem dX10_sample_20 : decode cX10_sample 20 = .ok (.istore_n 1, 1) := by decide +kernel
theorem dX10_sample_21 : decode cX10_sample 21 = .ok (.iinc 2 1, 3) := by decide +kernel
theorem dX10_sample_24 : decode cX10_sample 24 = .ok (.goto (-16), 3) := by decide +kernel
theorem dX10_sample_27 : decode cX10_sample 27 = .ok (.iload_n 1, 1) := by decide +kernel
theorem dX10_sample_28 : decode cX10_sample 28 = .ok (.aload_n 0, 1) := by decide +kernel
theorem dX10_sample_29 : decode cX10_sample 29 = .ok (.getfield 51, 3) := by decide +kernel
theorem dX10_sample_32 : decode cX10_sample 32 = .ok (.imul, 1) := by decide +kernel
theorem dX10_sample_33 : decode cX10_sample 33 = .ok (.bipush 16, 2) := by decide +kernel
theorem dX10_sample_35 : decode cX10_sample 35 = .ok (.idiv, 1) := by decide +kernel
theorem dX10_sample_36 : decode cX10_sample 36 = .ok (.istore_n 1, 1) := by decide +kernel
theorem dX10_sample_37 : decode cX10_sample 37 = .ok (.iload_n 1, 1) := by decide +kernel
theorem dX10_sample_38 : decode cX10_sample 38 = .ok (.istore_n 2, 1) := by decide +kernel
theorem dX10_sample_39 : decode cX10_sample 39 = .ok (.aload_n 0, 1) := by decide +kernel
theorem dX10_sample_40 : decode cX10_sample 40 = .ok (.getfield 81, 3) := by decide +kernel
theorem dX10_sample_43 : decode cX10_sample 43 = .ok (.ifCond .le 70, 3) := by decide +kernel
theorem dX10_sample_46 : decode cX10_sample 46 = .ok (.aload_n 0, 1) := by decide +kernel
theorem dX10_sample_47 : decode cX10_sample 47 = .ok (.getfield 55, 3) := by decide +kernel
theorem dX10_sample_50 : decode cX10_sample 50 = .ok (.iconst 0, 1) := by decide +kernel
theorem dX10_sample_51 : decode cX10_sample 51 = .ok (.iaload, 1) := by decide +kernel
theorem dX10_sample_52 : decode cX10_sample 52 = .ok (.istore_n 3, 1) := by decide +kernel
theorem dX10_sample_53 : decode cX10_sample 53 = .ok (.aload_n 0, 1) := by decide +kernel
theorem dX10_sample_54 : decode cX10_sample 54 = .ok (.getfield 55, 3) := by decide +kernel
theorem dX10_sample_57 : decode cX10_sample 57 = .ok (.iconst 1, 1) := by decide +kernel
theorem dX10_sample_58 : decode cX10_sample 58 = .ok (.aload_n 0, 1) := by decide +kernel
theorem dX10_sample_59 : decode cX10_sample 59 = .ok (.getfield 55, 3) := by decide +kernel
theorem dX10_sample_62 : decode cX10_sample 62 = .ok (.iconst 0, 1) := by decide +kernel
theorem dX10_sample_63 : decode cX10_sample 63 = .ok (.aload_n 0, 1) := by decide +kernel
theorem dX10_sample_64 : decode cX10_sample 64 = .ok (.getfield 81, 3) := by decide +kernel
theorem dX10_sample_67 : decode cX10_sample 67 = .ok (.iconst 1, 1) := by decide +kernel
theorem dX10_sample_68 : decode cX10_sample 68 = .ok (.isub, 1) := by decide +kernel
theorem dX10_sample_69 : decode cX10_sample 69 = .ok (.invokestatic 161, 3) := by decide +kernel
theorem dX10_sample_72 : decode cX10_sample 72 = .ok (.aload_n 0, 1) := by decide +kernel
theorem dX10_sample_73 : decode cX10_sample 73 = .ok (.getfield 55, 3) := by decide +kernel
theorem dX10_sample_76 : decode cX10_sample 76 = .ok (.aload_n 0, 1) := by decide +kernel
theorem dX10_sample_77 : decode cX10_sample 77 = .ok (.getfield 81, 3) := by decide +kernel
theorem dX10_sample_80 : decode cX10_sample 80 = .ok (.iconst 1, 1) := by decide +kernel
theorem dX10_sample_81 : decode cX10_sample 81 = .ok (.isub, 1) := by decide +kernel
theorem dX10_sample_82 : decode cX10_sample 82 = .ok (.iload_n 1, 1) := by decide +kernel
theorem dX10_sample_83 : decode cX10_sample 83 = .ok (.iload_n 3, 1) := by decide +kernel
theorem dX10_sample_84 : decode cX10_sample 84 = .ok (.aload_n 0, 1) := by decide +kernel
theorem dX10_sample_85 : decode cX10_sample 85 = .ok (.getfield 87, 3) := by decide +kernel
theorem dX10_sample_88 : decode cX10_sample 88 = .ok (.imul, 1) := by decide +kernel
theorem dX10_sample_89 : decode cX10_sample 89 = .ok (.sipush 256, 3) := by decide +kernel
theorem dX10_sample_92 : decode cX10_sample 92 = .ok (.idiv, 1) := by decide +kernel
theorem dX10_sample_93 : decode cX10_sample 93 = .ok (.iadd, 1) := by decide +kernel
theorem dX10_sample_94 : decode cX10_sample 94 = .ok (.ldc 167, 2) := by decide +kernel
theorem dX10_sample_96 : decode cX10_sample 96 = .ok (.invokestatic 152, 3) := by decide +kernel
theorem dX10_sample_99 : decode cX10_sample 99 = .ok (.iastore, 1) := by decide +kernel
theorem dX10_sample_100 : decode cX10_sample 100 = .ok (.iload_n 1, 1) := by decide +kernel
theorem dX10_sample_101 : decode cX10_sample 101 = .ok (.iload_n 3, 1) := by decide +kernel
theorem dX10_sample_102 : decode cX10_sample 102 = .ok (.aload_n 0, 1) := by decide +kernel
theorem dX10_sample_103 : decode cX10_sample 103 = .ok (.getfield 84, 3) := by decide +kernel
theorem dX10_sample_106 : decode cX10_sample 106 = .ok (.imul, 1) := by decide +kernel
theorem dX10_sample_107 : decode cX10_sample 107 = .ok (.sipush 256, 3) := by decide +kernel
theorem dX10_sample_110 : decode cX10_sample 110 = .ok (.idiv, 1) := by decide +kernel
theorem dX10_sample_111 : decode cX10_sample 111 = .ok (.iadd, 1) := by decide +kernel
theorem dX10_sample_112 : decode cX10_sample 112 = .ok (.istore_n 2, 1) := by decide +kernel
theorem dX10_sample_113 : decode cX10_sample 113 = .ok (.iload_n 2, 1) := by decide +kernel
theorem dX10_sample_114 : decode cX10_sample 114 = .ok (.sipush 32767, 3) := by decide +kernel
theorem dX10_sample_117 : decode cX10_sample 117 = .ok (.invokestatic 152, 3) := by decide +kernel
theorem dX10_sample_120 : decode cX10_sample 120 = .ok (.istore_n 3, 1) := by decide +kernel
theorem dX10_sample_121 : decode cX10_sample 121 = .ok (.aload_n 0, 1) := by decide +kernel
theorem dX10_sample_122 : decode cX10_sample 122 = .ok (.dup, 1) := by decide +kernel
theorem dX10_sample_123 : decode cX10_sample 123 = .ok (.getfield 168, 3) := by decide +kernel
theorem dX10_sample_126 : decode cX10_sample 126 = .ok (.iload_n 3, 1) := by decide +kernel
theorem dX10_sample_127 : decode cX10_sample 127 = .ok (.iload_n 2, 1) := by decide +kernel
theorem dX10_sample_128 : decode cX10_sample 128 = .ok (.if_icmp .ne 7, 3) := by decide +kernel
theorem dX10_sample_131 : decode cX10_sample 131 = .ok (.iconst 0, 1) := by decide +kernel
theorem dX10_sample_132 : decode cX10_sample 132 = .ok (.goto 4, 3) := by decide +kernel
theorem dX10_sample_135 : decode cX10_sample 135 = .ok (.iconst 1, 1) := by decide +kernel
theorem dX10_sample_136 : decode cX10_sample 136 = .ok (.iadd, 1) := by decide +kernel
theorem dX10_sample_137 : decode cX10_sample 137 = .ok (.putfield 168, 3) := by decide +kernel
theorem dX10_sample_140 : decode cX10_sample 140 = .ok (.aload_n 0, 1) := by decide +kernel
theorem dX10_sample_141 : decode cX10_sample 141 = .ok (.dup, 1) := by decide +kernel
theorem dX10_sample_142 : decode cX10_sample 142 = .ok (.getfield 171, 3) := by decide +kernel
theorem dX10_sample_145 : decode cX10_sample 145 = .ok (.iload_n 3, 1) := by decide +kernel
theorem dX10_sample_146 : decode cX10_sample 146 = .ok (.ifCond .le 16, 3) := by decide +kernel
theorem dX10_sample_149 : decode cX10_sample 149 = .ok (.aload_n 0, 1) := by decide +kernel
theorem dX10_sample_150 : decode cX10_sample 150 = .ok (.getfield 67, 3) := by decide +kernel
theorem dX10_sample_153 : decode cX10_sample 153 = .ok (.iconst 0, 1) := by decide +kernel
theorem dX10_sample_154 : decode cX10_sample 154 = .ok (.iaload, 1) := by decide +kernel
theorem dX10_sample_155 : decode cX10_sample 155 = .ok (.ifCond .gt 7, 3) := by decide +kernel
theorem dX10_sample_158 : decode cX10_sample 158 = .ok (.iconst 1, 1) := by decide +kernel
theorem dX10_sample_159 : decode cX10_sample 159 = .ok (.goto 4, 3) := by decide +kernel
theorem dX10_sample_162 : decode cX10_sample 162 = .ok (.iconst 0, 1) := by decide +kernel
theorem dX10_sample_163 : decode cX10_sample 163 = .ok (.iadd, 1) := by decide +kernel
theorem dX10_sample_164 : decode cX10_sample 164 = .ok (.putfield 171, 3) := by decide +kernel
theorem dX10_sample_167 : decode cX10_sample 167 = .ok (.aload_n 0, 1) := by decide +kernel
theorem dX10_sample_168 : decode cX10_sample 168 = .ok (.aload_n 0, 1) := by decide +kernel
theorem dX10_sample_169 : decode cX10_sample 169 = .ok (.getfield 174, 3) := by decide +kernel
theorem dX10_sample_172 : decode cX10_sample 172 = .ok (.iload_n 3, 1) := by decide +kernel
theorem dX10_sample_173 : decode cX10_sample 173 = .ok (.invokestatic 177, 3) := by decide +kernel
theorem dX10_sample_176 : decode cX10_sample 176 = .ok (.invokestatic 138, 3) := by decide +kernel
theorem dX10_sample_179 : decode cX10_sample 179 = .ok (.putfield 174, 3) := by decide +kernel
theorem dX10_sample_182 : decode cX10_sample 182 = .ok (.aload_n 0, 1) := by decide +kernel
theorem dX10_sample_183 : decode cX10_sample 183 = .ok (.dup, 1) := by decide +kernel
theorem dX10_sample_184 : decode cX10_sample 184 = .ok (.getfield 180, 3) := by decide +kernel
theorem dX10_sample_187 : decode cX10_sample 187 = .ok (.iload_n 3, 1) := by decide +kernel
theorem dX10_sample_188 : decode cX10_sample 188 = .ok (.invokestatic 177, 3) := by decide +kernel
theorem dX10_sample_191 : decode cX10_sample 191 = .ok (.i2l, 1) := by decide +kernel
theorem dX10_sample_192 : decode cX10_sample 192 = .ok (.ladd, 1) := by decide +kernel
theorem dX10_sample_193 : decode cX10_sample 193 = .ok (.putfield 180, 3) := by decide +kernel
theorem dX10_sample_196 : decode cX10_sample 196 = .ok (.aload_n 0, 1) := by decide +kernel
theorem dX10_sample_197 : decode cX10_sample 197 = .ok (.dup, 1) := by decide +kernel
theorem dX10_sample_198 : decode cX10_sample 198 = .ok (.getfield 184, 3) := by decide +kernel
theorem dX10_sample_201 : decode cX10_sample 201 = .ok (.iconst 1, 1) := by decide +kernel
theorem dX10_sample_202 : decode cX10_sample 202 = .ok (.iadd, 1) := by decide +kernel
theorem dX10_sample_203 : decode cX10_sample 203 = .ok (.putfield 184, 3) := by decide +kernel
theorem dX10_sample_206 : decode cX10_sample 206 = .ok (.aload_n 0, 1) := by decide +kernel
theorem dX10_sample_207 : decode cX10_sample 207 = .ok (.getfield 67, 3) := by decide +kernel
theorem dX10_sample_210 : decode cX10_sample 210 = .ok (.iconst 0, 1) := by decide +kernel
theorem dX10_sample_211 : decode cX10_sample 211 = .ok (.aload_n 0, 1) := by decide +kernel
theorem dX10_sample_212 : decode cX10_sample 212 = .ok (.getfield 67, 3) := by decide +kernel
theorem dX10_sample_215 : decode cX10_sample 215 = .ok (.iconst 1, 1) := by decide +kernel
theorem dX10_sample_216 : decode cX10_sample 216 = .ok (.bipush 63, 2) := by decide +kernel
theorem dX10_sample_218 : decode cX10_sample 218 = .ok (.invokestatic 161, 3) := by decide +kernel
theorem dX10_sample_221 : decode cX10_sample 221 = .ok (.aload_n 0, 1) := by decide +kernel
theorem dX10_sample_222 : decode cX10_sample 222 = .ok (.getfield 67, 3) := by decide +kernel
theorem dX10_sample_225 : decode cX10_sample 225 = .ok (.iconst 0, 1) := by decide +kernel
theorem dX10_sample_226 : decode cX10_sample 226 = .ok (.iload_n 3, 1) := by decide +kernel
theorem dX10_sample_227 : decode cX10_sample 227 = .ok (.iastore, 1) := by decide +kernel
theorem dX10_sample_228 : decode cX10_sample 228 = .ok (.aload_n 0, 1) := by decide +kernel
theorem dX10_sample_229 : decode cX10_sample 229 = .ok (.dup, 1) := by decide +kernel
theorem dX10_sample_230 : decode cX10_sample 230 = .ok (.getfield 106, 3) := by decide +kernel
theorem dX10_sample_233 : decode cX10_sample 233 = .ok (.iconst 1, 1) := by decide +kernel
theorem dX10_sample_234 : decode cX10_sample 234 = .ok (.iadd, 1) := by decide +kernel
theorem dX10_sample_235 : decode cX10_sample 235 = .ok (.putfield 106, 3) := by decide +kernel
theorem dX10_sample_238 : decode cX10_sample 238 = .ok (.iconst 0, 1) := by decide +kernel
theorem dX10_sample_239 : decode cX10_sample 239 = .ok (.istore 4, 2) := by decide +kernel
theorem dX10_sample_241 : decode cX10_sample 241 = .ok (.iload 4, 2) := by decide +kernel
theorem dX10_sample_243 : decode cX10_sample 243 = .ok (.iconst 4, 1) := by decide +kernel
theorem dX10_sample_244 : decode cX10_sample 244 = .ok (.if_icmp .ge 30, 3) := by decide +kernel
theorem dX10_sample_247 : decode cX10_sample 247 = .ok (.aload_n 0, 1) := by decide +kernel
theorem dX10_sample_248 : decode cX10_sample 248 = .ok (.getfield 45, 3) := by decide +kernel
theorem dX10_sample_251 : decode cX10_sample 251 = .ok (.iload 4, 2) := by decide +kernel
theorem dX10_sample_253 : decode cX10_sample 253 = .ok (.iaload, 1) := by decide +kernel
theorem dX10_sample_254 : decode cX10_sample 254 = .ok (.ifCond .le 14, 3) := by decide +kernel
theorem dX10_sample_257 : decode cX10_sample 257 = .ok (.aload_n 0, 1) := by decide +kernel
theorem dX10_sample_258 : decode cX10_sample 258 = .ok (.getfield 45, 3) := by decide +kernel
theorem dX10_sample_261 : decode cX10_sample 261 = .ok (.iload 4, 2) := by decide +kernel
theorem dX10_sample_263 : decode cX10_sample 263 = .ok (.dup2, 1) := by decide +kernel
theorem dX10_sample_264 : decode cX10_sample 264 = .ok (.iaload, 1) := by decide +kernel
theorem dX10_sample_265 : decode cX10_sample 265 = .ok (.iconst 1, 1) := by decide +kernel
theorem dX10_sample_266 : decode cX10_sample 266 = .ok (.isub, 1) := by decide +kernel
theorem dX10_sample_267 : decode cX10_sample 267 = .ok (.iastore, 1) := by decide +kernel
theorem dX10_sample_268 : decode cX10_sample 268 = .ok (.iinc 4 1, 3) := by decide +kernel
theorem dX10_sample_271 : decode cX10_sample 271 = .ok (.goto (-30), 3) := by decide +kernel
theorem dX10_sample_274 : decode cX10_sample 274 = .ok (.aload_n 0, 1) := by decide +kernel
theorem dX10_sample_275 : decode cX10_sample 275 = .ok (.getfield 93, 3) := by decide +kernel
theorem dX10_sample_278 : decode cX10_sample 278 = .ok (.ifCond .eq 39, 3) := by decide +kernel
theorem dX10_sample_281 : decode cX10_sample 281 = .ok (.aload_n 0, 1) := by decide +kernel
theorem dX10_sample_282 : decode cX10_sample 282 = .ok (.dup, 1) := by decide +kernel
theorem dX10_sample_283 : decode cX10_sample 283 = .ok (.getfield 100, 3) := by decide +kernel
theorem dX10_sample_286 : decode cX10_sample 286 = .ok (.iconst 1, 1) := by decide +kernel
theorem dX10_sample_287 : decode cX10_sample 287 = .ok (.iadd, 1) := by decide +kernel
theorem dX10_sample_288 : decode cX10_sample 288 = .ok (.dup_x1, 1) := by decide +kernel
theorem dX10_sample_289 : decode cX10_sample 289 = .ok (.putfield 100, 3) := by decide +kernel
theorem dX10_sample_292 : decode cX10_sample 292 = .ok (.aload_n 0, 1) := by decide +kernel
theorem dX10_sample_293 : decode cX10_sample 293 = .ok (.getfield 103, 3) := by decide +kernel
theorem dX10_sample_296 : decode cX10_sample 296 = .ok (.if_icmp .ne 21, 3) := by decide +kernel
theorem dX10_sample_299 : decode cX10_sample 299 = .ok (.aload_n 0, 1) := by decide +kernel
theorem dX10_sample_300 : decode cX10_sample 300 = .ok (.iconst 0, 1) := by decide +kernel
theorem dX10_sample_301 : decode cX10_sample 301 = .ok (.putfield 100, 3) := by decide +kernel
theorem dX10_sample_304 : decode cX10_sample 304 = .ok (.aload_n 0, 1) := by decide +kernel
theorem dX10_sample_305 : decode cX10_sample 305 = .ok (.aload_n 0, 1) := by decide +kernel
theorem dX10_sample_306 : decode cX10_sample 306 = .ok (.getfield 97, 3) := by decide +kernel
theorem dX10_sample_309 : decode cX10_sample 309 = .ok (.iconst 1, 1) := by decide +kernel
theorem dX10_sample_310 : decode cX10_sample 310 = .ok (.iadd, 1) := by decide +kernel
theorem dX10_sample_311 : decode cX10_sample 311 = .ok (.bipush 8, 2) := by decide +kernel
theorem dX10_sample_313 : decode cX10_sample 313 = .ok (.irem, 1) := by decide +kernel
theorem dX10_sample_314 : decode cX10_sample 314 = .ok (.putfield 97, 3) := by decide +kernel
theorem dX10_sample_317 : decode cX10_sample 317 = .ok (.iload_n 3, 1) := by decide +kernel
theorem dX10_sample_318 : decode cX10_sample 318 = .ok (.ireturn, 1) := by decide +kernel
theorem dX10_sounding_0 : decode cX10_sounding 0 = .ok (.iconst 0, 1) := by decide +kernel
theorem dX10_sounding_1 : decode cX10_sounding 1 = .ok (.istore_n 1, 1) := by decide +kernel
theorem dX10_sounding_2 : decode cX10_sounding 2 = .ok (.iconst 0, 1) := by decide +kernel
theorem dX10_sounding_3 : decode cX10_sounding 3 = .ok (.istore_n 2, 1) := by decide +kernel
theorem dX10_sounding_4 : decode cX10_sounding 4 = .ok (.iload_n 2, 1) := by decide +kernel
theorem dX10_sounding_5 : decode cX10_sounding 5 = .ok (.iconst 4, 1) := by decide +kernel
theorem dX10_sounding_6 : decode cX10_sounding 6 = .ok (.if_icmp .ge 26, 3) := by decide +kernel
theorem dX10_sounding_9 : decode cX10_sounding 9 = .ok (.iload_n 1, 1) := by decide +kernel
theorem dX10_sounding_10 : decode cX10_sounding 10 = .ok (.aload_n 0, 1) := by decide +kernel
theorem dX10_sounding_11 : decode cX10_sounding 11 = .ok (.getfield 18, 3) := by decide +kernel
theorem dX10_sounding_14 : decode cX10_sounding 14 = .ok (.iload_n 2, 1) := by decide +kernel
theorem dX10_sounding_15 : decode cX10_sounding 15 = .ok (.iaload, 1) := by decide +kernel
theorem dX10_sounding_16 : decode cX10_sounding 16 = .ok (.ifCond .ne 7, 3) := by decide +kernel
theorem dX10_sounding_19 : decode cX10_sounding 19 = .ok (.iconst 0, 1) := by decide +kernel
theorem dX10_sounding_20 : decode cX10_sounding 20 = .ok (.goto 4, 3) := by decide +kernel
theorem dX10_sounding_23 : decode cX10_sounding 23 = .ok (.iconst 1, 1) := by decide +kernel
theorem dX10_sounding_24 : decode cX10_sounding 24 = .ok (.iadd, 1) := by decide +kernel
theorem dX10_sounding_25 : decode cX10_sounding 25 = .ok (.istore_n 1, 1) := by decide +kernel
theorem dX10_sounding_26 : decode cX10_sounding 26 = .ok (.iinc 2 1, 3) := by decide +kernel
theorem dX10_sounding_29 : decode cX10_sounding 29 = .ok (.goto (-25), 3) := by decide +kernel
theorem dX10_sounding_32 : decode cX10_sounding 32 = .ok (.iload_n 1, 1) := by decide +kernel
theorem dX10_sounding_33 : decode cX10_sounding 33 = .ok (.ireturn, 1) := by decide +kernel
theorem dX11_isIn_0 : decode cX11_isIn 0 = .ok (.iload_n 0, 1) := by decide +kernel
theorem dX11_isIn_1 : decode cX11_isIn 1 = .ok (.iload_n 1, 1) := by decide +kernel
theorem dX11_isIn_2 : decode cX11_isIn 2 = .ok (.if_icmp .lt 12, 3) := by decide +kernel
theorem dX11_isIn_5 : decode cX11_isIn 5 = .ok (.iload_n 0, 1) := by decide +kernel
theorem dX11_isIn_6 : decode cX11_isIn 6 = .ok (.iload_n 2, 1) := by decide +kernel
theorem dX11_isIn_7 : decode cX11_isIn 7 = .ok (.if_icmp .gt 7, 3) := by decide +kernel
theorem dX11_isIn_10 : decode cX11_isIn 10 = .ok (.iconst 1, 1) := by decide +kernel
theorem dX11_isIn_11 : decode cX11_isIn 11 = .ok (.goto 4, 3) := by decide +kernel
theorem dX11_isIn_14 : decode cX11_isIn 14 = .ok (.iconst 0, 1) := by decide +kernel
theorem dX11_isIn_15 : decode cX11_isIn 15 = .ok (.ireturn, 1) := by decide +kernel
theorem dX11_keep_0 : decode cX11_keep 0 = .ok (.iload_n 1, 1) := by decide +kernel
theorem dX11_keep_1 : decode cX11_keep 1 = .ok (.ineg, 1) := by decide +kernel
theorem dX11_keep_2 : decode cX11_keep 2 = .ok (.iload_n 1, 1) := by decide +kernel
theorem dX11_keep_3 : decode cX11_keep 3 = .ok (.iload_n 0, 1) := by decide +kernel
theorem dX11_keep_4 : decode cX11_keep 4 = .ok (.invokestatic 1, 3) := by decide +kernel
theorem dX11_keep_7 : decode cX11_keep 7 = .ok (.invokestatic 7, 3) := by decide +kernel
theorem dX11_keep_10 : decode cX11_keep 10 = .ok (.ireturn, 1) := by decide +kernel
theorem dX11_put_0 : decode cX11_put 0 = .ok (.aload_n 0, 1) := by decide +kernel
theorem dX11_put_1 : decode cX11_put 1 = .ok (.iconst 0, 1) := by decide +kernel
theorem dX11_put_2 : decode cX11_put 2 = .ok (.aload_n 1, 1) := by decide +kernel
theorem dX11_put_3 : decode cX11_put 3 = .ok (.iconst 0, 1) := by decide +kernel
theorem dX11_put_4 : decode cX11_put 4 = .ok (.aload_n 0, 1) := by decide +kernel
theorem dX11_put_5 : decode cX11_put 5 = .ok (.arraylength, 1) := by decide +kernel
theorem dX11_put_6 : decode cX11_put 6 = .ok (.invokestatic 10, 3) := by decide +kernel
theorem dX11_put_9 : decode cX11_put 9 = .ok (.return_, 1) := by decide +kernel
set_option maxRecDepth 20000 in
theorem ggX11_init_X10_init : GoodIn wsX11_init wsX10_init := goodIn_r _ [10, 11, 2, 3, 12, 13, 14, 15, 16, 17, 18, 19, 20, 21, 22, 23, 24, 25, 26, 27, 28, 29, 30, 31, 32, 33, 34, 35, 36, 37, 38, 39, 40, 41, 42, 43, 44, 45, 46, 47, 48, 49, 50, 51, 52, 53, 54, 55, 56, 57, 58, 59, 60, 61, 62, 63, 64, 65, 66] (by decide +kernel) (by decide +kernel)
set_option maxRecDepth 20000 in
theorem gX11_init_X10_init : GoodIn wsX11_init (wsX10_init) := ggX11_init_X10_init
theorem dX11_init_0 : decode cX11_init 0 = .ok (.aload_n 0, 1) := by decide +kernel
theorem dX11_init_1 : decode cX11_init 1 = .ok (.invokespecial 16, 3) := by decide +kernel
theorem dX11_init_4 : decode cX11_init 4 = .ok (.aload_n 0, 1) := by decide +kernel
theorem dX11_init_5 : decode cX11_init 5 = .ok (.new 22, 3) := by decide +kernel
theorem dX11_init_8 : decode cX11_init 8 = .ok (.dup, 1) := by decide +kernel
theorem dX11_init_9 : decode cX11_init 9 = .ok (.invokespecial 24, 3) := by decide +kernel
theorem dX11_init_12 : decode cX11_init 12 = .ok (.putfield 25, 3) := by decide +kernel
theorem dX11_init_15 : decode cX11_init 15 = .ok (.return_, 1) := by decide +kernel
theorem dX11_thrown_0 : decode cX11_thrown 0 = .ok (.aload_n 0, 1) := by decide +kernel
theorem dX11_thrown_1 : decode cX11_thrown 1 = .ok (.getfield 31, 3) := by decide +kernel
theorem dX11_thrown_4 : decode cX11_thrown 4 = .ok (.ireturn, 1) := by decide +kernel
theorem dX11_no_0 : decode cX11_no 0 = .ok (.aload_n 0, 1) := by decide +kernel
theorem dX11_no_1 : decode cX11_no 1 = .ok (.iload_n 1, 1) := by decide +kernel
theorem dX11_no_2 : decode cX11_no 2 = .ok (.putfield 31, 3) := by decide +kernel
theorem dX11_no_5 : decode cX11_no 5 = .ok (.iconst 0, 1) := by decide +kernel
theorem dX11_no_6 : decode cX11_no 6 = .ok (.ireturn, 1) := by decide +kernel
theorem dX11_ok_0 : decode cX11_ok 0 = .ok (.aload_n 0, 1) := by decide +kernel
theorem dX11_ok_1 : decode cX11_ok 1 = .ok (.iconst 0, 1) := by decide +kernel
theorem dX11_ok_2 : decode cX11_ok 2 = .ok (.putfield 31, 3) := by decide +kernel
theorem dX11_ok_5 : decode cX11_ok 5 = .ok (.iload_n 1, 1) := by decide +kernel
theorem dX11_ok_6 : decode cX11_ok 6 = .ok (.ireturn, 1) := by decide +kernel
set_option maxRecDepth 20000 in
theorem ggX11_draw_X11_isIn : GoodIn wsX11_draw wsX11_isIn := goodIn_r _ [7] (by decide +kernel) (by decide +kernel)
set_option maxRecDepth 20000 in
theorem gX11_draw_X11_isIn : GoodIn wsX11_draw (va_wsS RX11 35 yX11_isIn wsX11_isIn) := goodIn_app (goodIn_of _ (by decide +kernel)) ggX11_draw_X11_isIn
set_option maxRecDepth 20000 in
theorem ggX11_draw_X11_no : GoodIn wsX11_draw wsX11_no := goodIn_r _ [11, 1, 12, 13] (by decide +kernel) (by decide +kernel)
set_option maxRecDepth 20000 in
theorem gX11_draw_X11_no : GoodIn wsX11_draw (wsV RX11 39 RX11 yX11_no wsX11_no) := goodIn_app (goodIn_of _ (by decide +kernel)) ggX11_draw_X11_no
theorem dX11_draw_0 : decode cX11_draw 0 = .ok (.aload_n 0, 1) := by decide +kernel
theorem dX11_draw_1 : decode cX11_draw 1 = .ok (.iconst 0, 1) := by decide +kernel
theorem dX11_draw_2 : decode cX11_draw 2 = .ok (.putfield 31, 3) := by decide +kernel
theorem dX11_draw_5 : decode cX11_draw 5 = .ok (.iload_n 1, 1) := by decide +kernel
theorem dX11_draw_6 : decode cX11_draw 6 = .ok (.iconst 0, 1) := by decide +kernel
theorem dX11_draw_7 : decode cX11_draw 7 = .ok (.bipush 31, 2) := by decide +kernel
theorem dX11_draw_9 : decode cX11_draw 9 = .ok (.invokestatic 35, 3) := by decide +kernel
theorem dX11_draw_12 : decode cX11_draw 12 = .ok (.ifCond .ne 9, 3) := by decide +kernel
theorem dX11_draw_15 : decode cX11_draw 15 = .ok (.aload_n 0, 1) := by decide +kernel
theorem dX11_draw_16 : decode cX11_draw 16 = .ok (.iconst 1, 1) := by decide +kernel
theorem dX11_draw_17 : decode cX11_draw 17 = .ok (.invokevirtual 39, 3) := by decide +kernel
theorem dX11_draw_20 : decode cX11_draw 20 = .ok (.ireturn, 1) := by decide +kernel
theorem dX11_draw_21 : decode cX11_draw 21 = .ok (.iload_n 2, 1) := by decide +kernel
theorem dX11_draw_22 : decode cX11_draw 22 = .ok (.sipush (-1000), 3) := by decide +kernel
theorem dX11_draw_25 : decode cX11_draw 25 = .ok (.sipush 1000, 3) := by decide +kernel
theorem dX11_draw_28 : decode cX11_draw 28 = .ok (.invokestatic 35, 3) := by decide +kernel
theorem dX11_draw_31 : decode cX11_draw 31 = .ok (.ifCond .ne 9, 3) := by decide +kernel
theorem dX11_draw_34 : decode cX11_draw 34 = .ok (.aload_n 0, 1) := by decide +kernel
theorem dX11_draw_35 : decode cX11_draw 35 = .ok (.iconst 2, 1) := by decide +kernel
theorem dX11_draw_36 : decode cX11_draw 36 = .ok (.invokevirtual 39, 3) := by decide +kernel
theorem dX11_draw_39 : decode cX11_draw 39 = .ok (.ireturn, 1) := by decide +kernel
theorem dX11_draw_40 : decode cX11_draw 40 = .ok (.aload_n 0, 1) := by decide +kernel
theorem dX11_draw_41 : decode cX11_draw 41 = .ok (.getfield 25, 3) := by decide +kernel
theorem dX11_draw_44 : decode cX11_draw 44 = .ok (.getfield 43, 3) := by decide +kernel
theorem dX11_draw_47 : decode cX11_draw 47 = .ok (.iload_n 1, 1) := by decide +kernel
theorem dX11_draw_48 : decode cX11_draw 48 = .ok (.iaload, 1) := by decide +kernel
theorem dX11_draw_49 : decode cX11_draw 49 = .ok (.istore_n 3, 1) := by decide +kernel
theorem dX11_draw_50 : decode cX11_draw 50 = .ok (.aload_n 0, 1) := by decide +kernel
theorem dX11_draw_51 : decode cX11_draw 51 = .ok (.getfield 25, 3) := by decide +kernel
theorem dX11_draw_54 : decode cX11_draw 54 = .ok (.getfield 43, 3) := by decide +kernel
theorem dX11_draw_57 : decode cX11_draw 57 = .ok (.iload_n 1, 1) := by decide +kernel
theorem dX11_draw_58 : decode cX11_draw 58 = .ok (.iload_n 2, 1) := by decide +kernel
theorem dX11_draw_59 : decode cX11_draw 59 = .ok (.iastore, 1) := by decide +kernel
theorem dX11_draw_60 : decode cX11_draw 60 = .ok (.iload_n 3, 1) := by decide +kernel
theorem dX11_draw_61 : decode cX11_draw 61 = .ok (.ireturn, 1) := by decide +kernel
set_option maxRecDepth 20000 in
theorem ggX11_isWave_X11_isIn : GoodIn wsX11_isWave wsX11_isIn := goodIn_r _ [4] (by decide +kernel) (by decide +kernel)
set_option maxRecDepth 20000 in
theorem gX11_isWave_X11_isIn : GoodIn wsX11_isWave (va_wsS RX11 35 yX11_isIn wsX11_isIn) := goodIn_app (goodIn_of _ (by decide +kernel)) ggX11_isWave_X11_isIn
theorem dX11_isWave_0 : decode cX11_isWave 0 = .ok (.iload_n 0, 1) := by decide +kernel
theorem dX11_isWave_1 : decode cX11_isWave 1 = .ok (.iconst 0, 1) := by decide +kernel
theorem dX11_isWave_2 : decode cX11_isWave 2 = .ok (.iconst 3, 1) := by decide +kernel
theorem dX11_isWave_3 : decode cX11_isWave 3 = .ok (.invokestatic 35, 3) := by decide +kernel
theorem dX11_isWave_6 : decode cX11_isWave 6 = .ok (.ireturn, 1) := by decide +kernel
set_option maxRecDepth 20000 in
theorem ggX11_isInstrument_X11_isIn : GoodIn wsX11_isInstrument wsX11_isIn := goodIn_r _ [4] (by decide +kernel) (by decide +kernel)
set_option maxRecDepth 20000 in
theorem gX11_isInstrument_X11_isIn : GoodIn wsX11_isInstrument (va_wsS RX11 35 yX11_isIn wsX11_isIn) := goodIn_app (goodIn_of _ (by decide +kernel)) ggX11_isInstrument_X11_isIn
theorem dX11_isInstrument_0 : decode cX11_isInstrument 0 = .ok (.iload_n 0, 1) := by decide +kernel
theorem dX11_isInstrument_1 : decode cX11_isInstrument 1 = .ok (.iconst 0, 1) := by decide +kernel
theorem dX11_isInstrument_2 : decode cX11_isInstrument 2 = .ok (.iconst 3, 1) := by decide +kernel
theorem dX11_isInstrument_3 : decode cX11_isInstrument 3 = .ok (.invokestatic 35, 3) := by decide +kernel
theorem dX11_isInstrument_6 : decode cX11_isInstrument 6 = .ok (.ireturn, 1) := by decide +kernel
set_option maxRecDepth 20000 in
theorem ggX11_wave_X11_isWave : GoodIn wsX11_wave wsX11_isWave := goodIn_r _ [7, 8, 9, 6, 10] (by decide +kernel) (by decide +kernel)
set_option maxRecDepth 20000 in
theorem gX11_wave_X11_isWave : GoodIn wsX11_wave (va_wsS RX11 47 yX11_isWave wsX11_isWave) := goodIn_app (goodIn_of _ (by decide +kernel)) ggX11_wave_X11_isWave
set_option maxRecDepth 20000 in
theorem ggX11_wave_X11_no : GoodIn wsX11_wave wsX11_no := goodIn_r _ [14, 1, 25, 26] (by decide +kernel) (by decide +kernel)
set_option maxRecDepth 20000 in
theorem gX11_wave_X11_no : GoodIn wsX11_wave (wsV RX11 39 RX11 yX11_no wsX11_no) := goodIn_app (goodIn_of _ (by decide +kernel)) ggX11_wave_X11_no
set_option maxRecDepth 20000 in
theorem ggX11_wave_X11_isIn : GoodIn wsX11_wave wsX11_isIn := goodIn_r _ [10] (by decide +kernel) (by decide +kernel)
set_option maxRecDepth 20000 in
theorem gX11_wave_X11_isIn : GoodIn wsX11_wave (va_wsS RX11 35 yX11_isIn wsX11_isIn) := goodIn_app (goodIn_of _ (by decide +kernel)) ggX11_wave_X11_isIn
set_option maxRecDepth 20000 in
theorem ggX11_wave_X10_wave : GoodIn wsX11_wave wsX10_wave := goodIn_r _ [19, 20, 21, 22, 18, 23, 24, 27, 28, 29, 30, 31, 32, 33, 34, 35, 36, 37, 38, 39, 40, 41, 42, 43, 44, 45, 46, 47, 48, 49, 50, 51, 52, 53, 54, 55, 56, 57, 58, 59, 60, 61] (by decide +kernel) (by decide +kernel)
set_option maxRecDepth 20000 in
theorem gX11_wave_X10_wave : GoodIn wsX11_wave (wsV RX11 52 RX10 yX10_wave wsX10_wave) := goodIn_app (goodIn_of _ (by decide +kernel)) ggX11_wave_X10_wave
theorem dX11_wave_0 : decode cX11_wave 0 = .ok (.aload_n 0, 1) := by decide +kernel
theorem dX11_wave_1 : decode cX11_wave 1 = .ok (.iconst 0, 1) := by decide +kernel
theorem dX11_wave_2 : decode cX11_wave 2 = .ok (.putfield 31, 3) := by decide +kernel
theorem dX11_wave_5 : decode cX11_wave 5 = .ok (.iload_n 1, 1) := by decide +kernel
theorem dX11_wave_6 : decode cX11_wave 6 = .ok (.invokestatic 47, 3) := by decide +kernel
theorem dX11_wave_9 : decode cX11_wave 9 = .ok (.ifCond .ne 9, 3) := by decide +kernel
theorem dX11_wave_12 : decode cX11_wave 12 = .ok (.aload_n 0, 1) := by decide +kernel
theorem dX11_wave_13 : decode cX11_wave 13 = .ok (.iconst 1, 1) := by decide +kernel
theorem dX11_wave_14 : decode cX11_wave 14 = .ok (.invokevirtual 39, 3) := by decide +kernel
theorem dX11_wave_17 : decode cX11_wave 17 = .ok (.ireturn, 1) := by decide +kernel
theorem dX11_wave_18 : decode cX11_wave 18 = .ok (.iload_n 2, 1) := by decide +kernel
theorem dX11_wave_19 : decode cX11_wave 19 = .ok (.iconst 0, 1) := by decide +kernel
theorem dX11_wave_20 : decode cX11_wave 20 = .ok (.ldc 51, 2) := by decide +kernel
theorem dX11_wave_22 : decode cX11_wave 22 = .ok (.invokestatic 35, 3) := by decide +kernel
theorem dX11_wave_25 : decode cX11_wave 25 = .ok (.ifCond .eq 15, 3) := by decide +kernel
theorem dX11_wave_28 : decode cX11_wave 28 = .ok (.aload_n 0, 1) := by decide +kernel
theorem dX11_wave_29 : decode cX11_wave 29 = .ok (.getfield 25, 3) := by decide +kernel
theorem dX11_wave_32 : decode cX11_wave 32 = .ok (.iload_n 1, 1) := by decide +kernel
theorem dX11_wave_33 : decode cX11_wave 33 = .ok (.iload_n 2, 1) := by decide +kernel
theorem dX11_wave_34 : decode cX11_wave 34 = .ok (.invokevirtual 52, 3) := by decide +kernel
theorem dX11_wave_37 : decode cX11_wave 37 = .ok (.goto 8, 3) := by decide +kernel
theorem dX11_wave_40 : decode cX11_wave 40 = .ok (.aload_n 0, 1) := by decide +kernel
theorem dX11_wave_41 : decode cX11_wave 41 = .ok (.iconst 2, 1) := by decide +kernel
theorem dX11_wave_42 : decode cX11_wave 42 = .ok (.invokevirtual 39, 3) := by decide +kernel
theorem dX11_wave_45 : decode cX11_wave 45 = .ok (.ireturn, 1) := by decide +kernel
set_option maxRecDepth 20000 in
theorem ggX11_stride_X11_isIn : GoodIn wsX11_stride wsX11_isIn := goodIn_r _ [5] (by decide +kernel) (by decide +kernel)
set_option maxRecDepth 20000 in
theorem gX11_stride_X11_isIn : GoodIn wsX11_stride (va_wsS RX11 35 yX11_isIn wsX11_isIn) := goodIn_app (goodIn_of _ (by decide +kernel)) ggX11_stride_X11_isIn
set_option maxRecDepth 20000 in
theorem ggX11_stride_X10_stride : GoodIn wsX11_stride wsX10_stride := goodIn_r _ [9, 10] (by decide +kernel) (by decide +kernel)
set_option maxRecDepth 20000 in
theorem gX11_stride_X10_stride : GoodIn wsX11_stride (va_wsS RX11 55 yX10_stride wsX10_stride) := goodIn_app (goodIn_of _ (by decide +kernel)) ggX11_stride_X10_stride
set_option maxRecDepth 20000 in
theorem ggX11_stride_X11_no : GoodIn wsX11_stride wsX11_no := goodIn_r _ [14, 1, 15, 16] (by decide +kernel) (by decide +kernel)
set_option maxRecDepth 20000 in
theorem gX11_stride_X11_no : GoodIn wsX11_stride (wsV RX11 39 RX11 yX11_no wsX11_no) := goodIn_app (goodIn_of _ (by decide +kernel)) ggX11_stride_X11_no
theorem dX11_stride_0 : decode cX11_stride 0 = .ok (.aload_n 0, 1) := by decide +kernel
theorem dX11_stride_1 : decode cX11_stride 1 = .ok (.iconst 0, 1) := by decide +kernel
theorem dX11_stride_2 : decode cX11_stride 2 = .ok (.putfield 31, 3) := by decide +kernel
theorem dX11_stride_5 : decode cX11_stride 5 = .ok (.iload_n 1, 1) := by decide +kernel
theorem dX11_stride_6 : decode cX11_stride 6 = .ok (.iconst 0, 1) := by decide +kernel
theorem dX11_stride_7 : decode cX11_stride 7 = .ok (.bipush 47, 2) := by decide +kernel
theorem dX11_stride_9 : decode cX11_stride 9 = .ok (.invokestatic 35, 3) := by decide +kernel
theorem dX11_stride_12 : decode cX11_stride 12 = .ok (.ifCond .eq 10, 3) := by decide +kernel
theorem dX11_stride_15 : decode cX11_stride 15 = .ok (.iload_n 1, 1) := by decide +kernel
theorem dX11_stride_16 : decode cX11_stride 16 = .ok (.invokestatic 55, 3) := by decide +kernel
theorem dX11_stride_19 : decode cX11_stride 19 = .ok (.goto 8, 3) := by decide +kernel
theorem dX11_stride_22 : decode cX11_stride 22 = .ok (.aload_n 0, 1) := by decide +kernel
theorem dX11_stride_23 : decode cX11_stride 23 = .ok (.iconst 1, 1) := by decide +kernel
theorem dX11_stride_24 : decode cX11_stride 24 = .ok (.invokevirtual 39, 3) := by decide +kernel
theorem dX11_stride_27 : decode cX11_stride 27 = .ok (.ireturn, 1) := by decide +kernel
theorem dX11_put__0 : decode cX11_put_ 0 = .ok (.aload_n 0, 1) := by decide +kernel
theorem dX11_put__1 : decode cX11_put_ 1 = .ok (.getfield 25, 3) := by decide +kernel
theorem dX11_put__4 : decode cX11_put_ 4 = .ok (.getfield 58, 3) := by decide +kernel
theorem dX11_put__7 : decode cX11_put_ 7 = .ok (.iload_n 1, 1) := by decide +kernel
theorem dX11_put__8 : decode cX11_put_ 8 = .ok (.bipush 12, 2) := by decide +kernel
theorem dX11_put__10 : decode cX11_put_ 10 = .ok (.imul, 1) := by decide +kernel
theorem dX11_put__11 : decode cX11_put_ 11 = .ok (.iload_n 3, 1) := by decide +kernel
theorem dX11_put__12 : decode cX11_put_ 12 = .ok (.iadd, 1) := by decide +kernel
theorem dX11_put__13 : decode cX11_put_ 13 = .ok (.iaload, 1) := by decide +kernel
theorem dX11_put__14 : decode cX11_put_ 14 = .ok (.istore 5, 2) := by decide +kernel
theorem dX11_put__16 : decode cX11_put_ 16 = .ok (.aload 4, 2) := by decide +kernel
theorem dX11_put__18 : decode cX11_put_ 18 = .ok (.iconst 0, 1) := by decide +kernel
theorem dX11_put__19 : decode cX11_put_ 19 = .ok (.aload_n 0, 1) := by decide +kernel
theorem dX11_put__20 : decode cX11_put_ 20 = .ok (.getfield 25, 3) := by decide +kernel
theorem dX11_put__23 : decode cX11_put_ 23 = .ok (.getfield 58, 3) := by decide +kernel
theorem dX11_put__26 : decode cX11_put_ 26 = .ok (.iload_n 1, 1) := by decide +kernel
theorem dX11_put__27 : decode cX11_put_ 27 = .ok (.bipush 12, 2) := by decide +kernel
theorem dX11_put__29 : decode cX11_put_ 29 = .ok (.imul, 1) := by decide +kernel
theorem dX11_put__30 : decode cX11_put_ 30 = .ok (.iload_n 2, 1) := by decide +kernel
theorem dX11_put__31 : decode cX11_put_ 31 = .ok (.iadd, 1) := by decide +kernel
theorem dX11_put__32 : decode cX11_put_ 32 = .ok (.aload 4, 2) := by decide +kernel
theorem dX11_put__34 : decode cX11_put_ 34 = .ok (.arraylength, 1) := by decide +kernel
theorem dX11_put__35 : decode cX11_put_ 35 = .ok (.invokestatic 10, 3) := by decide +kernel
theorem dX11_put__38 : decode cX11_put_ 38 = .ok (.iload 5, 2) := by decide +kernel
theorem dX11_put__40 : decode cX11_put_ 40 = .ok (.ireturn, 1) := by decide +kernel
set_option maxRecDepth 20000 in
theorem ggX11_setWaves_X11_isInstrument : GoodIn wsX11_setWaves wsX11_isInstrument := goodIn_r _ [6, 7, 8, 5, 9] (by decide +kernel) (by decide +kernel)
set_option maxRecDepth 20000 in
theorem gX11_setWaves_X11_isInstrument : GoodIn wsX11_setWaves (va_wsS RX11 61 yX11_isInstrument wsX11_isInstrument) := goodIn_app (goodIn_of _ (by decide +kernel)) ggX11_setWaves_X11_isInstrument
set_option maxRecDepth 20000 in
theorem ggX11_setWaves_X11_isWave : GoodIn wsX11_setWaves wsX11_isWave := goodIn_r _ [12, 7, 8, 5, 9] (by decide +kernel) (by decide +kernel)
set_option maxRecDepth 20000 in
theorem gX11_setWaves_X11_isWave : GoodIn wsX11_setWaves (va_wsS RX11 47 yX11_isWave wsX11_isWave) := goodIn_app (goodIn_of _ (by decide +kernel)) ggX11_setWaves_X11_isWave
set_option maxRecDepth 20000 in
theorem ggX11_setWaves_X11_no : GoodIn wsX11_setWaves wsX11_no := goodIn_r _ [16, 1, 27, 28] (by decide +kernel) (by decide +kernel)
set_option maxRecDepth 20000 in
theorem gX11_setWaves_X11_no : GoodIn wsX11_setWaves (wsV RX11 39 RX11 yX11_no wsX11_no) := goodIn_app (goodIn_of _ (by decide +kernel)) ggX11_setWaves_X11_no
set_option maxRecDepth 20000 in
theorem ggX11_setWaves_X11_isIn : GoodIn wsX11_setWaves wsX11_isIn := goodIn_r _ [9] (by decide +kernel) (by decide +kernel)
set_option maxRecDepth 20000 in
theorem gX11_setWaves_X11_isIn : GoodIn wsX11_setWaves (va_wsS RX11 35 yX11_isIn wsX11_isIn) := goodIn_app (goodIn_of _ (by decide +kernel)) ggX11_setWaves_X11_isIn
set_option maxRecDepth 20000 in
theorem ggX11_setWaves_X11_put_ : GoodIn wsX11_setWaves wsX11_put_ := goodIn_r _ [20, 21, 22, 23, 24, 25, 26, 27, 28, 29, 30, 31, 32, 33, 34, 35, 36, 37, 38, 39, 40, 41, 42, 43, 44, 45, 46, 47, 48, 49, 50, 51, 52, 53, 54, 55, 56, 57, 58, 59, 60, 61, 62, 63] (by decide +kernel) (by decide +kernel)
set_option maxRecDepth 20000 in
theorem gX11_setWaves_X11_put_ : GoodIn wsX11_setWaves (wsV RX11 64 RX11 yX11_put_ wsX11_put_) := goodIn_app (goodIn_of _ (by decide +kernel)) ggX11_setWaves_X11_put_
theorem dX11_setWaves_0 : decode cX11_setWaves 0 = .ok (.aload_n 0, 1) := by decide +kernel
theorem dX11_setWaves_1 : decode cX11_setWaves 1 = .ok (.iconst 0, 1) := by decide +kernel
theorem dX11_setWaves_2 : decode cX11_setWaves 2 = .ok (.putfield 31, 3) := by decide +kernel
theorem dX11_setWaves_5 : decode cX11_setWaves 5 = .ok (.iload_n 1, 1) := by decide +kernel
theorem dX11_setWaves_6 : decode cX11_setWaves 6 = .ok (.invokestatic 61, 3) := by decide +kernel
theorem dX11_setWaves_9 : decode cX11_setWaves 9 = .ok (.ifCond .eq 17, 3) := by decide +kernel
theorem dX11_setWaves_12 : decode cX11_setWaves 12 = .ok (.iload_n 2, 1) := by decide +kernel
theorem dX11_setWaves_13 : decode cX11_setWaves 13 = .ok (.invokestatic 47, 3) := by decide +kernel
theorem dX11_setWaves_16 : decode cX11_setWaves 16 = .ok (.ifCond .eq 10, 3) := by decide +kernel
theorem dX11_setWaves_19 : decode cX11_setWaves 19 = .ok (.iload_n 3, 1) := by decide +kernel
theorem dX11_setWaves_20 : decode cX11_setWaves 20 = .ok (.invokestatic 47, 3) := by decide +kernel
theorem dX11_setWaves_23 : decode cX11_setWaves 23 = .ok (.ifCond .ne 9, 3) := by decide +kernel
theorem dX11_setWaves_26 : decode cX11_setWaves 26 = .ok (.aload_n 0, 1) := by decide +kernel
theorem dX11_setWaves_27 : decode cX11_setWaves 27 = .ok (.iconst 1, 1) := by decide +kernel
theorem dX11_setWaves_28 : decode cX11_setWaves 28 = .ok (.invokevirtual 39, 3) := by decide +kernel
theorem dX11_setWaves_31 : decode cX11_setWaves 31 = .ok (.ireturn, 1) := by decide +kernel
theorem dX11_setWaves_32 : decode cX11_setWaves 32 = .ok (.iload 4, 2) := by decide +kernel
theorem dX11_setWaves_34 : decode cX11_setWaves 34 = .ok (.bipush (-64), 2) := by decide +kernel
theorem dX11_setWaves_36 : decode cX11_setWaves 36 = .ok (.bipush 64, 2) := by decide +kernel
theorem dX11_setWaves_38 : decode cX11_setWaves 38 = .ok (.invokestatic 35, 3) := by decide +kernel
theorem dX11_setWaves_41 : decode cX11_setWaves 41 = .ok (.ifCond .eq 45, 3) := by decide +kernel
theorem dX11_setWaves_44 : decode cX11_setWaves 44 = .ok (.iload 5, 2) := by decide +kernel
theorem dX11_setWaves_46 : decode cX11_setWaves 46 = .ok (.iconst 0, 1) := by decide +kernel
theorem dX11_setWaves_47 : decode cX11_setWaves 47 = .ok (.bipush 100, 2) := by decide +kernel
theorem dX11_setWaves_49 : decode cX11_setWaves 49 = .ok (.invokestatic 35, 3) := by decide +kernel
theorem dX11_setWaves_52 : decode cX11_setWaves 52 = .ok (.ifCond .eq 34, 3) := by decide +kernel
theorem dX11_setWaves_55 : decode cX11_setWaves 55 = .ok (.aload_n 0, 1) := by decide +kernel
theorem dX11_setWaves_56 : decode cX11_setWaves 56 = .ok (.iload_n 1, 1) := by decide +kernel
theorem dX11_setWaves_57 : decode cX11_setWaves 57 = .ok (.iconst 0, 1) := by decide +kernel
theorem dX11_setWaves_58 : decode cX11_setWaves 58 = .ok (.iconst 3, 1) := by decide +kernel
theorem dX11_setWaves_59 : decode cX11_setWaves 59 = .ok (.iconst 4, 1) := by decide +kernel
theorem dX11_setWaves_60 : decode cX11_setWaves 60 = .ok (.newarray .int, 2) := by decide +kernel
theorem dX11_setWaves_62 : decode cX11_setWaves 62 = .ok (.dup, 1) := by decide +kernel
theorem dX11_setWaves_63 : decode cX11_setWaves 63 = .ok (.iconst 0, 1) := by decide +kernel
theorem dX11_setWaves_64 : decode cX11_setWaves 64 = .ok (.iload_n 2, 1) := by decide +kernel
theorem dX11_setWaves_65 : decode cX11_setWaves 65 = .ok (.iastore, 1) := by decide +kernel
theorem dX11_setWaves_66 : decode cX11_setWaves 66 = .ok (.dup, 1) := by decide +kernel
theorem dX11_setWaves_67 : decode cX11_setWaves 67 = .ok (.iconst 1, 1) := by decide +kernel
theorem dX11_setWaves_68 : decode cX11_setWaves 68 = .ok (.iload_n 3, 1) := by decide +kernel
theorem dX11_setWaves_69 : decode cX11_setWaves 69 = .ok (.iastore, 1) := by decide +kernel
theorem dX11_setWaves_70 : decode cX11_setWaves 70 = .ok (.dup, 1) := by decide +kernel
theorem dX11_setWaves_71 : decode cX11_setWaves 71 = .ok (.iconst 2, 1) := by decide +kernel
theorem dX11_setWaves_72 : decode cX11_setWaves 72 = .ok (.iload 4, 2) := by decide +kernel
theorem dX11_setWaves_74 : decode cX11_setWaves 74 = .ok (.iastore, 1) := by decide +kernel
theorem dX11_setWaves_75 : decode cX11_setWaves 75 = .ok (.dup, 1) := by decide +kernel
theorem dX11_setWaves_76 : decode cX11_setWaves 76 = .ok (.iconst 3, 1) := by decide +kernel
theorem dX11_setWaves_77 : decode cX11_setWaves 77 = .ok (.iload 5, 2) := by decide +kernel
theorem dX11_setWaves_79 : decode cX11_setWaves 79 = .ok (.iastore, 1) := by decide +kernel
theorem dX11_setWaves_80 : decode cX11_setWaves 80 = .ok (.invokevirtual 64, 3) := by decide +kernel
theorem dX11_setWaves_83 : decode cX11_setWaves 83 = .ok (.goto 8, 3) := by decide +kernel
theorem dX11_setWaves_86 : decode cX11_setWaves 86 = .ok (.aload_n 0, 1) := by decide +kernel
theorem dX11_setWaves_87 : decode cX11_setWaves 87 = .ok (.iconst 2, 1) := by decide +kernel
theorem dX11_setWaves_88 : decode cX11_setWaves 88 = .ok (.invokevirtual 39, 3) := by decide +kernel
theorem dX11_setWaves_91 : decode cX11_setWaves 91 = .ok (.ireturn, 1) := by decide +kernel
set_option maxRecDepth 20000 in
theorem ggX11_setEnvelope_X11_isInstrument : GoodIn wsX11_setEnvelope wsX11_isInstrument := goodIn_r _ [6, 7, 8, 5, 9] (by decide +kernel) (by decide +kernel)
set_option maxRecDepth 20000 in
theorem gX11_setEnvelope_X11_isInstrument : GoodIn wsX11_setEnvelope (va_wsS RX11 61 yX11_isInstrument wsX11_isInstrument) := goodIn_app (goodIn_of _ (by decide +kernel)) ggX11_setEnvelope_X11_isInstrument
set_option maxRecDepth 20000 in
theorem ggX11_setEnvelope_X11_no : GoodIn wsX11_setEnvelope wsX11_no := goodIn_r _ [13, 1, 24, 25] (by decide +kernel) (by decide +kernel)
set_option maxRecDepth 20000 in
theorem gX11_setEnvelope_X11_no : GoodIn wsX11_setEnvelope (wsV RX11 39 RX11 yX11_no wsX11_no) := goodIn_app (goodIn_of _ (by decide +kernel)) ggX11_setEnvelope_X11_no
set_option maxRecDepth 20000 in
theorem ggX11_setEnvelope_X11_isIn : GoodIn wsX11_setEnvelope wsX11_isIn := goodIn_r _ [9] (by decide +kernel) (by decide +kernel)
set_option maxRecDepth 20000 in
theorem gX11_setEnvelope_X11_isIn : GoodIn wsX11_setEnvelope (va_wsS RX11 35 yX11_isIn wsX11_isIn) := goodIn_app (goodIn_of _ (by decide +kernel)) ggX11_setEnvelope_X11_isIn
set_option maxRecDepth 20000 in
theorem ggX11_setEnvelope_X11_put_ : GoodIn wsX11_setEnvelope wsX11_put_ := goodIn_r _ [17, 18, 19, 20, 21, 22, 23, 24, 25, 26, 27, 28, 29, 30, 31, 32, 33, 34, 35, 36, 37, 38, 39, 40, 41, 42, 43, 44, 45, 46, 47, 48, 49, 50, 51, 52, 53, 54, 55, 56, 57, 58, 59, 60] (by decide +kernel) (by decide +kernel)
set_option maxRecDepth 20000 in
theorem gX11_setEnvelope_X11_put_ : GoodIn wsX11_setEnvelope (wsV RX11 64 RX11 yX11_put_ wsX11_put_) := goodIn_app (goodIn_of _ (by decide +kernel)) ggX11_setEnvelope_X11_put_
theorem dX11_setEnvelope_0 : decode cX11_setEnvelope 0 = .ok (.aload_n 0, 1) := by decide +kernel
theorem dX11_setEnvelope_1 : decode cX11_setEnvelope 1 = .ok (.iconst 0, 1) := by decide +kernel
theorem dX11_setEnvelope_2 : decode cX11_setEnvelope 2 = .ok (.putfield 31, 3) := by decide +kernel
theorem dX11_setEnvelope_5 : decode cX11_setEnvelope 5 = .ok (.iload_n 1, 1) := by decide +kernel
theorem dX11_setEnvelope_6 : decode cX11_setEnvelope 6 = .ok (.invokestatic 61, 3) := by decide +kernel
theorem dX11_setEnvelope_9 : decode cX11_setEnvelope 9 = .ok (.ifCond .ne 9, 3) := by decide +kernel
theorem dX11_setEnvelope_12 : decode cX11_setEnvelope 12 = .ok (.aload_n 0, 1) := by decide +kernel
theorem dX11_setEnvelope_13 : decode cX11_setEnvelope 13 = .ok (.iconst 1, 1) := by decide +kernel
theorem dX11_setEnvelope_14 : decode cX11_setEnvelope 14 = .ok (.invokevirtual 39, 3) := by decide +kernel
theorem dX11_setEnvelope_17 : decode cX11_setEnvelope 17 = .ok (.ireturn, 1) := by decide +kernel
theorem dX11_setEnvelope_18 : decode cX11_setEnvelope 18 = .ok (.iload_n 2, 1) := by decide +kernel
theorem dX11_setEnvelope_19 : decode cX11_setEnvelope 19 = .ok (.iconst 1, 1) := by decide +kernel
theorem dX11_setEnvelope_20 : decode cX11_setEnvelope 20 = .ok (.sipush 400, 3) := by decide +kernel
theorem dX11_setEnvelope_23 : decode cX11_setEnvelope 23 = .ok (.invokestatic 35, 3) := by decide +kernel
theorem dX11_setEnvelope_26 : decode cX11_setEnvelope 26 = .ok (.ifCond .eq 70, 3) := by decide +kernel
theorem dX11_setEnvelope_29 : decode cX11_setEnvelope 29 = .ok (.iload_n 3, 1) := by decide +kernel
theorem dX11_setEnvelope_30 : decode cX11_setEnvelope 30 = .ok (.iconst 1, 1) := by decide +kernel
theorem dX11_setEnvelope_31 : decode cX11_setEnvelope 31 = .ok (.sipush 400, 3) := by decide +kernel
theorem dX11_setEnvelope_34 : decode cX11_setEnvelope 34 = .ok (.invokestatic 35, 3) := by decide +kernel
theorem dX11_setEnvelope_37 : decode cX11_setEnvelope 37 = .ok (.ifCond .eq 59, 3) := by decide +kernel
theorem dX11_setEnvelope_40 : decode cX11_setEnvelope 40 = .ok (.iload 4, 2) := by decide +kernel
theorem dX11_setEnvelope_42 : decode cX11_setEnvelope 42 = .ok (.iconst 0, 1) := by decide +kernel
theorem dX11_setEnvelope_43 : decode cX11_setEnvelope 43 = .ok (.sipush 1000, 3) := by decide +kernel
theorem dX11_setEnvelope_46 : decode cX11_setEnvelope 46 = .ok (.invokestatic 35, 3) := by decide +kernel
theorem dX11_setEnvelope_49 : decode cX11_setEnvelope 49 = .ok (.ifCond .eq 47, 3) := by decide +kernel
theorem dX11_setEnvelope_52 : decode cX11_setEnvelope 52 = .ok (.iload 5, 2) := by decide +kernel
theorem dX11_setEnvelope_54 : decode cX11_setEnvelope 54 = .ok (.iconst 1, 1) := by decide +kernel
theorem dX11_setEnvelope_55 : decode cX11_setEnvelope 55 = .ok (.sipush 400, 3) := by decide +kernel
theorem dX11_setEnvelope_58 : decode cX11_setEnvelope 58 = .ok (.invokestatic 35, 3) := by decide +kernel
theorem dX11_setEnvelope_61 : decode cX11_setEnvelope 61 = .ok (.ifCond .eq 35, 3) := by decide +kernel
theorem dX11_setEnvelope_64 : decode cX11_setEnvelope 64 = .ok (.aload_n 0, 1) := by decide +kernel
theorem dX11_setEnvelope_65 : decode cX11_setEnvelope 65 = .ok (.iload_n 1, 1) := by decide +kernel
theorem dX11_setEnvelope_66 : decode cX11_setEnvelope 66 = .ok (.iconst 4, 1) := by decide +kernel
theorem dX11_setEnvelope_67 : decode cX11_setEnvelope 67 = .ok (.bipush 6, 2) := by decide +kernel
theorem dX11_setEnvelope_69 : decode cX11_setEnvelope 69 = .ok (.iconst 4, 1) := by decide +kernel
theorem dX11_setEnvelope_70 : decode cX11_setEnvelope 70 = .ok (.newarray .int, 2) := by decide +kernel
theorem dX11_setEnvelope_72 : decode cX11_setEnvelope 72 = .ok (.dup, 1) := by decide +kernel
theorem dX11_setEnvelope_73 : decode cX11_setEnvelope 73 = .ok (.iconst 0, 1) := by decide +kernel
theorem dX11_setEnvelope_74 : decode cX11_setEnvelope 74 = .ok (.iload_n 2, 1) := by decide +kernel
theorem dX11_setEnvelope_75 : decode cX11_setEnvelope 75 = .ok (.iastore, 1) := by decide +kernel
theorem dX11_setEnvelope_76 : decode cX11_setEnvelope 76 = .ok (.dup, 1) := by decide +kernel
theorem dX11_setEnvelope_77 : decode cX11_setEnvelope 77 = .ok (.iconst 1, 1) := by decide +kernel
theorem dX11_setEnvelope_78 : decode cX11_setEnvelope 78 = .ok (.iload_n 3, 1) := by decide +kernel
theorem dX11_setEnvelope_79 : decode cX11_setEnvelope 79 = .ok (.iastore, 1) := by decide +kernel
theorem dX11_setEnvelope_80 : decode cX11_setEnvelope 80 = .ok (.dup, 1) := by decide +kernel
theorem dX11_setEnvelope_81 : decode cX11_setEnvelope 81 = .ok (.iconst 2, 1) := by decide +kernel
theorem dX11_setEnvelope_82 : decode cX11_setEnvelope 82 = .ok (.iload 4, 2) := by decide +kernel
theorem dX11_setEnvelope_84 : decode cX11_setEnvelope 84 = .ok (.iastore, 1) := by decide +kernel
theorem dX11_setEnvelope_85 : decode cX11_setEnvelope 85 = .ok (.dup, 1) := by decide +kernel
theorem dX11_setEnvelope_86 : decode cX11_setEnvelope 86 = .ok (.iconst 3, 1) := by decide +kernel
theorem dX11_setEnvelope_87 : decode cX11_setEnvelope 87 = .ok (.iload 5, 2) := by decide +kernel
theorem dX11_setEnvelope_89 : decode cX11_setEnvelope 89 = .ok (.iastore, 1) := by decide +kernel
theorem dX11_setEnvelope_90 : decode cX11_setEnvelope 90 = .ok (.invokevirtual 64, 3) := by decide +kernel
theorem dX11_setEnvelope_93 : decode cX11_setEnvelope 93 = .ok (.goto 8, 3) := by decide +kernel
theorem dX11_setEnvelope_96 : decode cX11_setEnvelope 96 = .ok (.aload_n 0, 1) := by decide +kernel
theorem dX11_setEnvelope_97 : decode cX11_setEnvelope 97 = .ok (.iconst 2, 1) := by decide +kernel
theorem dX11_setEnvelope_98 : decode cX11_setEnvelope 98 = .ok (.invokevirtual 39, 3) := by decide +kernel
theorem dX11_setEnvelope_101 : decode cX11_setEnvelope 101 = .ok (.ireturn, 1) := by decide +kernel
set_option maxRecDepth 20000 in
theorem ggX11_setFilter_X11_isInstrument : GoodIn wsX11_setFilter wsX11_isInstrument := goodIn_r _ [6, 7, 8, 5, 9] (by decide +kernel) (by decide +kernel)
set_option maxRecDepth 20000 in
theorem gX11_setFilter_X11_isInstrument : GoodIn wsX11_setFilter (va_wsS RX11 61 yX11_isInstrument wsX11_isInstrument) := goodIn_app (goodIn_of _ (by decide +kernel)) ggX11_setFilter_X11_isInstrument
set_option maxRecDepth 20000 in
theorem ggX11_setFilter_X11_no : GoodIn wsX11_setFilter wsX11_no := goodIn_r _ [13, 1, 24, 25] (by decide +kernel) (by decide +kernel)
set_option maxRecDepth 20000 in
theorem gX11_setFilter_X11_no : GoodIn wsX11_setFilter (wsV RX11 39 RX11 yX11_no wsX11_no) := goodIn_app (goodIn_of _ (by decide +kernel)) ggX11_setFilter_X11_no
set_option maxRecDepth 20000 in
theorem ggX11_setFilter_X11_isIn : GoodIn wsX11_setFilter wsX11_isIn := goodIn_r _ [9] (by decide +kernel) (by decide +kernel)
set_option maxRecDepth 20000 in
theorem gX11_setFilter_X11_isIn : GoodIn wsX11_setFilter (va_wsS RX11 35 yX11_isIn wsX11_isIn) := goodIn_app (goodIn_of _ (by decide +kernel)) ggX11_setFilter_X11_isIn
set_option maxRecDepth 20000 in
theorem ggX11_setFilter_X11_put_ : GoodIn wsX11_setFilter wsX11_put_ := goodIn_r _ [17, 18, 19, 20, 21, 22, 23, 24, 25, 26, 27, 28, 29, 30, 31, 32, 33, 34, 35, 36, 37, 38, 39, 40, 41, 42, 43, 44, 45, 46, 47, 48, 49, 50, 51, 52, 53, 54, 55, 56, 57, 58, 59, 60] (by decide +kernel) (by decide +kernel)
set_option maxRecDepth 20000 in
theorem gX11_setFilter_X11_put_ : GoodIn wsX11_setFilter (wsV RX11 64 RX11 yX11_put_ wsX11_put_) := goodIn_app (goodIn_of _ (by decide +kernel)) ggX11_setFilter_X11_put_
theorem dX11_setFilter_0 : decode cX11_setFilter 0 = .ok (.aload_n 0, 1) := by decide +kernel
theorem dX11_setFilter_1 : decode cX11_setFilter 1 = .ok (.iconst 0, 1) := by decide +kernel
theorem dX11_setFilter_2 : decode cX11_setFilter 2 = .ok (.putfield 31, 3) := by decide +kernel
theorem dX11_setFilter_5 : decode cX11_setFilter 5 = .ok (.iload_n 1, 1) := by decide +kernel
theorem dX11_setFilter_6 : decode cX11_setFilter 6 = .ok (.invokestatic 61, 3) := by decide +kernel
theorem dX11_setFilter_9 : decode cX11_setFilter 9 = .ok (.ifCond .ne 9, 3) := by decide +kernel
theorem dX11_setFilter_12 : decode cX11_setFilter 12 = .ok (.aload_n 0, 1) := by decide +kernel
theorem dX11_setFilter_13 : decode cX11_setFilter 13 = .ok (.iconst 1, 1) := by decide +kernel
theorem dX11_setFilter_14 : decode cX11_setFilter 14 = .ok (.invokevirtual 39, 3) := by decide +kernel
theorem dX11_setFilter_17 : decode cX11_setFilter 17 = .ok (.ireturn, 1) := by decide +kernel
theorem dX11_setFilter_18 : decode cX11_setFilter 18 = .ok (.iload_n 2, 1) := by decide +kernel
theorem dX11_setFilter_19 : decode cX11_setFilter 19 = .ok (.iconst 1, 1) := by decide +kernel
theorem dX11_setFilter_20 : decode cX11_setFilter 20 = .ok (.sipush 128, 3) := by decide +kernel
theorem dX11_setFilter_23 : decode cX11_setFilter 23 = .ok (.invokestatic 35, 3) := by decide +kernel
theorem dX11_setFilter_26 : decode cX11_setFilter 26 = .ok (.ifCond .eq 38, 3) := by decide +kernel
theorem dX11_setFilter_29 : decode cX11_setFilter 29 = .ok (.iload_n 3, 1) := by decide +kernel
theorem dX11_setFilter_30 : decode cX11_setFilter 30 = .ok (.bipush 16, 2) := by decide +kernel
theorem dX11_setFilter_32 : decode cX11_setFilter 32 = .ok (.sipush 256, 3) := by decide +kernel
theorem dX11_setFilter_35 : decode cX11_setFilter 35 = .ok (.invokestatic 35, 3) := by decide +kernel
theorem dX11_setFilter_38 : decode cX11_setFilter 38 = .ok (.ifCond .eq 26, 3) := by decide +kernel
theorem dX11_setFilter_41 : decode cX11_setFilter 41 = .ok (.aload_n 0, 1) := by decide +kernel
theorem dX11_setFilter_42 : decode cX11_setFilter 42 = .ok (.iload_n 1, 1) := by decide +kernel
theorem dX11_setFilter_43 : decode cX11_setFilter 43 = .ok (.bipush 8, 2) := by decide +kernel
theorem dX11_setFilter_45 : decode cX11_setFilter 45 = .ok (.bipush 8, 2) := by decide +kernel
theorem dX11_setFilter_47 : decode cX11_setFilter 47 = .ok (.iconst 2, 1) := by decide +kernel
theorem dX11_setFilter_48 : decode cX11_setFilter 48 = .ok (.newarray .int, 2) := by decide +kernel
theorem dX11_setFilter_50 : decode cX11_setFilter 50 = .ok (.dup, 1) := by decide +kernel
theorem dX11_setFilter_51 : decode cX11_setFilter 51 = .ok (.iconst 0, 1) := by decide +kernel
theorem dX11_setFilter_52 : decode cX11_setFilter 52 = .ok (.iload_n 2, 1) := by decide +kernel
theorem dX11_setFilter_53 : decode cX11_setFilter 53 = .ok (.iastore, 1) := by decide +kernel
theorem dX11_setFilter_54 : decode cX11_setFilter 54 = .ok (.dup, 1) := by decide +kernel
theorem dX11_setFilter_55 : decode cX11_setFilter 55 = .ok (.iconst 1, 1) := by decide +kernel
theorem dX11_setFilter_56 : decode cX11_setFilter 56 = .ok (.iload_n 3, 1) := by decide +kernel
theorem dX11_setFilter_57 : decode cX11_setFilter 57 = .ok (.iastore, 1) := by decide +kernel
theorem dX11_setFilter_58 : decode cX11_setFilter 58 = .ok (.invokevirtual 64, 3) := by decide +kernel
theorem dX11_setFilter_61 : decode cX11_setFilter 61 = .ok (.goto 8, 3) := by decide +kernel
theorem dX11_setFilter_64 : decode cX11_setFilter 64 = .ok (.aload_n 0, 1) := by decide +kernel
theorem dX11_setFilter_65 : decode cX11_setFilter 65 = .ok (.iconst 2, 1) := by decide +kernel
theorem dX11_setFilter_66 : decode cX11_setFilter 66 = .ok (.invokevirtual 39, 3) := by decide +kernel
theorem dX11_setFilter_69 : decode cX11_setFilter 69 = .ok (.ireturn, 1) := by decide +kernel
set_option maxRecDepth 20000 in
theorem ggX11_setVibrato_X11_isInstrument : GoodIn wsX11_setVibrato wsX11_isInstrument := goodIn_r _ [6, 7, 8, 5, 9] (by decide +kernel) (by decide +kernel)
set_option maxRecDepth 20000 in
theorem gX11_setVibrato_X11_isInstrument : GoodIn wsX11_setVibrato (va_wsS RX11 61 yX11_isInstrument wsX11_isInstrument) := goodIn_app (goodIn_of _ (by decide +kernel)) ggX11_setVibrato_X11_isInstrument
set_option maxRecDepth 20000 in
theorem ggX11_setVibrato_X11_no : GoodIn wsX11_setVibrato wsX11_no := goodIn_r _ [13, 1, 24, 25] (by decide +kernel) (by decide +kernel)
set_option maxRecDepth 20000 in
theorem gX11_setVibrato_X11_no : GoodIn wsX11_setVibrato (wsV RX11 39 RX11 yX11_no wsX11_no) := goodIn_app (goodIn_of _ (by decide +kernel)) ggX11_setVibrato_X11_no
set_option maxRecDepth 20000 in
theorem ggX11_setVibrato_X11_isIn : GoodIn wsX11_setVibrato wsX11_isIn := goodIn_r _ [9] (by decide +kernel) (by decide +kernel)
set_option maxRecDepth 20000 in
theorem gX11_setVibrato_X11_isIn : GoodIn wsX11_setVibrato (va_wsS RX11 35 yX11_isIn wsX11_isIn) := goodIn_app (goodIn_of _ (by decide +kernel)) ggX11_setVibrato_X11_isIn
set_option maxRecDepth 20000 in
theorem ggX11_setVibrato_X11_put_ : GoodIn wsX11_setVibrato wsX11_put_ := goodIn_r _ [17, 18, 19, 20, 21, 22, 23, 24, 25, 26, 27, 28, 29, 30, 31, 32, 33, 34, 35, 36, 37, 38, 39, 40, 41, 42, 43, 44, 45, 46, 47, 48, 49, 50, 51, 52, 53, 54, 55, 56, 57, 58, 59, 60] (by decide +kernel) (by decide +kernel)
set_option maxRecDepth 20000 in
theorem gX11_setVibrato_X11_put_ : GoodIn wsX11_setVibrato (wsV RX11 64 RX11 yX11_put_ wsX11_put_) := goodIn_app (goodIn_of _ (by decide +kernel)) ggX11_setVibrato_X11_put_
theorem dX11_setVibrato_0 : decode cX11_setVibrato 0 = .ok (.aload_n 0, 1) := by decide +kernel
theorem dX11_setVibrato_1 : decode cX11_setVibrato 1 = .ok (.iconst 0, 1) := by decide +kernel
theorem dX11_setVibrato_2 : decode cX11_setVibrato 2 = .ok (.putfield 31, 3) := by decide +kernel
theorem dX11_setVibrato_5 : decode cX11_setVibrato 5 = .ok (.iload_n 1, 1) := by decide +kernel
theorem dX11_setVibrato_6 : decode cX11_setVibrato 6 = .ok (.invokestatic 61, 3) := by decide +kernel
theorem dX11_setVibrato_9 : decode cX11_setVibrato 9 = .ok (.ifCond .ne 9, 3) := by decide +kernel
theorem dX11_setVibrato_12 : decode cX11_setVibrato 12 = .ok (.aload_n 0, 1) := by decide +kernel
theorem dX11_setVibrato_13 : decode cX11_setVibrato 13 = .ok (.iconst 1, 1) := by decide +kernel
theorem dX11_setVibrato_14 : decode cX11_setVibrato 14 = .ok (.invokevirtual 39, 3) := by decide +kernel
theorem dX11_setVibrato_17 : decode cX11_setVibrato 17 = .ok (.ireturn, 1) := by decide +kernel
theorem dX11_setVibrato_18 : decode cX11_setVibrato 18 = .ok (.iload_n 2, 1) := by decide +kernel
theorem dX11_setVibrato_19 : decode cX11_setVibrato 19 = .ok (.iconst 0, 1) := by decide +kernel
theorem dX11_setVibrato_20 : decode cX11_setVibrato 20 = .ok (.bipush 64, 2) := by decide +kernel
theorem dX11_setVibrato_22 : decode cX11_setVibrato 22 = .ok (.invokestatic 35, 3) := by decide +kernel
theorem dX11_setVibrato_25 : decode cX11_setVibrato 25 = .ok (.ifCond .eq 38, 3) := by decide +kernel
theorem dX11_setVibrato_28 : decode cX11_setVibrato 28 = .ok (.iload_n 3, 1) := by decide +kernel
theorem dX11_setVibrato_29 : decode cX11_setVibrato 29 = .ok (.bipush 8, 2) := by decide +kernel
theorem dX11_setVibrato_31 : decode cX11_setVibrato 31 = .ok (.sipush 255, 3) := by decide +kernel
theorem dX11_setVibrato_34 : decode cX11_setVibrato 34 = .ok (.invokestatic 35, 3) := by decide +kernel
theorem dX11_setVibrato_37 : decode cX11_setVibrato 37 = .ok (.ifCond .eq 26, 3) := by decide +kernel
theorem dX11_setVibrato_40 : decode cX11_setVibrato 40 = .ok (.aload_n 0, 1) := by decide +kernel
theorem dX11_setVibrato_41 : decode cX11_setVibrato 41 = .ok (.iload_n 1, 1) := by decide +kernel
theorem dX11_setVibrato_42 : decode cX11_setVibrato 42 = .ok (.bipush 10, 2) := by decide +kernel
theorem dX11_setVibrato_44 : decode cX11_setVibrato 44 = .ok (.bipush 10, 2) := by decide +kernel
theorem dX11_setVibrato_46 : decode cX11_setVibrato 46 = .ok (.iconst 2, 1) := by decide +kernel
theorem dX11_setVibrato_47 : decode cX11_setVibrato 47 = .ok (.newarray .int, 2) := by decide +kernel
theorem dX11_setVibrato_49 : decode cX11_setVibrato 49 = .ok (.dup, 1) := by decide +kernel
theorem dX11_setVibrato_50 : decode cX11_setVibrato 50 = .ok (.iconst 0, 1) := by decide +kernel
theorem dX11_setVibrato_51 : decode cX11_setVibrato 51 = .ok (.iload_n 2, 1) := by decide +kernel
theorem dX11_setVibrato_52 : decode cX11_setVibrato 52 = .ok (.iastore, 1) := by decide +kernel
theorem dX11_setVibrato_53 : decode cX11_setVibrato 53 = .ok (.dup, 1) := by decide +kernel
theorem dX11_setVibrato_54 : decode cX11_setVibrato 54 = .ok (.iconst 1, 1) := by decide +kernel
theorem dX11_setVibrato_55 : decode cX11_setVibrato 55 = .ok (.iload_n 3, 1) := by decide +kernel
theorem dX11_setVibrato_56 : decode cX11_setVibrato 56 = .ok (.iastore, 1) := by decide +kernel
theorem dX11_setVibrato_57 : decode cX11_setVibrato 57 = .ok (.invokevirtual 64, 3) := by decide +kernel
theorem dX11_setVibrato_60 : decode cX11_setVibrato 60 = .ok (.goto 8, 3) := by decide +kernel
theorem dX11_setVibrato_63 : decode cX11_setVibrato 63 = .ok (.aload_n 0, 1) := by decide +kernel
theorem dX11_setVibrato_64 : decode cX11_setVibrato 64 = .ok (.iconst 2, 1) := by decide +kernel
theorem dX11_setVibrato_65 : decode cX11_setVibrato 65 = .ok (.invokevirtual 39, 3) := by decide +kernel
theorem dX11_setVibrato_68 : decode cX11_setVibrato 68 = .ok (.ireturn, 1) := by decide +kernel
set_option maxRecDepth 20000 in
theorem ggX11_setGain_X11_isIn : GoodIn wsX11_setGain wsX11_isIn := goodIn_r _ [7] (by decide +kernel) (by decide +kernel)
set_option maxRecDepth 20000 in
theorem gX11_setGain_X11_isIn : GoodIn wsX11_setGain (va_wsS RX11 35 yX11_isIn wsX11_isIn) := goodIn_app (goodIn_of _ (by decide +kernel)) ggX11_setGain_X11_isIn
set_option maxRecDepth 20000 in
theorem ggX11_setGain_X11_no : GoodIn wsX11_setGain wsX11_no := goodIn_r _ [11, 1, 12, 13] (by decide +kernel) (by decide +kernel)
set_option maxRecDepth 20000 in
theorem gX11_setGain_X11_no : GoodIn wsX11_setGain (wsV RX11 39 RX11 yX11_no wsX11_no) := goodIn_app (goodIn_of _ (by decide +kernel)) ggX11_setGain_X11_no
theorem dX11_setGain_0 : decode cX11_setGain 0 = .ok (.aload_n 0, 1) := by decide +kernel
theorem dX11_setGain_1 : decode cX11_setGain 1 = .ok (.iconst 0, 1) := by decide +kernel
theorem dX11_setGain_2 : decode cX11_setGain 2 = .ok (.putfield 31, 3) := by decide +kernel
theorem dX11_setGain_5 : decode cX11_setGain 5 = .ok (.iload_n 1, 1) := by decide +kernel
theorem dX11_setGain_6 : decode cX11_setGain 6 = .ok (.iconst 0, 1) := by decide +kernel
theorem dX11_setGain_7 : decode cX11_setGain 7 = .ok (.sipush 256, 3) := by decide +kernel
theorem dX11_setGain_10 : decode cX11_setGain 10 = .ok (.invokestatic 35, 3) := by decide +kernel
theorem dX11_setGain_13 : decode cX11_setGain 13 = .ok (.ifCond .ne 9, 3) := by decide +kernel
theorem dX11_setGain_16 : decode cX11_setGain 16 = .ok (.aload_n 0, 1) := by decide +kernel
theorem dX11_setGain_17 : decode cX11_setGain 17 = .ok (.iconst 1, 1) := by decide +kernel
theorem dX11_setGain_18 : decode cX11_setGain 18 = .ok (.invokevirtual 39, 3) := by decide +kernel
theorem dX11_setGain_21 : decode cX11_setGain 21 = .ok (.ireturn, 1) := by decide +kernel
theorem dX11_setGain_22 : decode cX11_setGain 22 = .ok (.aload_n 0, 1) := by decide +kernel
theorem dX11_setGain_23 : decode cX11_setGain 23 = .ok (.getfield 25, 3) := by decide +kernel
theorem dX11_setGain_26 : decode cX11_setGain 26 = .ok (.getfield 68, 3) := by decide +kernel
theorem dX11_setGain_29 : decode cX11_setGain 29 = .ok (.istore_n 2, 1) := by decide +kernel
theorem dX11_setGain_30 : decode cX11_setGain 30 = .ok (.aload_n 0, 1) := by decide +kernel
theorem dX11_setGain_31 : decode cX11_setGain 31 = .ok (.getfield 25, 3) := by decide +kernel
theorem dX11_setGain_34 : decode cX11_setGain 34 = .ok (.iload_n 1, 1) := by decide +kernel
theorem dX11_setGain_35 : decode cX11_setGain 35 = .ok (.putfield 68, 3) := by decide +kernel
theorem dX11_setGain_38 : decode cX11_setGain 38 = .ok (.iload_n 2, 1) := by decide +kernel
theorem dX11_setGain_39 : decode cX11_setGain 39 = .ok (.ireturn, 1) := by decide +kernel
set_option maxRecDepth 20000 in
theorem ggX11_setDelay_X11_isIn : GoodIn wsX11_setDelay wsX11_isIn := goodIn_r _ [10] (by decide +kernel) (by decide +kernel)
set_option maxRecDepth 20000 in
theorem gX11_setDelay_X11_isIn : GoodIn wsX11_setDelay (va_wsS RX11 35 yX11_isIn wsX11_isIn) := goodIn_app (goodIn_of _ (by decide +kernel)) ggX11_setDelay_X11_isIn
set_option maxRecDepth 20000 in
theorem ggX11_setDelay_X11_no : GoodIn wsX11_setDelay wsX11_no := goodIn_r _ [14, 1, 15, 16] (by decide +kernel) (by decide +kernel)
set_option maxRecDepth 20000 in
theorem gX11_setDelay_X11_no : GoodIn wsX11_setDelay (wsV RX11 39 RX11 yX11_no wsX11_no) := goodIn_app (goodIn_of _ (by decide +kernel)) ggX11_setDelay_X11_no
theorem dX11_setDelay_0 : decode cX11_setDelay 0 = .ok (.aload_n 0, 1) := by decide +kernel
theorem dX11_setDelay_1 : decode cX11_setDelay 1 = .ok (.iconst 0, 1) := by decide +kernel
theorem dX11_setDelay_2 : decode cX11_setDelay 2 = .ok (.putfield 31, 3) := by decide +kernel
theorem dX11_setDelay_5 : decode cX11_setDelay 5 = .ok (.iload_n 1, 1) := by decide +kernel
theorem dX11_setDelay_6 : decode cX11_setDelay 6 = .ok (.iconst 0, 1) := by decide +kernel
theorem dX11_setDelay_7 : decode cX11_setDelay 7 = .ok (.sipush 200, 3) := by decide +kernel
theorem dX11_setDelay_10 : decode cX11_setDelay 10 = .ok (.invokestatic 35, 3) := by decide +kernel
theorem dX11_setDelay_13 : decode cX11_setDelay 13 = .ok (.ifCond .eq 25, 3) := by decide +kernel
theorem dX11_setDelay_16 : decode cX11_setDelay 16 = .ok (.iload_n 2, 1) := by decide +kernel
theorem dX11_setDelay_17 : decode cX11_setDelay 17 = .ok (.iconst 0, 1) := by decide +kernel
theorem dX11_setDelay_18 : decode cX11_setDelay 18 = .ok (.sipush 256, 3) := by decide +kernel
theorem dX11_setDelay_21 : decode cX11_setDelay 21 = .ok (.invokestatic 35, 3) := by decide +kernel
theorem dX11_setDelay_24 : decode cX11_setDelay 24 = .ok (.ifCond .eq 14, 3) := by decide +kernel
theorem dX11_setDelay_27 : decode cX11_setDelay 27 = .ok (.iload_n 3, 1) := by decide +kernel
theorem dX11_setDelay_28 : decode cX11_setDelay 28 = .ok (.iconst 0, 1) := by decide +kernel
theorem dX11_setDelay_29 : decode cX11_setDelay 29 = .ok (.sipush 256, 3) := by decide +kernel
theorem dX11_setDelay_32 : decode cX11_setDelay 32 = .ok (.invokestatic 35, 3) := by decide +kernel
theorem dX11_setDelay_35 : decode cX11_setDelay 35 = .ok (.ifCond .ne 9, 3) := by decide +kernel
theorem dX11_setDelay_38 : decode cX11_setDelay 38 = .ok (.aload_n 0, 1) := by decide +kernel
theorem dX11_setDelay_39 : decode cX11_setDelay 39 = .ok (.iconst 1, 1) := by decide +kernel
theorem dX11_setDelay_40 : decode cX11_setDelay 40 = .ok (.invokevirtual 39, 3) := by decide +kernel
theorem dX11_setDelay_43 : decode cX11_setDelay 43 = .ok (.ireturn, 1) := by decide +kernel
theorem dX11_setDelay_44 : decode cX11_setDelay 44 = .ok (.aload_n 0, 1) := by decide +kernel
theorem dX11_setDelay_45 : decode cX11_setDelay 45 = .ok (.getfield 25, 3) := by decide +kernel
theorem dX11_setDelay_48 : decode cX11_setDelay 48 = .ok (.getfield 71, 3) := by decide +kernel
theorem dX11_setDelay_51 : decode cX11_setDelay 51 = .ok (.istore 4, 2) := by decide +kernel
theorem dX11_setDelay_53 : decode cX11_setDelay 53 = .ok (.aload_n 0, 1) := by decide +kernel
theorem dX11_setDelay_54 : decode cX11_setDelay 54 = .ok (.getfield 25, 3) := by decide +kernel
theorem dX11_setDelay_57 : decode cX11_setDelay 57 = .ok (.iload_n 1, 1) := by decide +kernel
theorem dX11_setDelay_58 : decode cX11_setDelay 58 = .ok (.putfield 71, 3) := by decide +kernel
theorem dX11_setDelay_61 : decode cX11_setDelay 61 = .ok (.aload_n 0, 1) := by decide +kernel
theorem dX11_setDelay_62 : decode cX11_setDelay 62 = .ok (.getfield 25, 3) := by decide +kernel
theorem dX11_setDelay_65 : decode cX11_setDelay 65 = .ok (.iload_n 2, 1) := by decide +kernel
theorem dX11_setDelay_66 : decode cX11_setDelay 66 = .ok (.putfield 74, 3) := by decide +kernel
theorem dX11_setDelay_69 : decode cX11_setDelay 69 = .ok (.aload_n 0, 1) := by decide +kernel
theorem dX11_setDelay_70 : decode cX11_setDelay 70 = .ok (.getfield 25, 3) := by decide +kernel
theorem dX11_setDelay_73 : decode cX11_setDelay 73 = .ok (.iload_n 3, 1) := by decide +kernel
theorem dX11_setDelay_74 : decode cX11_setDelay 74 = .ok (.putfield 77, 3) := by decide +kernel
theorem dX11_setDelay_77 : decode cX11_setDelay 77 = .ok (.iconst 0, 1) := by decide +kernel
theorem dX11_setDelay_78 : decode cX11_setDelay 78 = .ok (.istore 5, 2) := by decide +kernel
theorem dX11_setDelay_80 : decode cX11_setDelay 80 = .ok (.iload 5, 2) := by decide +kernel
theorem dX11_setDelay_82 : decode cX11_setDelay 82 = .ok (.sipush 200, 3) := by decide +kernel
theorem dX11_setDelay_85 : decode cX11_setDelay 85 = .ok (.if_icmp .ge 20, 3) := by decide +kernel
theorem dX11_setDelay_88 : decode cX11_setDelay 88 = .ok (.aload_n 0, 1) := by decide +kernel
theorem dX11_setDelay_89 : decode cX11_setDelay 89 = .ok (.getfield 25, 3) := by decide +kernel
theorem dX11_setDelay_92 : decode cX11_setDelay 92 = .ok (.getfield 80, 3) := by decide +kernel
theorem dX11_setDelay_95 : decode cX11_setDelay 95 = .ok (.iload 5, 2) := by decide +kernel
theorem dX11_setDelay_97 : decode cX11_setDelay 97 = .ok (.iconst 0, 1) := by decide +kernel
theorem dX11_setDelay_98 : decode cX11_setDelay 98 = .ok (.iastore, 1) := by decide +kernel
theorem dX11_setDelay_99 : decode cX11_setDelay 99 = .ok (.iinc 5 1, 3) := by decide +kernel
theorem dX11_setDelay_102 : decode cX11_setDelay 102 = .ok (.goto (-22), 3) := by decide +kernel
theorem dX11_setDelay_105 : decode cX11_setDelay 105 = .ok (.iload 4, 2) := by decide +kernel
theorem dX11_setDelay_107 : decode cX11_setDelay 107 = .ok (.ireturn, 1) := by decide +kernel
set_option maxRecDepth 20000 in
theorem ggX11_begin_X11_isInstrument : GoodIn wsX11_begin wsX11_isInstrument := goodIn_r _ [6, 7, 8, 5, 9] (by decide +kernel) (by decide +kernel)
set_option maxRecDepth 20000 in
theorem gX11_begin_X11_isInstrument : GoodIn wsX11_begin (va_wsS RX11 61 yX11_isInstrument wsX11_isInstrument) := goodIn_app (goodIn_of _ (by decide +kernel)) ggX11_begin_X11_isInstrument
set_option maxRecDepth 20000 in
theorem ggX11_begin_X11_no : GoodIn wsX11_begin wsX11_no := goodIn_r _ [13, 1, 36, 37] (by decide +kernel) (by decide +kernel)
set_option maxRecDepth 20000 in
theorem gX11_begin_X11_no : GoodIn wsX11_begin (wsV RX11 39 RX11 yX11_no wsX11_no) := goodIn_app (goodIn_of _ (by decide +kernel)) ggX11_begin_X11_no
set_option maxRecDepth 20000 in
theorem ggX11_begin_X11_isIn : GoodIn wsX11_begin wsX11_isIn := goodIn_r _ [9] (by decide +kernel) (by decide +kernel)
set_option maxRecDepth 20000 in
theorem gX11_begin_X11_isIn : GoodIn wsX11_begin (va_wsS RX11 35 yX11_isIn wsX11_isIn) := goodIn_app (goodIn_of _ (by decide +kernel)) ggX11_begin_X11_isIn
set_option maxRecDepth 20000 in
theorem ggX11_begin_X10_begin : GoodIn wsX11_begin wsX10_begin := goodIn_r _ [18, 19, 20, 21, 22, 23, 24, 25, 26, 27, 28, 29, 30, 31, 32, 33, 17, 34, 35, 38, 39, 40, 41, 42, 43, 44, 45, 46, 47, 48, 49, 50, 51, 52, 53, 54, 55, 56, 57, 58, 59, 60, 61, 62, 63, 64, 65, 66, 67, 68, 69, 70, 71, 72] (by decide +kernel) (by decide +kernel)
set_option maxRecDepth 20000 in
theorem gX11_begin_X10_begin : GoodIn wsX11_begin (wsV RX11 83 RX10 yX10_begin wsX10_begin) := goodIn_app (goodIn_of _ (by decide +kernel)) ggX11_begin_X10_begin
theorem dX11_begin_0 : decode cX11_begin 0 = .ok (.aload_n 0, 1) := by decide +kernel
theorem dX11_begin_1 : decode cX11_begin 1 = .ok (.iconst 0, 1) := by decide +kernel
theorem dX11_begin_2 : decode cX11_begin 2 = .ok (.putfield 31, 3) := by decide +kernel
theorem dX11_begin_5 : decode cX11_begin 5 = .ok (.iload_n 1, 1) := by decide +kernel
theorem dX11_begin_6 : decode cX11_begin 6 = .ok (.invokestatic 61, 3) := by decide +kernel
theorem dX11_begin_9 : decode cX11_begin 9 = .ok (.ifCond .ne 9, 3) := by decide +kernel
theorem dX11_begin_12 : decode cX11_begin 12 = .ok (.aload_n 0, 1) := by decide +kernel
theorem dX11_begin_13 : decode cX11_begin 13 = .ok (.iconst 1, 1) := by decide +kernel
theorem dX11_begin_14 : decode cX11_begin 14 = .ok (.invokevirtual 39, 3) := by decide +kernel
theorem dX11_begin_17 : decode cX11_begin 17 = .ok (.ireturn, 1) := by decide +kernel
theorem dX11_begin_18 : decode cX11_begin 18 = .ok (.iload_n 2, 1) := by decide +kernel
theorem dX11_begin_19 : decode cX11_begin 19 = .ok (.iconst 0, 1) := by decide +kernel
theorem dX11_begin_20 : decode cX11_begin 20 = .ok (.bipush 47, 2) := by decide +kernel
theorem dX11_begin_22 : decode cX11_begin 22 = .ok (.invokestatic 35, 3) := by decide +kernel
theorem dX11_begin_25 : decode cX11_begin 25 = .ok (.ifCond .eq 27, 3) := by decide +kernel
theorem dX11_begin_28 : decode cX11_begin 28 = .ok (.iload_n 3, 1) := by decide +kernel
theorem dX11_begin_29 : decode cX11_begin 29 = .ok (.iconst 1, 1) := by decide +kernel
theorem dX11_begin_30 : decode cX11_begin 30 = .ok (.bipush 127, 2) := by decide +kernel
theorem dX11_begin_32 : decode cX11_begin 32 = .ok (.invokestatic 35, 3) := by decide +kernel
theorem dX11_begin_35 : decode cX11_begin 35 = .ok (.ifCond .eq 17, 3) := by decide +kernel
theorem dX11_begin_38 : decode cX11_begin 38 = .ok (.aload_n 0, 1) := by decide +kernel
theorem dX11_begin_39 : decode cX11_begin 39 = .ok (.getfield 25, 3) := by decide +kernel
theorem dX11_begin_42 : decode cX11_begin 42 = .ok (.iload_n 1, 1) := by decide +kernel
theorem dX11_begin_43 : decode cX11_begin 43 = .ok (.iload_n 2, 1) := by decide +kernel
theorem dX11_begin_44 : decode cX11_begin 44 = .ok (.iload_n 3, 1) := by decide +kernel
theorem dX11_begin_45 : decode cX11_begin 45 = .ok (.iconst (-1), 1) := by decide +kernel
theorem dX11_begin_46 : decode cX11_begin 46 = .ok (.invokevirtual 83, 3) := by decide +kernel
theorem dX11_begin_49 : decode cX11_begin 49 = .ok (.goto 8, 3) := by decide +kernel
theorem dX11_begin_52 : decode cX11_begin 52 = .ok (.aload_n 0, 1) := by decide +kernel
theorem dX11_begin_53 : decode cX11_begin 53 = .ok (.iconst 2, 1) := by decide +kernel
theorem dX11_begin_54 : decode cX11_begin 54 = .ok (.invokevirtual 39, 3) := by decide +kernel
theorem dX11_begin_57 : decode cX11_begin 57 = .ok (.ireturn, 1) := by decide +kernel
set_option maxRecDepth 20000 in
theorem ggX11_isVoice_X11_isIn : GoodIn wsX11_isVoice wsX11_isIn := goodIn_r _ [4] (by decide +kernel) (by decide +kernel)
set_option maxRecDepth 20000 in
theorem gX11_isVoice_X11_isIn : GoodIn wsX11_isVoice (va_wsS RX11 35 yX11_isIn wsX11_isIn) := goodIn_app (goodIn_of _ (by decide +kernel)) ggX11_isVoice_X11_isIn
theorem dX11_isVoice_0 : decode cX11_isVoice 0 = .ok (.iload_n 0, 1) := by decide +kernel
theorem dX11_isVoice_1 : decode cX11_isVoice 1 = .ok (.iconst 0, 1) := by decide +kernel
theorem dX11_isVoice_2 : decode cX11_isVoice 2 = .ok (.iconst 3, 1) := by decide +kernel
theorem dX11_isVoice_3 : decode cX11_isVoice 3 = .ok (.invokestatic 35, 3) := by decide +kernel
theorem dX11_isVoice_6 : decode cX11_isVoice 6 = .ok (.ireturn, 1) := by decide +kernel
set_option maxRecDepth 20000 in
theorem ggX11_end_X11_isVoice : GoodIn wsX11_end wsX11_isVoice := goodIn_r _ [7, 8, 9, 6, 10] (by decide +kernel) (by decide +kernel)
set_option maxRecDepth 20000 in
theorem gX11_end_X11_isVoice : GoodIn wsX11_end (va_wsS RX11 87 yX11_isVoice wsX11_isVoice) := goodIn_app (goodIn_of _ (by decide +kernel)) ggX11_end_X11_isVoice
set_option maxRecDepth 20000 in
theorem ggX11_end_X11_no : GoodIn wsX11_end wsX11_no := goodIn_r _ [14, 1, 21, 22] (by decide +kernel) (by decide +kernel)
set_option maxRecDepth 20000 in
theorem gX11_end_X11_no : GoodIn wsX11_end (wsV RX11 39 RX11 yX11_no wsX11_no) := goodIn_app (goodIn_of _ (by decide +kernel)) ggX11_end_X11_no
set_option maxRecDepth 20000 in
theorem ggX11_end_X10_end : GoodIn wsX11_end wsX10_end := goodIn_r _ [19, 20, 9, 6, 10, 23, 24, 25, 26, 27, 28, 29, 30, 31, 32, 33, 34, 35, 36, 37, 38, 39, 40, 41, 42, 43, 44, 45, 46, 47, 48, 49, 50, 51, 52, 53, 54, 55, 56, 57] (by decide +kernel) (by decide +kernel)
set_option maxRecDepth 20000 in
theorem gX11_end_X10_end : GoodIn wsX11_end (wsV RX11 93 RX10 yX10_end wsX10_end) := goodIn_app (goodIn_of _ (by decide +kernel)) ggX11_end_X10_end
theorem dX11_end_0 : decode cX11_end 0 = .ok (.aload_n 0, 1) := by decide +kernel
theorem dX11_end_1 : decode cX11_end 1 = .ok (.iconst 0, 1) := by decide +kernel
theorem dX11_end_2 : decode cX11_end 2 = .ok (.putfield 31, 3) := by decide +kernel
theorem dX11_end_5 : decode cX11_end 5 = .ok (.iload_n 1, 1) := by decide +kernel
theorem dX11_end_6 : decode cX11_end 6 = .ok (.invokestatic 87, 3) := by decide +kernel
theorem dX11_end_9 : decode cX11_end 9 = .ok (.ifCond .ne 9, 3) := by decide +kernel
theorem dX11_end_12 : decode cX11_end 12 = .ok (.aload_n 0, 1) := by decide +kernel
theorem dX11_end_13 : decode cX11_end 13 = .ok (.iconst 1, 1) := by decide +kernel
theorem dX11_end_14 : decode cX11_end 14 = .ok (.invokevirtual 39, 3) := by decide +kernel
theorem dX11_end_17 : decode cX11_end 17 = .ok (.ireturn, 1) := by decide +kernel
theorem dX11_end_18 : decode cX11_end 18 = .ok (.aload_n 0, 1) := by decide +kernel
theorem dX11_end_19 : decode cX11_end 19 = .ok (.getfield 25, 3) := by decide +kernel
theorem dX11_end_22 : decode cX11_end 22 = .ok (.getfield 90, 3) := by decide +kernel
theorem dX11_end_25 : decode cX11_end 25 = .ok (.iload_n 1, 1) := by decide +kernel
theorem dX11_end_26 : decode cX11_end 26 = .ok (.iaload, 1) := by decide +kernel
theorem dX11_end_27 : decode cX11_end 27 = .ok (.istore_n 2, 1) := by decide +kernel
theorem dX11_end_28 : decode cX11_end 28 = .ok (.aload_n 0, 1) := by decide +kernel
theorem dX11_end_29 : decode cX11_end 29 = .ok (.getfield 25, 3) := by decide +kernel
theorem dX11_end_32 : decode cX11_end 32 = .ok (.iload_n 1, 1) := by decide +kernel
theorem dX11_end_33 : decode cX11_end 33 = .ok (.invokevirtual 93, 3) := by decide +kernel
theorem dX11_end_36 : decode cX11_end 36 = .ok (.iload_n 2, 1) := by decide +kernel
theorem dX11_end_37 : decode cX11_end 37 = .ok (.ireturn, 1) := by decide +kernel
set_option maxRecDepth 20000 in
theorem ggX11_hush_X10_sounding : GoodIn wsX11_hush wsX10_sounding := goodIn_r _ [10, 11, 14, 15, 16, 17, 18, 19, 20, 21, 22, 23, 24, 25, 26, 27, 28, 29, 30, 31, 32, 33, 34, 35, 36, 37, 38, 39, 40, 41, 42, 43, 44, 45, 46, 47, 48] (by decide +kernel) (by decide +kernel)
set_option maxRecDepth 20000 in
theorem gX11_hush_X10_sounding : GoodIn wsX11_hush (wsV RX11 97 RX10 yX10_sounding wsX10_sounding) := goodIn_app (goodIn_of _ (by decide +kernel)) ggX11_hush_X10_sounding
theorem dX11_hush_0 : decode cX11_hush 0 = .ok (.aload_n 0, 1) := by decide +kernel
theorem dX11_hush_1 : decode cX11_hush 1 = .ok (.iconst 0, 1) := by decide +kernel
theorem dX11_hush_2 : decode cX11_hush 2 = .ok (.putfield 31, 3) := by decide +kernel
theorem dX11_hush_5 : decode cX11_hush 5 = .ok (.aload_n 0, 1) := by decide +kernel
theorem dX11_hush_6 : decode cX11_hush 6 = .ok (.getfield 25, 3) := by decide +kernel
theorem dX11_hush_9 : decode cX11_hush 9 = .ok (.invokevirtual 97, 3) := by decide +kernel
theorem dX11_hush_12 : decode cX11_hush 12 = .ok (.istore_n 1, 1) := by decide +kernel
theorem dX11_hush_13 : decode cX11_hush 13 = .ok (.iconst 0, 1) := by decide +kernel
theorem dX11_hush_14 : decode cX11_hush 14 = .ok (.istore_n 2, 1) := by decide +kernel
theorem dX11_hush_15 : decode cX11_hush 15 = .ok (.iload_n 2, 1) := by decide +kernel
theorem dX11_hush_16 : decode cX11_hush 16 = .ok (.iconst 4, 1) := by decide +kernel
theorem dX11_hush_17 : decode cX11_hush 17 = .ok (.if_icmp .ge 39, 3) := by decide +kernel
theorem dX11_hush_20 : decode cX11_hush 20 = .ok (.aload_n 0, 1) := by decide +kernel
theorem dX11_hush_21 : decode cX11_hush 21 = .ok (.getfield 25, 3) := by decide +kernel
theorem dX11_hush_24 : decode cX11_hush 24 = .ok (.getfield 90, 3) := by decide +kernel
theorem dX11_hush_27 : decode cX11_hush 27 = .ok (.iload_n 2, 1) := by decide +kernel
theorem dX11_hush_28 : decode cX11_hush 28 = .ok (.iconst 0, 1) := by decide +kernel
theorem dX11_hush_29 : decode cX11_hush 29 = .ok (.iastore, 1) := by decide +kernel
theorem dX11_hush_30 : decode cX11_hush 30 = .ok (.aload_n 0, 1) := by decide +kernel
theorem dX11_hush_31 : decode cX11_hush 31 = .ok (.getfield 25, 3) := by decide +kernel
theorem dX11_hush_34 : decode cX11_hush 34 = .ok (.getfield 101, 3) := by decide +kernel
theorem dX11_hush_37 : decode cX11_hush 37 = .ok (.iload_n 2, 1) := by decide +kernel
theorem dX11_hush_38 : decode cX11_hush 38 = .ok (.iconst 0, 1) := by decide +kernel
theorem dX11_hush_39 : decode cX11_hush 39 = .ok (.iastore, 1) := by decide +kernel
theorem dX11_hush_40 : decode cX11_hush 40 = .ok (.aload_n 0, 1) := by decide +kernel
theorem dX11_hush_41 : decode cX11_hush 41 = .ok (.getfield 25, 3) := by decide +kernel
theorem dX11_hush_44 : decode cX11_hush 44 = .ok (.getfield 104, 3) := by decide +kernel
theorem dX11_hush_47 : decode cX11_hush 47 = .ok (.iload_n 2, 1) := by decide +kernel
theorem dX11_hush_48 : decode cX11_hush 48 = .ok (.iconst (-1), 1) := by decide +kernel
theorem dX11_hush_49 : decode cX11_hush 49 = .ok (.iastore, 1) := by decide +kernel
theorem dX11_hush_50 : decode cX11_hush 50 = .ok (.iinc 2 1, 3) := by decide +kernel
theorem dX11_hush_53 : decode cX11_hush 53 = .ok (.goto (-38), 3) := by decide +kernel
theorem dX11_hush_56 : decode cX11_hush 56 = .ok (.iload_n 1, 1) := by decide +kernel
theorem dX11_hush_57 : decode cX11_hush 57 = .ok (.ireturn, 1) := by decide +kernel
set_option maxRecDepth 20000 in
theorem ggX11_isStep_X11_isIn : GoodIn wsX11_isStep wsX11_isIn := goodIn_r _ [4] (by decide +kernel) (by decide +kernel)
set_option maxRecDepth 20000 in
theorem gX11_isStep_X11_isIn : GoodIn wsX11_isStep (va_wsS RX11 35 yX11_isIn wsX11_isIn) := goodIn_app (goodIn_of _ (by decide +kernel)) ggX11_isStep_X11_isIn
theorem dX11_isStep_0 : decode cX11_isStep 0 = .ok (.iload_n 0, 1) := by decide +kernel
theorem dX11_isStep_1 : decode cX11_isStep 1 = .ok (.iconst 0, 1) := by decide +kernel
theorem dX11_isStep_2 : decode cX11_isStep 2 = .ok (.bipush 7, 2) := by decide +kernel
theorem dX11_isStep_4 : decode cX11_isStep 4 = .ok (.invokestatic 35, 3) := by decide +kernel
theorem dX11_isStep_7 : decode cX11_isStep 7 = .ok (.ireturn, 1) := by decide +kernel
set_option maxRecDepth 20000 in
theorem ggX11_write_X11_isIn : GoodIn wsX11_write wsX11_isIn := goodIn_r _ [7] (by decide +kernel) (by decide +kernel)
set_option maxRecDepth 20000 in
theorem gX11_write_X11_isIn : GoodIn wsX11_write (va_wsS RX11 35 yX11_isIn wsX11_isIn) := goodIn_app (goodIn_of _ (by decide +kernel)) ggX11_write_X11_isIn
set_option maxRecDepth 20000 in
theorem ggX11_write_X11_isStep : GoodIn wsX11_write wsX11_isStep := goodIn_r _ [10, 4, 5, 6, 7] (by decide +kernel) (by decide +kernel)
set_option maxRecDepth 20000 in
theorem gX11_write_X11_isStep : GoodIn wsX11_write (va_wsS RX11 107 yX11_isStep wsX11_isStep) := goodIn_app (goodIn_of _ (by decide +kernel)) ggX11_write_X11_isStep
set_option maxRecDepth 20000 in
theorem ggX11_write_X11_no : GoodIn wsX11_write wsX11_no := goodIn_r _ [14, 1, 15, 16] (by decide +kernel) (by decide +kernel)
set_option maxRecDepth 20000 in
theorem gX11_write_X11_no : GoodIn wsX11_write (wsV RX11 39 RX11 yX11_no wsX11_no) := goodIn_app (goodIn_of _ (by decide +kernel)) ggX11_write_X11_no
theorem dX11_write_0 : decode cX11_write 0 = .ok (.aload_n 0, 1) := by decide +kernel
theorem dX11_write_1 : decode cX11_write 1 = .ok (.iconst 0, 1) := by decide +kernel
theorem dX11_write_2 : decode cX11_write 2 = .ok (.putfield 31, 3) := by decide +kernel
theorem dX11_write_5 : decode cX11_write 5 = .ok (.iload_n 1, 1) := by decide +kernel
theorem dX11_write_6 : decode cX11_write 6 = .ok (.iconst 0, 1) := by decide +kernel
theorem dX11_write_7 : decode cX11_write 7 = .ok (.iconst 2, 1) := by decide +kernel
theorem dX11_write_8 : decode cX11_write 8 = .ok (.invokestatic 35, 3) := by decide +kernel
theorem dX11_write_11 : decode cX11_write 11 = .ok (.ifCond .eq 10, 3) := by decide +kernel
theorem dX11_write_14 : decode cX11_write 14 = .ok (.iload_n 2, 1) := by decide +kernel
theorem dX11_write_15 : decode cX11_write 15 = .ok (.invokestatic 107, 3) := by decide +kernel
theorem dX11_write_18 : decode cX11_write 18 = .ok (.ifCond .ne 9, 3) := by decide +kernel
theorem dX11_write_21 : decode cX11_write 21 = .ok (.aload_n 0, 1) := by decide +kernel
theorem dX11_write_22 : decode cX11_write 22 = .ok (.iconst 1, 1) := by decide +kernel
theorem dX11_write_23 : decode cX11_write 23 = .ok (.invokevirtual 39, 3) := by decide +kernel
theorem dX11_write_26 : decode cX11_write 26 = .ok (.ireturn, 1) := by decide +kernel
theorem dX11_write_27 : decode cX11_write 27 = .ok (.iload_n 3, 1) := by decide +kernel
theorem dX11_write_28 : decode cX11_write 28 = .ok (.iconst (-1), 1) := by decide +kernel
theorem dX11_write_29 : decode cX11_write 29 = .ok (.bipush 47, 2) := by decide +kernel
theorem dX11_write_31 : decode cX11_write 31 = .ok (.invokestatic 35, 3) := by decide +kernel
theorem dX11_write_34 : decode cX11_write 34 = .ok (.ifCond .eq 31, 3) := by decide +kernel
theorem dX11_write_37 : decode cX11_write 37 = .ok (.iload_n 3, 1) := by decide +kernel
theorem dX11_write_38 : decode cX11_write 38 = .ok (.iconst (-1), 1) := by decide +kernel
theorem dX11_write_39 : decode cX11_write 39 = .ok (.if_icmp .eq 32, 3) := by decide +kernel
theorem dX11_write_42 : decode cX11_write 42 = .ok (.iload 4, 2) := by decide +kernel
theorem dX11_write_44 : decode cX11_write 44 = .ok (.iconst 1, 1) := by decide +kernel
theorem dX11_write_45 : decode cX11_write 45 = .ok (.bipush 127, 2) := by decide +kernel
theorem dX11_write_47 : decode cX11_write 47 = .ok (.invokestatic 35, 3) := by decide +kernel
theorem dX11_write_50 : decode cX11_write 50 = .ok (.ifCond .eq 15, 3) := by decide +kernel
theorem dX11_write_53 : decode cX11_write 53 = .ok (.iload 5, 2) := by decide +kernel
theorem dX11_write_55 : decode cX11_write 55 = .ok (.iconst 1, 1) := by decide +kernel
theorem dX11_write_56 : decode cX11_write 56 = .ok (.sipush 200, 3) := by decide +kernel
theorem dX11_write_59 : decode cX11_write 59 = .ok (.invokestatic 35, 3) := by decide +kernel
theorem dX11_write_62 : decode cX11_write 62 = .ok (.ifCond .ne 9, 3) := by decide +kernel
theorem dX11_write_65 : decode cX11_write 65 = .ok (.aload_n 0, 1) := by decide +kernel
theorem dX11_write_66 : decode cX11_write 66 = .ok (.iconst 2, 1) := by decide +kernel
theorem dX11_write_67 : decode cX11_write 67 = .ok (.invokevirtual 39, 3) := by decide +kernel
theorem dX11_write_70 : decode cX11_write 70 = .ok (.ireturn, 1) := by decide +kernel
theorem dX11_write_71 : decode cX11_write 71 = .ok (.iload_n 1, 1) := by decide +kernel
theorem dX11_write_72 : decode cX11_write 72 = .ok (.bipush 8, 2) := by decide +kernel
theorem dX11_write_74 : decode cX11_write 74 = .ok (.imul, 1) := by decide +kernel
theorem dX11_write_75 : decode cX11_write 75 = .ok (.iload_n 2, 1) := by decide +kernel
theorem dX11_write_76 : decode cX11_write 76 = .ok (.iadd, 1) := by decide +kernel
theorem dX11_write_77 : decode cX11_write 77 = .ok (.iconst 3, 1) := by decide +kernel
theorem dX11_write_78 : decode cX11_write 78 = .ok (.imul, 1) := by decide +kernel
theorem dX11_write_79 : decode cX11_write 79 = .ok (.istore 6, 2) := by decide +kernel
theorem dX11_write_81 : decode cX11_write 81 = .ok (.aload_n 0, 1) := by decide +kernel
theorem dX11_write_82 : decode cX11_write 82 = .ok (.getfield 25, 3) := by decide +kernel
theorem dX11_write_85 : decode cX11_write 85 = .ok (.getfield 110, 3) := by decide +kernel
theorem dX11_write_88 : decode cX11_write 88 = .ok (.iload 6, 2) := by decide +kernel
theorem dX11_write_90 : decode cX11_write 90 = .ok (.iaload, 1) := by decide +kernel
theorem dX11_write_91 : decode cX11_write 91 = .ok (.istore 7, 2) := by decide +kernel
theorem dX11_write_93 : decode cX11_write 93 = .ok (.aload_n 0, 1) := by decide +kernel
theorem dX11_write_94 : decode cX11_write 94 = .ok (.getfield 25, 3) := by decide +kernel
theorem dX11_write_97 : decode cX11_write 97 = .ok (.getfield 110, 3) := by decide +kernel
theorem dX11_write_100 : decode cX11_write 100 = .ok (.iload 6, 2) := by decide +kernel
theorem dX11_write_102 : decode cX11_write 102 = .ok (.iload_n 3, 1) := by decide +kernel
theorem dX11_write_103 : decode cX11_write 103 = .ok (.iastore, 1) := by decide +kernel
theorem dX11_write_104 : decode cX11_write 104 = .ok (.aload_n 0, 1) := by decide +kernel
theorem dX11_write_105 : decode cX11_write 105 = .ok (.getfield 25, 3) := by decide +kernel
theorem dX11_write_108 : decode cX11_write 108 = .ok (.getfield 110, 3) := by decide +kernel
theorem dX11_write_111 : decode cX11_write 111 = .ok (.iload 6, 2) := by decide +kernel
theorem dX11_write_113 : decode cX11_write 113 = .ok (.iconst 1, 1) := by decide +kernel
theorem dX11_write_114 : decode cX11_write 114 = .ok (.iadd, 1) := by decide +kernel
theorem dX11_write_115 : decode cX11_write 115 = .ok (.iload_n 3, 1) := by decide +kernel
theorem dX11_write_116 : decode cX11_write 116 = .ok (.iconst (-1), 1) := by decide +kernel
theorem dX11_write_117 : decode cX11_write 117 = .ok (.if_icmp .ne 7, 3) := by decide +kernel
theorem dX11_write_120 : decode cX11_write 120 = .ok (.iconst 0, 1) := by decide +kernel
theorem dX11_write_121 : decode cX11_write 121 = .ok (.goto 5, 3) := by decide +kernel
theorem dX11_write_124 : decode cX11_write 124 = .ok (.iload 4, 2) := by decide +kernel
theorem dX11_write_126 : decode cX11_write 126 = .ok (.iastore, 1) := by decide +kernel
theorem dX11_write_127 : decode cX11_write 127 = .ok (.aload_n 0, 1) := by decide +kernel
theorem dX11_write_128 : decode cX11_write 128 = .ok (.getfield 25, 3) := by decide +kernel
theorem dX11_write_131 : decode cX11_write 131 = .ok (.getfield 110, 3) := by decide +kernel
theorem dX11_write_134 : decode cX11_write 134 = .ok (.iload 6, 2) := by decide +kernel
theorem dX11_write_136 : decode cX11_write 136 = .ok (.iconst 2, 1) := by decide +kernel
theorem dX11_write_137 : decode cX11_write 137 = .ok (.iadd, 1) := by decide +kernel
theorem dX11_write_138 : decode cX11_write 138 = .ok (.iload_n 3, 1) := by decide +kernel
theorem dX11_write_139 : decode cX11_write 139 = .ok (.iconst (-1), 1) := by decide +kernel
theorem dX11_write_140 : decode cX11_write 140 = .ok (.if_icmp .ne 7, 3) := by decide +kernel
theorem dX11_write_143 : decode cX11_write 143 = .ok (.iconst 0, 1) := by decide +kernel
theorem dX11_write_144 : decode cX11_write 144 = .ok (.goto 5, 3) := by decide +kernel
theorem dX11_write_147 : decode cX11_write 147 = .ok (.iload 5, 2) := by decide +kernel
theorem dX11_write_149 : decode cX11_write 149 = .ok (.iastore, 1) := by decide +kernel
theorem dX11_write_150 : decode cX11_write 150 = .ok (.iload 7, 2) := by decide +kernel
theorem dX11_write_152 : decode cX11_write 152 = .ok (.ireturn, 1) := by decide +kernel
set_option maxRecDepth 20000 in
theorem ggX11_setTrack_X11_isIn : GoodIn wsX11_setTrack wsX11_isIn := goodIn_r _ [7] (by decide +kernel) (by decide +kernel)
set_option maxRecDepth 20000 in
theorem gX11_setTrack_X11_isIn : GoodIn wsX11_setTrack (va_wsS RX11 35 yX11_isIn wsX11_isIn) := goodIn_app (goodIn_of _ (by decide +kernel)) ggX11_setTrack_X11_isIn
set_option maxRecDepth 20000 in
theorem ggX11_setTrack_X11_isInstrument : GoodIn wsX11_setTrack wsX11_isInstrument := goodIn_r _ [10, 4, 5, 6, 7] (by decide +kernel) (by decide +kernel)
set_option maxRecDepth 20000 in
theorem gX11_setTrack_X11_isInstrument : GoodIn wsX11_setTrack (va_wsS RX11 61 yX11_isInstrument wsX11_isInstrument) := goodIn_app (goodIn_of _ (by decide +kernel)) ggX11_setTrack_X11_isInstrument
set_option maxRecDepth 20000 in
theorem ggX11_setTrack_X11_no : GoodIn wsX11_setTrack wsX11_no := goodIn_r _ [14, 1, 15, 16] (by decide +kernel) (by decide +kernel)
set_option maxRecDepth 20000 in
theorem gX11_setTrack_X11_no : GoodIn wsX11_setTrack (wsV RX11 39 RX11 yX11_no wsX11_no) := goodIn_app (goodIn_of _ (by decide +kernel)) ggX11_setTrack_X11_no
theorem dX11_setTrack_0 : decode cX11_setTrack 0 = .ok (.aload_n 0, 1) := by decide +kernel
theorem dX11_setTrack_1 : decode cX11_setTrack 1 = .ok (.iconst 0, 1) := by decide +kernel
theorem dX11_setTrack_2 : decode cX11_setTrack 2 = .ok (.putfield 31, 3) := by decide +kernel
theorem dX11_setTrack_5 : decode cX11_setTrack 5 = .ok (.iload_n 1, 1) := by decide +kernel
theorem dX11_setTrack_6 : decode cX11_setTrack 6 = .ok (.iconst 0, 1) := by decide +kernel
theorem dX11_setTrack_7 : decode cX11_setTrack 7 = .ok (.iconst 2, 1) := by decide +kernel
theorem dX11_setTrack_8 : decode cX11_setTrack 8 = .ok (.invokestatic 35, 3) := by decide +kernel
theorem dX11_setTrack_11 : decode cX11_setTrack 11 = .ok (.ifCond .eq 10, 3) := by decide +kernel
theorem dX11_setTrack_14 : decode cX11_setTrack 14 = .ok (.iload_n 2, 1) := by decide +kernel
theorem dX11_setTrack_15 : decode cX11_setTrack 15 = .ok (.invokestatic 61, 3) := by decide +kernel
theorem dX11_setTrack_18 : decode cX11_setTrack 18 = .ok (.ifCond .ne 9, 3) := by decide +kernel
theorem dX11_setTrack_21 : decode cX11_setTrack 21 = .ok (.aload_n 0, 1) := by decide +kernel
theorem dX11_setTrack_22 : decode cX11_setTrack 22 = .ok (.iconst 1, 1) := by decide +kernel
theorem dX11_setTrack_23 : decode cX11_setTrack 23 = .ok (.invokevirtual 39, 3) := by decide +kernel
theorem dX11_setTrack_26 : decode cX11_setTrack 26 = .ok (.ireturn, 1) := by decide +kernel
theorem dX11_setTrack_27 : decode cX11_setTrack 27 = .ok (.aload_n 0, 1) := by decide +kernel
theorem dX11_setTrack_28 : decode cX11_setTrack 28 = .ok (.getfield 25, 3) := by decide +kernel
theorem dX11_setTrack_31 : decode cX11_setTrack 31 = .ok (.getfield 113, 3) := by decide +kernel
theorem dX11_setTrack_34 : decode cX11_setTrack 34 = .ok (.iload_n 1, 1) := by decide +kernel
theorem dX11_setTrack_35 : decode cX11_setTrack 35 = .ok (.iaload, 1) := by decide +kernel
theorem dX11_setTrack_36 : decode cX11_setTrack 36 = .ok (.istore_n 3, 1) := by decide +kernel
theorem dX11_setTrack_37 : decode cX11_setTrack 37 = .ok (.aload_n 0, 1) := by decide +kernel
theorem dX11_setTrack_38 : decode cX11_setTrack 38 = .ok (.getfield 25, 3) := by decide +kernel
theorem dX11_setTrack_41 : decode cX11_setTrack 41 = .ok (.getfield 113, 3) := by decide +kernel
theorem dX11_setTrack_44 : decode cX11_setTrack 44 = .ok (.iload_n 1, 1) := by decide +kernel
theorem dX11_setTrack_45 : decode cX11_setTrack 45 = .ok (.iload_n 2, 1) := by decide +kernel
theorem dX11_setTrack_46 : decode cX11_setTrack 46 = .ok (.iastore, 1) := by decide +kernel
theorem dX11_setTrack_47 : decode cX11_setTrack 47 = .ok (.iload_n 3, 1) := by decide +kernel
theorem dX11_setTrack_48 : decode cX11_setTrack 48 = .ok (.ireturn, 1) := by decide +kernel
set_option maxRecDepth 20000 in
theorem ggX11_setTempo_X11_isIn : GoodIn wsX11_setTempo wsX11_isIn := goodIn_r _ [8] (by decide +kernel) (by decide +kernel)
set_option maxRecDepth 20000 in
theorem gX11_setTempo_X11_isIn : GoodIn wsX11_setTempo (va_wsS RX11 35 yX11_isIn wsX11_isIn) := goodIn_app (goodIn_of _ (by decide +kernel)) ggX11_setTempo_X11_isIn
set_option maxRecDepth 20000 in
theorem ggX11_setTempo_X11_no : GoodIn wsX11_setTempo wsX11_no := goodIn_r _ [12, 1, 13, 14] (by decide +kernel) (by decide +kernel)
set_option maxRecDepth 20000 in
theorem gX11_setTempo_X11_no : GoodIn wsX11_setTempo (wsV RX11 39 RX11 yX11_no wsX11_no) := goodIn_app (goodIn_of _ (by decide +kernel)) ggX11_setTempo_X11_no
theorem dX11_setTempo_0 : decode cX11_setTempo 0 = .ok (.aload_n 0, 1) := by decide +kernel
theorem dX11_setTempo_1 : decode cX11_setTempo 1 = .ok (.iconst 0, 1) := by decide +kernel
theorem dX11_setTempo_2 : decode cX11_setTempo 2 = .ok (.putfield 31, 3) := by decide +kernel
theorem dX11_setTempo_5 : decode cX11_setTempo 5 = .ok (.iload_n 1, 1) := by decide +kernel
theorem dX11_setTempo_6 : decode cX11_setTempo 6 = .ok (.iconst 1, 1) := by decide +kernel
theorem dX11_setTempo_7 : decode cX11_setTempo 7 = .ok (.sipush 200, 3) := by decide +kernel
theorem dX11_setTempo_10 : decode cX11_setTempo 10 = .ok (.invokestatic 35, 3) := by decide +kernel
theorem dX11_setTempo_13 : decode cX11_setTempo 13 = .ok (.ifCond .eq 14, 3) := by decide +kernel
theorem dX11_setTempo_16 : decode cX11_setTempo 16 = .ok (.iload_n 2, 1) := by decide +kernel
theorem dX11_setTempo_17 : decode cX11_setTempo 17 = .ok (.iconst 0, 1) := by decide +kernel
theorem dX11_setTempo_18 : decode cX11_setTempo 18 = .ok (.iload_n 1, 1) := by decide +kernel
theorem dX11_setTempo_19 : decode cX11_setTempo 19 = .ok (.iconst 1, 1) := by decide +kernel
theorem dX11_setTempo_20 : decode cX11_setTempo 20 = .ok (.isub, 1) := by decide +kernel
theorem dX11_setTempo_21 : decode cX11_setTempo 21 = .ok (.invokestatic 35, 3) := by decide +kernel
theorem dX11_setTempo_24 : decode cX11_setTempo 24 = .ok (.ifCond .ne 9, 3) := by decide +kernel
theorem dX11_setTempo_27 : decode cX11_setTempo 27 = .ok (.aload_n 0, 1) := by decide +kernel
theorem dX11_setTempo_28 : decode cX11_setTempo 28 = .ok (.iconst 1, 1) := by decide +kernel
theorem dX11_setTempo_29 : decode cX11_setTempo 29 = .ok (.invokevirtual 39, 3) := by decide +kernel
theorem dX11_setTempo_32 : decode cX11_setTempo 32 = .ok (.ireturn, 1) := by decide +kernel
theorem dX11_setTempo_33 : decode cX11_setTempo 33 = .ok (.aload_n 0, 1) := by decide +kernel
theorem dX11_setTempo_34 : decode cX11_setTempo 34 = .ok (.getfield 25, 3) := by decide +kernel
theorem dX11_setTempo_37 : decode cX11_setTempo 37 = .ok (.getfield 116, 3) := by decide +kernel
theorem dX11_setTempo_40 : decode cX11_setTempo 40 = .ok (.istore_n 3, 1) := by decide +kernel
theorem dX11_setTempo_41 : decode cX11_setTempo 41 = .ok (.aload_n 0, 1) := by decide +kernel
theorem dX11_setTempo_42 : decode cX11_setTempo 42 = .ok (.getfield 25, 3) := by decide +kernel
theorem dX11_setTempo_45 : decode cX11_setTempo 45 = .ok (.iload_n 1, 1) := by decide +kernel
theorem dX11_setTempo_46 : decode cX11_setTempo 46 = .ok (.putfield 116, 3) := by decide +kernel
theorem dX11_setTempo_49 : decode cX11_setTempo 49 = .ok (.aload_n 0, 1) := by decide +kernel
theorem dX11_setTempo_50 : decode cX11_setTempo 50 = .ok (.getfield 25, 3) := by decide +kernel
theorem dX11_setTempo_53 : decode cX11_setTempo 53 = .ok (.iload_n 2, 1) := by decide +kernel
theorem dX11_setTempo_54 : decode cX11_setTempo 54 = .ok (.putfield 119, 3) := by decide +kernel
theorem dX11_setTempo_57 : decode cX11_setTempo 57 = .ok (.iload_n 3, 1) := by decide +kernel
theorem dX11_setTempo_58 : decode cX11_setTempo 58 = .ok (.ireturn, 1) := by decide +kernel
set_option maxRecDepth 20000 in
theorem ggX11_play_X11_isStep : GoodIn wsX11_play wsX11_isStep := goodIn_r _ [9, 10, 11, 8, 12] (by decide +kernel) (by decide +kernel)
set_option maxRecDepth 20000 in
theorem gX11_play_X11_isStep : GoodIn wsX11_play (va_wsS RX11 107 yX11_isStep wsX11_isStep) := goodIn_app (goodIn_of _ (by decide +kernel)) ggX11_play_X11_isStep
theorem dX11_play_0 : decode cX11_play 0 = .ok (.aload_n 0, 1) := by decide +kernel
theorem dX11_play_1 : decode cX11_play 1 = .ok (.iload_n 1, 1) := by decide +kernel
theorem dX11_play_2 : decode cX11_play 2 = .ok (.invokestatic 107, 3) := by decide +kernel
theorem dX11_play_5 : decode cX11_play 5 = .ok (.ifCond .eq 7, 3) := by decide +kernel
theorem dX11_play_8 : decode cX11_play 8 = .ok (.iconst 0, 1) := by decide +kernel
theorem dX11_play_9 : decode cX11_play 9 = .ok (.goto 4, 3) := by decide +kernel
theorem dX11_play_12 : decode cX11_play 12 = .ok (.iconst 1, 1) := by decide +kernel
theorem dX11_play_13 : decode cX11_play 13 = .ok (.putfield 31, 3) := by decide +kernel
theorem dX11_play_16 : decode cX11_play 16 = .ok (.aload_n 0, 1) := by decide +kernel
theorem dX11_play_17 : decode cX11_play 17 = .ok (.getfield 31, 3) := by decide +kernel
theorem dX11_play_20 : decode cX11_play 20 = .ok (.ifCond .eq 5, 3) := by decide +kernel
theorem dX11_play_23 : decode cX11_play 23 = .ok (.iconst 0, 1) := by decide +kernel
theorem dX11_play_24 : decode cX11_play 24 = .ok (.ireturn, 1) := by decide +kernel
theorem dX11_play_25 : decode cX11_play 25 = .ok (.aload_n 0, 1) := by decide +kernel
theorem dX11_play_26 : decode cX11_play 26 = .ok (.getfield 25, 3) := by decide +kernel
theorem dX11_play_29 : decode cX11_play 29 = .ok (.getfield 122, 3) := by decide +kernel
theorem dX11_play_32 : decode cX11_play 32 = .ok (.istore_n 2, 1) := by decide +kernel
theorem dX11_play_33 : decode cX11_play 33 = .ok (.aload_n 0, 1) := by decide +kernel
theorem dX11_play_34 : decode cX11_play 34 = .ok (.getfield 25, 3) := by decide +kernel
theorem dX11_play_37 : decode cX11_play 37 = .ok (.iconst 1, 1) := by decide +kernel
theorem dX11_play_38 : decode cX11_play 38 = .ok (.putfield 122, 3) := by decide +kernel
theorem dX11_play_41 : decode cX11_play 41 = .ok (.aload_n 0, 1) := by decide +kernel
theorem dX11_play_42 : decode cX11_play 42 = .ok (.getfield 25, 3) := by decide +kernel
theorem dX11_play_45 : decode cX11_play 45 = .ok (.iload_n 1, 1) := by decide +kernel
theorem dX11_play_46 : decode cX11_play 46 = .ok (.putfield 126, 3) := by decide +kernel
theorem dX11_play_49 : decode cX11_play 49 = .ok (.aload_n 0, 1) := by decide +kernel
theorem dX11_play_50 : decode cX11_play 50 = .ok (.getfield 25, 3) := by decide +kernel
theorem dX11_play_53 : decode cX11_play 53 = .ok (.iconst 0, 1) := by decide +kernel
theorem dX11_play_54 : decode cX11_play 54 = .ok (.putfield 129, 3) := by decide +kernel
theorem dX11_play_57 : decode cX11_play 57 = .ok (.iload_n 2, 1) := by decide +kernel
theorem dX11_play_58 : decode cX11_play 58 = .ok (.ireturn, 1) := by decide +kernel
theorem dX11_stepNow_0 : decode cX11_stepNow 0 = .ok (.aload_n 0, 1) := by decide +kernel
theorem dX11_stepNow_1 : decode cX11_stepNow 1 = .ok (.getfield 25, 3) := by decide +kernel
theorem dX11_stepNow_4 : decode cX11_stepNow 4 = .ok (.getfield 122, 3) := by decide +kernel
theorem dX11_stepNow_7 : decode cX11_stepNow 7 = .ok (.ifCond .eq 13, 3) := by decide +kernel
theorem dX11_stepNow_10 : decode cX11_stepNow 10 = .ok (.aload_n 0, 1) := by decide +kernel
theorem dX11_stepNow_11 : decode cX11_stepNow 11 = .ok (.getfield 25, 3) := by decide +kernel
theorem dX11_stepNow_14 : decode cX11_stepNow 14 = .ok (.getfield 126, 3) := by decide +kernel
theorem dX11_stepNow_17 : decode cX11_stepNow 17 = .ok (.goto 4, 3) := by decide +kernel
theorem dX11_stepNow_20 : decode cX11_stepNow 20 = .ok (.iconst (-1), 1) := by decide +kernel
theorem dX11_stepNow_21 : decode cX11_stepNow 21 = .ok (.ireturn, 1) := by decide +kernel
set_option maxRecDepth 20000 in
theorem ggX11_stop_X11_stepNow : GoodIn wsX11_stop wsX11_stepNow := goodIn_r _ [8, 2, 3, 9, 10, 11, 12, 13, 14, 15, 16, 17, 18, 19, 20, 21, 22, 23, 24, 25, 26, 27, 28, 29, 30, 31, 32, 33, 34, 35, 36, 37, 38, 39, 40, 41, 42, 43, 44, 45, 46] (by decide +kernel) (by decide +kernel)
set_option maxRecDepth 20000 in
theorem gX11_stop_X11_stepNow : GoodIn wsX11_stop (wsV RX11 132 RX11 yX11_stepNow wsX11_stepNow) := goodIn_app (goodIn_of _ (by decide +kernel)) ggX11_stop_X11_stepNow
theorem dX11_stop_0 : decode cX11_stop 0 = .ok (.aload_n 0, 1) := by decide +kernel
theorem dX11_stop_1 : decode cX11_stop 1 = .ok (.iconst 0, 1) := by decide +kernel
theorem dX11_stop_2 : decode cX11_stop 2 = .ok (.putfield 31, 3) := by decide +kernel
theorem dX11_stop_5 : decode cX11_stop 5 = .ok (.aload_n 0, 1) := by decide +kernel
theorem dX11_stop_6 : decode cX11_stop 6 = .ok (.invokevirtual 132, 3) := by decide +kernel
theorem dX11_stop_9 : decode cX11_stop 9 = .ok (.istore_n 1, 1) := by decide +kernel
theorem dX11_stop_10 : decode cX11_stop 10 = .ok (.aload_n 0, 1) := by decide +kernel
theorem dX11_stop_11 : decode cX11_stop 11 = .ok (.getfield 25, 3) := by decide +kernel
theorem dX11_stop_14 : decode cX11_stop 14 = .ok (.iconst 0, 1) := by decide +kernel
theorem dX11_stop_15 : decode cX11_stop 15 = .ok (.putfield 122, 3) := by decide +kernel
theorem dX11_stop_18 : decode cX11_stop 18 = .ok (.iload_n 1, 1) := by decide +kernel
theorem dX11_stop_19 : decode cX11_stop 19 = .ok (.ireturn, 1) := by decide +kernel
set_option maxRecDepth 20000 in
theorem ggX11_sample_X10_sample : GoodIn wsX11_sample wsX10_sample := goodIn_r _ [6, 7, 8, 9, 10, 11, 12, 13, 14, 15, 16, 17, 18, 19, 20, 21, 22, 23, 24, 25, 26, 27, 28, 29, 30, 31, 32, 33, 34, 35, 36, 37, 38, 5, 39, 40, 41, 42, 43, 44, 45, 46, 47, 48, 49, 50, 51, 52, 53, 54, 55, 56, 57, 58, 59, 60, 61, 62, 63, 64, 65, 66, 67, 68, 69, 70, 71, 72, 73, 74, 75, 76, 77, 78, 79, 80, 81, 82, 83, 84, 85, 86, 87, 88, 89, 90, 91, 92, 93, 94, 95, 96, 97, 98, 99, 100, 101, 102, 103, 104, 105, 113, 114, 115, 116, 117, 118, 119, 120, 121, 122, 123, 124, 125, 126, 127, 128, 129, 130, 131, 132, 133, 134, 135, 136, 137, 138, 139, 140, 141, 142, 143, 144, 145, 146, 147] (by decide +kernel) (by decide +kernel)
set_option maxRecDepth 20000 in
theorem gX11_sample_X10_sample : GoodIn wsX11_sample (wsV RX11 135 RX10 yX10_sample wsX10_sample) := goodIn_app (goodIn_of _ (by decide +kernel)) ggX11_sample_X10_sample
set_option maxRecDepth 20000 in
theorem ggX11_sample_X11_ok : GoodIn wsX11_sample wsX11_ok := goodIn_r _ [109, 110, 111, 112] (by decide +kernel) (by decide +kernel)
set_option maxRecDepth 20000 in
theorem gX11_sample_X11_ok : GoodIn wsX11_sample (wsV RX11 138 RX11 yX11_ok wsX11_ok) := goodIn_app (goodIn_of _ (by decide +kernel)) ggX11_sample_X11_ok
theorem dX11_sample_0 : decode cX11_sample 0 = .ok (.aload_n 0, 1) := by decide +kernel
theorem dX11_sample_1 : decode cX11_sample 1 = .ok (.aload_n 0, 1) := by decide +kernel
theorem dX11_sample_2 : decode cX11_sample 2 = .ok (.getfield 25, 3) := by decide +kernel
theorem dX11_sample_5 : decode cX11_sample 5 = .ok (.invokevirtual 135, 3) := by decide +kernel
theorem dX11_sample_8 : decode cX11_sample 8 = .ok (.invokevirtual 138, 3) := by decide +kernel
theorem dX11_sample_11 : decode cX11_sample 11 = .ok (.ireturn, 1) := by decide +kernel
set_option maxRecDepth 20000 in
theorem ggX11_run_X11_isIn : GoodIn wsX11_run wsX11_isIn := goodIn_r _ [6] (by decide +kernel) (by decide +kernel)
set_option maxRecDepth 20000 in
theorem gX11_run_X11_isIn : GoodIn wsX11_run (va_wsS RX11 35 yX11_isIn wsX11_isIn) := goodIn_app (goodIn_of _ (by decide +kernel)) ggX11_run_X11_isIn
set_option maxRecDepth 20000 in
theorem ggX11_run_X11_no : GoodIn wsX11_run wsX11_no := goodIn_r _ [10, 1, 112, 113] (by decide +kernel) (by decide +kernel)
set_option maxRecDepth 20000 in
theorem gX11_run_X11_no : GoodIn wsX11_run (wsV RX11 39 RX11 yX11_no wsX11_no) := goodIn_app (goodIn_of _ (by decide +kernel)) ggX11_run_X11_no
set_option maxRecDepth 20000 in
theorem ggX11_run_X10_sample : GoodIn wsX11_run wsX10_sample := goodIn_r _ [15, 16, 17, 18, 19, 20, 21, 22, 23, 24, 25, 26, 27, 28, 29, 30, 31, 32, 33, 34, 35, 36, 37, 38, 39, 40, 41, 42, 43, 44, 45, 46, 47, 14, 48, 49, 50, 51, 52, 53, 54, 55, 56, 57, 4, 5, 6, 58, 59, 60, 61, 62, 63, 64, 65, 66, 67, 68, 69, 70, 71, 72, 73, 74, 75, 76, 77, 78, 79, 80, 81, 82, 83, 84, 85, 86, 87, 88, 89, 90, 91, 92, 93, 94, 95, 96, 97, 98, 99, 100, 101, 102, 103, 104, 105, 106, 107, 108, 109, 110, 111, 114, 115, 116, 117, 118, 119, 120, 121, 122, 123, 124, 125, 126, 127, 128, 129, 130, 131, 132, 133, 134, 135, 136, 137, 138, 139, 140, 141, 142, 143, 144, 145, 146, 147, 148] (by decide +kernel) (by decide +kernel)
set_option maxRecDepth 20000 in
theorem gX11_run_X10_sample : GoodIn wsX11_run (wsV RX11 135 RX10 yX10_sample wsX10_sample) := goodIn_app (goodIn_of _ (by decide +kernel)) ggX11_run_X10_sample
theorem dX11_run_0 : decode cX11_run 0 = .ok (.aload_n 0, 1) := by decide +kernel
theorem dX11_run_1 : decode cX11_run 1 = .ok (.iconst 0, 1) := by decide +kernel
theorem dX11_run_2 : decode cX11_run 2 = .ok (.putfield 31, 3) := by decide +kernel
theorem dX11_run_5 : decode cX11_run 5 = .ok (.iload_n 1, 1) := by decide +kernel
theorem dX11_run_6 : decode cX11_run 6 = .ok (.iconst 1, 1) := by decide +kernel
theorem dX11_run_7 : decode cX11_run 7 = .ok (.sipush 200, 3) := by decide +kernel
theorem dX11_run_10 : decode cX11_run 10 = .ok (.invokestatic 35, 3) := by decide +kernel
theorem dX11_run_13 : decode cX11_run 13 = .ok (.ifCond .ne 9, 3) := by decide +kernel
theorem dX11_run_16 : decode cX11_run 16 = .ok (.aload_n 0, 1) := by decide +kernel
theorem dX11_run_17 : decode cX11_run 17 = .ok (.iconst 1, 1) := by decide +kernel
theorem dX11_run_18 : decode cX11_run 18 = .ok (.invokevirtual 39, 3) := by decide +kernel
theorem dX11_run_21 : decode cX11_run 21 = .ok (.ireturn, 1) := by decide +kernel
theorem dX11_run_22 : decode cX11_run 22 = .ok (.iconst 0, 1) := by decide +kernel
theorem dX11_run_23 : decode cX11_run 23 = .ok (.istore_n 2, 1) := by decide +kernel
theorem dX11_run_24 : decode cX11_run 24 = .ok (.iconst 0, 1) := by decide +kernel
theorem dX11_run_25 : decode cX11_run 25 = .ok (.istore_n 3, 1) := by decide +kernel
theorem dX11_run_26 : decode cX11_run 26 = .ok (.iload_n 3, 1) := by decide +kernel
theorem dX11_run_27 : decode cX11_run 27 = .ok (.iload_n 1, 1) := by decide +kernel
theorem dX11_run_28 : decode cX11_run 28 = .ok (.if_icmp .ge 17, 3) := by decide +kernel
theorem dX11_run_31 : decode cX11_run 31 = .ok (.aload_n 0, 1) := by decide +kernel
theorem dX11_run_32 : decode cX11_run 32 = .ok (.getfield 25, 3) := by decide +kernel
theorem dX11_run_35 : decode cX11_run 35 = .ok (.invokevirtual 135, 3) := by decide +kernel
theorem dX11_run_38 : decode cX11_run 38 = .ok (.istore_n 2, 1) := by decide +kernel
theorem dX11_run_39 : decode cX11_run 39 = .ok (.iinc 3 1, 3) := by decide +kernel
theorem dX11_run_42 : decode cX11_run 42 = .ok (.goto (-16), 3) := by decide +kernel
theorem dX11_run_45 : decode cX11_run 45 = .ok (.iload_n 2, 1) := by decide +kernel
theorem dX11_run_46 : decode cX11_run 46 = .ok (.ireturn, 1) := by decide +kernel
set_option maxRecDepth 20000 in
theorem ggX11_heard_X11_isIn : GoodIn wsX11_heard wsX11_isIn := goodIn_r _ [7] (by decide +kernel) (by decide +kernel)
set_option maxRecDepth 20000 in
theorem gX11_heard_X11_isIn : GoodIn wsX11_heard (va_wsS RX11 35 yX11_isIn wsX11_isIn) := goodIn_app (goodIn_of _ (by decide +kernel)) ggX11_heard_X11_isIn
set_option maxRecDepth 20000 in
theorem ggX11_heard_X11_no : GoodIn wsX11_heard wsX11_no := goodIn_r _ [11, 1, 12, 13] (by decide +kernel) (by decide +kernel)
set_option maxRecDepth 20000 in
theorem gX11_heard_X11_no : GoodIn wsX11_heard (wsV RX11 39 RX11 yX11_no wsX11_no) := goodIn_app (goodIn_of _ (by decide +kernel)) ggX11_heard_X11_no
theorem dX11_heard_0 : decode cX11_heard 0 = .ok (.aload_n 0, 1) := by decide +kernel
theorem dX11_heard_1 : decode cX11_heard 1 = .ok (.iconst 0, 1) := by decide +kernel
theorem dX11_heard_2 : decode cX11_heard 2 = .ok (.putfield 31, 3) := by decide +kernel
theorem dX11_heard_5 : decode cX11_heard 5 = .ok (.iload_n 1, 1) := by decide +kernel
theorem dX11_heard_6 : decode cX11_heard 6 = .ok (.iconst 0, 1) := by decide +kernel
theorem dX11_heard_7 : decode cX11_heard 7 = .ok (.bipush 63, 2) := by decide +kernel
theorem dX11_heard_9 : decode cX11_heard 9 = .ok (.invokestatic 35, 3) := by decide +kernel
theorem dX11_heard_12 : decode cX11_heard 12 = .ok (.ifCond .eq 15, 3) := by decide +kernel
theorem dX11_heard_15 : decode cX11_heard 15 = .ok (.aload_n 0, 1) := by decide +kernel
theorem dX11_heard_16 : decode cX11_heard 16 = .ok (.getfield 25, 3) := by decide +kernel
theorem dX11_heard_19 : decode cX11_heard 19 = .ok (.getfield 141, 3) := by decide +kernel
theorem dX11_heard_22 : decode cX11_heard 22 = .ok (.iload_n 1, 1) := by decide +kernel
theorem dX11_heard_23 : decode cX11_heard 23 = .ok (.iaload, 1) := by decide +kernel
theorem dX11_heard_24 : decode cX11_heard 24 = .ok (.goto 8, 3) := by decide +kernel
theorem dX11_heard_27 : decode cX11_heard 27 = .ok (.aload_n 0, 1) := by decide +kernel
theorem dX11_heard_28 : decode cX11_heard 28 = .ok (.iconst 1, 1) := by decide +kernel
theorem dX11_heard_29 : decode cX11_heard 29 = .ok (.invokevirtual 39, 3) := by decide +kernel
theorem dX11_heard_32 : decode cX11_heard 32 = .ok (.ireturn, 1) := by decide +kernel
set_option maxRecDepth 20000 in
theorem ggX11_clock_X11_ok : GoodIn wsX11_clock wsX11_ok := goodIn_r _ [7, 8, 9, 10] (by decide +kernel) (by decide +kernel)
set_option maxRecDepth 20000 in
theorem gX11_clock_X11_ok : GoodIn wsX11_clock (wsV RX11 138 RX11 yX11_ok wsX11_ok) := goodIn_app (goodIn_of _ (by decide +kernel)) ggX11_clock_X11_ok
theorem dX11_clock_0 : decode cX11_clock 0 = .ok (.aload_n 0, 1) := by decide +kernel
theorem dX11_clock_1 : decode cX11_clock 1 = .ok (.aload_n 0, 1) := by decide +kernel
theorem dX11_clock_2 : decode cX11_clock 2 = .ok (.getfield 25, 3) := by decide +kernel
theorem dX11_clock_5 : decode cX11_clock 5 = .ok (.getfield 144, 3) := by decide +kernel
theorem dX11_clock_8 : decode cX11_clock 8 = .ok (.invokevirtual 138, 3) := by decide +kernel
theorem dX11_clock_11 : decode cX11_clock 11 = .ok (.ireturn, 1) := by decide +kernel
set_option maxRecDepth 20000 in
theorem ggX11_peak_X11_ok : GoodIn wsX11_peak wsX11_ok := goodIn_r _ [7, 8, 9, 10] (by decide +kernel) (by decide +kernel)
set_option maxRecDepth 20000 in
theorem gX11_peak_X11_ok : GoodIn wsX11_peak (wsV RX11 138 RX11 yX11_ok wsX11_ok) := goodIn_app (goodIn_of _ (by decide +kernel)) ggX11_peak_X11_ok
theorem dX11_peak_0 : decode cX11_peak 0 = .ok (.aload_n 0, 1) := by decide +kernel
theorem dX11_peak_1 : decode cX11_peak 1 = .ok (.aload_n 0, 1) := by decide +kernel
theorem dX11_peak_2 : decode cX11_peak 2 = .ok (.getfield 25, 3) := by decide +kernel
theorem dX11_peak_5 : decode cX11_peak 5 = .ok (.getfield 147, 3) := by decide +kernel
theorem dX11_peak_8 : decode cX11_peak 8 = .ok (.invokevirtual 138, 3) := by decide +kernel
theorem dX11_peak_11 : decode cX11_peak 11 = .ok (.ireturn, 1) := by decide +kernel
theorem dX11_loudness_0 : decode cX11_loudness 0 = .ok (.aload_n 0, 1) := by decide +kernel
theorem dX11_loudness_1 : decode cX11_loudness 1 = .ok (.iconst 0, 1) := by decide +kernel
theorem dX11_loudness_2 : decode cX11_loudness 2 = .ok (.putfield 31, 3) := by decide +kernel
theorem dX11_loudness_5 : decode cX11_loudness 5 = .ok (.aload_n 0, 1) := by decide +kernel
theorem dX11_loudness_6 : decode cX11_loudness 6 = .ok (.getfield 25, 3) := by decide +kernel
theorem dX11_loudness_9 : decode cX11_loudness 9 = .ok (.getfield 150, 3) := by decide +kernel
theorem dX11_loudness_12 : decode cX11_loudness 12 = .ok (.ifCond .ne 7, 3) := by decide +kernel
theorem dX11_loudness_15 : decode cX11_loudness 15 = .ok (.dconst 0, 1) := by decide +kernel
theorem dX11_loudness_16 : decode cX11_loudness 16 = .ok (.goto 20, 3) := by decide +kernel
theorem dX11_loudness_19 : decode cX11_loudness 19 = .ok (.aload_n 0, 1) := by decide +kernel
theorem dX11_loudness_20 : decode cX11_loudness 20 = .ok (.getfield 25, 3) := by decide +kernel
theorem dX11_loudness_23 : decode cX11_loudness 23 = .ok (.getfield 153, 3) := by decide +kernel
theorem dX11_loudness_26 : decode cX11_loudness 26 = .ok (.l2d, 1) := by decide +kernel
theorem dX11_loudness_27 : decode cX11_loudness 27 = .ok (.aload_n 0, 1) := by decide +kernel
theorem dX11_loudness_28 : decode cX11_loudness 28 = .ok (.getfield 25, 3) := by decide +kernel
theorem dX11_loudness_31 : decode cX11_loudness 31 = .ok (.getfield 150, 3) := by decide +kernel
theorem dX11_loudness_34 : decode cX11_loudness 34 = .ok (.i2d, 1) := by decide +kernel
theorem dX11_loudness_35 : decode cX11_loudness 35 = .ok (.ddiv, 1) := by decide +kernel
theorem dX11_loudness_36 : decode cX11_loudness 36 = .ok (.dreturn, 1) := by decide +kernel
set_option maxRecDepth 20000 in
theorem ggX11_clipped_X11_ok : GoodIn wsX11_clipped wsX11_ok := goodIn_r _ [7, 8, 9, 10] (by decide +kernel) (by decide +kernel)
set_option maxRecDepth 20000 in
theorem gX11_clipped_X11_ok : GoodIn wsX11_clipped (wsV RX11 138 RX11 yX11_ok wsX11_ok) := goodIn_app (goodIn_of _ (by decide +kernel)) ggX11_clipped_X11_ok
theorem dX11_clipped_0 : decode cX11_clipped 0 = .ok (.aload_n 0, 1) := by decide +kernel
theorem dX11_clipped_1 : decode cX11_clipped 1 = .ok (.aload_n 0, 1) := by decide +kernel
theorem dX11_clipped_2 : decode cX11_clipped 2 = .ok (.getfield 25, 3) := by decide +kernel
theorem dX11_clipped_5 : decode cX11_clipped 5 = .ok (.getfield 157, 3) := by decide +kernel
theorem dX11_clipped_8 : decode cX11_clipped 8 = .ok (.invokevirtual 138, 3) := by decide +kernel
theorem dX11_clipped_11 : decode cX11_clipped 11 = .ok (.ireturn, 1) := by decide +kernel
set_option maxRecDepth 20000 in
theorem ggX11_crossings_X11_ok : GoodIn wsX11_crossings wsX11_ok := goodIn_r _ [7, 8, 9, 10] (by decide +kernel) (by decide +kernel)
set_option maxRecDepth 20000 in
theorem gX11_crossings_X11_ok : GoodIn wsX11_crossings (wsV RX11 138 RX11 yX11_ok wsX11_ok) := goodIn_app (goodIn_of _ (by decide +kernel)) ggX11_crossings_X11_ok
theorem dX11_crossings_0 : decode cX11_crossings 0 = .ok (.aload_n 0, 1) := by decide +kernel
theorem dX11_crossings_1 : decode cX11_crossings 1 = .ok (.aload_n 0, 1) := by decide +kernel
theorem dX11_crossings_2 : decode cX11_crossings 2 = .ok (.getfield 25, 3) := by decide +kernel
theorem dX11_crossings_5 : decode cX11_crossings 5 = .ok (.getfield 160, 3) := by decide +kernel
theorem dX11_crossings_8 : decode cX11_crossings 8 = .ok (.invokevirtual 138, 3) := by decide +kernel
theorem dX11_crossings_11 : decode cX11_crossings 11 = .ok (.ireturn, 1) := by decide +kernel
theorem dX11_reset_0 : decode cX11_reset 0 = .ok (.aload_n 0, 1) := by decide +kernel
theorem dX11_reset_1 : decode cX11_reset 1 = .ok (.iconst 0, 1) := by decide +kernel
theorem dX11_reset_2 : decode cX11_reset 2 = .ok (.putfield 31, 3) := by decide +kernel
theorem dX11_reset_5 : decode cX11_reset 5 = .ok (.aload_n 0, 1) := by decide +kernel
theorem dX11_reset_6 : decode cX11_reset 6 = .ok (.getfield 25, 3) := by decide +kernel
theorem dX11_reset_9 : decode cX11_reset 9 = .ok (.getfield 150, 3) := by decide +kernel
theorem dX11_reset_12 : decode cX11_reset 12 = .ok (.istore_n 1, 1) := by decide +kernel
theorem dX11_reset_13 : decode cX11_reset 13 = .ok (.aload_n 0, 1) := by decide +kernel
theorem dX11_reset_14 : decode cX11_reset 14 = .ok (.getfield 25, 3) := by decide +kernel
theorem dX11_reset_17 : decode cX11_reset 17 = .ok (.iconst 0, 1) := by decide +kernel
theorem dX11_reset_18 : decode cX11_reset 18 = .ok (.putfield 150, 3) := by decide +kernel
theorem dX11_reset_21 : decode cX11_reset 21 = .ok (.aload_n 0, 1) := by decide +kernel
theorem dX11_reset_22 : decode cX11_reset 22 = .ok (.getfield 25, 3) := by decide +kernel
theorem dX11_reset_25 : decode cX11_reset 25 = .ok (.iconst 0, 1) := by decide +kernel
theorem dX11_reset_26 : decode cX11_reset 26 = .ok (.putfield 147, 3) := by decide +kernel
theorem dX11_reset_29 : decode cX11_reset 29 = .ok (.aload_n 0, 1) := by decide +kernel
theorem dX11_reset_30 : decode cX11_reset 30 = .ok (.getfield 25, 3) := by decide +kernel
theorem dX11_reset_33 : decode cX11_reset 33 = .ok (.iconst 0, 1) := by decide +kernel
theorem dX11_reset_34 : decode cX11_reset 34 = .ok (.putfield 157, 3) := by decide +kernel
theorem dX11_reset_37 : decode cX11_reset 37 = .ok (.aload_n 0, 1) := by decide +kernel
theorem dX11_reset_38 : decode cX11_reset 38 = .ok (.getfield 25, 3) := by decide +kernel
theorem dX11_reset_41 : decode cX11_reset 41 = .ok (.iconst 0, 1) := by decide +kernel
theorem dX11_reset_42 : decode cX11_reset 42 = .ok (.putfield 160, 3) := by decide +kernel
theorem dX11_reset_45 : decode cX11_reset 45 = .ok (.aload_n 0, 1) := by decide +kernel
theorem dX11_reset_46 : decode cX11_reset 46 = .ok (.getfield 25, 3) := by decide +kernel
theorem dX11_reset_49 : decode cX11_reset 49 = .ok (.lconst 0, 1) := by decide +kernel
theorem dX11_reset_50 : decode cX11_reset 50 = .ok (.putfield 153, 3) := by decide +kernel
theorem dX11_reset_53 : decode cX11_reset 53 = .ok (.iload_n 1, 1) := by decide +kernel
theorem dX11_reset_54 : decode cX11_reset 54 = .ok (.ireturn, 1) := by decide +kernel
theorem dX11_voiceNow_0 : decode cX11_voiceNow 0 = .ok (.iload_n 2, 1) := by decide +kernel
theorem dX11_voiceNow_1 : decode cX11_voiceNow 1 = .ok (.tableswitch 141 0 8 #[51, 61, 71, 81, 91, 101, 111, 121, 131], 51) := by decide +kernel
theorem dX11_voiceNow_52 : decode cX11_voiceNow 52 = .ok (.aload_n 0, 1) := by decide +kernel
theorem dX11_voiceNow_53 : decode cX11_voiceNow 53 = .ok (.getfield 25, 3) := by decide +kernel
theorem dX11_voiceNow_56 : decode cX11_voiceNow 56 = .ok (.getfield 90, 3) := by decide +kernel
theorem dX11_voiceNow_59 : decode cX11_voiceNow 59 = .ok (.iload_n 1, 1) := by decide +kernel
theorem dX11_voiceNow_60 : decode cX11_voiceNow 60 = .ok (.iaload, 1) := by decide +kernel
theorem dX11_voiceNow_61 : decode cX11_voiceNow 61 = .ok (.ireturn, 1) := by decide +kernel
theorem dX11_voiceNow_62 : decode cX11_voiceNow 62 = .ok (.aload_n 0, 1) := by decide +kernel
theorem dX11_voiceNow_63 : decode cX11_voiceNow 63 = .ok (.getfield 25, 3) := by decide +kernel
theorem dX11_voiceNow_66 : decode cX11_voiceNow 66 = .ok (.getfield 101, 3) := by decide +kernel
theorem dX11_voiceNow_69 : decode cX11_voiceNow 69 = .ok (.iload_n 1, 1) := by decide +kernel
theorem dX11_voiceNow_70 : decode cX11_voiceNow 70 = .ok (.iaload, 1) := by decide +kernel
theorem dX11_voiceNow_71 : decode cX11_voiceNow 71 = .ok (.ireturn, 1) := by decide +kernel
theorem dX11_voiceNow_72 : decode cX11_voiceNow 72 = .ok (.aload_n 0, 1) := by decide +kernel
theorem dX11_voiceNow_73 : decode cX11_voiceNow 73 = .ok (.getfield 25, 3) := by decide +kernel
theorem dX11_voiceNow_76 : decode cX11_voiceNow 76 = .ok (.getfield 163, 3) := by decide +kernel
theorem dX11_voiceNow_79 : decode cX11_voiceNow 79 = .ok (.iload_n 1, 1) := by decide +kernel
theorem dX11_voiceNow_80 : decode cX11_voiceNow 80 = .ok (.iaload, 1) := by decide +kernel
theorem dX11_voiceNow_81 : decode cX11_voiceNow 81 = .ok (.ireturn, 1) := by decide +kernel
theorem dX11_voiceNow_82 : decode cX11_voiceNow 82 = .ok (.aload_n 0, 1) := by decide +kernel
theorem dX11_voiceNow_83 : decode cX11_voiceNow 83 = .ok (.getfield 25, 3) := by decide +kernel
theorem dX11_voiceNow_86 : decode cX11_voiceNow 86 = .ok (.getfield 166, 3) := by decide +kernel
theorem dX11_voiceNow_89 : decode cX11_voiceNow 89 = .ok (.iload_n 1, 1) := by decide +kernel
theorem dX11_voiceNow_90 : decode cX11_voiceNow 90 = .ok (.iaload, 1) := by decide +kernel
theorem dX11_voiceNow_91 : decode cX11_voiceNow 91 = .ok (.ireturn, 1) := by decide +kernel
theorem dX11_voiceNow_92 : decode cX11_voiceNow 92 = .ok (.aload_n 0, 1) := by decide +kernel
theorem dX11_voiceNow_93 : decode cX11_voiceNow 93 = .ok (.getfield 25, 3) := by decide +kernel
theorem dX11_voiceNow_96 : decode cX11_voiceNow 96 = .ok (.getfield 169, 3) := by decide +kernel
theorem dX11_voiceNow_99 : decode cX11_voiceNow 99 = .ok (.iload_n 1, 1) := by decide +kernel
theorem dX11_voiceNow_100 : decode cX11_voiceNow 100 = .ok (.iaload, 1) := by decide +kernel
theorem dX11_voiceNow_101 : decode cX11_voiceNow 101 = .ok (.ireturn, 1) := by decide +kernel
theorem dX11_voiceNow_102 : decode cX11_voiceNow 102 = .ok (.aload_n 0, 1) := by decide +kernel
theorem dX11_voiceNow_103 : decode cX11_voiceNow 103 = .ok (.getfield 25, 3) := by decide +kernel
theorem dX11_voiceNow_106 : decode cX11_voiceNow 106 = .ok (.getfield 172, 3) := by decide +kernel
theorem dX11_voiceNow_109 : decode cX11_voiceNow 109 = .ok (.iload_n 1, 1) := by decide +kernel
theorem dX11_voiceNow_110 : decode cX11_voiceNow 110 = .ok (.iaload, 1) := by decide +kernel
theorem dX11_voiceNow_111 : decode cX11_voiceNow 111 = .ok (.ireturn, 1) := by decide +kernel
theorem dX11_voiceNow_112 : decode cX11_voiceNow 112 = .ok (.aload_n 0, 1) := by decide +kernel
theorem dX11_voiceNow_113 : decode cX11_voiceNow 113 = .ok (.getfield 25, 3) := by decide +kernel
theorem dX11_voiceNow_116 : decode cX11_voiceNow 116 = .ok (.getfield 175, 3) := by decide +kernel
theorem dX11_voiceNow_119 : decode cX11_voiceNow 119 = .ok (.iload_n 1, 1) := by decide +kernel
theorem dX11_voiceNow_120 : decode cX11_voiceNow 120 = .ok (.iaload, 1) := by decide +kernel
theorem dX11_voiceNow_121 : decode cX11_voiceNow 121 = .ok (.ireturn, 1) := by decide +kernel
theorem dX11_voiceNow_122 : decode cX11_voiceNow 122 = .ok (.aload_n 0, 1) := by decide +kernel
theorem dX11_voiceNow_123 : decode cX11_voiceNow 123 = .ok (.getfield 25, 3) := by decide +kernel
theorem dX11_voiceNow_126 : decode cX11_voiceNow 126 = .ok (.getfield 178, 3) := by decide +kernel
theorem dX11_voiceNow_129 : decode cX11_voiceNow 129 = .ok (.iload_n 1, 1) := by decide +kernel
theorem dX11_voiceNow_130 : decode cX11_voiceNow 130 = .ok (.iaload, 1) := by decide +kernel
theorem dX11_voiceNow_131 : decode cX11_voiceNow 131 = .ok (.ireturn, 1) := by decide +kernel
theorem dX11_voiceNow_132 : decode cX11_voiceNow 132 = .ok (.aload_n 0, 1) := by decide +kernel
theorem dX11_voiceNow_133 : decode cX11_voiceNow 133 = .ok (.getfield 25, 3) := by decide +kernel
theorem dX11_voiceNow_136 : decode cX11_voiceNow 136 = .ok (.getfield 181, 3) := by decide +kernel
theorem dX11_voiceNow_139 : decode cX11_voiceNow 139 = .ok (.iload_n 1, 1) := by decide +kernel
theorem dX11_voiceNow_140 : decode cX11_voiceNow 140 = .ok (.iaload, 1) := by decide +kernel
theorem dX11_voiceNow_141 : decode cX11_voiceNow 141 = .ok (.ireturn, 1) := by decide +kernel
theorem dX11_voiceNow_142 : decode cX11_voiceNow 142 = .ok (.aload_n 0, 1) := by decide +kernel
theorem dX11_voiceNow_143 : decode cX11_voiceNow 143 = .ok (.getfield 25, 3) := by decide +kernel
theorem dX11_voiceNow_146 : decode cX11_voiceNow 146 = .ok (.getfield 104, 3) := by decide +kernel
theorem dX11_voiceNow_149 : decode cX11_voiceNow 149 = .ok (.iload_n 1, 1) := by decide +kernel
theorem dX11_voiceNow_150 : decode cX11_voiceNow 150 = .ok (.iaload, 1) := by decide +kernel
theorem dX11_voiceNow_151 : decode cX11_voiceNow 151 = .ok (.ireturn, 1) := by decide +kernel
set_option maxRecDepth 20000 in
theorem ggX11_ofVoice_X11_isVoice : GoodIn wsX11_ofVoice wsX11_isVoice := goodIn_r _ [5, 6, 7, 4, 8] (by decide +kernel) (by decide +kernel)
set_option maxRecDepth 20000 in
theorem gX11_ofVoice_X11_isVoice : GoodIn wsX11_ofVoice (va_wsS RX11 87 yX11_isVoice wsX11_isVoice) := goodIn_app (goodIn_of _ (by decide +kernel)) ggX11_ofVoice_X11_isVoice
set_option maxRecDepth 20000 in
theorem ggX11_ofVoice_X11_no : GoodIn wsX11_ofVoice wsX11_no := goodIn_r _ [12, 1, 28, 29] (by decide +kernel) (by decide +kernel)
set_option maxRecDepth 20000 in
theorem gX11_ofVoice_X11_no : GoodIn wsX11_ofVoice (wsV RX11 39 RX11 yX11_no wsX11_no) := goodIn_app (goodIn_of _ (by decide +kernel)) ggX11_ofVoice_X11_no
set_option maxRecDepth 20000 in
theorem ggX11_ofVoice_X11_isIn : GoodIn wsX11_ofVoice wsX11_isIn := goodIn_r _ [8] (by decide +kernel) (by decide +kernel)
set_option maxRecDepth 20000 in
theorem gX11_ofVoice_X11_isIn : GoodIn wsX11_ofVoice (va_wsS RX11 35 yX11_isIn wsX11_isIn) := goodIn_app (goodIn_of _ (by decide +kernel)) ggX11_ofVoice_X11_isIn
set_option maxRecDepth 20000 in
theorem ggX11_ofVoice_X11_voiceNow : GoodIn wsX11_ofVoice wsX11_voiceNow := goodIn_r _ [16, 17, 18, 19, 20, 21, 22, 23, 24, 25, 26, 27, 28, 29, 30, 31, 32, 33, 34, 35, 36, 37, 38, 39, 40, 41, 42, 43, 44, 45, 46, 47, 48, 49, 50, 51, 52, 53, 54, 55, 56, 57, 58, 59, 60, 61, 62, 63, 64] (by decide +kernel) (by decide +kernel)
set_option maxRecDepth 20000 in
theorem gX11_ofVoice_X11_voiceNow : GoodIn wsX11_ofVoice (wsV RX11 184 RX11 yX11_voiceNow wsX11_voiceNow) := goodIn_app (goodIn_of _ (by decide +kernel)) ggX11_ofVoice_X11_voiceNow
theorem dX11_ofVoice_0 : decode cX11_ofVoice 0 = .ok (.aload_n 0, 1) := by decide +kernel
theorem dX11_ofVoice_1 : decode cX11_ofVoice 1 = .ok (.iconst 0, 1) := by decide +kernel
theorem dX11_ofVoice_2 : decode cX11_ofVoice 2 = .ok (.putfield 31, 3) := by decide +kernel
theorem dX11_ofVoice_5 : decode cX11_ofVoice 5 = .ok (.iload_n 1, 1) := by decide +kernel
theorem dX11_ofVoice_6 : decode cX11_ofVoice 6 = .ok (.invokestatic 87, 3) := by decide +kernel
theorem dX11_ofVoice_9 : decode cX11_ofVoice 9 = .ok (.ifCond .ne 9, 3) := by decide +kernel
theorem dX11_ofVoice_12 : decode cX11_ofVoice 12 = .ok (.aload_n 0, 1) := by decide +kernel
theorem dX11_ofVoice_13 : decode cX11_ofVoice 13 = .ok (.iconst 1, 1) := by decide +kernel
theorem dX11_ofVoice_14 : decode cX11_ofVoice 14 = .ok (.invokevirtual 39, 3) := by decide +kernel
theorem dX11_ofVoice_17 : decode cX11_ofVoice 17 = .ok (.ireturn, 1) := by decide +kernel
theorem dX11_ofVoice_18 : decode cX11_ofVoice 18 = .ok (.iload_n 2, 1) := by decide +kernel
theorem dX11_ofVoice_19 : decode cX11_ofVoice 19 = .ok (.iconst 0, 1) := by decide +kernel
theorem dX11_ofVoice_20 : decode cX11_ofVoice 20 = .ok (.bipush 9, 2) := by decide +kernel
theorem dX11_ofVoice_22 : decode cX11_ofVoice 22 = .ok (.invokestatic 35, 3) := by decide +kernel
theorem dX11_ofVoice_25 : decode cX11_ofVoice 25 = .ok (.ifCond .eq 12, 3) := by decide +kernel
theorem dX11_ofVoice_28 : decode cX11_ofVoice 28 = .ok (.aload_n 0, 1) := by decide +kernel
theorem dX11_ofVoice_29 : decode cX11_ofVoice 29 = .ok (.iload_n 1, 1) := by decide +kernel
theorem dX11_ofVoice_30 : decode cX11_ofVoice 30 = .ok (.iload_n 2, 1) := by decide +kernel
theorem dX11_ofVoice_31 : decode cX11_ofVoice 31 = .ok (.invokevirtual 184, 3) := by decide +kernel
theorem dX11_ofVoice_34 : decode cX11_ofVoice 34 = .ok (.goto 8, 3) := by decide +kernel
theorem dX11_ofVoice_37 : decode cX11_ofVoice 37 = .ok (.aload_n 0, 1) := by decide +kernel
theorem dX11_ofVoice_38 : decode cX11_ofVoice 38 = .ok (.iconst 2, 1) := by decide +kernel
theorem dX11_ofVoice_39 : decode cX11_ofVoice 39 = .ok (.invokevirtual 39, 3) := by decide +kernel
theorem dX11_ofVoice_42 : decode cX11_ofVoice 42 = .ok (.ireturn, 1) := by decide +kernel
set_option maxRecDepth 20000 in
theorem ggX11_sounding_X10_sounding : GoodIn wsX11_sounding wsX10_sounding := goodIn_r _ [6, 7, 16, 17, 18, 19, 20, 21, 22, 23, 24, 25, 26, 27, 28, 29, 30, 31, 32, 33, 34, 35, 36, 37, 38, 39, 40, 41, 42, 43, 44, 45, 46, 47, 48, 49, 50] (by decide +kernel) (by decide +kernel)
set_option maxRecDepth 20000 in
theorem gX11_sounding_X10_sounding : GoodIn wsX11_sounding (wsV RX11 97 RX10 yX10_sounding wsX10_sounding) := goodIn_app (goodIn_of _ (by decide +kernel)) ggX11_sounding_X10_sounding
set_option maxRecDepth 20000 in
theorem ggX11_sounding_X11_ok : GoodIn wsX11_sounding wsX11_ok := goodIn_r _ [12, 13, 14, 15] (by decide +kernel) (by decide +kernel)
set_option maxRecDepth 20000 in
theorem gX11_sounding_X11_ok : GoodIn wsX11_sounding (wsV RX11 138 RX11 yX11_ok wsX11_ok) := goodIn_app (goodIn_of _ (by decide +kernel)) ggX11_sounding_X11_ok
theorem dX11_sounding_0 : decode cX11_sounding 0 = .ok (.aload_n 0, 1) := by decide +kernel
theorem dX11_sounding_1 : decode cX11_sounding 1 = .ok (.aload_n 0, 1) := by decide +kernel
theorem dX11_sounding_2 : decode cX11_sounding 2 = .ok (.getfield 25, 3) := by decide +kernel
theorem dX11_sounding_5 : decode cX11_sounding 5 = .ok (.invokevirtual 97, 3) := by decide +kernel
theorem dX11_sounding_8 : decode cX11_sounding 8 = .ok (.invokevirtual 138, 3) := by decide +kernel
theorem dX11_sounding_11 : decode cX11_sounding 11 = .ok (.ireturn, 1) := by decide +kernel
set_option maxRecDepth 20000 in
theorem ggX11_taken_X11_ok : GoodIn wsX11_taken wsX11_ok := goodIn_r _ [7, 8, 9, 10] (by decide +kernel) (by decide +kernel)
set_option maxRecDepth 20000 in
theorem gX11_taken_X11_ok : GoodIn wsX11_taken (wsV RX11 138 RX11 yX11_ok wsX11_ok) := goodIn_app (goodIn_of _ (by decide +kernel)) ggX11_taken_X11_ok
theorem dX11_taken_0 : decode cX11_taken 0 = .ok (.aload_n 0, 1) := by decide +kernel
theorem dX11_taken_1 : decode cX11_taken 1 = .ok (.aload_n 0, 1) := by decide +kernel
theorem dX11_taken_2 : decode cX11_taken 2 = .ok (.getfield 25, 3) := by decide +kernel
theorem dX11_taken_5 : decode cX11_taken 5 = .ok (.getfield 187, 3) := by decide +kernel
theorem dX11_taken_8 : decode cX11_taken 8 = .ok (.invokevirtual 138, 3) := by decide +kernel
theorem dX11_taken_11 : decode cX11_taken 11 = .ok (.ireturn, 1) := by decide +kernel
theorem dX11_isPlaying_0 : decode cX11_isPlaying 0 = .ok (.aload_n 0, 1) := by decide +kernel
theorem dX11_isPlaying_1 : decode cX11_isPlaying 1 = .ok (.iconst 0, 1) := by decide +kernel
theorem dX11_isPlaying_2 : decode cX11_isPlaying 2 = .ok (.putfield 31, 3) := by decide +kernel
theorem dX11_isPlaying_5 : decode cX11_isPlaying 5 = .ok (.aload_n 0, 1) := by decide +kernel
theorem dX11_isPlaying_6 : decode cX11_isPlaying 6 = .ok (.getfield 25, 3) := by decide +kernel
theorem dX11_isPlaying_9 : decode cX11_isPlaying 9 = .ok (.getfield 122, 3) := by decide +kernel
theorem dX11_isPlaying_12 : decode cX11_isPlaying 12 = .ok (.ireturn, 1) := by decide +kernel
set_option maxRecDepth 20000 in
theorem ggX11_step_X11_stepNow : GoodIn wsX11_step wsX11_stepNow := goodIn_r _ [5, 6, 7, 8, 14, 15, 16, 17, 18, 19, 20, 21, 22, 23, 24, 25, 26, 27, 28, 29, 30, 31, 32, 33, 34, 35, 36, 37, 38, 39, 40, 41, 42, 43, 44, 45, 46, 47, 48, 49, 50] (by decide +kernel) (by decide +kernel)
set_option maxRecDepth 20000 in
theorem gX11_step_X11_stepNow : GoodIn wsX11_step (wsV RX11 132 RX11 yX11_stepNow wsX11_stepNow) := goodIn_app (goodIn_of _ (by decide +kernel)) ggX11_step_X11_stepNow
set_option maxRecDepth 20000 in
theorem ggX11_step_X11_ok : GoodIn wsX11_step wsX11_ok := goodIn_r _ [12, 13, 14, 15] (by decide +kernel) (by decide +kernel)
set_option maxRecDepth 20000 in
theorem gX11_step_X11_ok : GoodIn wsX11_step (wsV RX11 138 RX11 yX11_ok wsX11_ok) := goodIn_app (goodIn_of _ (by decide +kernel)) ggX11_step_X11_ok
theorem dX11_step_0 : decode cX11_step 0 = .ok (.aload_n 0, 1) := by decide +kernel
theorem dX11_step_1 : decode cX11_step 1 = .ok (.aload_n 0, 1) := by decide +kernel
theorem dX11_step_2 : decode cX11_step 2 = .ok (.invokevirtual 132, 3) := by decide +kernel
theorem dX11_step_5 : decode cX11_step 5 = .ok (.invokevirtual 138, 3) := by decide +kernel
theorem dX11_step_8 : decode cX11_step 8 = .ok (.ireturn, 1) := by decide +kernel
set_option maxRecDepth 20000 in
theorem ggX11_ofStep_X11_isIn : GoodIn wsX11_ofStep wsX11_isIn := goodIn_r _ [7] (by decide +kernel) (by decide +kernel)
set_option maxRecDepth 20000 in
theorem gX11_ofStep_X11_isIn : GoodIn wsX11_ofStep (va_wsS RX11 35 yX11_isIn wsX11_isIn) := goodIn_app (goodIn_of _ (by decide +kernel)) ggX11_ofStep_X11_isIn
set_option maxRecDepth 20000 in
theorem ggX11_ofStep_X11_isStep : GoodIn wsX11_ofStep wsX11_isStep := goodIn_r _ [10, 4, 5, 6, 7] (by decide +kernel) (by decide +kernel)
set_option maxRecDepth 20000 in
theorem gX11_ofStep_X11_isStep : GoodIn wsX11_ofStep (va_wsS RX11 107 yX11_isStep wsX11_isStep) := goodIn_app (goodIn_of _ (by decide +kernel)) ggX11_ofStep_X11_isStep
set_option maxRecDepth 20000 in
theorem ggX11_ofStep_X11_no : GoodIn wsX11_ofStep wsX11_no := goodIn_r _ [14, 1, 15, 16] (by decide +kernel) (by decide +kernel)
set_option maxRecDepth 20000 in
theorem gX11_ofStep_X11_no : GoodIn wsX11_ofStep (wsV RX11 39 RX11 yX11_no wsX11_no) := goodIn_app (goodIn_of _ (by decide +kernel)) ggX11_ofStep_X11_no
theorem dX11_ofStep_0 : decode cX11_ofStep 0 = .ok (.aload_n 0, 1) := by decide +kernel
theorem dX11_ofStep_1 : decode cX11_ofStep 1 = .ok (.iconst 0, 1) := by decide +kernel
theorem dX11_ofStep_2 : decode cX11_ofStep 2 = .ok (.putfield 31, 3) := by decide +kernel
theorem dX11_ofStep_5 : decode cX11_ofStep 5 = .ok (.iload_n 1, 1) := by decide +kernel
theorem dX11_ofStep_6 : decode cX11_ofStep 6 = .ok (.iconst 0, 1) := by decide +kernel
theorem dX11_ofStep_7 : decode cX11_ofStep 7 = .ok (.iconst 2, 1) := by decide +kernel
theorem dX11_ofStep_8 : decode cX11_ofStep 8 = .ok (.invokestatic 35, 3) := by decide +kernel
theorem dX11_ofStep_11 : decode cX11_ofStep 11 = .ok (.ifCond .eq 10, 3) := by decide +kernel
theorem dX11_ofStep_14 : decode cX11_ofStep 14 = .ok (.iload_n 2, 1) := by decide +kernel
theorem dX11_ofStep_15 : decode cX11_ofStep 15 = .ok (.invokestatic 107, 3) := by decide +kernel
theorem dX11_ofStep_18 : decode cX11_ofStep 18 = .ok (.ifCond .ne 9, 3) := by decide +kernel
theorem dX11_ofStep_21 : decode cX11_ofStep 21 = .ok (.aload_n 0, 1) := by decide +kernel
theorem dX11_ofStep_22 : decode cX11_ofStep 22 = .ok (.iconst 1, 1) := by decide +kernel
theorem dX11_ofStep_23 : decode cX11_ofStep 23 = .ok (.invokevirtual 39, 3) := by decide +kernel
theorem dX11_ofStep_26 : decode cX11_ofStep 26 = .ok (.ireturn, 1) := by decide +kernel
theorem dX11_ofStep_27 : decode cX11_ofStep 27 = .ok (.iload_n 3, 1) := by decide +kernel
theorem dX11_ofStep_28 : decode cX11_ofStep 28 = .ok (.iconst 0, 1) := by decide +kernel
theorem dX11_ofStep_29 : decode cX11_ofStep 29 = .ok (.iconst 2, 1) := by decide +kernel
theorem dX11_ofStep_30 : decode cX11_ofStep 30 = .ok (.invokestatic 35, 3) := by decide +kernel
theorem dX11_ofStep_33 : decode cX11_ofStep 33 = .ok (.ifCond .eq 24, 3) := by decide +kernel
theorem dX11_ofStep_36 : decode cX11_ofStep 36 = .ok (.aload_n 0, 1) := by decide +kernel
theorem dX11_ofStep_37 : decode cX11_ofStep 37 = .ok (.getfield 25, 3) := by decide +kernel
theorem dX11_ofStep_40 : decode cX11_ofStep 40 = .ok (.getfield 110, 3) := by decide +kernel
theorem dX11_ofStep_43 : decode cX11_ofStep 43 = .ok (.iload_n 1, 1) := by decide +kernel
theorem dX11_ofStep_44 : decode cX11_ofStep 44 = .ok (.bipush 8, 2) := by decide +kernel
theorem dX11_ofStep_46 : decode cX11_ofStep 46 = .ok (.imul, 1) := by decide +kernel
theorem dX11_ofStep_47 : decode cX11_ofStep 47 = .ok (.iload_n 2, 1) := by decide +kernel
theorem dX11_ofStep_48 : decode cX11_ofStep 48 = .ok (.iadd, 1) := by decide +kernel
theorem dX11_ofStep_49 : decode cX11_ofStep 49 = .ok (.iconst 3, 1) := by decide +kernel
theorem dX11_ofStep_50 : decode cX11_ofStep 50 = .ok (.imul, 1) := by decide +kernel
theorem dX11_ofStep_51 : decode cX11_ofStep 51 = .ok (.iload_n 3, 1) := by decide +kernel
theorem dX11_ofStep_52 : decode cX11_ofStep 52 = .ok (.iadd, 1) := by decide +kernel
theorem dX11_ofStep_53 : decode cX11_ofStep 53 = .ok (.iaload, 1) := by decide +kernel
theorem dX11_ofStep_54 : decode cX11_ofStep 54 = .ok (.goto 8, 3) := by decide +kernel
theorem dX11_ofStep_57 : decode cX11_ofStep 57 = .ok (.aload_n 0, 1) := by decide +kernel
theorem dX11_ofStep_58 : decode cX11_ofStep 58 = .ok (.iconst 2, 1) := by decide +kernel
theorem dX11_ofStep_59 : decode cX11_ofStep 59 = .ok (.invokevirtual 39, 3) := by decide +kernel
theorem dX11_ofStep_62 : decode cX11_ofStep 62 = .ok (.ireturn, 1) := by decide +kernel
set_option maxRecDepth 20000 in
theorem ggX11_inDelay_X11_isIn : GoodIn wsX11_inDelay wsX11_isIn := goodIn_r _ [8] (by decide +kernel) (by decide +kernel)
set_option maxRecDepth 20000 in
theorem gX11_inDelay_X11_isIn : GoodIn wsX11_inDelay (va_wsS RX11 35 yX11_isIn wsX11_isIn) := goodIn_app (goodIn_of _ (by decide +kernel)) ggX11_inDelay_X11_isIn
set_option maxRecDepth 20000 in
theorem ggX11_inDelay_X11_no : GoodIn wsX11_inDelay wsX11_no := goodIn_r _ [12, 1, 13, 14] (by decide +kernel) (by decide +kernel)
set_option maxRecDepth 20000 in
theorem gX11_inDelay_X11_no : GoodIn wsX11_inDelay (wsV RX11 39 RX11 yX11_no wsX11_no) := goodIn_app (goodIn_of _ (by decide +kernel)) ggX11_inDelay_X11_no
theorem dX11_inDelay_0 : decode cX11_inDelay 0 = .ok (.aload_n 0, 1) := by decide +kernel
theorem dX11_inDelay_1 : decode cX11_inDelay 1 = .ok (.iconst 0, 1) := by decide +kernel
theorem dX11_inDelay_2 : decode cX11_inDelay 2 = .ok (.putfield 31, 3) := by decide +kernel
theorem dX11_inDelay_5 : decode cX11_inDelay 5 = .ok (.iload_n 1, 1) := by decide +kernel
theorem dX11_inDelay_6 : decode cX11_inDelay 6 = .ok (.iconst 0, 1) := by decide +kernel
theorem dX11_inDelay_7 : decode cX11_inDelay 7 = .ok (.aload_n 0, 1) := by decide +kernel
theorem dX11_inDelay_8 : decode cX11_inDelay 8 = .ok (.getfield 25, 3) := by decide +kernel
theorem dX11_inDelay_11 : decode cX11_inDelay 11 = .ok (.getfield 71, 3) := by decide +kernel
theorem dX11_inDelay_14 : decode cX11_inDelay 14 = .ok (.iconst 1, 1) := by decide +kernel
theorem dX11_inDelay_15 : decode cX11_inDelay 15 = .ok (.isub, 1) := by decide +kernel
theorem dX11_inDelay_16 : decode cX11_inDelay 16 = .ok (.invokestatic 35, 3) := by decide +kernel
theorem dX11_inDelay_19 : decode cX11_inDelay 19 = .ok (.ifCond .eq 15, 3) := by decide +kernel
theorem dX11_inDelay_22 : decode cX11_inDelay 22 = .ok (.aload_n 0, 1) := by decide +kernel
theorem dX11_inDelay_23 : decode cX11_inDelay 23 = .ok (.getfield 25, 3) := by decide +kernel
theorem dX11_inDelay_26 : decode cX11_inDelay 26 = .ok (.getfield 80, 3) := by decide +kernel
theorem dX11_inDelay_29 : decode cX11_inDelay 29 = .ok (.iload_n 1, 1) := by decide +kernel
theorem dX11_inDelay_30 : decode cX11_inDelay 30 = .ok (.iaload, 1) := by decide +kernel
theorem dX11_inDelay_31 : decode cX11_inDelay 31 = .ok (.goto 8, 3) := by decide +kernel
theorem dX11_inDelay_34 : decode cX11_inDelay 34 = .ok (.aload_n 0, 1) := by decide +kernel
theorem dX11_inDelay_35 : decode cX11_inDelay 35 = .ok (.iconst 1, 1) := by decide +kernel
theorem dX11_inDelay_36 : decode cX11_inDelay 36 = .ok (.invokevirtual 39, 3) := by decide +kernel
theorem dX11_inDelay_39 : decode cX11_inDelay 39 = .ok (.ireturn, 1) := by decide +kernel
set_option maxRecDepth 20000 in
theorem ggX11_wouldPeak_X11_isIn : GoodIn wsX11_wouldPeak wsX11_isIn := goodIn_r _ [13] (by decide +kernel) (by decide +kernel)
set_option maxRecDepth 20000 in
theorem gX11_wouldPeak_X11_isIn : GoodIn wsX11_wouldPeak (va_wsS RX11 35 yX11_isIn wsX11_isIn) := goodIn_app (goodIn_of _ (by decide +kernel)) ggX11_wouldPeak_X11_isIn
set_option maxRecDepth 20000 in
theorem ggX11_wouldPeak_X11_no : GoodIn wsX11_wouldPeak wsX11_no := goodIn_r _ [17, 1, 128, 129] (by decide +kernel) (by decide +kernel)
set_option maxRecDepth 20000 in
theorem gX11_wouldPeak_X11_no : GoodIn wsX11_wouldPeak (wsV RX11 39 RX11 yX11_no wsX11_no) := goodIn_app (goodIn_of _ (by decide +kernel)) ggX11_wouldPeak_X11_no
set_option maxRecDepth 20000 in
theorem ggX11_wouldPeak_X10_copy : GoodIn wsX11_wouldPeak wsX10_copy := goodIn_r _ [22, 23, 24, 21, 25, 26, 27, 28, 29, 30, 31, 32, 33, 34, 35, 36, 37, 38, 39, 40, 41, 42, 43, 44, 45, 46, 47, 48, 49, 50, 51, 52, 53, 54, 55, 56, 57, 58, 59, 60, 61, 62, 12, 63, 64, 65, 66, 67, 130, 131, 132, 133, 134, 135, 136, 137, 138, 139, 140, 141, 142, 143, 144, 145, 146, 147, 148, 149, 150, 151, 152, 153, 154, 155, 156, 157, 158, 159, 160, 161, 162, 163, 164] (by decide +kernel) (by decide +kernel)
set_option maxRecDepth 20000 in
theorem gX11_wouldPeak_X10_copy : GoodIn wsX11_wouldPeak (wsV RX11 190 RX10 yX10_copy wsX10_copy) := goodIn_app (goodIn_of _ (by decide +kernel)) ggX11_wouldPeak_X10_copy
set_option maxRecDepth 20000 in
theorem ggX11_wouldPeak_X10_sample : GoodIn wsX11_wouldPeak wsX10_sample := goodIn_r _ [71, 44, 45, 38, 72, 65, 66, 67, 47, 73, 46, 74, 75, 41, 76, 77, 4, 5, 6, 78, 8, 9, 79, 80, 54, 36, 50, 52, 53, 51, 81, 82, 83, 21, 84, 48, 49, 40, 39, 85, 86, 87, 88, 27, 11, 12, 13, 89, 90, 91, 92, 43, 29, 30, 31, 32, 33, 34, 35, 37, 42, 93, 94, 95, 96, 28, 97, 98, 99, 100, 101, 102, 103, 104, 105, 106, 107, 108, 109, 110, 111, 112, 113, 26, 114, 115, 116, 117, 118, 119, 120, 121, 25, 122, 123, 124, 61, 125, 126, 127, 7, 130, 131, 132, 133, 134, 135, 136, 137, 138, 139, 140, 141, 142, 143, 144, 145, 146, 147, 148, 149, 150, 151, 152, 153, 154, 155, 156, 157, 158, 159, 160, 161, 162, 163, 164] (by decide +kernel) (by decide +kernel)
set_option maxRecDepth 20000 in
theorem gX11_wouldPeak_X10_sample : GoodIn wsX11_wouldPeak (wsV RX11 135 RX10 yX10_sample wsX10_sample) := goodIn_app (goodIn_of _ (by decide +kernel)) ggX11_wouldPeak_X10_sample
theorem dX11_wouldPeak_0 : decode cX11_wouldPeak 0 = .ok (.aload_n 0, 1) := by decide +kernel
theorem dX11_wouldPeak_1 : decode cX11_wouldPeak 1 = .ok (.iconst 0, 1) := by decide +kernel
theorem dX11_wouldPeak_2 : decode cX11_wouldPeak 2 = .ok (.putfield 31, 3) := by decide +kernel
theorem dX11_wouldPeak_5 : decode cX11_wouldPeak 5 = .ok (.iload_n 1, 1) := by decide +kernel
theorem dX11_wouldPeak_6 : decode cX11_wouldPeak 6 = .ok (.iconst 1, 1) := by decide +kernel
theorem dX11_wouldPeak_7 : decode cX11_wouldPeak 7 = .ok (.sipush 200, 3) := by decide +kernel
theorem dX11_wouldPeak_10 : decode cX11_wouldPeak 10 = .ok (.invokestatic 35, 3) := by decide +kernel
theorem dX11_wouldPeak_13 : decode cX11_wouldPeak 13 = .ok (.ifCond .ne 9, 3) := by decide +kernel
theorem dX11_wouldPeak_16 : decode cX11_wouldPeak 16 = .ok (.aload_n 0, 1) := by decide +kernel
theorem dX11_wouldPeak_17 : decode cX11_wouldPeak 17 = .ok (.iconst 1, 1) := by decide +kernel
theorem dX11_wouldPeak_18 : decode cX11_wouldPeak 18 = .ok (.invokevirtual 39, 3) := by decide +kernel
theorem dX11_wouldPeak_21 : decode cX11_wouldPeak 21 = .ok (.ireturn, 1) := by decide +kernel
theorem dX11_wouldPeak_22 : decode cX11_wouldPeak 22 = .ok (.aload_n 0, 1) := by decide +kernel
theorem dX11_wouldPeak_23 : decode cX11_wouldPeak 23 = .ok (.getfield 25, 3) := by decide +kernel
theorem dX11_wouldPeak_26 : decode cX11_wouldPeak 26 = .ok (.invokevirtual 190, 3) := by decide +kernel
theorem dX11_wouldPeak_29 : decode cX11_wouldPeak 29 = .ok (.astore_n 2, 1) := by decide +kernel
theorem dX11_wouldPeak_30 : decode cX11_wouldPeak 30 = .ok (.iconst 0, 1) := by decide +kernel
theorem dX11_wouldPeak_31 : decode cX11_wouldPeak 31 = .ok (.istore_n 3, 1) := by decide +kernel
theorem dX11_wouldPeak_32 : decode cX11_wouldPeak 32 = .ok (.iconst 0, 1) := by decide +kernel
theorem dX11_wouldPeak_33 : decode cX11_wouldPeak 33 = .ok (.istore 4, 2) := by decide +kernel
theorem dX11_wouldPeak_35 : decode cX11_wouldPeak 35 = .ok (.iload 4, 2) := by decide +kernel
theorem dX11_wouldPeak_37 : decode cX11_wouldPeak 37 = .ok (.iload_n 1, 1) := by decide +kernel
theorem dX11_wouldPeak_38 : decode cX11_wouldPeak 38 = .ok (.if_icmp .ge 21, 3) := by decide +kernel
theorem dX11_wouldPeak_41 : decode cX11_wouldPeak 41 = .ok (.iload_n 3, 1) := by decide +kernel
theorem dX11_wouldPeak_42 : decode cX11_wouldPeak 42 = .ok (.aload_n 2, 1) := by decide +kernel
theorem dX11_wouldPeak_43 : decode cX11_wouldPeak 43 = .ok (.invokevirtual 135, 3) := by decide +kernel
theorem dX11_wouldPeak_46 : decode cX11_wouldPeak 46 = .ok (.invokestatic 194, 3) := by decide +kernel
theorem dX11_wouldPeak_49 : decode cX11_wouldPeak 49 = .ok (.invokestatic 7, 3) := by decide +kernel
theorem dX11_wouldPeak_52 : decode cX11_wouldPeak 52 = .ok (.istore_n 3, 1) := by decide +kernel
theorem dX11_wouldPeak_53 : decode cX11_wouldPeak 53 = .ok (.iinc 4 1, 3) := by decide +kernel
theorem dX11_wouldPeak_56 : decode cX11_wouldPeak 56 = .ok (.goto (-21), 3) := by decide +kernel
theorem dX11_wouldPeak_59 : decode cX11_wouldPeak 59 = .ok (.iload_n 3, 1) := by decide +kernel
theorem dX11_wouldPeak_60 : decode cX11_wouldPeak 60 = .ok (.ireturn, 1) := by decide +kernel
set_option maxRecDepth 20000 in
theorem ggX11_silentIn_X11_isIn : GoodIn wsX11_silentIn wsX11_isIn := goodIn_r _ [6] (by decide +kernel) (by decide +kernel)
set_option maxRecDepth 20000 in
theorem gX11_silentIn_X11_isIn : GoodIn wsX11_silentIn (va_wsS RX11 35 yX11_isIn wsX11_isIn) := goodIn_app (goodIn_of _ (by decide +kernel)) ggX11_silentIn_X11_isIn
set_option maxRecDepth 20000 in
theorem ggX11_silentIn_X11_no : GoodIn wsX11_silentIn wsX11_no := goodIn_r _ [10, 1, 131, 132] (by decide +kernel) (by decide +kernel)
set_option maxRecDepth 20000 in
theorem gX11_silentIn_X11_no : GoodIn wsX11_silentIn (wsV RX11 39 RX11 yX11_no wsX11_no) := goodIn_app (goodIn_of _ (by decide +kernel)) ggX11_silentIn_X11_no
set_option maxRecDepth 20000 in
theorem ggX11_silentIn_X10_copy : GoodIn wsX11_silentIn wsX10_copy := goodIn_r _ [15, 16, 17, 14, 18, 19, 20, 21, 22, 23, 24, 25, 26, 27, 28, 29, 30, 31, 32, 33, 34, 35, 36, 37, 38, 39, 40, 41, 42, 43, 44, 45, 46, 47, 48, 49, 50, 51, 52, 53, 54, 55, 5, 56, 57, 58, 59, 60, 133, 134, 135, 136, 137, 138, 139, 140, 141, 142, 143, 144, 145, 146, 147, 148, 149, 150, 151, 152, 153, 154, 155, 156, 157, 158, 159, 160, 161, 162, 163, 164, 165, 166, 167] (by decide +kernel) (by decide +kernel)
set_option maxRecDepth 20000 in
theorem gX11_silentIn_X10_copy : GoodIn wsX11_silentIn (wsV RX11 190 RX10 yX10_copy wsX10_copy) := goodIn_app (goodIn_of _ (by decide +kernel)) ggX11_silentIn_X10_copy
set_option maxRecDepth 20000 in
theorem ggX11_silentIn_X10_sounding : GoodIn wsX11_silentIn wsX10_sounding := goodIn_r _ [64, 20, 133, 134, 135, 136, 137, 138, 139, 140, 141, 142, 143, 144, 145, 146, 147, 148, 149, 150, 151, 152, 153, 154, 155, 156, 157, 158, 159, 160, 161, 162, 163, 164, 165, 166, 167] (by decide +kernel) (by decide +kernel)
set_option maxRecDepth 20000 in
theorem gX11_silentIn_X10_sounding : GoodIn wsX11_silentIn (wsV RX11 97 RX10 yX10_sounding wsX10_sounding) := goodIn_app (goodIn_of _ (by decide +kernel)) ggX11_silentIn_X10_sounding
set_option maxRecDepth 20000 in
theorem ggX11_silentIn_X10_sample : GoodIn wsX11_silentIn wsX10_sample := goodIn_r _ [68, 37, 38, 31, 69, 58, 59, 60, 40, 70, 39, 71, 72, 34, 73, 74, 75, 76, 77, 78, 79, 80, 81, 82, 47, 29, 43, 45, 46, 44, 83, 84, 85, 14, 86, 41, 42, 33, 32, 87, 88, 89, 90, 20, 4, 5, 6, 91, 92, 93, 94, 36, 22, 23, 24, 25, 26, 27, 28, 30, 35, 95, 96, 97, 98, 21, 99, 100, 101, 102, 103, 104, 105, 106, 107, 108, 109, 110, 111, 112, 113, 114, 115, 19, 116, 117, 118, 119, 120, 121, 122, 123, 18, 124, 125, 126, 54, 127, 128, 129, 130, 133, 134, 135, 136, 137, 138, 139, 140, 141, 142, 143, 144, 145, 146, 147, 148, 149, 150, 151, 152, 153, 154, 155, 156, 157, 158, 159, 160, 161, 162, 163, 164, 165, 166, 167] (by decide +kernel) (by decide +kernel)
set_option maxRecDepth 20000 in
theorem gX11_silentIn_X10_sample : GoodIn wsX11_silentIn (wsV RX11 135 RX10 yX10_sample wsX10_sample) := goodIn_app (goodIn_of _ (by decide +kernel)) ggX11_silentIn_X10_sample
theorem dX11_silentIn_0 : decode cX11_silentIn 0 = .ok (.aload_n 0, 1) := by decide +kernel
theorem dX11_silentIn_1 : decode cX11_silentIn 1 = .ok (.iconst 0, 1) := by decide +kernel
theorem dX11_silentIn_2 : decode cX11_silentIn 2 = .ok (.putfield 31, 3) := by decide +kernel
theorem dX11_silentIn_5 : decode cX11_silentIn 5 = .ok (.iload_n 1, 1) := by decide +kernel
theorem dX11_silentIn_6 : decode cX11_silentIn 6 = .ok (.iconst 1, 1) := by decide +kernel
theorem dX11_silentIn_7 : decode cX11_silentIn 7 = .ok (.sipush 200, 3) := by decide +kernel
theorem dX11_silentIn_10 : decode cX11_silentIn 10 = .ok (.invokestatic 35, 3) := by decide +kernel
theorem dX11_silentIn_13 : decode cX11_silentIn 13 = .ok (.ifCond .ne 9, 3) := by decide +kernel
theorem dX11_silentIn_16 : decode cX11_silentIn 16 = .ok (.aload_n 0, 1) := by decide +kernel
theorem dX11_silentIn_17 : decode cX11_silentIn 17 = .ok (.iconst 1, 1) := by decide +kernel
theorem dX11_silentIn_18 : decode cX11_silentIn 18 = .ok (.invokevirtual 39, 3) := by decide +kernel
theorem dX11_silentIn_21 : decode cX11_silentIn 21 = .ok (.ireturn, 1) := by decide +kernel
theorem dX11_silentIn_22 : decode cX11_silentIn 22 = .ok (.aload_n 0, 1) := by decide +kernel
theorem dX11_silentIn_23 : decode cX11_silentIn 23 = .ok (.getfield 25, 3) := by decide +kernel
theorem dX11_silentIn_26 : decode cX11_silentIn 26 = .ok (.invokevirtual 190, 3) := by decide +kernel
theorem dX11_silentIn_29 : decode cX11_silentIn 29 = .ok (.astore_n 2, 1) := by decide +kernel
theorem dX11_silentIn_30 : decode cX11_silentIn 30 = .ok (.iconst 0, 1) := by decide +kernel
theorem dX11_silentIn_31 : decode cX11_silentIn 31 = .ok (.istore_n 3, 1) := by decide +kernel
theorem dX11_silentIn_32 : decode cX11_silentIn 32 = .ok (.iload_n 3, 1) := by decide +kernel
theorem dX11_silentIn_33 : decode cX11_silentIn 33 = .ok (.iload_n 1, 1) := by decide +kernel
theorem dX11_silentIn_34 : decode cX11_silentIn 34 = .ok (.if_icmp .gt 28, 3) := by decide +kernel
theorem dX11_silentIn_37 : decode cX11_silentIn 37 = .ok (.aload_n 2, 1) := by decide +kernel
theorem dX11_silentIn_38 : decode cX11_silentIn 38 = .ok (.invokevirtual 97, 3) := by decide +kernel
theorem dX11_silentIn_41 : decode cX11_silentIn 41 = .ok (.ifCond .ne 5, 3) := by decide +kernel
theorem dX11_silentIn_44 : decode cX11_silentIn 44 = .ok (.iload_n 3, 1) := by decide +kernel
theorem dX11_silentIn_45 : decode cX11_silentIn 45 = .ok (.ireturn, 1) := by decide +kernel
theorem dX11_silentIn_46 : decode cX11_silentIn 46 = .ok (.iload_n 3, 1) := by decide +kernel
theorem dX11_silentIn_47 : decode cX11_silentIn 47 = .ok (.iload_n 1, 1) := by decide +kernel
theorem dX11_silentIn_48 : decode cX11_silentIn 48 = .ok (.if_icmp .ge 8, 3) := by decide +kernel
theorem dX11_silentIn_51 : decode cX11_silentIn 51 = .ok (.aload_n 2, 1) := by decide +kernel
theorem dX11_silentIn_52 : decode cX11_silentIn 52 = .ok (.invokevirtual 135, 3) := by decide +kernel
theorem dX11_silentIn_55 : decode cX11_silentIn 55 = .ok (.pop, 1) := by decide +kernel
theorem dX11_silentIn_56 : decode cX11_silentIn 56 = .ok (.iinc 3 1, 3) := by decide +kernel
theorem dX11_silentIn_59 : decode cX11_silentIn 59 = .ok (.goto (-27), 3) := by decide +kernel
theorem dX11_silentIn_62 : decode cX11_silentIn 62 = .ok (.iconst (-1), 1) := by decide +kernel
theorem dX11_silentIn_63 : decode cX11_silentIn 63 = .ok (.ireturn, 1) := by decide +kernel
set_option maxRecDepth 20000 in
theorem ggX11_nextVoice_X10_nextVoice : GoodIn wsX11_nextVoice wsX10_nextVoice := goodIn_r _ [6, 7, 8, 9, 18, 19, 20, 21, 22, 23, 24, 25, 26, 27, 28, 29, 30, 31, 32, 33, 34, 35, 36, 37, 38, 39, 40, 41, 42, 43, 44, 45, 46, 47, 48, 49, 50, 51, 52] (by decide +kernel) (by decide +kernel)
set_option maxRecDepth 20000 in
theorem gX11_nextVoice_X10_nextVoice : GoodIn wsX11_nextVoice (wsV RX11 197 RX10 yX10_nextVoice wsX10_nextVoice) := goodIn_app (goodIn_of _ (by decide +kernel)) ggX11_nextVoice_X10_nextVoice
set_option maxRecDepth 20000 in
theorem ggX11_nextVoice_X11_ok : GoodIn wsX11_nextVoice wsX11_ok := goodIn_r _ [14, 15, 16, 17] (by decide +kernel) (by decide +kernel)
set_option maxRecDepth 20000 in
theorem gX11_nextVoice_X11_ok : GoodIn wsX11_nextVoice (wsV RX11 138 RX11 yX11_ok wsX11_ok) := goodIn_app (goodIn_of _ (by decide +kernel)) ggX11_nextVoice_X11_ok
theorem dX11_nextVoice_0 : decode cX11_nextVoice 0 = .ok (.aload_n 0, 1) := by decide +kernel
theorem dX11_nextVoice_1 : decode cX11_nextVoice 1 = .ok (.aload_n 0, 1) := by decide +kernel
theorem dX11_nextVoice_2 : decode cX11_nextVoice 2 = .ok (.getfield 25, 3) := by decide +kernel
theorem dX11_nextVoice_5 : decode cX11_nextVoice 5 = .ok (.invokevirtual 197, 3) := by decide +kernel
theorem dX11_nextVoice_8 : decode cX11_nextVoice 8 = .ok (.invokevirtual 138, 3) := by decide +kernel
theorem dX11_nextVoice_11 : decode cX11_nextVoice 11 = .ok (.ireturn, 1) := by decide +kernel
set_option maxRecDepth 20000 in
theorem ggX11_digest_X10_sounding : GoodIn wsX11_digest wsX10_sounding := goodIn_r _ [19, 20, 49, 50, 51, 52, 53, 54, 55, 56, 57, 58, 59, 60, 61, 62, 63, 64, 65, 66, 67, 68, 69, 70, 71, 72, 73, 74, 75, 76, 77, 78, 79, 80, 81, 82, 83] (by decide +kernel) (by decide +kernel)
set_option maxRecDepth 20000 in
theorem gX11_digest_X10_sounding : GoodIn wsX11_digest (wsV RX11 97 RX10 yX10_sounding wsX10_sounding) := goodIn_app (goodIn_of _ (by decide +kernel)) ggX11_digest_X10_sounding
set_option maxRecDepth 20000 in
theorem ggX11_digest_X11_stepNow : GoodIn wsX11_digest wsX11_stepNow := goodIn_r _ [25, 3, 11, 26, 47, 48, 49, 50, 51, 52, 53, 54, 55, 56, 57, 58, 59, 60, 61, 62, 63, 64, 65, 66, 67, 68, 69, 70, 71, 72, 73, 74, 75, 76, 77, 78, 79, 80, 81, 82, 83] (by decide +kernel) (by decide +kernel)
set_option maxRecDepth 20000 in
theorem gX11_digest_X11_stepNow : GoodIn wsX11_digest (wsV RX11 132 RX11 yX11_stepNow wsX11_stepNow) := goodIn_app (goodIn_of _ (by decide +kernel)) ggX11_digest_X11_stepNow
set_option maxRecDepth 20000 in
theorem ggX11_digest_X10_nextVoice : GoodIn wsX11_digest wsX10_nextVoice := goodIn_r _ [30, 20, 31, 32, 49, 50, 51, 52, 53, 54, 55, 56, 57, 58, 59, 60, 61, 62, 63, 64, 65, 66, 67, 68, 69, 70, 71, 72, 73, 74, 75, 76, 77, 78, 79, 80, 81, 82, 83] (by decide +kernel) (by decide +kernel)
set_option maxRecDepth 20000 in
theorem gX11_digest_X10_nextVoice : GoodIn wsX11_digest (wsV RX11 197 RX10 yX10_nextVoice wsX10_nextVoice) := goodIn_app (goodIn_of _ (by decide +kernel)) ggX11_digest_X10_nextVoice
set_option maxRecDepth 20000 in
theorem ggX11_digest_X11_voiceNow : GoodIn wsX11_digest wsX11_voiceNow := goodIn_r _ [36, 3, 37, 38, 39, 40, 41, 42, 43, 44, 45, 46, 47, 48, 49, 50, 51, 52, 53, 54, 55, 56, 57, 58, 59, 60, 61, 62, 63, 64, 65, 66, 67, 68, 69, 70, 71, 72, 73, 74, 75, 76, 77, 78, 79, 80, 81, 82, 83] (by decide +kernel) (by decide +kernel)
set_option maxRecDepth 20000 in
theorem gX11_digest_X11_voiceNow : GoodIn wsX11_digest (wsV RX11 184 RX11 yX11_voiceNow wsX11_voiceNow) := goodIn_app (goodIn_of _ (by decide +kernel)) ggX11_digest_X11_voiceNow
theorem dX11_digest_0 : decode cX11_digest 0 = .ok (.aload_n 0, 1) := by decide +kernel
theorem dX11_digest_1 : decode cX11_digest 1 = .ok (.iconst 0, 1) := by decide +kernel
theorem dX11_digest_2 : decode cX11_digest 2 = .ok (.putfield 31, 3) := by decide +kernel
theorem dX11_digest_5 : decode cX11_digest 5 = .ok (.ldc2_w 200, 3) := by decide +kernel
theorem dX11_digest_8 : decode cX11_digest 8 = .ok (.aload_n 0, 1) := by decide +kernel
theorem dX11_digest_9 : decode cX11_digest 9 = .ok (.getfield 25, 3) := by decide +kernel
theorem dX11_digest_12 : decode cX11_digest 12 = .ok (.getfield 144, 3) := by decide +kernel
theorem dX11_digest_15 : decode cX11_digest 15 = .ok (.i2l, 1) := by decide +kernel
theorem dX11_digest_16 : decode cX11_digest 16 = .ok (.ladd, 1) := by decide +kernel
theorem dX11_digest_17 : decode cX11_digest 17 = .ok (.lstore_n 1, 1) := by decide +kernel
theorem dX11_digest_18 : decode cX11_digest 18 = .ok (.iconst 0, 1) := by decide +kernel
theorem dX11_digest_19 : decode cX11_digest 19 = .ok (.istore_n 3, 1) := by decide +kernel
theorem dX11_digest_20 : decode cX11_digest 20 = .ok (.iload_n 3, 1) := by decide +kernel
theorem dX11_digest_21 : decode cX11_digest 21 = .ok (.bipush 8, 2) := by decide +kernel
theorem dX11_digest_23 : decode cX11_digest 23 = .ok (.if_icmp .ge 26, 3) := by decide +kernel
theorem dX11_digest_26 : decode cX11_digest 26 = .ok (.lload_n 1, 1) := by decide +kernel
theorem dX11_digest_27 : decode cX11_digest 27 = .ok (.ldc2_w 202, 3) := by decide +kernel
theorem dX11_digest_30 : decode cX11_digest 30 = .ok (.lmul, 1) := by decide +kernel
theorem dX11_digest_31 : decode cX11_digest 31 = .ok (.aload_n 0, 1) := by decide +kernel
theorem dX11_digest_32 : decode cX11_digest 32 = .ok (.getfield 25, 3) := by decide +kernel
theorem dX11_digest_35 : decode cX11_digest 35 = .ok (.getfield 141, 3) := by decide +kernel
theorem dX11_digest_38 : decode cX11_digest 38 = .ok (.iload_n 3, 1) := by decide +kernel
theorem dX11_digest_39 : decode cX11_digest 39 = .ok (.iaload, 1) := by decide +kernel
theorem dX11_digest_40 : decode cX11_digest 40 = .ok (.i2l, 1) := by decide +kernel
theorem dX11_digest_41 : decode cX11_digest 41 = .ok (.ladd, 1) := by decide +kernel
theorem dX11_digest_42 : decode cX11_digest 42 = .ok (.lstore_n 1, 1) := by decide +kernel
theorem dX11_digest_43 : decode cX11_digest 43 = .ok (.iinc 3 1, 3) := by decide +kernel
theorem dX11_digest_46 : decode cX11_digest 46 = .ok (.goto (-26), 3) := by decide +kernel
theorem dX11_digest_49 : decode cX11_digest 49 = .ok (.lload_n 1, 1) := by decide +kernel
theorem dX11_digest_50 : decode cX11_digest 50 = .ok (.ldc2_w 202, 3) := by decide +kernel
theorem dX11_digest_53 : decode cX11_digest 53 = .ok (.lmul, 1) := by decide +kernel
theorem dX11_digest_54 : decode cX11_digest 54 = .ok (.aload_n 0, 1) := by decide +kernel
theorem dX11_digest_55 : decode cX11_digest 55 = .ok (.getfield 25, 3) := by decide +kernel
theorem dX11_digest_58 : decode cX11_digest 58 = .ok (.getfield 147, 3) := by decide +kernel
theorem dX11_digest_61 : decode cX11_digest 61 = .ok (.i2l, 1) := by decide +kernel
theorem dX11_digest_62 : decode cX11_digest 62 = .ok (.ladd, 1) := by decide +kernel
theorem dX11_digest_63 : decode cX11_digest 63 = .ok (.ldc2_w 202, 3) := by decide +kernel
theorem dX11_digest_66 : decode cX11_digest 66 = .ok (.lmul, 1) := by decide +kernel
theorem dX11_digest_67 : decode cX11_digest 67 = .ok (.aload_n 0, 1) := by decide +kernel
theorem dX11_digest_68 : decode cX11_digest 68 = .ok (.getfield 25, 3) := by decide +kernel
theorem dX11_digest_71 : decode cX11_digest 71 = .ok (.getfield 157, 3) := by decide +kernel
theorem dX11_digest_74 : decode cX11_digest 74 = .ok (.i2l, 1) := by decide +kernel
theorem dX11_digest_75 : decode cX11_digest 75 = .ok (.ladd, 1) := by decide +kernel
theorem dX11_digest_76 : decode cX11_digest 76 = .ok (.ldc2_w 202, 3) := by decide +kernel
theorem dX11_digest_79 : decode cX11_digest 79 = .ok (.lmul, 1) := by decide +kernel
theorem dX11_digest_80 : decode cX11_digest 80 = .ok (.aload_n 0, 1) := by decide +kernel
theorem dX11_digest_81 : decode cX11_digest 81 = .ok (.getfield 25, 3) := by decide +kernel
theorem dX11_digest_84 : decode cX11_digest 84 = .ok (.getfield 160, 3) := by decide +kernel
theorem dX11_digest_87 : decode cX11_digest 87 = .ok (.i2l, 1) := by decide +kernel
theorem dX11_digest_88 : decode cX11_digest 88 = .ok (.ladd, 1) := by decide +kernel
theorem dX11_digest_89 : decode cX11_digest 89 = .ok (.ldc2_w 202, 3) := by decide +kernel
theorem dX11_digest_92 : decode cX11_digest 92 = .ok (.lmul, 1) := by decide +kernel
theorem dX11_digest_93 : decode cX11_digest 93 = .ok (.aload_n 0, 1) := by decide +kernel
theorem dX11_digest_94 : decode cX11_digest 94 = .ok (.getfield 25, 3) := by decide +kernel
theorem dX11_digest_97 : decode cX11_digest 97 = .ok (.invokevirtual 97, 3) := by decide +kernel
theorem dX11_digest_100 : decode cX11_digest 100 = .ok (.i2l, 1) := by decide +kernel
theorem dX11_digest_101 : decode cX11_digest 101 = .ok (.ladd, 1) := by decide +kernel
theorem dX11_digest_102 : decode cX11_digest 102 = .ok (.lstore_n 1, 1) := by decide +kernel
theorem dX11_digest_103 : decode cX11_digest 103 = .ok (.lload_n 1, 1) := by decide +kernel
theorem dX11_digest_104 : decode cX11_digest 104 = .ok (.ldc2_w 202, 3) := by decide +kernel
theorem dX11_digest_107 : decode cX11_digest 107 = .ok (.lmul, 1) := by decide +kernel
theorem dX11_digest_108 : decode cX11_digest 108 = .ok (.aload_n 0, 1) := by decide +kernel
theorem dX11_digest_109 : decode cX11_digest 109 = .ok (.getfield 25, 3) := by decide +kernel
theorem dX11_digest_112 : decode cX11_digest 112 = .ok (.getfield 187, 3) := by decide +kernel
theorem dX11_digest_115 : decode cX11_digest 115 = .ok (.i2l, 1) := by decide +kernel
theorem dX11_digest_116 : decode cX11_digest 116 = .ok (.ladd, 1) := by decide +kernel
theorem dX11_digest_117 : decode cX11_digest 117 = .ok (.ldc2_w 202, 3) := by decide +kernel
theorem dX11_digest_120 : decode cX11_digest 120 = .ok (.lmul, 1) := by decide +kernel
theorem dX11_digest_121 : decode cX11_digest 121 = .ok (.aload_n 0, 1) := by decide +kernel
theorem dX11_digest_122 : decode cX11_digest 122 = .ok (.getfield 25, 3) := by decide +kernel
theorem dX11_digest_125 : decode cX11_digest 125 = .ok (.getfield 122, 3) := by decide +kernel
theorem dX11_digest_128 : decode cX11_digest 128 = .ok (.ifCond .eq 7, 3) := by decide +kernel
theorem dX11_digest_131 : decode cX11_digest 131 = .ok (.iconst 1, 1) := by decide +kernel
theorem dX11_digest_132 : decode cX11_digest 132 = .ok (.goto 4, 3) := by decide +kernel
theorem dX11_digest_135 : decode cX11_digest 135 = .ok (.iconst 0, 1) := by decide +kernel
theorem dX11_digest_136 : decode cX11_digest 136 = .ok (.i2l, 1) := by decide +kernel
theorem dX11_digest_137 : decode cX11_digest 137 = .ok (.ladd, 1) := by decide +kernel
theorem dX11_digest_138 : decode cX11_digest 138 = .ok (.ldc2_w 202, 3) := by decide +kernel
theorem dX11_digest_141 : decode cX11_digest 141 = .ok (.lmul, 1) := by decide +kernel
theorem dX11_digest_142 : decode cX11_digest 142 = .ok (.aload_n 0, 1) := by decide +kernel
theorem dX11_digest_143 : decode cX11_digest 143 = .ok (.invokevirtual 132, 3) := by decide +kernel
theorem dX11_digest_146 : decode cX11_digest 146 = .ok (.i2l, 1) := by decide +kernel
theorem dX11_digest_147 : decode cX11_digest 147 = .ok (.ladd, 1) := by decide +kernel
theorem dX11_digest_148 : decode cX11_digest 148 = .ok (.ldc2_w 202, 3) := by decide +kernel
theorem dX11_digest_151 : decode cX11_digest 151 = .ok (.lmul, 1) := by decide +kernel
theorem dX11_digest_152 : decode cX11_digest 152 = .ok (.aload_n 0, 1) := by decide +kernel
theorem dX11_digest_153 : decode cX11_digest 153 = .ok (.getfield 25, 3) := by decide +kernel
theorem dX11_digest_156 : decode cX11_digest 156 = .ok (.invokevirtual 197, 3) := by decide +kernel
theorem dX11_digest_159 : decode cX11_digest 159 = .ok (.i2l, 1) := by decide +kernel
theorem dX11_digest_160 : decode cX11_digest 160 = .ok (.ladd, 1) := by decide +kernel
theorem dX11_digest_161 : decode cX11_digest 161 = .ok (.lstore_n 1, 1) := by decide +kernel
theorem dX11_digest_162 : decode cX11_digest 162 = .ok (.iconst 0, 1) := by decide +kernel
theorem dX11_digest_163 : decode cX11_digest 163 = .ok (.istore_n 3, 1) := by decide +kernel
theorem dX11_digest_164 : decode cX11_digest 164 = .ok (.iload_n 3, 1) := by decide +kernel
theorem dX11_digest_165 : decode cX11_digest 165 = .ok (.iconst 4, 1) := by decide +kernel
theorem dX11_digest_166 : decode cX11_digest 166 = .ok (.if_icmp .ge 40, 3) := by decide +kernel
theorem dX11_digest_169 : decode cX11_digest 169 = .ok (.iconst 0, 1) := by decide +kernel
theorem dX11_digest_170 : decode cX11_digest 170 = .ok (.istore 4, 2) := by decide +kernel
theorem dX11_digest_172 : decode cX11_digest 172 = .ok (.iload 4, 2) := by decide +kernel
theorem dX11_digest_174 : decode cX11_digest 174 = .ok (.bipush 10, 2) := by decide +kernel
theorem dX11_digest_176 : decode cX11_digest 176 = .ok (.if_icmp .ge 24, 3) := by decide +kernel
theorem dX11_digest_179 : decode cX11_digest 179 = .ok (.lload_n 1, 1) := by decide +kernel
theorem dX11_digest_180 : decode cX11_digest 180 = .ok (.ldc2_w 202, 3) := by decide +kernel
theorem dX11_digest_183 : decode cX11_digest 183 = .ok (.lmul, 1) := by decide +kernel
theorem dX11_digest_184 : decode cX11_digest 184 = .ok (.aload_n 0, 1) := by decide +kernel
theorem dX11_digest_185 : decode cX11_digest 185 = .ok (.iload_n 3, 1) := by decide +kernel
theorem dX11_digest_186 : decode cX11_digest 186 = .ok (.iload 4, 2) := by decide +kernel
theorem dX11_digest_188 : decode cX11_digest 188 = .ok (.invokevirtual 184, 3) := by decide +kernel
theorem dX11_digest_191 : decode cX11_digest 191 = .ok (.i2l, 1) := by decide +kernel
theorem dX11_digest_192 : decode cX11_digest 192 = .ok (.ladd, 1) := by decide +kernel
theorem dX11_digest_193 : decode cX11_digest 193 = .ok (.lstore_n 1, 1) := by decide +kernel
theorem dX11_digest_194 : decode cX11_digest 194 = .ok (.iinc 4 1, 3) := by decide +kernel
theorem dX11_digest_197 : decode cX11_digest 197 = .ok (.goto (-25), 3) := by decide +kernel
theorem dX11_digest_200 : decode cX11_digest 200 = .ok (.iinc 3 1, 3) := by decide +kernel
theorem dX11_digest_203 : decode cX11_digest 203 = .ok (.goto (-39), 3) := by decide +kernel
theorem dX11_digest_206 : decode cX11_digest 206 = .ok (.aload_n 0, 1) := by decide +kernel
theorem dX11_digest_207 : decode cX11_digest 207 = .ok (.getfield 25, 3) := by decide +kernel
theorem dX11_digest_210 : decode cX11_digest 210 = .ok (.getfield 110, 3) := by decide +kernel
theorem dX11_digest_213 : decode cX11_digest 213 = .ok (.astore_n 3, 1) := by decide +kernel
theorem dX11_digest_214 : decode cX11_digest 214 = .ok (.aload_n 3, 1) := by decide +kernel
theorem dX11_digest_215 : decode cX11_digest 215 = .ok (.arraylength, 1) := by decide +kernel
theorem dX11_digest_216 : decode cX11_digest 216 = .ok (.istore 4, 2) := by decide +kernel
theorem dX11_digest_218 : decode cX11_digest 218 = .ok (.iconst 0, 1) := by decide +kernel
theorem dX11_digest_219 : decode cX11_digest 219 = .ok (.istore 5, 2) := by decide +kernel
theorem dX11_digest_221 : decode cX11_digest 221 = .ok (.iload 5, 2) := by decide +kernel
theorem dX11_digest_223 : decode cX11_digest 223 = .ok (.iload 4, 2) := by decide +kernel
theorem dX11_digest_225 : decode cX11_digest 225 = .ok (.if_icmp .ge 25, 3) := by decide +kernel
theorem dX11_digest_228 : decode cX11_digest 228 = .ok (.aload_n 3, 1) := by decide +kernel
theorem dX11_digest_229 : decode cX11_digest 229 = .ok (.iload 5, 2) := by decide +kernel
theorem dX11_digest_231 : decode cX11_digest 231 = .ok (.iaload, 1) := by decide +kernel
theorem dX11_digest_232 : decode cX11_digest 232 = .ok (.istore 6, 2) := by decide +kernel
theorem dX11_digest_234 : decode cX11_digest 234 = .ok (.lload_n 1, 1) := by decide +kernel
theorem dX11_digest_235 : decode cX11_digest 235 = .ok (.ldc2_w 202, 3) := by decide +kernel
theorem dX11_digest_238 : decode cX11_digest 238 = .ok (.lmul, 1) := by decide +kernel
theorem dX11_digest_239 : decode cX11_digest 239 = .ok (.iload 6, 2) := by decide +kernel
theorem dX11_digest_241 : decode cX11_digest 241 = .ok (.i2l, 1) := by decide +kernel
theorem dX11_digest_242 : decode cX11_digest 242 = .ok (.ladd, 1) := by decide +kernel
theorem dX11_digest_243 : decode cX11_digest 243 = .ok (.lstore_n 1, 1) := by decide +kernel
theorem dX11_digest_244 : decode cX11_digest 244 = .ok (.iinc 5 1, 3) := by decide +kernel
theorem dX11_digest_247 : decode cX11_digest 247 = .ok (.goto (-26), 3) := by decide +kernel
theorem dX11_digest_250 : decode cX11_digest 250 = .ok (.iconst 0, 1) := by decide +kernel
theorem dX11_digest_251 : decode cX11_digest 251 = .ok (.istore_n 3, 1) := by decide +kernel
theorem dX11_digest_252 : decode cX11_digest 252 = .ok (.iload_n 3, 1) := by decide +kernel
theorem dX11_digest_253 : decode cX11_digest 253 = .ok (.aload_n 0, 1) := by decide +kernel
theorem dX11_digest_254 : decode cX11_digest 254 = .ok (.getfield 25, 3) := by decide +kernel
theorem dX11_digest_257 : decode cX11_digest 257 = .ok (.getfield 71, 3) := by decide +kernel
theorem dX11_digest_260 : decode cX11_digest 260 = .ok (.if_icmp .ge 26, 3) := by decide +kernel
theorem dX11_digest_263 : decode cX11_digest 263 = .ok (.lload_n 1, 1) := by decide +kernel
theorem dX11_digest_264 : decode cX11_digest 264 = .ok (.ldc2_w 202, 3) := by decide +kernel
theorem dX11_digest_267 : decode cX11_digest 267 = .ok (.lmul, 1) := by decide +kernel
theorem dX11_digest_268 : decode cX11_digest 268 = .ok (.aload_n 0, 1) := by decide +kernel
theorem dX11_digest_269 : decode cX11_digest 269 = .ok (.getfield 25, 3) := by decide +kernel
theorem dX11_digest_272 : decode cX11_digest 272 = .ok (.getfield 80, 3) := by decide +kernel
theorem dX11_digest_275 : decode cX11_digest 275 = .ok (.iload_n 3, 1) := by decide +kernel
theorem dX11_digest_276 : decode cX11_digest 276 = .ok (.iaload, 1) := by decide +kernel
theorem dX11_digest_277 : decode cX11_digest 277 = .ok (.i2l, 1) := by decide +kernel
theorem dX11_digest_278 : decode cX11_digest 278 = .ok (.ladd, 1) := by decide +kernel
theorem dX11_digest_279 : decode cX11_digest 279 = .ok (.lstore_n 1, 1) := by decide +kernel
theorem dX11_digest_280 : decode cX11_digest 280 = .ok (.iinc 3 1, 3) := by decide +kernel
theorem dX11_digest_283 : decode cX11_digest 283 = .ok (.goto (-31), 3) := by decide +kernel
theorem dX11_digest_286 : decode cX11_digest 286 = .ok (.lload_n 1, 1) := by decide +kernel
theorem dX11_digest_287 : decode cX11_digest 287 = .ok (.lreturn, 1) := by decide +kernel
