set_option maxRecDepth 20000 in
theorem ggX10_init_X9_init : GoodIn wsX10_init wsX9_init := goodIn_r _ [24, 25, 2, 3, 26, 27, 28, 29, 30, 31, 32, 33, 34, 35, 36, 37, 38, 39, 40, 41, 42, 43, 44, 45, 46, 47, 48, 49, 50, 51, 52, 53, 54, 55, 56, 57, 58, 59, 60, 61, 62, 63, 64, 65, 66, 67, 68, 69, 70, 71, 72, 73, 8, 74, 75, 76, 77, 78, 79, 80, 81, 82, 83, 84, 85, 86, 87, 88, 89, 90, 91, 92, 93, 94, 95, 96, 97, 98, 99, 100, 101, 102, 103, 104, 105, 106, 107, 108, 109, 110, 111, 112, 113, 114, 115, 116, 117, 118, 119, 120, 121, 122, 123, 124, 125, 126, 127, 128, 129, 130, 131, 132, 133, 134, 135, 136, 163, 164, 165, 166, 167, 168, 169, 137, 138, 139, 140, 170, 171, 172, 173, 174, 175, 176, 177, 178, 179, 180, 181, 182, 183, 184, 185, 186, 187, 188, 189, 190, 191, 192, 193, 194, 195, 196, 197, 198, 199, 200, 201, 202, 203, 204, 205, 206, 207, 208, 209, 210, 211, 212, 213, 214, 215, 216, 217, 218, 219, 220, 221, 222, 223, 224, 225] (by decide +kernel) (by decide +kernel)
set_option maxRecDepth 20000 in
theorem gX10_init_X9_init : GoodIn wsX10_init (wsX9_init) := ggX10_init_X9_init
theorem dX10_init_0 : decode cX10_init 0 = .ok (.aload_n 0, 1) := by decide +kernel
theorem dX10_init_1 : decode cX10_init 1 = .ok (.invokespecial 1, 3) := by decide +kernel
theorem dX10_init_4 : decode cX10_init 4 = .ok (.aload_n 0, 1) := by decide +kernel
theorem dX10_init_5 : decode cX10_init 5 = .ok (.new 7, 3) := by decide +kernel
theorem dX10_init_8 : decode cX10_init 8 = .ok (.dup, 1) := by decide +kernel
theorem dX10_init_9 : decode cX10_init 9 = .ok (.invokespecial 9, 3) := by decide +kernel
theorem dX10_init_12 : decode cX10_init 12 = .ok (.putfield 10, 3) := by decide +kernel
theorem dX10_init_15 : decode cX10_init 15 = .ok (.aload_n 0, 1) := by decide +kernel
theorem dX10_init_16 : decode cX10_init 16 = .ok (.bipush 32, 2) := by decide +kernel
theorem dX10_init_18 : decode cX10_init 18 = .ok (.newarray .int, 2) := by decide +kernel
theorem dX10_init_20 : decode cX10_init 20 = .ok (.putfield 16, 3) := by decide +kernel
theorem dX10_init_23 : decode cX10_init 23 = .ok (.aload_n 0, 1) := by decide +kernel
theorem dX10_init_24 : decode cX10_init 24 = .ok (.iconst 4, 1) := by decide +kernel
theorem dX10_init_25 : decode cX10_init 25 = .ok (.anewarray 20, 3) := by decide +kernel
theorem dX10_init_28 : decode cX10_init 28 = .ok (.putfield 21, 3) := by decide +kernel
theorem dX10_init_31 : decode cX10_init 31 = .ok (.aload_n 0, 1) := by decide +kernel
theorem dX10_init_32 : decode cX10_init 32 = .ok (.iconst 4, 1) := by decide +kernel
theorem dX10_init_33 : decode cX10_init 33 = .ok (.anewarray 20, 3) := by decide +kernel
theorem dX10_init_36 : decode cX10_init 36 = .ok (.putfield 25, 3) := by decide +kernel
theorem dX10_init_39 : decode cX10_init 39 = .ok (.aload_n 0, 1) := by decide +kernel
theorem dX10_init_40 : decode cX10_init 40 = .ok (.bipush 64, 2) := by decide +kernel
theorem dX10_init_42 : decode cX10_init 42 = .ok (.putfield 28, 3) := by decide +kernel
theorem dX10_init_45 : decode cX10_init 45 = .ok (.aload_n 0, 1) := by decide +kernel
theorem dX10_init_46 : decode cX10_init 46 = .ok (.iconst 0, 1) := by decide +kernel
theorem dX10_init_47 : decode cX10_init 47 = .ok (.newarray .int, 2) := by decide +kernel
theorem dX10_init_49 : decode cX10_init 49 = .ok (.putfield 32, 3) := by decide +kernel
theorem dX10_init_52 : decode cX10_init 52 = .ok (.aload_n 0, 1) := by decide +kernel
theorem dX10_init_53 : decode cX10_init 53 = .ok (.iconst 3, 1) := by decide +kernel
theorem dX10_init_54 : decode cX10_init 54 = .ok (.newarray .int, 2) := by decide +kernel
theorem dX10_init_56 : decode cX10_init 56 = .ok (.putfield 35, 3) := by decide +kernel
theorem dX10_init_59 : decode cX10_init 59 = .ok (.aload_n 0, 1) := by decide +kernel
theorem dX10_init_60 : decode cX10_init 60 = .ok (.iconst 3, 1) := by decide +kernel
theorem dX10_init_61 : decode cX10_init 61 = .ok (.bipush 8, 2) := by decide +kernel
theorem dX10_init_63 : decode cX10_init 63 = .ok (.multianewarray 38 2, 4) := by decide +kernel
theorem dX10_init_67 : decode cX10_init 67 = .ok (.putfield 40, 3) := by decide +kernel
theorem dX10_init_70 : decode cX10_init 70 = .ok (.aload_n 0, 1) := by decide +kernel
theorem dX10_init_71 : decode cX10_init 71 = .ok (.bipush 20, 2) := by decide +kernel
theorem dX10_init_73 : decode cX10_init 73 = .ok (.putfield 43, 3) := by decide +kernel
theorem dX10_init_76 : decode cX10_init 76 = .ok (.aload_n 0, 1) := by decide +kernel
theorem dX10_init_77 : decode cX10_init 77 = .ok (.iconst (-1), 1) := by decide +kernel
theorem dX10_init_78 : decode cX10_init 78 = .ok (.putfield 46, 3) := by decide +kernel
theorem dX10_init_81 : decode cX10_init 81 = .ok (.aload_n 0, 1) := by decide +kernel
theorem dX10_init_82 : decode cX10_init 82 = .ok (.iconst 0, 1) := by decide +kernel
theorem dX10_init_83 : decode cX10_init 83 = .ok (.newarray .int, 2) := by decide +kernel
theorem dX10_init_85 : decode cX10_init 85 = .ok (.putfield 49, 3) := by decide +kernel
theorem dX10_init_88 : decode cX10_init 88 = .ok (.aload_n 0, 1) := by decide +kernel
theorem dX10_init_89 : decode cX10_init 89 = .ok (.aload_n 1, 1) := by decide +kernel
theorem dX10_init_90 : decode cX10_init 90 = .ok (.putfield 52, 3) := by decide +kernel
theorem dX10_init_93 : decode cX10_init 93 = .ok (.aload_n 0, 1) := by decide +kernel
theorem dX10_init_94 : decode cX10_init 94 = .ok (.iload_n 2, 1) := by decide +kernel
theorem dX10_init_95 : decode cX10_init 95 = .ok (.putfield 55, 3) := by decide +kernel
theorem dX10_init_98 : decode cX10_init 98 = .ok (.iconst 0, 1) := by decide +kernel
theorem dX10_init_99 : decode cX10_init 99 = .ok (.istore_n 3, 1) := by decide +kernel
theorem dX10_init_100 : decode cX10_init 100 = .ok (.iload_n 3, 1) := by decide +kernel
theorem dX10_init_101 : decode cX10_init 101 = .ok (.iconst 4, 1) := by decide +kernel
theorem dX10_init_102 : decode cX10_init 102 = .ok (.if_icmp .ge 150, 3) := by decide +kernel
theorem dX10_init_105 : decode cX10_init 105 = .ok (.bipush 12, 2) := by decide +kernel
theorem dX10_init_107 : decode cX10_init 107 = .ok (.newarray .int, 2) := by decide +kernel
theorem dX10_init_109 : decode cX10_init 109 = .ok (.dup, 1) := by decide +kernel
theorem dX10_init_110 : decode cX10_init 110 = .ok (.iconst 0, 1) := by decide +kernel
theorem dX10_init_111 : decode cX10_init 111 = .ok (.iconst 0, 1) := by decide +kernel
theorem dX10_init_112 : decode cX10_init 112 = .ok (.iastore, 1) := by decide +kernel
theorem dX10_init_113 : decode cX10_init 113 = .ok (.dup, 1) := by decide +kernel
theorem dX10_init_114 : decode cX10_init 114 = .ok (.iconst 1, 1) := by decide +kernel
theorem dX10_init_115 : decode cX10_init 115 = .ok (.iconst 0, 1) := by decide +kernel
theorem dX10_init_116 : decode cX10_init 116 = .ok (.iastore, 1) := by decide +kernel
theorem dX10_init_117 : decode cX10_init 117 = .ok (.dup, 1) := by decide +kernel
theorem dX10_init_118 : decode cX10_init 118 = .ok (.iconst 2, 1) := by decide +kernel
theorem dX10_init_119 : decode cX10_init 119 = .ok (.iconst 0, 1) := by decide +kernel
theorem dX10_init_120 : decode cX10_init 120 = .ok (.iastore, 1) := by decide +kernel
theorem dX10_init_121 : decode cX10_init 121 = .ok (.dup, 1) := by decide +kernel
theorem dX10_init_122 : decode cX10_init 122 = .ok (.iconst 3, 1) := by decide +kernel
theorem dX10_init_123 : decode cX10_init 123 = .ok (.iconst 0, 1) := by decide +kernel
theorem dX10_init_124 : decode cX10_init 124 = .ok (.iastore, 1) := by decide +kernel
theorem dX10_init_125 : decode cX10_init 125 = .ok (.dup, 1) := by decide +kernel
theorem dX10_init_126 : decode cX10_init 126 = .ok (.iconst 4, 1) := by decide +kernel
theorem dX10_init_127 : decode cX10_init 127 = .ok (.bipush 10, 2) := by decide +kernel
theorem dX10_init_129 : decode cX10_init 129 = .ok (.iastore, 1) := by decide +kernel
theorem dX10_init_130 : decode cX10_init 130 = .ok (.dup, 1) := by decide +kernel
theorem dX10_init_131 : decode cX10_init 131 = .ok (.iconst 5, 1) := by decide +kernel
theorem dX10_init_132 : decode cX10_init 132 = .ok (.bipush 10, 2) := by decide +kernel
theorem dX10_init_134 : decode cX10_init 134 = .ok (.iastore, 1) := by decide +kernel
theorem dX10_init_135 : decode cX10_init 135 = .ok (.dup, 1) := by decide +kernel
theorem dX10_init_136 : decode cX10_init 136 = .ok (.bipush 6, 2) := by decide +kernel
theorem dX10_init_138 : decode cX10_init 138 = .ok (.sipush 1000, 3) := by decide +kernel
theorem dX10_init_141 : decode cX10_init 141 = .ok (.iastore, 1) := by decide +kernel
theorem dX10_init_142 : decode cX10_init 142 = .ok (.dup, 1) := by decide +kernel
theorem dX10_init_143 : decode cX10_init 143 = .ok (.bipush 7, 2) := by decide +kernel
theorem dX10_init_145 : decode cX10_init 145 = .ok (.bipush 10, 2) := by decide +kernel
theorem dX10_init_147 : decode cX10_init 147 = .ok (.iastore, 1) := by decide +kernel
theorem dX10_init_148 : decode cX10_init 148 = .ok (.dup, 1) := by decide +kernel
theorem dX10_init_149 : decode cX10_init 149 = .ok (.bipush 8, 2) := by decide +kernel
theorem dX10_init_151 : decode cX10_init 151 = .ok (.sipush 128, 3) := by decide +kernel
theorem dX10_init_154 : decode cX10_init 154 = .ok (.iastore, 1) := by decide +kernel
theorem dX10_init_155 : decode cX10_init 155 = .ok (.dup, 1) := by decide +kernel
theorem dX10_init_156 : decode cX10_init 156 = .ok (.bipush 9, 2) := by decide +kernel
theorem dX10_init_158 : decode cX10_init 158 = .ok (.sipush 256, 3) := by decide +kernel
theorem dX10_init_161 : decode cX10_init 161 = .ok (.iastore, 1) := by decide +kernel
theorem dX10_init_162 : decode cX10_init 162 = .ok (.dup, 1) := by decide +kernel
theorem dX10_init_163 : decode cX10_init 163 = .ok (.bipush 10, 2) := by decide +kernel
theorem dX10_init_165 : decode cX10_init 165 = .ok (.iconst 0, 1) := by decide +kernel
theorem dX10_init_166 : decode cX10_init 166 = .ok (.iastore, 1) := by decide +kernel
theorem dX10_init_167 : decode cX10_init 167 = .ok (.dup, 1) := by decide +kernel
theorem dX10_init_168 : decode cX10_init 168 = .ok (.bipush 11, 2) := by decide +kernel
theorem dX10_init_170 : decode cX10_init 170 = .ok (.bipush 64, 2) := by decide +kernel
theorem dX10_init_172 : decode cX10_init 172 = .ok (.iastore, 1) := by decide +kernel
theorem dX10_init_173 : decode cX10_init 173 = .ok (.astore 4, 2) := by decide +kernel
theorem dX10_init_175 : decode cX10_init 175 = .ok (.bipush 11, 2) := by decide +kernel
theorem dX10_init_177 : decode cX10_init 177 = .ok (.newarray .int, 2) := by decide +kernel
theorem dX10_init_179 : decode cX10_init 179 = .ok (.dup, 1) := by decide +kernel
theorem dX10_init_180 : decode cX10_init 180 = .ok (.iconst 0, 1) := by decide +kernel
theorem dX10_init_181 : decode cX10_init 181 = .ok (.iconst 0, 1) := by decide +kernel
theorem dX10_init_182 : decode cX10_init 182 = .ok (.iastore, 1) := by decide +kernel
theorem dX10_init_183 : decode cX10_init 183 = .ok (.dup, 1) := by decide +kernel
theorem dX10_init_184 : decode cX10_init 184 = .ok (.iconst 1, 1) := by decide +kernel
theorem dX10_init_185 : decode cX10_init 185 = .ok (.iconst 0, 1) := by decide +kernel
theorem dX10_init_186 : decode cX10_init 186 = .ok (.iastore, 1) := by decide +kernel
theorem dX10_init_187 : decode cX10_init 187 = .ok (.dup, 1) := by decide +kernel
theorem dX10_init_188 : decode cX10_init 188 = .ok (.iconst 2, 1) := by decide +kernel
theorem dX10_init_189 : decode cX10_init 189 = .ok (.iconst 0, 1) := by decide +kernel
theorem dX10_init_190 : decode cX10_init 190 = .ok (.iastore, 1) := by decide +kernel
theorem dX10_init_191 : decode cX10_init 191 = .ok (.dup, 1) := by decide +kernel
theorem dX10_init_192 : decode cX10_init 192 = .ok (.iconst 3, 1) := by decide +kernel
theorem dX10_init_193 : decode cX10_init 193 = .ok (.iconst 0, 1) := by decide +kernel
theorem dX10_init_194 : decode cX10_init 194 = .ok (.iastore, 1) := by decide +kernel
theorem dX10_init_195 : decode cX10_init 195 = .ok (.dup, 1) := by decide +kernel
theorem dX10_init_196 : decode cX10_init 196 = .ok (.iconst 4, 1) := by decide +kernel
theorem dX10_init_197 : decode cX10_init 197 = .ok (.iconst 0, 1) := by decide +kernel
theorem dX10_init_198 : decode cX10_init 198 = .ok (.iastore, 1) := by decide +kernel
theorem dX10_init_199 : decode cX10_init 199 = .ok (.dup, 1) := by decide +kernel
theorem dX10_init_200 : decode cX10_init 200 = .ok (.iconst 5, 1) := by decide +kernel
theorem dX10_init_201 : decode cX10_init 201 = .ok (.iconst 0, 1) := by decide +kernel
theorem dX10_init_202 : decode cX10_init 202 = .ok (.iastore, 1) := by decide +kernel
theorem dX10_init_203 : decode cX10_init 203 = .ok (.dup, 1) := by decide +kernel
theorem dX10_init_204 : decode cX10_init 204 = .ok (.bipush 6, 2) := by decide +kernel
theorem dX10_init_206 : decode cX10_init 206 = .ok (.iconst 0, 1) := by decide +kernel
theorem dX10_init_207 : decode cX10_init 207 = .ok (.iastore, 1) := by decide +kernel
theorem dX10_init_208 : decode cX10_init 208 = .ok (.dup, 1) := by decide +kernel
theorem dX10_init_209 : decode cX10_init 209 = .ok (.bipush 7, 2) := by decide +kernel
theorem dX10_init_211 : decode cX10_init 211 = .ok (.iconst 0, 1) := by decide +kernel
theorem dX10_init_212 : decode cX10_init 212 = .ok (.iastore, 1) := by decide +kernel
theorem dX10_init_213 : decode cX10_init 213 = .ok (.dup, 1) := by decide +kernel
theorem dX10_init_214 : decode cX10_init 214 = .ok (.bipush 8, 2) := by decide +kernel
theorem dX10_init_216 : decode cX10_init 216 = .ok (.iconst 0, 1) := by decide +kernel
theorem dX10_init_217 : decode cX10_init 217 = .ok (.iastore, 1) := by decide +kernel
theorem dX10_init_218 : decode cX10_init 218 = .ok (.dup, 1) := by decide +kernel
theorem dX10_init_219 : decode cX10_init 219 = .ok (.bipush 9, 2) := by decide +kernel
theorem dX10_init_221 : decode cX10_init 221 = .ok (.iconst (-1), 1) := by decide +kernel
theorem dX10_init_222 : decode cX10_init 222 = .ok (.iastore, 1) := by decide +kernel
theorem dX10_init_223 : decode cX10_init 223 = .ok (.dup, 1) := by decide +kernel
theorem dX10_init_224 : decode cX10_init 224 = .ok (.bipush 10, 2) := by decide +kernel
theorem dX10_init_226 : decode cX10_init 226 = .ok (.iconst (-1), 1) := by decide +kernel
theorem dX10_init_227 : decode cX10_init 227 = .ok (.iastore, 1) := by decide +kernel
theorem dX10_init_228 : decode cX10_init 228 = .ok (.astore 5, 2) := by decide +kernel
theorem dX10_init_230 : decode cX10_init 230 = .ok (.aload_n 0, 1) := by decide +kernel
theorem dX10_init_231 : decode cX10_init 231 = .ok (.getfield 21, 3) := by decide +kernel
theorem dX10_init_234 : decode cX10_init 234 = .ok (.iload_n 3, 1) := by decide +kernel
theorem dX10_init_235 : decode cX10_init 235 = .ok (.aload 4, 2) := by decide +kernel
theorem dX10_init_237 : decode cX10_init 237 = .ok (.aastore, 1) := by decide +kernel
theorem dX10_init_238 : decode cX10_init 238 = .ok (.aload_n 0, 1) := by decide +kernel
theorem dX10_init_239 : decode cX10_init 239 = .ok (.getfield 25, 3) := by decide +kernel
theorem dX10_init_242 : decode cX10_init 242 = .ok (.iload_n 3, 1) := by decide +kernel
theorem dX10_init_243 : decode cX10_init 243 = .ok (.aload 5, 2) := by decide +kernel
theorem dX10_init_245 : decode cX10_init 245 = .ok (.aastore, 1) := by decide +kernel
theorem dX10_init_246 : decode cX10_init 246 = .ok (.iinc 3 1, 3) := by decide +kernel
theorem dX10_init_249 : decode cX10_init 249 = .ok (.goto (-149), 3) := by decide +kernel
theorem dX10_init_252 : decode cX10_init 252 = .ok (.return_, 1) := by decide +kernel
set_option maxRecDepth 20000 in
theorem ggX10_draw_L_cell : GoodIn wsX10_draw wsL_cell := goodIn_r _ [5, 6] (by decide +kernel) (by decide +kernel)
set_option maxRecDepth 20000 in
theorem gX10_draw_L_cell_n58 : GoodIn wsX10_draw (wsL_cell) := ggX10_draw_L_cell
set_option maxRecDepth 20000 in
theorem ggX10_draw_L_below : GoodIn wsX10_draw wsL_below := goodIn_r _ [8, 9] (by decide +kernel) (by decide +kernel)
set_option maxRecDepth 20000 in
theorem gX10_draw_L_below_n64 : GoodIn wsX10_draw (wsL_below) := ggX10_draw_L_below
theorem dX10_draw_0 : decode cX10_draw 0 = .ok (.aload_n 0, 1) := by decide +kernel
theorem dX10_draw_1 : decode cX10_draw 1 = .ok (.getfield 52, 3) := by decide +kernel
theorem dX10_draw_4 : decode cX10_draw 4 = .ok (.aload_n 0, 1) := by decide +kernel
theorem dX10_draw_5 : decode cX10_draw 5 = .ok (.getfield 55, 3) := by decide +kernel
theorem dX10_draw_8 : decode cX10_draw 8 = .ok (.bipush 24, 2) := by decide +kernel
theorem dX10_draw_10 : decode cX10_draw 10 = .ok (.irem, 1) := by decide +kernel
theorem dX10_draw_11 : decode cX10_draw 11 = .ok (.invokestatic 58, 3) := by decide +kernel
theorem dX10_draw_14 : decode cX10_draw 14 = .ok (.aload_n 0, 1) := by decide +kernel
theorem dX10_draw_15 : decode cX10_draw 15 = .ok (.getfield 55, 3) := by decide +kernel
theorem dX10_draw_18 : decode cX10_draw 18 = .ok (.bipush 24, 2) := by decide +kernel
theorem dX10_draw_20 : decode cX10_draw 20 = .ok (.idiv, 1) := by decide +kernel
theorem dX10_draw_21 : decode cX10_draw 21 = .ok (.bipush 8, 2) := by decide +kernel
theorem dX10_draw_23 : decode cX10_draw 23 = .ok (.irem, 1) := by decide +kernel
theorem dX10_draw_24 : decode cX10_draw 24 = .ok (.ishr, 1) := by decide +kernel
theorem dX10_draw_25 : decode cX10_draw 25 = .ok (.bipush 83, 2) := by decide +kernel
theorem dX10_draw_27 : decode cX10_draw 27 = .ok (.aload_n 0, 1) := by decide +kernel
theorem dX10_draw_28 : decode cX10_draw 28 = .ok (.getfield 55, 3) := by decide +kernel
theorem dX10_draw_31 : decode cX10_draw 31 = .ok (.imul, 1) := by decide +kernel
theorem dX10_draw_32 : decode cX10_draw 32 = .ok (.iadd, 1) := by decide +kernel
theorem dX10_draw_33 : decode cX10_draw 33 = .ok (.iload_n 1, 1) := by decide +kernel
theorem dX10_draw_34 : decode cX10_draw 34 = .ok (.invokestatic 64, 3) := by decide +kernel
theorem dX10_draw_37 : decode cX10_draw 37 = .ok (.istore_n 2, 1) := by decide +kernel
theorem dX10_draw_38 : decode cX10_draw 38 = .ok (.aload_n 0, 1) := by decide +kernel
theorem dX10_draw_39 : decode cX10_draw 39 = .ok (.dup, 1) := by decide +kernel
theorem dX10_draw_40 : decode cX10_draw 40 = .ok (.getfield 55, 3) := by decide +kernel
theorem dX10_draw_43 : decode cX10_draw 43 = .ok (.iconst 1, 1) := by decide +kernel
theorem dX10_draw_44 : decode cX10_draw 44 = .ok (.iadd, 1) := by decide +kernel
theorem dX10_draw_45 : decode cX10_draw 45 = .ok (.putfield 55, 3) := by decide +kernel
theorem dX10_draw_48 : decode cX10_draw 48 = .ok (.iload_n 2, 1) := by decide +kernel
theorem dX10_draw_49 : decode cX10_draw 49 = .ok (.ireturn, 1) := by decide +kernel
set_option maxRecDepth 20000 in
theorem ggX10_set_X10_draw : GoodIn wsX10_set wsX10_draw := goodIn_r _ [9, 10, 11, 12, 13, 14, 15, 16, 17, 18, 94, 95, 96, 97, 98, 99, 100, 101, 102, 103, 104, 105, 106, 107, 108, 109, 110, 111, 112, 113, 114, 115] (by decide +kernel) (by decide +kernel)
set_option maxRecDepth 20000 in
theorem gX10_set_X10_draw : GoodIn wsX10_set (wsV RX10 68 RX10 yX10_draw wsX10_draw) := goodIn_app (goodIn_of _ (by decide +kernel)) ggX10_set_X10_draw
set_option maxRecDepth 20000 in
theorem ggX10_set_X9_setWaves : GoodIn wsX10_set wsX9_setWaves := goodIn_ca (goodIn_ca (goodIn_r _ [23, 24, 25, 26, 27, 28, 29, 30, 22, 31, 32, 33, 34, 35, 36, 37, 38, 39, 40, 41, 42, 43, 44, 45, 46, 47, 116, 117, 118, 119, 120, 121, 122, 123, 124, 125, 126, 127, 128, 129, 130, 131, 132, 133, 134, 135, 136, 137, 138] (by decide +kernel) (by decide +kernel)) (goodIn_sub (fun _ h => List.mem_cons_of_mem _ (List.mem_append_left _ (List.mem_append_right _ h))) (by decide +kernel))) (goodIn_sub (fun _ h => List.mem_cons_of_mem _ (List.mem_append_right _ h)) (by decide +kernel))
set_option maxRecDepth 20000 in
theorem gX10_set_X9_setWaves : GoodIn wsX10_set (wsV RX10 72 RX9 yX9_setWaves wsX9_setWaves) := goodIn_app (goodIn_of _ (by decide +kernel)) ggX10_set_X9_setWaves
set_option maxRecDepth 20000 in
theorem ggX10_set_X9_setEnvelope : GoodIn wsX10_set wsX9_setEnvelope := goodIn_ca (goodIn_ca (goodIn_r _ [51, 24, 52, 53, 54, 55, 29, 30, 22, 31, 32, 33, 34, 35, 36, 37, 38, 39, 40, 41, 42, 43, 44, 45, 46, 47, 116, 117, 118, 119, 120, 121, 122, 123, 124, 125, 126, 127, 128, 129, 130, 131, 132, 133, 134, 135, 136, 137, 138] (by decide +kernel) (by decide +kernel)) (goodIn_sub (fun _ h => List.mem_cons_of_mem _ (List.mem_append_left _ (List.mem_append_right _ h))) (by decide +kernel))) (goodIn_sub (fun _ h => List.mem_cons_of_mem _ (List.mem_append_right _ h)) (by decide +kernel))
set_option maxRecDepth 20000 in
theorem gX10_set_X9_setEnvelope : GoodIn wsX10_set (wsV RX10 76 RX9 yX9_setEnvelope wsX9_setEnvelope) := goodIn_app (goodIn_of _ (by decide +kernel)) ggX10_set_X9_setEnvelope
set_option maxRecDepth 20000 in
theorem ggX10_set_X9_setFilter : GoodIn wsX10_set wsX9_setFilter := goodIn_ca (goodIn_ca (goodIn_r _ [59, 24, 60, 61, 29, 30, 22, 31, 32, 33, 34, 35, 36, 37, 38, 39, 40, 41, 42, 43, 44, 45, 46, 47, 116, 117, 118, 119, 120, 121, 122, 123, 124, 125, 126, 127, 128, 129, 130, 131, 132, 133, 134, 135, 136, 137, 138] (by decide +kernel) (by decide +kernel)) (goodIn_sub (fun _ h => List.mem_cons_of_mem _ (List.mem_append_left _ (List.mem_append_right _ h))) (by decide +kernel))) (goodIn_sub (fun _ h => List.mem_cons_of_mem _ (List.mem_append_right _ h)) (by decide +kernel))
set_option maxRecDepth 20000 in
theorem gX10_set_X9_setFilter : GoodIn wsX10_set (wsV RX10 79 RX9 yX9_setFilter wsX9_setFilter) := goodIn_app (goodIn_of _ (by decide +kernel)) ggX10_set_X9_setFilter
set_option maxRecDepth 20000 in
theorem ggX10_set_X9_setVibrato : GoodIn wsX10_set wsX9_setVibrato := goodIn_ca (goodIn_ca (goodIn_r _ [65, 24, 66, 67, 29, 30, 22, 31, 32, 33, 34, 35, 36, 37, 38, 39, 40, 41, 42, 43, 44, 45, 46, 47, 116, 117, 118, 119, 120, 121, 122, 123, 124, 125, 126, 127, 128, 129, 130, 131, 132, 133, 134, 135, 136, 137, 138] (by decide +kernel) (by decide +kernel)) (goodIn_sub (fun _ h => List.mem_cons_of_mem _ (List.mem_append_left _ (List.mem_append_right _ h))) (by decide +kernel))) (goodIn_sub (fun _ h => List.mem_cons_of_mem _ (List.mem_append_right _ h)) (by decide +kernel))
set_option maxRecDepth 20000 in
theorem gX10_set_X9_setVibrato : GoodIn wsX10_set (wsV RX10 83 RX9 yX9_setVibrato wsX9_setVibrato) := goodIn_app (goodIn_of _ (by decide +kernel)) ggX10_set_X9_setVibrato
set_option maxRecDepth 20000 in
theorem ggX10_set_X9_draw : GoodIn wsX10_set wsX9_draw := goodIn_ca (goodIn_ca (goodIn_r _ [71, 24, 72, 29, 30, 22, 31, 32, 33, 34, 35, 36, 37, 38, 73, 74, 75, 76, 77, 78, 79, 80, 81, 82, 83, 84, 85, 86, 87, 88, 116, 117, 118, 119, 132, 133, 134, 135, 136, 137, 138, 139, 140] (by decide +kernel) (by decide +kernel)) (goodIn_sub (fun _ h => List.mem_cons_of_mem _ (List.mem_append_left _ (List.mem_append_right _ h))) (by decide +kernel))) (goodIn_sub (fun _ h => List.mem_cons_of_mem _ (List.mem_append_right _ h)) (by decide +kernel))
set_option maxRecDepth 20000 in
theorem gX10_set_X9_draw : GoodIn wsX10_set (wsV RX10 86 RX9 yX9_draw wsX9_draw) := goodIn_app (goodIn_of _ (by decide +kernel)) ggX10_set_X9_draw
set_option maxRecDepth 20000 in
theorem ggX10_set_X9_setGain : GoodIn wsX10_set wsX9_setGain := goodIn_ca (goodIn_r _ [92, 24, 93, 34, 35, 22, 36, 37, 38, 116, 117, 118, 119, 132, 133, 134, 135, 136, 137, 138] (by decide +kernel) (by decide +kernel)) (goodIn_sub (fun _ h => List.mem_cons_of_mem _ (List.mem_append_right _ h)) (by decide +kernel))
set_option maxRecDepth 20000 in
theorem gX10_set_X9_setGain : GoodIn wsX10_set (wsV RX10 88 RX9 yX9_setGain wsX9_setGain) := goodIn_app (goodIn_of _ (by decide +kernel)) ggX10_set_X9_setGain
theorem dX10_set_0 : decode cX10_set 0 = .ok (.aload_n 0, 1) := by decide +kernel
theorem dX10_set_1 : decode cX10_set 1 = .ok (.iconst 4, 1) := by decide +kernel
theorem dX10_set_2 : decode cX10_set 2 = .ok (.invokevirtual 68, 3) := by decide +kernel
theorem dX10_set_5 : decode cX10_set 5 = .ok (.istore_n 1, 1) := by decide +kernel
theorem dX10_set_6 : decode cX10_set 6 = .ok (.aload_n 0, 1) := by decide +kernel
theorem dX10_set_7 : decode cX10_set 7 = .ok (.getfield 21, 3) := by decide +kernel
theorem dX10_set_10 : decode cX10_set 10 = .ok (.iload_n 1, 1) := by decide +kernel
theorem dX10_set_11 : decode cX10_set 11 = .ok (.aaload, 1) := by decide +kernel
theorem dX10_set_12 : decode cX10_set 12 = .ok (.astore_n 2, 1) := by decide +kernel
theorem dX10_set_13 : decode cX10_set 13 = .ok (.aload_n 0, 1) := by decide +kernel
theorem dX10_set_14 : decode cX10_set 14 = .ok (.bipush 6, 2) := by decide +kernel
theorem dX10_set_16 : decode cX10_set 16 = .ok (.invokevirtual 68, 3) := by decide +kernel
theorem dX10_set_19 : decode cX10_set 19 = .ok (.tableswitch 391 0 4 #[33, 117, 213, 273, 329], 33) := by decide +kernel
theorem dX10_set_52 : decode cX10_set 52 = .ok (.aload_n 2, 1) := by decide +kernel
theorem dX10_set_53 : decode cX10_set 53 = .ok (.iconst 3, 1) := by decide +kernel
theorem dX10_set_54 : decode cX10_set 54 = .ok (.iaload, 1) := by decide +kernel
theorem dX10_set_55 : decode cX10_set 55 = .ok (.istore_n 3, 1) := by decide +kernel
theorem dX10_set_56 : decode cX10_set 56 = .ok (.aload_n 2, 1) := by decide +kernel
theorem dX10_set_57 : decode cX10_set 57 = .ok (.iconst 0, 1) := by decide +kernel
theorem dX10_set_58 : decode cX10_set 58 = .ok (.aload_n 0, 1) := by decide +kernel
theorem dX10_set_59 : decode cX10_set 59 = .ok (.iconst 4, 1) := by decide +kernel
theorem dX10_set_60 : decode cX10_set 60 = .ok (.invokevirtual 68, 3) := by decide +kernel
theorem dX10_set_63 : decode cX10_set 63 = .ok (.iastore, 1) := by decide +kernel
theorem dX10_set_64 : decode cX10_set 64 = .ok (.aload_n 2, 1) := by decide +kernel
theorem dX10_set_65 : decode cX10_set 65 = .ok (.iconst 1, 1) := by decide +kernel
theorem dX10_set_66 : decode cX10_set 66 = .ok (.aload_n 0, 1) := by decide +kernel
theorem dX10_set_67 : decode cX10_set 67 = .ok (.iconst 4, 1) := by decide +kernel
theorem dX10_set_68 : decode cX10_set 68 = .ok (.invokevirtual 68, 3) := by decide +kernel
theorem dX10_set_71 : decode cX10_set 71 = .ok (.iastore, 1) := by decide +kernel
theorem dX10_set_72 : decode cX10_set 72 = .ok (.aload_n 2, 1) := by decide +kernel
theorem dX10_set_73 : decode cX10_set 73 = .ok (.iconst 2, 1) := by decide +kernel
theorem dX10_set_74 : decode cX10_set 74 = .ok (.aload_n 0, 1) := by decide +kernel
theorem dX10_set_75 : decode cX10_set 75 = .ok (.sipush 129, 3) := by decide +kernel
theorem dX10_set_78 : decode cX10_set 78 = .ok (.invokevirtual 68, 3) := by decide +kernel
theorem dX10_set_81 : decode cX10_set 81 = .ok (.bipush 64, 2) := by decide +kernel
theorem dX10_set_83 : decode cX10_set 83 = .ok (.isub, 1) := by decide +kernel
theorem dX10_set_84 : decode cX10_set 84 = .ok (.iastore, 1) := by decide +kernel
theorem dX10_set_85 : decode cX10_set 85 = .ok (.aload_n 2, 1) := by decide +kernel
theorem dX10_set_86 : decode cX10_set 86 = .ok (.iconst 3, 1) := by decide +kernel
theorem dX10_set_87 : decode cX10_set 87 = .ok (.aload_n 0, 1) := by decide +kernel
theorem dX10_set_88 : decode cX10_set 88 = .ok (.iconst 3, 1) := by decide +kernel
theorem dX10_set_89 : decode cX10_set 89 = .ok (.invokevirtual 68, 3) := by decide +kernel
theorem dX10_set_92 : decode cX10_set 92 = .ok (.ifCond .ne 7, 3) := by decide +kernel
theorem dX10_set_95 : decode cX10_set 95 = .ok (.iconst 0, 1) := by decide +kernel
theorem dX10_set_96 : decode cX10_set 96 = .ok (.goto 9, 3) := by decide +kernel
theorem dX10_set_99 : decode cX10_set 99 = .ok (.aload_n 0, 1) := by decide +kernel
theorem dX10_set_100 : decode cX10_set 100 = .ok (.bipush 101, 2) := by decide +kernel
theorem dX10_set_102 : decode cX10_set 102 = .ok (.invokevirtual 68, 3) := by decide +kernel
theorem dX10_set_105 : decode cX10_set 105 = .ok (.iastore, 1) := by decide +kernel
theorem dX10_set_106 : decode cX10_set 106 = .ok (.aload_n 0, 1) := by decide +kernel
theorem dX10_set_107 : decode cX10_set 107 = .ok (.getfield 10, 3) := by decide +kernel
theorem dX10_set_110 : decode cX10_set 110 = .ok (.iload_n 1, 1) := by decide +kernel
theorem dX10_set_111 : decode cX10_set 111 = .ok (.aload_n 2, 1) := by decide +kernel
theorem dX10_set_112 : decode cX10_set 112 = .ok (.iconst 0, 1) := by decide +kernel
theorem dX10_set_113 : decode cX10_set 113 = .ok (.iaload, 1) := by decide +kernel
theorem dX10_set_114 : decode cX10_set 114 = .ok (.aload_n 2, 1) := by decide +kernel
theorem dX10_set_115 : decode cX10_set 115 = .ok (.iconst 1, 1) := by decide +kernel
theorem dX10_set_116 : decode cX10_set 116 = .ok (.iaload, 1) := by decide +kernel
theorem dX10_set_117 : decode cX10_set 117 = .ok (.aload_n 2, 1) := by decide +kernel
theorem dX10_set_118 : decode cX10_set 118 = .ok (.iconst 2, 1) := by decide +kernel
theorem dX10_set_119 : decode cX10_set 119 = .ok (.iaload, 1) := by decide +kernel
theorem dX10_set_120 : decode cX10_set 120 = .ok (.aload_n 2, 1) := by decide +kernel
theorem dX10_set_121 : decode cX10_set 121 = .ok (.iconst 3, 1) := by decide +kernel
theorem dX10_set_122 : decode cX10_set 122 = .ok (.iaload, 1) := by decide +kernel
theorem dX10_set_123 : decode cX10_set 123 = .ok (.invokevirtual 72, 3) := by decide +kernel
theorem dX10_set_126 : decode cX10_set 126 = .ok (.iload_n 3, 1) := by decide +kernel
theorem dX10_set_127 : decode cX10_set 127 = .ok (.if_icmp .ne 7, 3) := by decide +kernel
theorem dX10_set_130 : decode cX10_set 130 = .ok (.iconst 1, 1) := by decide +kernel
theorem dX10_set_131 : decode cX10_set 131 = .ok (.goto 4, 3) := by decide +kernel
theorem dX10_set_134 : decode cX10_set 134 = .ok (.iconst 0, 1) := by decide +kernel
theorem dX10_set_135 : decode cX10_set 135 = .ok (.ireturn, 1) := by decide +kernel
theorem dX10_set_136 : decode cX10_set 136 = .ok (.aload_n 2, 1) := by decide +kernel
theorem dX10_set_137 : decode cX10_set 137 = .ok (.bipush 6, 2) := by decide +kernel
theorem dX10_set_139 : decode cX10_set 139 = .ok (.iaload, 1) := by decide +kernel
theorem dX10_set_140 : decode cX10_set 140 = .ok (.istore 4, 2) := by decide +kernel
theorem dX10_set_142 : decode cX10_set 142 = .ok (.aload_n 2, 1) := by decide +kernel
theorem dX10_set_143 : decode cX10_set 143 = .ok (.iconst 4, 1) := by decide +kernel
theorem dX10_set_144 : decode cX10_set 144 = .ok (.iconst 1, 1) := by decide +kernel
theorem dX10_set_145 : decode cX10_set 145 = .ok (.aload_n 0, 1) := by decide +kernel
theorem dX10_set_146 : decode cX10_set 146 = .ok (.aload_n 0, 1) := by decide +kernel
theorem dX10_set_147 : decode cX10_set 147 = .ok (.iconst 2, 1) := by decide +kernel
theorem dX10_set_148 : decode cX10_set 148 = .ok (.invokevirtual 68, 3) := by decide +kernel
theorem dX10_set_151 : decode cX10_set 151 = .ok (.ifCond .ne 7, 3) := by decide +kernel
theorem dX10_set_154 : decode cX10_set 154 = .ok (.iconst 4, 1) := by decide +kernel
theorem dX10_set_155 : decode cX10_set 155 = .ok (.goto 5, 3) := by decide +kernel
theorem dX10_set_158 : decode cX10_set 158 = .ok (.bipush 30, 2) := by decide +kernel
theorem dX10_set_160 : decode cX10_set 160 = .ok (.invokevirtual 68, 3) := by decide +kernel
theorem dX10_set_163 : decode cX10_set 163 = .ok (.iadd, 1) := by decide +kernel
theorem dX10_set_164 : decode cX10_set 164 = .ok (.iastore, 1) := by decide +kernel
theorem dX10_set_165 : decode cX10_set 165 = .ok (.aload_n 2, 1) := by decide +kernel
theorem dX10_set_166 : decode cX10_set 166 = .ok (.iconst 5, 1) := by decide +kernel
theorem dX10_set_167 : decode cX10_set 167 = .ok (.iconst 1, 1) := by decide +kernel
theorem dX10_set_168 : decode cX10_set 168 = .ok (.aload_n 0, 1) := by decide +kernel
theorem dX10_set_169 : decode cX10_set 169 = .ok (.bipush 20, 2) := by decide +kernel
theorem dX10_set_171 : decode cX10_set 171 = .ok (.invokevirtual 68, 3) := by decide +kernel
theorem dX10_set_174 : decode cX10_set 174 = .ok (.iadd, 1) := by decide +kernel
theorem dX10_set_175 : decode cX10_set 175 = .ok (.iastore, 1) := by decide +kernel
theorem dX10_set_176 : decode cX10_set 176 = .ok (.aload_n 2, 1) := by decide +kernel
theorem dX10_set_177 : decode cX10_set 177 = .ok (.bipush 6, 2) := by decide +kernel
theorem dX10_set_179 : decode cX10_set 179 = .ok (.aload_n 0, 1) := by decide +kernel
theorem dX10_set_180 : decode cX10_set 180 = .ok (.sipush 1001, 3) := by decide +kernel
theorem dX10_set_183 : decode cX10_set 183 = .ok (.invokevirtual 68, 3) := by decide +kernel
theorem dX10_set_186 : decode cX10_set 186 = .ok (.iastore, 1) := by decide +kernel
theorem dX10_set_187 : decode cX10_set 187 = .ok (.aload_n 2, 1) := by decide +kernel
theorem dX10_set_188 : decode cX10_set 188 = .ok (.bipush 7, 2) := by decide +kernel
theorem dX10_set_190 : decode cX10_set 190 = .ok (.iconst 1, 1) := by decide +kernel
theorem dX10_set_191 : decode cX10_set 191 = .ok (.aload_n 0, 1) := by decide +kernel
theorem dX10_set_192 : decode cX10_set 192 = .ok (.bipush 30, 2) := by decide +kernel
theorem dX10_set_194 : decode cX10_set 194 = .ok (.invokevirtual 68, 3) := by decide +kernel
theorem dX10_set_197 : decode cX10_set 197 = .ok (.iadd, 1) := by decide +kernel
theorem dX10_set_198 : decode cX10_set 198 = .ok (.iastore, 1) := by decide +kernel
theorem dX10_set_199 : decode cX10_set 199 = .ok (.aload_n 0, 1) := by decide +kernel
theorem dX10_set_200 : decode cX10_set 200 = .ok (.getfield 10, 3) := by decide +kernel
theorem dX10_set_203 : decode cX10_set 203 = .ok (.iload_n 1, 1) := by decide +kernel
theorem dX10_set_204 : decode cX10_set 204 = .ok (.aload_n 2, 1) := by decide +kernel
theorem dX10_set_205 : decode cX10_set 205 = .ok (.iconst 4, 1) := by decide +kernel
theorem dX10_set_206 : decode cX10_set 206 = .ok (.iaload, 1) := by decide +kernel
theorem dX10_set_207 : decode cX10_set 207 = .ok (.aload_n 2, 1) := by decide +kernel
theorem dX10_set_208 : decode cX10_set 208 = .ok (.iconst 5, 1) := by decide +kernel
theorem dX10_set_209 : decode cX10_set 209 = .ok (.iaload, 1) := by decide +kernel
theorem dX10_set_210 : decode cX10_set 210 = .ok (.aload_n 2, 1) := by decide +kernel
theorem dX10_set_211 : decode cX10_set 211 = .ok (.bipush 6, 2) := by decide +kernel
theorem dX10_set_213 : decode cX10_set 213 = .ok (.iaload, 1) := by decide +kernel
theorem dX10_set_214 : decode cX10_set 214 = .ok (.aload_n 2, 1) := by decide +kernel
theorem dX10_set_215 : decode cX10_set 215 = .ok (.bipush 7, 2) := by decide +kernel
theorem dX10_set_217 : decode cX10_set 217 = .ok (.iaload, 1) := by decide +kernel
theorem dX10_set_218 : decode cX10_set 218 = .ok (.invokevirtual 76, 3) := by decide +kernel
theorem dX10_set_221 : decode cX10_set 221 = .ok (.iload 4, 2) := by decide +kernel
theorem dX10_set_223 : decode cX10_set 223 = .ok (.if_icmp .ne 7, 3) := by decide +kernel
theorem dX10_set_226 : decode cX10_set 226 = .ok (.iconst 1, 1) := by decide +kernel
theorem dX10_set_227 : decode cX10_set 227 = .ok (.goto 4, 3) := by decide +kernel
theorem dX10_set_230 : decode cX10_set 230 = .ok (.iconst 0, 1) := by decide +kernel
theorem dX10_set_231 : decode cX10_set 231 = .ok (.ireturn, 1) := by decide +kernel
theorem dX10_set_232 : decode cX10_set 232 = .ok (.aload_n 2, 1) := by decide +kernel
theorem dX10_set_233 : decode cX10_set 233 = .ok (.bipush 8, 2) := by decide +kernel
theorem dX10_set_235 : decode cX10_set 235 = .ok (.iaload, 1) := by decide +kernel
theorem dX10_set_236 : decode cX10_set 236 = .ok (.istore 5, 2) := by decide +kernel
theorem dX10_set_238 : decode cX10_set 238 = .ok (.aload_n 2, 1) := by decide +kernel
theorem dX10_set_239 : decode cX10_set 239 = .ok (.bipush 8, 2) := by decide +kernel
theorem dX10_set_241 : decode cX10_set 241 = .ok (.iconst 1, 1) := by decide +kernel
theorem dX10_set_242 : decode cX10_set 242 = .ok (.aload_n 0, 1) := by decide +kernel
theorem dX10_set_243 : decode cX10_set 243 = .ok (.sipush 128, 3) := by decide +kernel
theorem dX10_set_246 : decode cX10_set 246 = .ok (.invokevirtual 68, 3) := by decide +kernel
theorem dX10_set_249 : decode cX10_set 249 = .ok (.iadd, 1) := by decide +kernel
theorem dX10_set_250 : decode cX10_set 250 = .ok (.iastore, 1) := by decide +kernel
theorem dX10_set_251 : decode cX10_set 251 = .ok (.aload_n 2, 1) := by decide +kernel
theorem dX10_set_252 : decode cX10_set 252 = .ok (.bipush 9, 2) := by decide +kernel
theorem dX10_set_254 : decode cX10_set 254 = .ok (.bipush 16, 2) := by decide +kernel
theorem dX10_set_256 : decode cX10_set 256 = .ok (.aload_n 0, 1) := by decide +kernel
theorem dX10_set_257 : decode cX10_set 257 = .ok (.sipush 241, 3) := by decide +kernel
theorem dX10_set_260 : decode cX10_set 260 = .ok (.invokevirtual 68, 3) := by decide +kernel
theorem dX10_set_263 : decode cX10_set 263 = .ok (.iadd, 1) := by decide +kernel
theorem dX10_set_264 : decode cX10_set 264 = .ok (.iastore, 1) := by decide +kernel
theorem dX10_set_265 : decode cX10_set 265 = .ok (.aload_n 0, 1) := by decide +kernel
theorem dX10_set_266 : decode cX10_set 266 = .ok (.getfield 10, 3) := by decide +kernel
theorem dX10_set_269 : decode cX10_set 269 = .ok (.iload_n 1, 1) := by decide +kernel
theorem dX10_set_270 : decode cX10_set 270 = .ok (.aload_n 2, 1) := by decide +kernel
theorem dX10_set_271 : decode cX10_set 271 = .ok (.bipush 8, 2) := by decide +kernel
theorem dX10_set_273 : decode cX10_set 273 = .ok (.iaload, 1) := by decide +kernel
theorem dX10_set_274 : decode cX10_set 274 = .ok (.aload_n 2, 1) := by decide +kernel
theorem dX10_set_275 : decode cX10_set 275 = .ok (.bipush 9, 2) := by decide +kernel
theorem dX10_set_277 : decode cX10_set 277 = .ok (.iaload, 1) := by decide +kernel
theorem dX10_set_278 : decode cX10_set 278 = .ok (.invokevirtual 79, 3) := by decide +kernel
theorem dX10_set_281 : decode cX10_set 281 = .ok (.iload 5, 2) := by decide +kernel
theorem dX10_set_283 : decode cX10_set 283 = .ok (.if_icmp .ne 7, 3) := by decide +kernel
theorem dX10_set_286 : decode cX10_set 286 = .ok (.iconst 1, 1) := by decide +kernel
theorem dX10_set_287 : decode cX10_set 287 = .ok (.goto 4, 3) := by decide +kernel
theorem dX10_set_290 : decode cX10_set 290 = .ok (.iconst 0, 1) := by decide +kernel
theorem dX10_set_291 : decode cX10_set 291 = .ok (.ireturn, 1) := by decide +kernel
theorem dX10_set_292 : decode cX10_set 292 = .ok (.aload_n 2, 1) := by decide +kernel
theorem dX10_set_293 : decode cX10_set 293 = .ok (.bipush 10, 2) := by decide +kernel
theorem dX10_set_295 : decode cX10_set 295 = .ok (.iaload, 1) := by decide +kernel
theorem dX10_set_296 : decode cX10_set 296 = .ok (.istore 6, 2) := by decide +kernel
theorem dX10_set_298 : decode cX10_set 298 = .ok (.aload_n 2, 1) := by decide +kernel
theorem dX10_set_299 : decode cX10_set 299 = .ok (.bipush 10, 2) := by decide +kernel
theorem dX10_set_301 : decode cX10_set 301 = .ok (.aload_n 0, 1) := by decide +kernel
theorem dX10_set_302 : decode cX10_set 302 = .ok (.bipush 65, 2) := by decide +kernel
theorem dX10_set_304 : decode cX10_set 304 = .ok (.invokevirtual 68, 3) := by decide +kernel
theorem dX10_set_307 : decode cX10_set 307 = .ok (.iastore, 1) := by decide +kernel
theorem dX10_set_308 : decode cX10_set 308 = .ok (.aload_n 2, 1) := by decide +kernel
theorem dX10_set_309 : decode cX10_set 309 = .ok (.bipush 11, 2) := by decide +kernel
theorem dX10_set_311 : decode cX10_set 311 = .ok (.bipush 8, 2) := by decide +kernel
theorem dX10_set_313 : decode cX10_set 313 = .ok (.aload_n 0, 1) := by decide +kernel
theorem dX10_set_314 : decode cX10_set 314 = .ok (.bipush 60, 2) := by decide +kernel
theorem dX10_set_316 : decode cX10_set 316 = .ok (.invokevirtual 68, 3) := by decide +kernel
theorem dX10_set_319 : decode cX10_set 319 = .ok (.iadd, 1) := by decide +kernel
theorem dX10_set_320 : decode cX10_set 320 = .ok (.iastore, 1) := by decide +kernel
theorem dX10_set_321 : decode cX10_set 321 = .ok (.aload_n 0, 1) := by decide +kernel
theorem dX10_set_322 : decode cX10_set 322 = .ok (.getfield 10, 3) := by decide +kernel
theorem dX10_set_325 : decode cX10_set 325 = .ok (.iload_n 1, 1) := by decide +kernel
theorem dX10_set_326 : decode cX10_set 326 = .ok (.aload_n 2, 1) := by decide +kernel
theorem dX10_set_327 : decode cX10_set 327 = .ok (.bipush 10, 2) := by decide +kernel
theorem dX10_set_329 : decode cX10_set 329 = .ok (.iaload, 1) := by decide +kernel
theorem dX10_set_330 : decode cX10_set 330 = .ok (.aload_n 2, 1) := by decide +kernel
theorem dX10_set_331 : decode cX10_set 331 = .ok (.bipush 11, 2) := by decide +kernel
theorem dX10_set_333 : decode cX10_set 333 = .ok (.iaload, 1) := by decide +kernel
theorem dX10_set_334 : decode cX10_set 334 = .ok (.invokevirtual 83, 3) := by decide +kernel
theorem dX10_set_337 : decode cX10_set 337 = .ok (.iload 6, 2) := by decide +kernel
theorem dX10_set_339 : decode cX10_set 339 = .ok (.if_icmp .ne 7, 3) := by decide +kernel
theorem dX10_set_342 : decode cX10_set 342 = .ok (.iconst 1, 1) := by decide +kernel
theorem dX10_set_343 : decode cX10_set 343 = .ok (.goto 4, 3) := by decide +kernel
theorem dX10_set_346 : decode cX10_set 346 = .ok (.iconst 0, 1) := by decide +kernel
theorem dX10_set_347 : decode cX10_set 347 = .ok (.ireturn, 1) := by decide +kernel
theorem dX10_set_348 : decode cX10_set 348 = .ok (.aload_n 0, 1) := by decide +kernel
theorem dX10_set_349 : decode cX10_set 349 = .ok (.bipush 32, 2) := by decide +kernel
theorem dX10_set_351 : decode cX10_set 351 = .ok (.invokevirtual 68, 3) := by decide +kernel
theorem dX10_set_354 : decode cX10_set 354 = .ok (.istore 7, 2) := by decide +kernel
theorem dX10_set_356 : decode cX10_set 356 = .ok (.aload_n 0, 1) := by decide +kernel
theorem dX10_set_357 : decode cX10_set 357 = .ok (.getfield 16, 3) := by decide +kernel
theorem dX10_set_360 : decode cX10_set 360 = .ok (.iload 7, 2) := by decide +kernel
theorem dX10_set_362 : decode cX10_set 362 = .ok (.iaload, 1) := by decide +kernel
theorem dX10_set_363 : decode cX10_set 363 = .ok (.istore 8, 2) := by decide +kernel
theorem dX10_set_365 : decode cX10_set 365 = .ok (.aload_n 0, 1) := by decide +kernel
theorem dX10_set_366 : decode cX10_set 366 = .ok (.getfield 16, 3) := by decide +kernel
theorem dX10_set_369 : decode cX10_set 369 = .ok (.iload 7, 2) := by decide +kernel
theorem dX10_set_371 : decode cX10_set 371 = .ok (.aload_n 0, 1) := by decide +kernel
theorem dX10_set_372 : decode cX10_set 372 = .ok (.sipush 2001, 3) := by decide +kernel
theorem dX10_set_375 : decode cX10_set 375 = .ok (.invokevirtual 68, 3) := by decide +kernel
theorem dX10_set_378 : decode cX10_set 378 = .ok (.sipush 1000, 3) := by decide +kernel
theorem dX10_set_381 : decode cX10_set 381 = .ok (.isub, 1) := by decide +kernel
theorem dX10_set_382 : decode cX10_set 382 = .ok (.iastore, 1) := by decide +kernel
theorem dX10_set_383 : decode cX10_set 383 = .ok (.aload_n 0, 1) := by decide +kernel
theorem dX10_set_384 : decode cX10_set 384 = .ok (.getfield 10, 3) := by decide +kernel
theorem dX10_set_387 : decode cX10_set 387 = .ok (.iload 7, 2) := by decide +kernel
theorem dX10_set_389 : decode cX10_set 389 = .ok (.aload_n 0, 1) := by decide +kernel
theorem dX10_set_390 : decode cX10_set 390 = .ok (.getfield 16, 3) := by decide +kernel
theorem dX10_set_393 : decode cX10_set 393 = .ok (.iload 7, 2) := by decide +kernel
theorem dX10_set_395 : decode cX10_set 395 = .ok (.iaload, 1) := by decide +kernel
theorem dX10_set_396 : decode cX10_set 396 = .ok (.invokevirtual 86, 3) := by decide +kernel
theorem dX10_set_399 : decode cX10_set 399 = .ok (.iload 8, 2) := by decide +kernel
theorem dX10_set_401 : decode cX10_set 401 = .ok (.if_icmp .ne 7, 3) := by decide +kernel
theorem dX10_set_404 : decode cX10_set 404 = .ok (.iconst 1, 1) := by decide +kernel
theorem dX10_set_405 : decode cX10_set 405 = .ok (.goto 4, 3) := by decide +kernel
theorem dX10_set_408 : decode cX10_set 408 = .ok (.iconst 0, 1) := by decide +kernel
theorem dX10_set_409 : decode cX10_set 409 = .ok (.ireturn, 1) := by decide +kernel
theorem dX10_set_410 : decode cX10_set 410 = .ok (.aload_n 0, 1) := by decide +kernel
theorem dX10_set_411 : decode cX10_set 411 = .ok (.getfield 28, 3) := by decide +kernel
theorem dX10_set_414 : decode cX10_set 414 = .ok (.istore 9, 2) := by decide +kernel
theorem dX10_set_416 : decode cX10_set 416 = .ok (.aload_n 0, 1) := by decide +kernel
theorem dX10_set_417 : decode cX10_set 417 = .ok (.aload_n 0, 1) := by decide +kernel
theorem dX10_set_418 : decode cX10_set 418 = .ok (.sipush 257, 3) := by decide +kernel
theorem dX10_set_421 : decode cX10_set 421 = .ok (.invokevirtual 68, 3) := by decide +kernel
theorem dX10_set_424 : decode cX10_set 424 = .ok (.putfield 28, 3) := by decide +kernel
theorem dX10_set_427 : decode cX10_set 427 = .ok (.aload_n 0, 1) := by decide +kernel
theorem dX10_set_428 : decode cX10_set 428 = .ok (.getfield 10, 3) := by decide +kernel
theorem dX10_set_431 : decode cX10_set 431 = .ok (.aload_n 0, 1) := by decide +kernel
theorem dX10_set_432 : decode cX10_set 432 = .ok (.getfield 28, 3) := by decide +kernel
theorem dX10_set_435 : decode cX10_set 435 = .ok (.invokevirtual 88, 3) := by decide +kernel
theorem dX10_set_438 : decode cX10_set 438 = .ok (.iload 9, 2) := by decide +kernel
theorem dX10_set_440 : decode cX10_set 440 = .ok (.if_icmp .ne 7, 3) := by decide +kernel
theorem dX10_set_443 : decode cX10_set 443 = .ok (.iconst 1, 1) := by decide +kernel
theorem dX10_set_444 : decode cX10_set 444 = .ok (.goto 4, 3) := by decide +kernel
theorem dX10_set_447 : decode cX10_set 447 = .ok (.iconst 0, 1) := by decide +kernel
theorem dX10_set_448 : decode cX10_set 448 = .ok (.ireturn, 1) := by decide +kernel
set_option maxRecDepth 20000 in
theorem ggX10_setDelay_X10_draw : GoodIn wsX10_setDelay wsX10_draw := goodIn_r _ [10, 11, 12, 13, 14, 15, 16, 17, 18, 19, 49, 50, 51, 52, 53, 54, 55, 56, 57, 58, 59, 60, 61, 62, 63, 64, 65, 66, 67, 68, 69, 70] (by decide +kernel) (by decide +kernel)
set_option maxRecDepth 20000 in
theorem gX10_setDelay_X10_draw : GoodIn wsX10_setDelay (wsV RX10 68 RX10 yX10_draw wsX10_draw) := goodIn_app (goodIn_of _ (by decide +kernel)) ggX10_setDelay_X10_draw
set_option maxRecDepth 20000 in
theorem ggX10_setDelay_X9_setDelay : GoodIn wsX10_setDelay wsX9_setDelay := goodIn_ca (goodIn_r _ [24, 25, 26, 27, 28, 29, 23, 30, 31, 32, 33, 34, 35, 36, 37, 38, 39, 40, 41, 42, 43, 44, 45, 46, 47, 48, 71, 72, 73, 74, 75, 76, 77, 78, 79, 80, 81, 82, 83, 84, 85, 86, 87, 88, 89, 90, 91, 92] (by decide +kernel) (by decide +kernel)) (goodIn_sub (fun _ h => List.mem_cons_of_mem _ (List.mem_append_right _ h)) (by decide +kernel))
set_option maxRecDepth 20000 in
theorem gX10_setDelay_X9_setDelay : GoodIn wsX10_setDelay (wsV RX10 97 RX9 yX9_setDelay wsX9_setDelay) := goodIn_app (goodIn_of _ (by decide +kernel)) ggX10_setDelay_X9_setDelay
theorem dX10_setDelay_0 : decode cX10_setDelay 0 = .ok (.aload_n 0, 1) := by decide +kernel
theorem dX10_setDelay_1 : decode cX10_setDelay 1 = .ok (.getfield 32, 3) := by decide +kernel
theorem dX10_setDelay_4 : decode cX10_setDelay 4 = .ok (.arraylength, 1) := by decide +kernel
theorem dX10_setDelay_5 : decode cX10_setDelay 5 = .ok (.istore_n 1, 1) := by decide +kernel
theorem dX10_setDelay_6 : decode cX10_setDelay 6 = .ok (.aload_n 0, 1) := by decide +kernel
theorem dX10_setDelay_7 : decode cX10_setDelay 7 = .ok (.aload_n 0, 1) := by decide +kernel
theorem dX10_setDelay_8 : decode cX10_setDelay 8 = .ok (.bipush 12, 2) := by decide +kernel
theorem dX10_setDelay_10 : decode cX10_setDelay 10 = .ok (.invokevirtual 68, 3) := by decide +kernel
theorem dX10_setDelay_13 : decode cX10_setDelay 13 = .ok (.newarray .int, 2) := by decide +kernel
theorem dX10_setDelay_15 : decode cX10_setDelay 15 = .ok (.putfield 32, 3) := by decide +kernel
theorem dX10_setDelay_18 : decode cX10_setDelay 18 = .ok (.aload_n 0, 1) := by decide +kernel
theorem dX10_setDelay_19 : decode cX10_setDelay 19 = .ok (.aload_n 0, 1) := by decide +kernel
theorem dX10_setDelay_20 : decode cX10_setDelay 20 = .ok (.sipush 257, 3) := by decide +kernel
theorem dX10_setDelay_23 : decode cX10_setDelay 23 = .ok (.invokevirtual 68, 3) := by decide +kernel
theorem dX10_setDelay_26 : decode cX10_setDelay 26 = .ok (.putfield 91, 3) := by decide +kernel
theorem dX10_setDelay_29 : decode cX10_setDelay 29 = .ok (.aload_n 0, 1) := by decide +kernel
theorem dX10_setDelay_30 : decode cX10_setDelay 30 = .ok (.aload_n 0, 1) := by decide +kernel
theorem dX10_setDelay_31 : decode cX10_setDelay 31 = .ok (.sipush 257, 3) := by decide +kernel
theorem dX10_setDelay_34 : decode cX10_setDelay 34 = .ok (.invokevirtual 68, 3) := by decide +kernel
theorem dX10_setDelay_37 : decode cX10_setDelay 37 = .ok (.putfield 94, 3) := by decide +kernel
theorem dX10_setDelay_40 : decode cX10_setDelay 40 = .ok (.aload_n 0, 1) := by decide +kernel
theorem dX10_setDelay_41 : decode cX10_setDelay 41 = .ok (.getfield 10, 3) := by decide +kernel
theorem dX10_setDelay_44 : decode cX10_setDelay 44 = .ok (.aload_n 0, 1) := by decide +kernel
theorem dX10_setDelay_45 : decode cX10_setDelay 45 = .ok (.getfield 32, 3) := by decide +kernel
theorem dX10_setDelay_48 : decode cX10_setDelay 48 = .ok (.arraylength, 1) := by decide +kernel
theorem dX10_setDelay_49 : decode cX10_setDelay 49 = .ok (.aload_n 0, 1) := by decide +kernel
theorem dX10_setDelay_50 : decode cX10_setDelay 50 = .ok (.getfield 91, 3) := by decide +kernel
theorem dX10_setDelay_53 : decode cX10_setDelay 53 = .ok (.aload_n 0, 1) := by decide +kernel
theorem dX10_setDelay_54 : decode cX10_setDelay 54 = .ok (.getfield 94, 3) := by decide +kernel
theorem dX10_setDelay_57 : decode cX10_setDelay 57 = .ok (.invokevirtual 97, 3) := by decide +kernel
theorem dX10_setDelay_60 : decode cX10_setDelay 60 = .ok (.iload_n 1, 1) := by decide +kernel
theorem dX10_setDelay_61 : decode cX10_setDelay 61 = .ok (.if_icmp .ne 7, 3) := by decide +kernel
theorem dX10_setDelay_64 : decode cX10_setDelay 64 = .ok (.iconst 1, 1) := by decide +kernel
theorem dX10_setDelay_65 : decode cX10_setDelay 65 = .ok (.goto 4, 3) := by decide +kernel
theorem dX10_setDelay_68 : decode cX10_setDelay 68 = .ok (.iconst 0, 1) := by decide +kernel
theorem dX10_setDelay_69 : decode cX10_setDelay 69 = .ok (.ireturn, 1) := by decide +kernel
set_option maxRecDepth 20000 in
theorem ggX10_write_X10_draw : GoodIn wsX10_write wsX10_draw := goodIn_r _ [8, 9, 10, 11, 12, 13, 14, 15, 16, 17, 57, 58, 59, 60, 61, 62, 63, 64, 65, 66, 67, 68, 69, 70, 71, 72, 73, 74, 75, 76, 77, 78] (by decide +kernel) (by decide +kernel)
set_option maxRecDepth 20000 in
theorem gX10_write_X10_draw : GoodIn wsX10_write (wsV RX10 68 RX10 yX10_draw wsX10_draw) := goodIn_app (goodIn_of _ (by decide +kernel)) ggX10_write_X10_draw
set_option maxRecDepth 20000 in
theorem ggX10_write_X9_write : GoodIn wsX10_write wsX9_write := goodIn_ca (goodIn_ca (goodIn_r _ [22, 23, 24, 25, 26, 21, 27, 28, 29, 30, 31, 32, 33, 34, 35, 36, 37, 38, 39, 40, 41, 42, 43, 44, 45, 46, 47, 48, 49, 50, 51, 52, 53, 54, 55, 56, 79, 80, 81, 82, 83, 84, 85, 86, 87, 88, 89, 90, 91, 92, 93, 94, 95, 96] (by decide +kernel) (by decide +kernel)) (goodIn_sub (fun _ h => List.mem_cons_of_mem _ (List.mem_append_left _ (List.mem_append_right _ h))) (by decide +kernel))) (goodIn_sub (fun _ h => List.mem_cons_of_mem _ (List.mem_append_right _ h)) (by decide +kernel))
set_option maxRecDepth 20000 in
theorem gX10_write_X9_write : GoodIn wsX10_write (wsV RX10 100 RX9 yX9_write wsX9_write) := goodIn_app (goodIn_of _ (by decide +kernel)) ggX10_write_X9_write
theorem dX10_write_0 : decode cX10_write 0 = .ok (.aload_n 0, 1) := by decide +kernel
theorem dX10_write_1 : decode cX10_write 1 = .ok (.iconst 3, 1) := by decide +kernel
theorem dX10_write_2 : decode cX10_write 2 = .ok (.invokevirtual 68, 3) := by decide +kernel
theorem dX10_write_5 : decode cX10_write 5 = .ok (.istore_n 1, 1) := by decide +kernel
theorem dX10_write_6 : decode cX10_write 6 = .ok (.aload_n 0, 1) := by decide +kernel
theorem dX10_write_7 : decode cX10_write 7 = .ok (.bipush 8, 2) := by decide +kernel
theorem dX10_write_9 : decode cX10_write 9 = .ok (.invokevirtual 68, 3) := by decide +kernel
theorem dX10_write_12 : decode cX10_write 12 = .ok (.istore_n 2, 1) := by decide +kernel
theorem dX10_write_13 : decode cX10_write 13 = .ok (.aload_n 0, 1) := by decide +kernel
theorem dX10_write_14 : decode cX10_write 14 = .ok (.getfield 40, 3) := by decide +kernel
theorem dX10_write_17 : decode cX10_write 17 = .ok (.iload_n 1, 1) := by decide +kernel
theorem dX10_write_18 : decode cX10_write 18 = .ok (.aaload, 1) := by decide +kernel
theorem dX10_write_19 : decode cX10_write 19 = .ok (.iload_n 2, 1) := by decide +kernel
theorem dX10_write_20 : decode cX10_write 20 = .ok (.aaload, 1) := by decide +kernel
theorem dX10_write_21 : decode cX10_write 21 = .ok (.ifnonnull 7, 3) := by decide +kernel
theorem dX10_write_24 : decode cX10_write 24 = .ok (.iconst (-1), 1) := by decide +kernel
theorem dX10_write_25 : decode cX10_write 25 = .ok (.goto 13, 3) := by decide +kernel
theorem dX10_write_28 : decode cX10_write 28 = .ok (.aload_n 0, 1) := by decide +kernel
theorem dX10_write_29 : decode cX10_write 29 = .ok (.getfield 40, 3) := by decide +kernel
theorem dX10_write_32 : decode cX10_write 32 = .ok (.iload_n 1, 1) := by decide +kernel
theorem dX10_write_33 : decode cX10_write 33 = .ok (.aaload, 1) := by decide +kernel
theorem dX10_write_34 : decode cX10_write 34 = .ok (.iload_n 2, 1) := by decide +kernel
theorem dX10_write_35 : decode cX10_write 35 = .ok (.aaload, 1) := by decide +kernel
theorem dX10_write_36 : decode cX10_write 36 = .ok (.iconst 0, 1) := by decide +kernel
theorem dX10_write_37 : decode cX10_write 37 = .ok (.iaload, 1) := by decide +kernel
theorem dX10_write_38 : decode cX10_write 38 = .ok (.istore_n 3, 1) := by decide +kernel
theorem dX10_write_39 : decode cX10_write 39 = .ok (.iconst 3, 1) := by decide +kernel
theorem dX10_write_40 : decode cX10_write 40 = .ok (.newarray .int, 2) := by decide +kernel
theorem dX10_write_42 : decode cX10_write 42 = .ok (.dup, 1) := by decide +kernel
theorem dX10_write_43 : decode cX10_write 43 = .ok (.iconst 0, 1) := by decide +kernel
theorem dX10_write_44 : decode cX10_write 44 = .ok (.aload_n 0, 1) := by decide +kernel
theorem dX10_write_45 : decode cX10_write 45 = .ok (.bipush 48, 2) := by decide +kernel
theorem dX10_write_47 : decode cX10_write 47 = .ok (.invokevirtual 68, 3) := by decide +kernel
theorem dX10_write_50 : decode cX10_write 50 = .ok (.iastore, 1) := by decide +kernel
theorem dX10_write_51 : decode cX10_write 51 = .ok (.dup, 1) := by decide +kernel
theorem dX10_write_52 : decode cX10_write 52 = .ok (.iconst 1, 1) := by decide +kernel
theorem dX10_write_53 : decode cX10_write 53 = .ok (.iconst 1, 1) := by decide +kernel
theorem dX10_write_54 : decode cX10_write 54 = .ok (.aload_n 0, 1) := by decide +kernel
theorem dX10_write_55 : decode cX10_write 55 = .ok (.bipush 127, 2) := by decide +kernel
theorem dX10_write_57 : decode cX10_write 57 = .ok (.invokevirtual 68, 3) := by decide +kernel
theorem dX10_write_60 : decode cX10_write 60 = .ok (.iadd, 1) := by decide +kernel
theorem dX10_write_61 : decode cX10_write 61 = .ok (.iastore, 1) := by decide +kernel
theorem dX10_write_62 : decode cX10_write 62 = .ok (.dup, 1) := by decide +kernel
theorem dX10_write_63 : decode cX10_write 63 = .ok (.iconst 2, 1) := by decide +kernel
theorem dX10_write_64 : decode cX10_write 64 = .ok (.iconst 1, 1) := by decide +kernel
theorem dX10_write_65 : decode cX10_write 65 = .ok (.aload_n 0, 1) := by decide +kernel
theorem dX10_write_66 : decode cX10_write 66 = .ok (.bipush 12, 2) := by decide +kernel
theorem dX10_write_68 : decode cX10_write 68 = .ok (.invokevirtual 68, 3) := by decide +kernel
theorem dX10_write_71 : decode cX10_write 71 = .ok (.iadd, 1) := by decide +kernel
theorem dX10_write_72 : decode cX10_write 72 = .ok (.iastore, 1) := by decide +kernel
theorem dX10_write_73 : decode cX10_write 73 = .ok (.astore 4, 2) := by decide +kernel
theorem dX10_write_75 : decode cX10_write 75 = .ok (.aload_n 0, 1) := by decide +kernel
theorem dX10_write_76 : decode cX10_write 76 = .ok (.getfield 40, 3) := by decide +kernel
theorem dX10_write_79 : decode cX10_write 79 = .ok (.iload_n 1, 1) := by decide +kernel
theorem dX10_write_80 : decode cX10_write 80 = .ok (.aaload, 1) := by decide +kernel
theorem dX10_write_81 : decode cX10_write 81 = .ok (.iload_n 2, 1) := by decide +kernel
theorem dX10_write_82 : decode cX10_write 82 = .ok (.aload_n 0, 1) := by decide +kernel
theorem dX10_write_83 : decode cX10_write 83 = .ok (.iconst 4, 1) := by decide +kernel
theorem dX10_write_84 : decode cX10_write 84 = .ok (.invokevirtual 68, 3) := by decide +kernel
theorem dX10_write_87 : decode cX10_write 87 = .ok (.ifCond .ne 7, 3) := by decide +kernel
theorem dX10_write_90 : decode cX10_write 90 = .ok (.aconst_null, 1) := by decide +kernel
theorem dX10_write_91 : decode cX10_write 91 = .ok (.goto 5, 3) := by decide +kernel
theorem dX10_write_94 : decode cX10_write 94 = .ok (.aload 4, 2) := by decide +kernel
theorem dX10_write_96 : decode cX10_write 96 = .ok (.aastore, 1) := by decide +kernel
theorem dX10_write_97 : decode cX10_write 97 = .ok (.aload_n 0, 1) := by decide +kernel
theorem dX10_write_98 : decode cX10_write 98 = .ok (.getfield 10, 3) := by decide +kernel
theorem dX10_write_101 : decode cX10_write 101 = .ok (.iload_n 1, 1) := by decide +kernel
theorem dX10_write_102 : decode cX10_write 102 = .ok (.iload_n 2, 1) := by decide +kernel
theorem dX10_write_103 : decode cX10_write 103 = .ok (.aload_n 0, 1) := by decide +kernel
theorem dX10_write_104 : decode cX10_write 104 = .ok (.getfield 40, 3) := by decide +kernel
theorem dX10_write_107 : decode cX10_write 107 = .ok (.iload_n 1, 1) := by decide +kernel
theorem dX10_write_108 : decode cX10_write 108 = .ok (.aaload, 1) := by decide +kernel
theorem dX10_write_109 : decode cX10_write 109 = .ok (.iload_n 2, 1) := by decide +kernel
theorem dX10_write_110 : decode cX10_write 110 = .ok (.aaload, 1) := by decide +kernel
theorem dX10_write_111 : decode cX10_write 111 = .ok (.ifnonnull 7, 3) := by decide +kernel
theorem dX10_write_114 : decode cX10_write 114 = .ok (.iconst (-1), 1) := by decide +kernel
theorem dX10_write_115 : decode cX10_write 115 = .ok (.goto 7, 3) := by decide +kernel
theorem dX10_write_118 : decode cX10_write 118 = .ok (.aload 4, 2) := by decide +kernel
theorem dX10_write_120 : decode cX10_write 120 = .ok (.iconst 0, 1) := by decide +kernel
theorem dX10_write_121 : decode cX10_write 121 = .ok (.iaload, 1) := by decide +kernel
theorem dX10_write_122 : decode cX10_write 122 = .ok (.aload 4, 2) := by decide +kernel
theorem dX10_write_124 : decode cX10_write 124 = .ok (.iconst 1, 1) := by decide +kernel
theorem dX10_write_125 : decode cX10_write 125 = .ok (.iaload, 1) := by decide +kernel
theorem dX10_write_126 : decode cX10_write 126 = .ok (.aload 4, 2) := by decide +kernel
theorem dX10_write_128 : decode cX10_write 128 = .ok (.iconst 2, 1) := by decide +kernel
theorem dX10_write_129 : decode cX10_write 129 = .ok (.iaload, 1) := by decide +kernel
theorem dX10_write_130 : decode cX10_write 130 = .ok (.invokevirtual 100, 3) := by decide +kernel
theorem dX10_write_133 : decode cX10_write 133 = .ok (.iload_n 3, 1) := by decide +kernel
theorem dX10_write_134 : decode cX10_write 134 = .ok (.if_icmp .ne 7, 3) := by decide +kernel
theorem dX10_write_137 : decode cX10_write 137 = .ok (.iconst 1, 1) := by decide +kernel
theorem dX10_write_138 : decode cX10_write 138 = .ok (.goto 4, 3) := by decide +kernel
theorem dX10_write_141 : decode cX10_write 141 = .ok (.iconst 0, 1) := by decide +kernel
theorem dX10_write_142 : decode cX10_write 142 = .ok (.ireturn, 1) := by decide +kernel
theorem dL_below_0 : decode cL_below 0 = .ok (.iload_n 0, 1) := by decide +kernel
theorem dL_below_1 : decode cL_below 1 = .ok (.ldc 7, 2) := by decide +kernel
theorem dL_below_3 : decode cL_below 3 = .ok (.iand, 1) := by decide +kernel
theorem dL_below_4 : decode cL_below 4 = .ok (.iload_n 1, 1) := by decide +kernel
theorem dL_below_5 : decode cL_below 5 = .ok (.irem, 1) := by decide +kernel
theorem dL_below_6 : decode cL_below 6 = .ok (.ireturn, 1) := by decide +kernel
theorem dL_cell_0 : decode cL_cell 0 = .ok (.iload_n 1, 1) := by decide +kernel
theorem dL_cell_1 : decode cL_cell 1 = .ok (.aload_n 0, 1) := by decide +kernel
theorem dL_cell_2 : decode cL_cell 2 = .ok (.arraylength, 1) := by decide +kernel
theorem dL_cell_3 : decode cL_cell 3 = .ok (.if_icmp .ge 9, 3) := by decide +kernel
theorem dL_cell_6 : decode cL_cell 6 = .ok (.aload_n 0, 1) := by decide +kernel
theorem dL_cell_7 : decode cL_cell 7 = .ok (.iload_n 1, 1) := by decide +kernel
theorem dL_cell_8 : decode cL_cell 8 = .ok (.iaload, 1) := by decide +kernel
theorem dL_cell_9 : decode cL_cell 9 = .ok (.goto 9, 3) := by decide +kernel
theorem dL_cell_12 : decode cL_cell 12 = .ok (.ldc 8, 2) := by decide +kernel
theorem dL_cell_14 : decode cL_cell 14 = .ok (.iload_n 1, 1) := by decide +kernel
theorem dL_cell_15 : decode cL_cell 15 = .ok (.iconst 3, 1) := by decide +kernel
theorem dL_cell_16 : decode cL_cell 16 = .ok (.iadd, 1) := by decide +kernel
theorem dL_cell_17 : decode cL_cell 17 = .ok (.imul, 1) := by decide +kernel
theorem dL_cell_18 : decode cL_cell 18 = .ok (.ireturn, 1) := by decide +kernel
