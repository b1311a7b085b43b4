theorem dX7_act_0 : decode cX7_act 0 = .ok (.iload_n 1, 1) := by decide +kernel
theorem dX7_act_1 : decode cX7_act 1 = .ok (.tableswitch 287 0 16 #[83, 90, 118, 144, 151, 153, 155, 162, 171, 187, 201, 207, 214, 237, 250, 267, 280], 83) := by decide +kernel
theorem dX7_act_84 : decode cX7_act 84 = .ok (.aload_n 0, 1) := by decide +kernel
theorem dX7_act_85 : decode cX7_act 85 = .ok (.iload_n 3, 1) := by decide +kernel
theorem dX7_act_86 : decode cX7_act 86 = .ok (.iload_n 2, 1) := by decide +kernel
theorem dX7_act_87 : decode cX7_act 87 = .ok (.invokevirtual 103, 3) := by decide +kernel
theorem dX7_act_90 : decode cX7_act 90 = .ok (.ireturn, 1) := by decide +kernel
theorem dX7_act_91 : decode cX7_act 91 = .ok (.aload_n 0, 1) := by decide +kernel
theorem dX7_act_92 : decode cX7_act 92 = .ok (.getfield 13, 3) := by decide +kernel
theorem dX7_act_95 : decode cX7_act 95 = .ok (.iload_n 3, 1) := by decide +kernel
theorem dX7_act_96 : decode cX7_act 96 = .ok (.iaload, 1) := by decide +kernel
theorem dX7_act_97 : decode cX7_act 97 = .ok (.iload_n 2, 1) := by decide +kernel
theorem dX7_act_98 : decode cX7_act 98 = .ok (.if_icmp .ge 9, 3) := by decide +kernel
theorem dX7_act_101 : decode cX7_act 101 = .ok (.aload_n 0, 1) := by decide +kernel
theorem dX7_act_102 : decode cX7_act 102 = .ok (.iconst 2, 1) := by decide +kernel
theorem dX7_act_103 : decode cX7_act 103 = .ok (.invokevirtual 97, 3) := by decide +kernel
theorem dX7_act_106 : decode cX7_act 106 = .ok (.ireturn, 1) := by decide +kernel
theorem dX7_act_107 : decode cX7_act 107 = .ok (.aload_n 0, 1) := by decide +kernel
theorem dX7_act_108 : decode cX7_act 108 = .ok (.getfield 13, 3) := by decide +kernel
theorem dX7_act_111 : decode cX7_act 111 = .ok (.iload_n 3, 1) := by decide +kernel
theorem dX7_act_112 : decode cX7_act 112 = .ok (.dup2, 1) := by decide +kernel
theorem dX7_act_113 : decode cX7_act 113 = .ok (.iaload, 1) := by decide +kernel
theorem dX7_act_114 : decode cX7_act 114 = .ok (.iload_n 2, 1) := by decide +kernel
theorem dX7_act_115 : decode cX7_act 115 = .ok (.isub, 1) := by decide +kernel
theorem dX7_act_116 : decode cX7_act 116 = .ok (.iastore, 1) := by decide +kernel
theorem dX7_act_117 : decode cX7_act 117 = .ok (.iconst 0, 1) := by decide +kernel
theorem dX7_act_118 : decode cX7_act 118 = .ok (.ireturn, 1) := by decide +kernel
theorem dX7_act_119 : decode cX7_act 119 = .ok (.iload_n 2, 1) := by decide +kernel
theorem dX7_act_120 : decode cX7_act 120 = .ok (.ifCond .ne 9, 3) := by decide +kernel
theorem dX7_act_123 : decode cX7_act 123 = .ok (.aload_n 0, 1) := by decide +kernel
theorem dX7_act_124 : decode cX7_act 124 = .ok (.iconst 3, 1) := by decide +kernel
theorem dX7_act_125 : decode cX7_act 125 = .ok (.invokevirtual 97, 3) := by decide +kernel
theorem dX7_act_128 : decode cX7_act 128 = .ok (.ireturn, 1) := by decide +kernel
theorem dX7_act_129 : decode cX7_act 129 = .ok (.aload_n 0, 1) := by decide +kernel
theorem dX7_act_130 : decode cX7_act 130 = .ok (.getfield 13, 3) := by decide +kernel
theorem dX7_act_133 : decode cX7_act 133 = .ok (.iload_n 3, 1) := by decide +kernel
theorem dX7_act_134 : decode cX7_act 134 = .ok (.aload_n 0, 1) := by decide +kernel
theorem dX7_act_135 : decode cX7_act 135 = .ok (.getfield 13, 3) := by decide +kernel
theorem dX7_act_138 : decode cX7_act 138 = .ok (.iload_n 3, 1) := by decide +kernel
theorem dX7_act_139 : decode cX7_act 139 = .ok (.iaload, 1) := by decide +kernel
theorem dX7_act_140 : decode cX7_act 140 = .ok (.iload_n 2, 1) := by decide +kernel
theorem dX7_act_141 : decode cX7_act 141 = .ok (.idiv, 1) := by decide +kernel
theorem dX7_act_142 : decode cX7_act 142 = .ok (.iastore, 1) := by decide +kernel
theorem dX7_act_143 : decode cX7_act 143 = .ok (.iconst 0, 1) := by decide +kernel
theorem dX7_act_144 : decode cX7_act 144 = .ok (.ireturn, 1) := by decide +kernel
theorem dX7_act_145 : decode cX7_act 145 = .ok (.aload_n 0, 1) := by decide +kernel
theorem dX7_act_146 : decode cX7_act 146 = .ok (.iload_n 3, 1) := by decide +kernel
theorem dX7_act_147 : decode cX7_act 147 = .ok (.iload_n 2, 1) := by decide +kernel
theorem dX7_act_148 : decode cX7_act 148 = .ok (.invokevirtual 107, 3) := by decide +kernel
theorem dX7_act_151 : decode cX7_act 151 = .ok (.ireturn, 1) := by decide +kernel
theorem dX7_act_152 : decode cX7_act 152 = .ok (.iconst 1, 1) := by decide +kernel
theorem dX7_act_153 : decode cX7_act 153 = .ok (.ireturn, 1) := by decide +kernel
theorem dX7_act_154 : decode cX7_act 154 = .ok (.iconst 3, 1) := by decide +kernel
theorem dX7_act_155 : decode cX7_act 155 = .ok (.ireturn, 1) := by decide +kernel
theorem dX7_act_156 : decode cX7_act 156 = .ok (.aload_n 0, 1) := by decide +kernel
theorem dX7_act_157 : decode cX7_act 157 = .ok (.iload_n 2, 1) := by decide +kernel
theorem dX7_act_158 : decode cX7_act 158 = .ok (.putfield 110, 3) := by decide +kernel
theorem dX7_act_161 : decode cX7_act 161 = .ok (.iconst 4, 1) := by decide +kernel
theorem dX7_act_162 : decode cX7_act 162 = .ok (.ireturn, 1) := by decide +kernel
theorem dX7_act_163 : decode cX7_act 163 = .ok (.aload_n 0, 1) := by decide +kernel
theorem dX7_act_164 : decode cX7_act 164 = .ok (.bipush 10, 2) := by decide +kernel
theorem dX7_act_166 : decode cX7_act 166 = .ok (.iload_n 2, 1) := by decide +kernel
theorem dX7_act_167 : decode cX7_act 167 = .ok (.iadd, 1) := by decide +kernel
theorem dX7_act_168 : decode cX7_act 168 = .ok (.invokevirtual 97, 3) := by decide +kernel
theorem dX7_act_171 : decode cX7_act 171 = .ok (.ireturn, 1) := by decide +kernel
theorem dX7_act_172 : decode cX7_act 172 = .ok (.aload_n 0, 1) := by decide +kernel
theorem dX7_act_173 : decode cX7_act 173 = .ok (.getfield 13, 3) := by decide +kernel
theorem dX7_act_176 : decode cX7_act 176 = .ok (.iload_n 3, 1) := by decide +kernel
theorem dX7_act_177 : decode cX7_act 177 = .ok (.iaload, 1) := by decide +kernel
theorem dX7_act_178 : decode cX7_act 178 = .ok (.iload_n 2, 1) := by decide +kernel
theorem dX7_act_179 : decode cX7_act 179 = .ok (.if_icmp .ge 7, 3) := by decide +kernel
theorem dX7_act_182 : decode cX7_act 182 = .ok (.iconst 1, 1) := by decide +kernel
theorem dX7_act_183 : decode cX7_act 183 = .ok (.goto 4, 3) := by decide +kernel
theorem dX7_act_186 : decode cX7_act 186 = .ok (.iconst 0, 1) := by decide +kernel
theorem dX7_act_187 : decode cX7_act 187 = .ok (.ireturn, 1) := by decide +kernel
theorem dX7_act_188 : decode cX7_act 188 = .ok (.aload_n 0, 1) := by decide +kernel
theorem dX7_act_189 : decode cX7_act 189 = .ok (.getfield 113, 3) := by decide +kernel
theorem dX7_act_192 : decode cX7_act 192 = .ok (.iload_n 2, 1) := by decide +kernel
theorem dX7_act_193 : decode cX7_act 193 = .ok (.if_icmp .ge 7, 3) := by decide +kernel
theorem dX7_act_196 : decode cX7_act 196 = .ok (.iconst 2, 1) := by decide +kernel
theorem dX7_act_197 : decode cX7_act 197 = .ok (.goto 4, 3) := by decide +kernel
theorem dX7_act_200 : decode cX7_act 200 = .ok (.iconst 0, 1) := by decide +kernel
theorem dX7_act_201 : decode cX7_act 201 = .ok (.ireturn, 1) := by decide +kernel
theorem dX7_act_202 : decode cX7_act 202 = .ok (.aload_n 0, 1) := by decide +kernel
theorem dX7_act_203 : decode cX7_act 203 = .ok (.iload_n 2, 1) := by decide +kernel
theorem dX7_act_204 : decode cX7_act 204 = .ok (.invokevirtual 116, 3) := by decide +kernel
theorem dX7_act_207 : decode cX7_act 207 = .ok (.ireturn, 1) := by decide +kernel
theorem dX7_act_208 : decode cX7_act 208 = .ok (.aload_n 0, 1) := by decide +kernel
theorem dX7_act_209 : decode cX7_act 209 = .ok (.iload_n 2, 1) := by decide +kernel
theorem dX7_act_210 : decode cX7_act 210 = .ok (.iload_n 3, 1) := by decide +kernel
theorem dX7_act_211 : decode cX7_act 211 = .ok (.invokevirtual 118, 3) := by decide +kernel
theorem dX7_act_214 : decode cX7_act 214 = .ok (.ireturn, 1) := by decide +kernel
theorem dX7_act_215 : decode cX7_act 215 = .ok (.iload_n 2, 1) := by decide +kernel
theorem dX7_act_216 : decode cX7_act 216 = .ok (.bipush 10, 2) := by decide +kernel
theorem dX7_act_218 : decode cX7_act 218 = .ok (.if_icmp .ge 10, 3) := by decide +kernel
theorem dX7_act_221 : decode cX7_act 221 = .ok (.aload_n 0, 1) := by decide +kernel
theorem dX7_act_222 : decode cX7_act 222 = .ok (.bipush 6, 2) := by decide +kernel
theorem dX7_act_224 : decode cX7_act 224 = .ok (.invokevirtual 97, 3) := by decide +kernel
theorem dX7_act_227 : decode cX7_act 227 = .ok (.ireturn, 1) := by decide +kernel
theorem dX7_act_228 : decode cX7_act 228 = .ok (.aload_n 0, 1) := by decide +kernel
theorem dX7_act_229 : decode cX7_act 229 = .ok (.iload_n 2, 1) := by decide +kernel
theorem dX7_act_230 : decode cX7_act 230 = .ok (.bipush 10, 2) := by decide +kernel
theorem dX7_act_232 : decode cX7_act 232 = .ok (.isub, 1) := by decide +kernel
theorem dX7_act_233 : decode cX7_act 233 = .ok (.putfield 44, 3) := by decide +kernel
theorem dX7_act_236 : decode cX7_act 236 = .ok (.iconst 0, 1) := by decide +kernel
theorem dX7_act_237 : decode cX7_act 237 = .ok (.ireturn, 1) := by decide +kernel
theorem dX7_act_238 : decode cX7_act 238 = .ok (.aload_n 0, 1) := by decide +kernel
theorem dX7_act_239 : decode cX7_act 239 = .ok (.iload_n 2, 1) := by decide +kernel
theorem dX7_act_240 : decode cX7_act 240 = .ok (.iconst 3, 1) := by decide +kernel
theorem dX7_act_241 : decode cX7_act 241 = .ok (.idiv, 1) := by decide +kernel
theorem dX7_act_242 : decode cX7_act 242 = .ok (.iconst 2, 1) := by decide +kernel
theorem dX7_act_243 : decode cX7_act 243 = .ok (.isub, 1) := by decide +kernel
theorem dX7_act_244 : decode cX7_act 244 = .ok (.iload_n 2, 1) := by decide +kernel
theorem dX7_act_245 : decode cX7_act 245 = .ok (.iconst 3, 1) := by decide +kernel
theorem dX7_act_246 : decode cX7_act 246 = .ok (.irem, 1) := by decide +kernel
theorem dX7_act_247 : decode cX7_act 247 = .ok (.invokevirtual 120, 3) := by decide +kernel
theorem dX7_act_250 : decode cX7_act 250 = .ok (.ireturn, 1) := by decide +kernel
theorem dX7_act_251 : decode cX7_act 251 = .ok (.aload_n 0, 1) := by decide +kernel
theorem dX7_act_252 : decode cX7_act 252 = .ok (.iload_n 2, 1) := by decide +kernel
theorem dX7_act_253 : decode cX7_act 253 = .ok (.bipush 6, 2) := by decide +kernel
theorem dX7_act_255 : decode cX7_act 255 = .ok (.idiv, 1) := by decide +kernel
theorem dX7_act_256 : decode cX7_act 256 = .ok (.iconst 1, 1) := by decide +kernel
theorem dX7_act_257 : decode cX7_act 257 = .ok (.isub, 1) := by decide +kernel
theorem dX7_act_258 : decode cX7_act 258 = .ok (.iload_n 2, 1) := by decide +kernel
theorem dX7_act_259 : decode cX7_act 259 = .ok (.bipush 6, 2) := by decide +kernel
theorem dX7_act_261 : decode cX7_act 261 = .ok (.irem, 1) := by decide +kernel
theorem dX7_act_262 : decode cX7_act 262 = .ok (.iconst 1, 1) := by decide +kernel
theorem dX7_act_263 : decode cX7_act 263 = .ok (.isub, 1) := by decide +kernel
theorem dX7_act_264 : decode cX7_act 264 = .ok (.invokevirtual 123, 3) := by decide +kernel
theorem dX7_act_267 : decode cX7_act 267 = .ok (.ireturn, 1) := by decide +kernel
theorem dX7_act_268 : decode cX7_act 268 = .ok (.aload_n 0, 1) := by decide +kernel
theorem dX7_act_269 : decode cX7_act 269 = .ok (.iload_n 2, 1) := by decide +kernel
theorem dX7_act_270 : decode cX7_act 270 = .ok (.bipush 10, 2) := by decide +kernel
theorem dX7_act_272 : decode cX7_act 272 = .ok (.irem, 1) := by decide +kernel
theorem dX7_act_273 : decode cX7_act 273 = .ok (.iload_n 2, 1) := by decide +kernel
theorem dX7_act_274 : decode cX7_act 274 = .ok (.bipush 10, 2) := by decide +kernel
theorem dX7_act_276 : decode cX7_act 276 = .ok (.idiv, 1) := by decide +kernel
theorem dX7_act_277 : decode cX7_act 277 = .ok (.invokevirtual 126, 3) := by decide +kernel
theorem dX7_act_280 : decode cX7_act 280 = .ok (.ireturn, 1) := by decide +kernel
theorem dX7_act_281 : decode cX7_act 281 = .ok (.aload_n 0, 1) := by decide +kernel
theorem dX7_act_282 : decode cX7_act 282 = .ok (.iload_n 3, 1) := by decide +kernel
theorem dX7_act_283 : decode cX7_act 283 = .ok (.iload_n 2, 1) := by decide +kernel
theorem dX7_act_284 : decode cX7_act 284 = .ok (.invokevirtual 129, 3) := by decide +kernel
theorem dX7_act_287 : decode cX7_act 287 = .ok (.ireturn, 1) := by decide +kernel
theorem dX7_act_288 : decode cX7_act 288 = .ok (.aload_n 0, 1) := by decide +kernel
theorem dX7_act_289 : decode cX7_act 289 = .ok (.iload_n 2, 1) := by decide +kernel
theorem dX7_act_290 : decode cX7_act 290 = .ok (.invokevirtual 132, 3) := by decide +kernel
theorem dX7_act_293 : decode cX7_act 293 = .ok (.ireturn, 1) := by decide +kernel
set_option maxRecDepth 20000 in
theorem ggX7_goes_X7_mark : GoodIn wsX7_goes wsX7_mark := goodIn_r _ [11, 4, 12, 75, 76, 77, 78, 79, 80, 81, 82, 83, 84, 85, 86, 87, 88, 89, 90, 91, 92, 93, 94, 95, 96, 97, 98, 99, 100, 101, 102] (by decide +kernel) (by decide +kernel)
set_option maxRecDepth 20000 in
theorem gX7_goes_X7_mark : GoodIn wsX7_goes (wsV RX7 135 RX7 yX7_mark wsX7_mark) := goodIn_app (goodIn_of _ (by decide +kernel)) ggX7_goes_X7_mark
set_option maxRecDepth 20000 in
theorem ggX7_goes_X7_act : GoodIn wsX7_goes wsX7_act := goodIn_r _ [16, 17, 18, 2, 19, 20, 21, 22, 10, 23, 24, 25, 26, 27, 28, 29, 30, 31, 32, 33, 34, 35, 36, 37, 38, 39, 40, 41, 42, 43, 44, 45, 46, 47, 48, 49, 50, 51, 52, 53, 54, 55, 56, 57, 58, 59, 60, 61, 62, 63, 64, 65, 66, 67, 68, 69, 70, 71, 72, 73, 74, 75, 76, 77, 78, 79, 80, 81, 82, 83, 84, 85, 86, 87, 88, 89, 90, 91, 92, 93, 94, 95, 96, 97, 98, 99, 100, 101, 102] (by decide +kernel) (by decide +kernel)
set_option maxRecDepth 20000 in
theorem gX7_goes_X7_act : GoodIn wsX7_goes (wsV RX7 139 RX7 yX7_act wsX7_act) := goodIn_app (goodIn_of _ (by decide +kernel)) ggX7_goes_X7_act
theorem dX7_goes_0 : decode cX7_goes 0 = .ok (.aload_n 0, 1) := by decide +kernel
theorem dX7_goes_1 : decode cX7_goes 1 = .ok (.getfield 23, 3) := by decide +kernel
theorem dX7_goes_4 : decode cX7_goes 4 = .ok (.iload_n 1, 1) := by decide +kernel
theorem dX7_goes_5 : decode cX7_goes 5 = .ok (.iaload, 1) := by decide +kernel
theorem dX7_goes_6 : decode cX7_goes 6 = .ok (.istore_n 2, 1) := by decide +kernel
theorem dX7_goes_7 : decode cX7_goes 7 = .ok (.aload_n 0, 1) := by decide +kernel
theorem dX7_goes_8 : decode cX7_goes 8 = .ok (.iconst 0, 1) := by decide +kernel
theorem dX7_goes_9 : decode cX7_goes 9 = .ok (.putfield 113, 3) := by decide +kernel
theorem dX7_goes_12 : decode cX7_goes 12 = .ok (.iconst 0, 1) := by decide +kernel
theorem dX7_goes_13 : decode cX7_goes 13 = .ok (.istore_n 3, 1) := by decide +kernel
theorem dX7_goes_14 : decode cX7_goes 14 = .ok (.iload_n 3, 1) := by decide +kernel
theorem dX7_goes_15 : decode cX7_goes 15 = .ok (.aload_n 0, 1) := by decide +kernel
theorem dX7_goes_16 : decode cX7_goes 16 = .ok (.getfield 26, 3) := by decide +kernel
theorem dX7_goes_19 : decode cX7_goes 19 = .ok (.iload_n 1, 1) := by decide +kernel
theorem dX7_goes_20 : decode cX7_goes 20 = .ok (.iaload, 1) := by decide +kernel
theorem dX7_goes_21 : decode cX7_goes 21 = .ok (.if_icmp .ge 93, 3) := by decide +kernel
theorem dX7_goes_24 : decode cX7_goes 24 = .ok (.aload_n 0, 1) := by decide +kernel
theorem dX7_goes_25 : decode cX7_goes 25 = .ok (.getfield 60, 3) := by decide +kernel
theorem dX7_goes_28 : decode cX7_goes 28 = .ok (.iconst 4, 1) := by decide +kernel
theorem dX7_goes_29 : decode cX7_goes 29 = .ok (.iaload, 1) := by decide +kernel
theorem dX7_goes_30 : decode cX7_goes 30 = .ok (.sipush 200, 3) := by decide +kernel
theorem dX7_goes_33 : decode cX7_goes 33 = .ok (.if_icmp .ne 6, 3) := by decide +kernel
theorem dX7_goes_36 : decode cX7_goes 36 = .ok (.bipush 6, 2) := by decide +kernel
theorem dX7_goes_38 : decode cX7_goes 38 = .ok (.ireturn, 1) := by decide +kernel
theorem dX7_goes_39 : decode cX7_goes 39 = .ok (.aload_n 0, 1) := by decide +kernel
theorem dX7_goes_40 : decode cX7_goes 40 = .ok (.iconst 5, 1) := by decide +kernel
theorem dX7_goes_41 : decode cX7_goes 41 = .ok (.invokevirtual 135, 3) := by decide +kernel
theorem dX7_goes_44 : decode cX7_goes 44 = .ok (.aload_n 0, 1) := by decide +kernel
theorem dX7_goes_45 : decode cX7_goes 45 = .ok (.aload_n 0, 1) := by decide +kernel
theorem dX7_goes_46 : decode cX7_goes 46 = .ok (.getfield 29, 3) := by decide +kernel
theorem dX7_goes_49 : decode cX7_goes 49 = .ok (.bipush 8, 2) := by decide +kernel
theorem dX7_goes_51 : decode cX7_goes 51 = .ok (.iload_n 1, 1) := by decide +kernel
theorem dX7_goes_52 : decode cX7_goes 52 = .ok (.imul, 1) := by decide +kernel
theorem dX7_goes_53 : decode cX7_goes 53 = .ok (.iload_n 3, 1) := by decide +kernel
theorem dX7_goes_54 : decode cX7_goes 54 = .ok (.iadd, 1) := by decide +kernel
theorem dX7_goes_55 : decode cX7_goes 55 = .ok (.iaload, 1) := by decide +kernel
theorem dX7_goes_56 : decode cX7_goes 56 = .ok (.aload_n 0, 1) := by decide +kernel
theorem dX7_goes_57 : decode cX7_goes 57 = .ok (.getfield 32, 3) := by decide +kernel
theorem dX7_goes_60 : decode cX7_goes 60 = .ok (.bipush 8, 2) := by decide +kernel
theorem dX7_goes_62 : decode cX7_goes 62 = .ok (.iload_n 1, 1) := by decide +kernel
theorem dX7_goes_63 : decode cX7_goes 63 = .ok (.imul, 1) := by decide +kernel
theorem dX7_goes_64 : decode cX7_goes 64 = .ok (.iload_n 3, 1) := by decide +kernel
theorem dX7_goes_65 : decode cX7_goes 65 = .ok (.iadd, 1) := by decide +kernel
theorem dX7_goes_66 : decode cX7_goes 66 = .ok (.iaload, 1) := by decide +kernel
theorem dX7_goes_67 : decode cX7_goes 67 = .ok (.iload_n 2, 1) := by decide +kernel
theorem dX7_goes_68 : decode cX7_goes 68 = .ok (.invokevirtual 139, 3) := by decide +kernel
theorem dX7_goes_71 : decode cX7_goes 71 = .ok (.istore 4, 2) := by decide +kernel
theorem dX7_goes_73 : decode cX7_goes 73 = .ok (.aload_n 0, 1) := by decide +kernel
theorem dX7_goes_74 : decode cX7_goes 74 = .ok (.bipush 6, 2) := by decide +kernel
theorem dX7_goes_76 : decode cX7_goes 76 = .ok (.invokevirtual 135, 3) := by decide +kernel
theorem dX7_goes_79 : decode cX7_goes 79 = .ok (.iinc 3 1, 3) := by decide +kernel
theorem dX7_goes_82 : decode cX7_goes 82 = .ok (.iload 4, 2) := by decide +kernel
theorem dX7_goes_84 : decode cX7_goes 84 = .ok (.iconst 2, 1) := by decide +kernel
theorem dX7_goes_85 : decode cX7_goes 85 = .ok (.if_icmp .ne 18, 3) := by decide +kernel
theorem dX7_goes_88 : decode cX7_goes 88 = .ok (.aload_n 0, 1) := by decide +kernel
theorem dX7_goes_89 : decode cX7_goes 89 = .ok (.dup, 1) := by decide +kernel
theorem dX7_goes_90 : decode cX7_goes 90 = .ok (.getfield 113, 3) := by decide +kernel
theorem dX7_goes_93 : decode cX7_goes 93 = .ok (.iconst 1, 1) := by decide +kernel
theorem dX7_goes_94 : decode cX7_goes 94 = .ok (.iadd, 1) := by decide +kernel
theorem dX7_goes_95 : decode cX7_goes 95 = .ok (.putfield 113, 3) := by decide +kernel
theorem dX7_goes_98 : decode cX7_goes 98 = .ok (.iconst 0, 1) := by decide +kernel
theorem dX7_goes_99 : decode cX7_goes 99 = .ok (.istore_n 3, 1) := by decide +kernel
theorem dX7_goes_100 : decode cX7_goes 100 = .ok (.goto 11, 3) := by decide +kernel
theorem dX7_goes_103 : decode cX7_goes 103 = .ok (.iload 4, 2) := by decide +kernel
theorem dX7_goes_105 : decode cX7_goes 105 = .ok (.ifCond .eq 6, 3) := by decide +kernel
theorem dX7_goes_108 : decode cX7_goes 108 = .ok (.iload 4, 2) := by decide +kernel
theorem dX7_goes_110 : decode cX7_goes 110 = .ok (.ireturn, 1) := by decide +kernel
theorem dX7_goes_111 : decode cX7_goes 111 = .ok (.goto (-97), 3) := by decide +kernel
theorem dX7_goes_114 : decode cX7_goes 114 = .ok (.iconst 0, 1) := by decide +kernel
theorem dX7_goes_115 : decode cX7_goes 115 = .ok (.ireturn, 1) := by decide +kernel
set_option maxRecDepth 20000 in
theorem ggX7_does_X7_fails : GoodIn wsX7_does wsX7_fails := goodIn_r _ [7, 8, 9, 10, 11, 6, 12, 79, 80, 81, 82, 83, 84, 85, 86, 87, 88, 89, 90, 91, 92, 93, 94, 95, 96, 97, 98, 99, 100, 101, 102, 103, 104, 105, 106] (by decide +kernel) (by decide +kernel)
set_option maxRecDepth 20000 in
theorem gX7_does_X7_fails : GoodIn wsX7_does (wsV RX7 97 RX7 yX7_fails wsX7_fails) := goodIn_app (goodIn_of _ (by decide +kernel)) ggX7_does_X7_fails
set_option maxRecDepth 20000 in
theorem ggX7_does_X7_mark : GoodIn wsX7_does wsX7_mark := goodIn_r _ [16, 17, 18, 79, 80, 81, 82, 83, 84, 85, 86, 87, 88, 89, 90, 91, 92, 93, 94, 95, 96, 97, 98, 99, 100, 101, 102, 103, 104, 105, 106] (by decide +kernel) (by decide +kernel)
set_option maxRecDepth 20000 in
theorem gX7_does_X7_mark : GoodIn wsX7_does (wsV RX7 135 RX7 yX7_mark wsX7_mark) := goodIn_app (goodIn_of _ (by decide +kernel)) ggX7_does_X7_mark
set_option maxRecDepth 20000 in
theorem ggX7_does_X7_goes : GoodIn wsX7_does wsX7_goes := goodIn_r _ [22, 1, 23, 24, 17, 25, 26, 13, 14, 15, 6, 16, 18, 27, 28, 29, 30, 31, 32, 33, 34, 35, 36, 37, 3, 4, 5, 7, 8, 9, 10, 11, 12, 38, 39, 40, 41, 2, 42, 43, 44, 45, 46, 47, 48, 49, 50, 51, 52, 53, 54, 55, 56, 57, 58, 59, 60, 61, 62, 63, 64, 65, 66, 67, 68, 69, 70, 71, 72, 73, 74, 75, 76, 77, 78, 79, 80, 81, 82, 83, 84, 85, 86, 87, 88, 89, 90, 91, 92, 93, 94, 95, 96, 97, 98, 99, 100, 101, 102, 103, 104, 105, 106] (by decide +kernel) (by decide +kernel)
set_option maxRecDepth 20000 in
theorem gX7_does_X7_goes : GoodIn wsX7_does (wsV RX7 143 RX7 yX7_goes wsX7_goes) := goodIn_app (goodIn_of _ (by decide +kernel)) ggX7_does_X7_goes
theorem dX7_does_0 : decode cX7_does 0 = .ok (.aload_n 0, 1) := by decide +kernel
theorem dX7_does_1 : decode cX7_does 1 = .ok (.getfield 23, 3) := by decide +kernel
theorem dX7_does_4 : decode cX7_does 4 = .ok (.iload_n 1, 1) := by decide +kernel
theorem dX7_does_5 : decode cX7_does 5 = .ok (.iaload, 1) := by decide +kernel
theorem dX7_does_6 : decode cX7_does 6 = .ok (.istore_n 2, 1) := by decide +kernel
theorem dX7_does_7 : decode cX7_does 7 = .ok (.iload_n 2, 1) := by decide +kernel
theorem dX7_does_8 : decode cX7_does 8 = .ok (.bipush 7, 2) := by decide +kernel
theorem dX7_does_10 : decode cX7_does 10 = .ok (.if_icmp .gt 12, 3) := by decide +kernel
theorem dX7_does_13 : decode cX7_does 13 = .ok (.aload_n 0, 1) := by decide +kernel
theorem dX7_does_14 : decode cX7_does 14 = .ok (.getfield 7, 3) := by decide +kernel
theorem dX7_does_17 : decode cX7_does 17 = .ok (.iload_n 2, 1) := by decide +kernel
theorem dX7_does_18 : decode cX7_does 18 = .ok (.baload, 1) := by decide +kernel
theorem dX7_does_19 : decode cX7_does 19 = .ok (.ifCond .ne 19, 3) := by decide +kernel
theorem dX7_does_22 : decode cX7_does 22 = .ok (.aload_n 0, 1) := by decide +kernel
theorem dX7_does_23 : decode cX7_does 23 = .ok (.iload_n 2, 1) := by decide +kernel
theorem dX7_does_24 : decode cX7_does 24 = .ok (.bipush 7, 2) := by decide +kernel
theorem dX7_does_26 : decode cX7_does 26 = .ok (.if_icmp .le 7, 3) := by decide +kernel
theorem dX7_does_29 : decode cX7_does 29 = .ok (.iconst 4, 1) := by decide +kernel
theorem dX7_does_30 : decode cX7_does 30 = .ok (.goto 4, 3) := by decide +kernel
theorem dX7_does_33 : decode cX7_does 33 = .ok (.iconst 5, 1) := by decide +kernel
theorem dX7_does_34 : decode cX7_does 34 = .ok (.invokevirtual 97, 3) := by decide +kernel
theorem dX7_does_37 : decode cX7_does 37 = .ok (.ireturn, 1) := by decide +kernel
theorem dX7_does_38 : decode cX7_does 38 = .ok (.aload_n 0, 1) := by decide +kernel
theorem dX7_does_39 : decode cX7_does 39 = .ok (.iconst 3, 1) := by decide +kernel
theorem dX7_does_40 : decode cX7_does 40 = .ok (.invokevirtual 135, 3) := by decide +kernel
theorem dX7_does_43 : decode cX7_does 43 = .ok (.aload_n 0, 1) := by decide +kernel
theorem dX7_does_44 : decode cX7_does 44 = .ok (.iload_n 1, 1) := by decide +kernel
theorem dX7_does_45 : decode cX7_does 45 = .ok (.invokevirtual 143, 3) := by decide +kernel
theorem dX7_does_48 : decode cX7_does 48 = .ok (.istore_n 3, 1) := by decide +kernel
theorem dX7_does_49 : decode cX7_does 49 = .ok (.aload_n 0, 1) := by decide +kernel
theorem dX7_does_50 : decode cX7_does 50 = .ok (.iconst 4, 1) := by decide +kernel
theorem dX7_does_51 : decode cX7_does 51 = .ok (.invokevirtual 135, 3) := by decide +kernel
theorem dX7_does_54 : decode cX7_does 54 = .ok (.iload_n 3, 1) := by decide +kernel
theorem dX7_does_55 : decode cX7_does 55 = .ok (.ireturn, 1) := by decide +kernel
theorem dX7_reasons_0 : decode cX7_reasons 0 = .ok (.aload_n 0, 1) := by decide +kernel
theorem dX7_reasons_1 : decode cX7_reasons 1 = .ok (.getfield 69, 3) := by decide +kernel
theorem dX7_reasons_4 : decode cX7_reasons 4 = .ok (.iconst 0, 1) := by decide +kernel
theorem dX7_reasons_5 : decode cX7_reasons 5 = .ok (.iload_n 1, 1) := by decide +kernel
theorem dX7_reasons_6 : decode cX7_reasons 6 = .ok (.iastore, 1) := by decide +kernel
theorem dX7_reasons_7 : decode cX7_reasons 7 = .ok (.aload_n 0, 1) := by decide +kernel
theorem dX7_reasons_8 : decode cX7_reasons 8 = .ok (.iconst 1, 1) := by decide +kernel
theorem dX7_reasons_9 : decode cX7_reasons 9 = .ok (.putfield 146, 3) := by decide +kernel
theorem dX7_reasons_12 : decode cX7_reasons 12 = .ok (.aload_n 0, 1) := by decide +kernel
theorem dX7_reasons_13 : decode cX7_reasons 13 = .ok (.getfield 93, 3) := by decide +kernel
theorem dX7_reasons_16 : decode cX7_reasons 16 = .ok (.ifCond .eq 18, 3) := by decide +kernel
theorem dX7_reasons_19 : decode cX7_reasons 19 = .ok (.aload_n 0, 1) := by decide +kernel
theorem dX7_reasons_20 : decode cX7_reasons 20 = .ok (.getfield 69, 3) := by decide +kernel
theorem dX7_reasons_23 : decode cX7_reasons 23 = .ok (.iconst 1, 1) := by decide +kernel
theorem dX7_reasons_24 : decode cX7_reasons 24 = .ok (.bipush 100, 2) := by decide +kernel
theorem dX7_reasons_26 : decode cX7_reasons 26 = .ok (.iload_n 1, 1) := by decide +kernel
theorem dX7_reasons_27 : decode cX7_reasons 27 = .ok (.iadd, 1) := by decide +kernel
theorem dX7_reasons_28 : decode cX7_reasons 28 = .ok (.iastore, 1) := by decide +kernel
theorem dX7_reasons_29 : decode cX7_reasons 29 = .ok (.aload_n 0, 1) := by decide +kernel
theorem dX7_reasons_30 : decode cX7_reasons 30 = .ok (.iconst 2, 1) := by decide +kernel
theorem dX7_reasons_31 : decode cX7_reasons 31 = .ok (.putfield 146, 3) := by decide +kernel
theorem dX7_reasons_34 : decode cX7_reasons 34 = .ok (.return_, 1) := by decide +kernel
theorem dX7_inStead_0 : decode cX7_inStead 0 = .ok (.aload_n 0, 1) := by decide +kernel
theorem dX7_inStead_1 : decode cX7_inStead 1 = .ok (.getfield 146, 3) := by decide +kernel
theorem dX7_inStead_4 : decode cX7_inStead 4 = .ok (.istore_n 2, 1) := by decide +kernel
theorem dX7_inStead_5 : decode cX7_inStead 5 = .ok (.iload_n 2, 1) := by decide +kernel
theorem dX7_inStead_6 : decode cX7_inStead 6 = .ok (.ifCond .le 23, 3) := by decide +kernel
theorem dX7_inStead_9 : decode cX7_inStead 9 = .ok (.aload_n 0, 1) := by decide +kernel
theorem dX7_inStead_10 : decode cX7_inStead 10 = .ok (.getfield 69, 3) := by decide +kernel
theorem dX7_inStead_13 : decode cX7_inStead 13 = .ok (.iload_n 2, 1) := by decide +kernel
theorem dX7_inStead_14 : decode cX7_inStead 14 = .ok (.aload_n 0, 1) := by decide +kernel
theorem dX7_inStead_15 : decode cX7_inStead 15 = .ok (.getfield 69, 3) := by decide +kernel
theorem dX7_inStead_18 : decode cX7_inStead 18 = .ok (.iload_n 2, 1) := by decide +kernel
theorem dX7_inStead_19 : decode cX7_inStead 19 = .ok (.iconst 1, 1) := by decide +kernel
theorem dX7_inStead_20 : decode cX7_inStead 20 = .ok (.isub, 1) := by decide +kernel
theorem dX7_inStead_21 : decode cX7_inStead 21 = .ok (.iaload, 1) := by decide +kernel
theorem dX7_inStead_22 : decode cX7_inStead 22 = .ok (.iastore, 1) := by decide +kernel
theorem dX7_inStead_23 : decode cX7_inStead 23 = .ok (.iinc 2 (-1), 3) := by decide +kernel
theorem dX7_inStead_26 : decode cX7_inStead 26 = .ok (.goto (-21), 3) := by decide +kernel
theorem dX7_inStead_29 : decode cX7_inStead 29 = .ok (.aload_n 0, 1) := by decide +kernel
theorem dX7_inStead_30 : decode cX7_inStead 30 = .ok (.getfield 69, 3) := by decide +kernel
theorem dX7_inStead_33 : decode cX7_inStead 33 = .ok (.iconst 0, 1) := by decide +kernel
theorem dX7_inStead_34 : decode cX7_inStead 34 = .ok (.iload_n 1, 1) := by decide +kernel
theorem dX7_inStead_35 : decode cX7_inStead 35 = .ok (.iastore, 1) := by decide +kernel
theorem dX7_inStead_36 : decode cX7_inStead 36 = .ok (.aload_n 0, 1) := by decide +kernel
theorem dX7_inStead_37 : decode cX7_inStead 37 = .ok (.dup, 1) := by decide +kernel
theorem dX7_inStead_38 : decode cX7_inStead 38 = .ok (.getfield 146, 3) := by decide +kernel
theorem dX7_inStead_41 : decode cX7_inStead 41 = .ok (.iconst 1, 1) := by decide +kernel
theorem dX7_inStead_42 : decode cX7_inStead 42 = .ok (.iadd, 1) := by decide +kernel
theorem dX7_inStead_43 : decode cX7_inStead 43 = .ok (.putfield 146, 3) := by decide +kernel
theorem dX7_inStead_46 : decode cX7_inStead 46 = .ok (.return_, 1) := by decide +kernel
set_option maxRecDepth 20000 in
theorem ggX7_works_X7_mark : GoodIn wsX7_works wsX7_mark := goodIn_r _ [10, 3, 11, 96, 97, 98, 99, 100, 101, 102, 103, 104, 105, 106, 107, 108, 109, 110, 111, 112, 113, 114, 115, 116, 117, 118, 119, 120, 121, 122, 123] (by decide +kernel) (by decide +kernel)
set_option maxRecDepth 20000 in
theorem gX7_works_X7_mark : GoodIn wsX7_works (wsV RX7 135 RX7 yX7_mark wsX7_mark) := goodIn_app (goodIn_of _ (by decide +kernel)) ggX7_works_X7_mark
set_option maxRecDepth 20000 in
theorem ggX7_works_X7_does : GoodIn wsX7_works wsX7_does := goodIn_r _ [15, 16, 17, 18, 19, 20, 9, 21, 5, 22, 23, 24, 25, 6, 7, 8, 10, 3, 11, 26, 27, 28, 29, 30, 31, 32, 33, 34, 35, 36, 37, 38, 39, 40, 41, 42, 43, 44, 45, 46, 47, 48, 49, 50, 51, 52, 53, 54, 55, 56, 57, 58, 59, 60, 61, 62, 63, 64, 65, 66, 67, 68, 69, 70, 71, 72, 73, 74, 75, 76, 77, 78, 79, 80, 81, 82, 83, 84, 85, 96, 97, 98, 99, 100, 101, 102, 103, 104, 105, 106, 107, 108, 109, 110, 111, 112, 113, 114, 115, 116, 117, 118, 119, 120, 121, 122, 123] (by decide +kernel) (by decide +kernel)
set_option maxRecDepth 20000 in
theorem gX7_works_X7_does : GoodIn wsX7_works (wsV RX7 149 RX7 yX7_does wsX7_does) := goodIn_app (goodIn_of _ (by decide +kernel)) ggX7_works_X7_does
set_option maxRecDepth 20000 in
theorem ggX7_works_X7_reasons : GoodIn wsX7_works wsX7_reasons := goodIn_r _ [89, 90, 91, 22, 96, 97, 98, 99, 100, 101, 102, 103, 104, 105, 106, 107, 108, 109, 110, 111, 112, 113, 114, 115, 116, 117, 118, 119, 120, 121, 122, 123] (by decide +kernel) (by decide +kernel)
set_option maxRecDepth 20000 in
theorem gX7_works_X7_reasons : GoodIn wsX7_works (wsV RX7 152 RX7 yX7_reasons wsX7_reasons) := goodIn_app (goodIn_of _ (by decide +kernel)) ggX7_works_X7_reasons
set_option maxRecDepth 20000 in
theorem ggX7_works_X7_inStead : GoodIn wsX7_works wsX7_inStead := goodIn_r _ [95, 91, 90, 96, 97, 98, 99, 100, 101, 102, 103, 104, 105, 106, 107, 108, 109, 110, 111, 112, 113, 114, 115, 116, 117, 118, 119, 120, 121, 122, 123] (by decide +kernel) (by decide +kernel)
set_option maxRecDepth 20000 in
theorem gX7_works_X7_inStead : GoodIn wsX7_works (wsV RX7 155 RX7 yX7_inStead wsX7_inStead) := goodIn_app (goodIn_of _ (by decide +kernel)) ggX7_works_X7_inStead
theorem dX7_works_0 : decode cX7_works 0 = .ok (.aload_n 0, 1) := by decide +kernel
theorem dX7_works_1 : decode cX7_works 1 = .ok (.iconst 1, 1) := by decide +kernel
theorem dX7_works_2 : decode cX7_works 2 = .ok (.invokevirtual 135, 3) := by decide +kernel
theorem dX7_works_5 : decode cX7_works 5 = .ok (.iconst 0, 1) := by decide +kernel
theorem dX7_works_6 : decode cX7_works 6 = .ok (.istore_n 2, 1) := by decide +kernel
theorem dX7_works_7 : decode cX7_works 7 = .ok (.iconst 0, 1) := by decide +kernel
theorem dX7_works_8 : decode cX7_works 8 = .ok (.istore_n 3, 1) := by decide +kernel
theorem dX7_works_9 : decode cX7_works 9 = .ok (.iload_n 3, 1) := by decide +kernel
theorem dX7_works_10 : decode cX7_works 10 = .ok (.aload_n 0, 1) := by decide +kernel
theorem dX7_works_11 : decode cX7_works 11 = .ok (.getfield 20, 3) := by decide +kernel
theorem dX7_works_14 : decode cX7_works 14 = .ok (.iload_n 1, 1) := by decide +kernel
theorem dX7_works_15 : decode cX7_works 15 = .ok (.iaload, 1) := by decide +kernel
theorem dX7_works_16 : decode cX7_works 16 = .ok (.if_icmp .ge 118, 3) := by decide +kernel
theorem dX7_works_19 : decode cX7_works 19 = .ok (.iload_n 2, 1) := by decide +kernel
theorem dX7_works_20 : decode cX7_works 20 = .ok (.ifCond .ne 114, 3) := by decide +kernel
theorem dX7_works_23 : decode cX7_works 23 = .ok (.aload_n 0, 1) := by decide +kernel
theorem dX7_works_24 : decode cX7_works 24 = .ok (.bipush 6, 2) := by decide +kernel
theorem dX7_works_26 : decode cX7_works 26 = .ok (.iload_n 1, 1) := by decide +kernel
theorem dX7_works_27 : decode cX7_works 27 = .ok (.imul, 1) := by decide +kernel
theorem dX7_works_28 : decode cX7_works 28 = .ok (.iload_n 3, 1) := by decide +kernel
theorem dX7_works_29 : decode cX7_works 29 = .ok (.iadd, 1) := by decide +kernel
theorem dX7_works_30 : decode cX7_works 30 = .ok (.invokevirtual 149, 3) := by decide +kernel
theorem dX7_works_33 : decode cX7_works 33 = .ok (.istore_n 2, 1) := by decide +kernel
theorem dX7_works_34 : decode cX7_works 34 = .ok (.iload_n 2, 1) := by decide +kernel
theorem dX7_works_35 : decode cX7_works 35 = .ok (.iconst 1, 1) := by decide +kernel
theorem dX7_works_36 : decode cX7_works 36 = .ok (.if_icmp .ne 5, 3) := by decide +kernel
theorem dX7_works_39 : decode cX7_works 39 = .ok (.iconst 0, 1) := by decide +kernel
theorem dX7_works_40 : decode cX7_works 40 = .ok (.istore_n 2, 1) := by decide +kernel
theorem dX7_works_41 : decode cX7_works 41 = .ok (.iload_n 2, 1) := by decide +kernel
theorem dX7_works_42 : decode cX7_works 42 = .ok (.iconst 5, 1) := by decide +kernel
theorem dX7_works_43 : decode cX7_works 43 = .ok (.if_icmp .ne 54, 3) := by decide +kernel
theorem dX7_works_46 : decode cX7_works 46 = .ok (.aload_n 0, 1) := by decide +kernel
theorem dX7_works_47 : decode cX7_works 47 = .ok (.getfield 17, 3) := by decide +kernel
theorem dX7_works_50 : decode cX7_works 50 = .ok (.iload_n 1, 1) := by decide +kernel
theorem dX7_works_51 : decode cX7_works 51 = .ok (.iaload, 1) := by decide +kernel
theorem dX7_works_52 : decode cX7_works 52 = .ok (.iconst 1, 1) := by decide +kernel
theorem dX7_works_53 : decode cX7_works 53 = .ok (.if_icmp .ne 44, 3) := by decide +kernel
theorem dX7_works_56 : decode cX7_works 56 = .ok (.aload_n 0, 1) := by decide +kernel
theorem dX7_works_57 : decode cX7_works 57 = .ok (.getfield 60, 3) := by decide +kernel
theorem dX7_works_60 : decode cX7_works 60 = .ok (.bipush 6, 2) := by decide +kernel
theorem dX7_works_62 : decode cX7_works 62 = .ok (.iaload, 1) := by decide +kernel
theorem dX7_works_63 : decode cX7_works 63 = .ok (.bipush 24, 2) := by decide +kernel
theorem dX7_works_65 : decode cX7_works 65 = .ok (.if_icmp .ge 19, 3) := by decide +kernel
theorem dX7_works_68 : decode cX7_works 68 = .ok (.aload_n 0, 1) := by decide +kernel
theorem dX7_works_69 : decode cX7_works 69 = .ok (.getfield 66, 3) := by decide +kernel
theorem dX7_works_72 : decode cX7_works 72 = .ok (.aload_n 0, 1) := by decide +kernel
theorem dX7_works_73 : decode cX7_works 73 = .ok (.getfield 60, 3) := by decide +kernel
theorem dX7_works_76 : decode cX7_works 76 = .ok (.bipush 6, 2) := by decide +kernel
theorem dX7_works_78 : decode cX7_works 78 = .ok (.iaload, 1) := by decide +kernel
theorem dX7_works_79 : decode cX7_works 79 = .ok (.aload_n 0, 1) := by decide +kernel
theorem dX7_works_80 : decode cX7_works 80 = .ok (.getfield 90, 3) := by decide +kernel
theorem dX7_works_83 : decode cX7_works 83 = .ok (.iastore, 1) := by decide +kernel
theorem dX7_works_84 : decode cX7_works 84 = .ok (.aload_n 0, 1) := by decide +kernel
theorem dX7_works_85 : decode cX7_works 85 = .ok (.getfield 60, 3) := by decide +kernel
theorem dX7_works_88 : decode cX7_works 88 = .ok (.bipush 6, 2) := by decide +kernel
theorem dX7_works_90 : decode cX7_works 90 = .ok (.dup2, 1) := by decide +kernel
theorem dX7_works_91 : decode cX7_works 91 = .ok (.iaload, 1) := by decide +kernel
theorem dX7_works_92 : decode cX7_works 92 = .ok (.iconst 1, 1) := by decide +kernel
theorem dX7_works_93 : decode cX7_works 93 = .ok (.iadd, 1) := by decide +kernel
theorem dX7_works_94 : decode cX7_works 94 = .ok (.iastore, 1) := by decide +kernel
theorem dX7_works_95 : decode cX7_works 95 = .ok (.iconst 0, 1) := by decide +kernel
theorem dX7_works_96 : decode cX7_works 96 = .ok (.istore_n 2, 1) := by decide +kernel
theorem dX7_works_97 : decode cX7_works 97 = .ok (.iload_n 2, 1) := by decide +kernel
theorem dX7_works_98 : decode cX7_works 98 = .ok (.iconst 5, 1) := by decide +kernel
theorem dX7_works_99 : decode cX7_works 99 = .ok (.if_icmp .ne 29, 3) := by decide +kernel
theorem dX7_works_102 : decode cX7_works 102 = .ok (.aload_n 0, 1) := by decide +kernel
theorem dX7_works_103 : decode cX7_works 103 = .ok (.aload_n 0, 1) := by decide +kernel
theorem dX7_works_104 : decode cX7_works 104 = .ok (.getfield 90, 3) := by decide +kernel
theorem dX7_works_107 : decode cX7_works 107 = .ok (.invokevirtual 152, 3) := by decide +kernel
theorem dX7_works_110 : decode cX7_works 110 = .ok (.aload_n 0, 1) := by decide +kernel
theorem dX7_works_111 : decode cX7_works 111 = .ok (.getfield 17, 3) := by decide +kernel
theorem dX7_works_114 : decode cX7_works 114 = .ok (.iload_n 1, 1) := by decide +kernel
theorem dX7_works_115 : decode cX7_works 115 = .ok (.iaload, 1) := by decide +kernel
theorem dX7_works_116 : decode cX7_works 116 = .ok (.iconst 2, 1) := by decide +kernel
theorem dX7_works_117 : decode cX7_works 117 = .ok (.if_icmp .ne 11, 3) := by decide +kernel
theorem dX7_works_120 : decode cX7_works 120 = .ok (.aload_n 0, 1) := by decide +kernel
theorem dX7_works_121 : decode cX7_works 121 = .ok (.bipush 20, 2) := by decide +kernel
theorem dX7_works_123 : decode cX7_works 123 = .ok (.iload_n 3, 1) := by decide +kernel
theorem dX7_works_124 : decode cX7_works 124 = .ok (.iadd, 1) := by decide +kernel
theorem dX7_works_125 : decode cX7_works 125 = .ok (.invokevirtual 155, 3) := by decide +kernel
theorem dX7_works_128 : decode cX7_works 128 = .ok (.iinc 3 1, 3) := by decide +kernel
theorem dX7_works_131 : decode cX7_works 131 = .ok (.goto (-122), 3) := by decide +kernel
theorem dX7_works_134 : decode cX7_works 134 = .ok (.aload_n 0, 1) := by decide +kernel
theorem dX7_works_135 : decode cX7_works 135 = .ok (.iconst 2, 1) := by decide +kernel
theorem dX7_works_136 : decode cX7_works 136 = .ok (.invokevirtual 135, 3) := by decide +kernel
theorem dX7_works_139 : decode cX7_works 139 = .ok (.iload_n 2, 1) := by decide +kernel
theorem dX7_works_140 : decode cX7_works 140 = .ok (.iconst 3, 1) := by decide +kernel
theorem dX7_works_141 : decode cX7_works 141 = .ok (.if_icmp .ne 7, 3) := by decide +kernel
theorem dX7_works_144 : decode cX7_works 144 = .ok (.iconst 0, 1) := by decide +kernel
theorem dX7_works_145 : decode cX7_works 145 = .ok (.goto 4, 3) := by decide +kernel
theorem dX7_works_148 : decode cX7_works 148 = .ok (.iload_n 2, 1) := by decide +kernel
theorem dX7_works_149 : decode cX7_works 149 = .ok (.ireturn, 1) := by decide +kernel
set_option maxRecDepth 20000 in
theorem ggX7_run_X7_isBatch : GoodIn wsX7_run wsX7_isBatch := goodIn_r _ [8, 9, 10, 7, 11] (by decide +kernel) (by decide +kernel)
set_option maxRecDepth 20000 in
theorem gX7_run_X7_isBatch : GoodIn wsX7_run (va_wsS RX7 79 yX7_isBatch wsX7_isBatch) := goodIn_app (goodIn_of _ (by decide +kernel)) ggX7_run_X7_isBatch
set_option maxRecDepth 20000 in
theorem ggX7_run_X7_works : GoodIn wsX7_run wsX7_works := goodIn_r _ [15, 16, 17, 2, 18, 19, 20, 21, 22, 7, 23, 24, 25, 26, 27, 28, 29, 30, 31, 32, 33, 34, 35, 9, 10, 11, 36, 37, 38, 39, 40, 41, 42, 43, 44, 45, 46, 47, 48, 4, 49, 50, 51, 52, 53, 54, 55, 56, 57, 58, 59, 60, 61, 62, 63, 64, 65, 66, 67, 68, 69, 70, 71, 72, 73, 74, 75, 76, 77, 78, 79, 80, 81, 82, 83, 84, 85, 86, 87, 88, 89, 90, 91, 92, 93, 94, 95, 96, 97, 98, 99, 3, 100, 101, 102, 103, 104, 105, 106, 107, 108, 109, 110, 111, 112, 113, 114, 115, 116, 117, 118, 119, 120, 121, 122, 123, 124, 125, 126, 127, 128, 129, 130, 131] (by decide +kernel) (by decide +kernel)
set_option maxRecDepth 20000 in
theorem gX7_run_X7_works : GoodIn wsX7_run (wsV RX7 158 RX7 yX7_works wsX7_works) := goodIn_app (goodIn_of _ (by decide +kernel)) ggX7_run_X7_works
set_option maxRecDepth 20000 in
theorem ggX7_run_X7_inStead : GoodIn wsX7_run wsX7_inStead := goodIn_r _ [103, 3, 99, 104, 105, 106, 107, 108, 109, 110, 111, 112, 113, 114, 115, 116, 117, 118, 119, 120, 121, 122, 123, 124, 125, 126, 127, 128, 129, 130, 131] (by decide +kernel) (by decide +kernel)
set_option maxRecDepth 20000 in
theorem gX7_run_X7_inStead : GoodIn wsX7_run (wsV RX7 155 RX7 yX7_inStead wsX7_inStead) := goodIn_app (goodIn_of _ (by decide +kernel)) ggX7_run_X7_inStead
theorem dX7_run_0 : decode cX7_run 0 = .ok (.aload_n 0, 1) := by decide +kernel
theorem dX7_run_1 : decode cX7_run 1 = .ok (.iconst 0, 1) := by decide +kernel
theorem dX7_run_2 : decode cX7_run 2 = .ok (.putfield 72, 3) := by decide +kernel
theorem dX7_run_5 : decode cX7_run 5 = .ok (.iload_n 1, 1) := by decide +kernel
theorem dX7_run_6 : decode cX7_run 6 = .ok (.invokestatic 79, 3) := by decide +kernel
theorem dX7_run_9 : decode cX7_run 9 = .ok (.ifCond .eq 15, 3) := by decide +kernel
theorem dX7_run_12 : decode cX7_run 12 = .ok (.iload_n 2, 1) := by decide +kernel
theorem dX7_run_13 : decode cX7_run 13 = .ok (.invokestatic 79, 3) := by decide +kernel
theorem dX7_run_16 : decode cX7_run 16 = .ok (.ifCond .eq 8, 3) := by decide +kernel
theorem dX7_run_19 : decode cX7_run 19 = .ok (.iload_n 1, 1) := by decide +kernel
theorem dX7_run_20 : decode cX7_run 20 = .ok (.iload_n 2, 1) := by decide +kernel
theorem dX7_run_21 : decode cX7_run 21 = .ok (.if_icmp .le 5, 3) := by decide +kernel
theorem dX7_run_24 : decode cX7_run 24 = .ok (.iconst (-1), 1) := by decide +kernel
theorem dX7_run_25 : decode cX7_run 25 = .ok (.ireturn, 1) := by decide +kernel
theorem dX7_run_26 : decode cX7_run 26 = .ok (.iconst 0, 1) := by decide +kernel
theorem dX7_run_27 : decode cX7_run 27 = .ok (.istore 4, 2) := by decide +kernel
theorem dX7_run_29 : decode cX7_run 29 = .ok (.iload 4, 2) := by decide +kernel
theorem dX7_run_31 : decode cX7_run 31 = .ok (.bipush 8, 2) := by decide +kernel
theorem dX7_run_33 : decode cX7_run 33 = .ok (.if_icmp .ge 17, 3) := by decide +kernel
theorem dX7_run_36 : decode cX7_run 36 = .ok (.aload_n 0, 1) := by decide +kernel
theorem dX7_run_37 : decode cX7_run 37 = .ok (.getfield 60, 3) := by decide +kernel
theorem dX7_run_40 : decode cX7_run 40 = .ok (.iload 4, 2) := by decide +kernel
theorem dX7_run_42 : decode cX7_run 42 = .ok (.iconst 0, 1) := by decide +kernel
theorem dX7_run_43 : decode cX7_run 43 = .ok (.iastore, 1) := by decide +kernel
theorem dX7_run_44 : decode cX7_run 44 = .ok (.iinc 4 1, 3) := by decide +kernel
theorem dX7_run_47 : decode cX7_run 47 = .ok (.goto (-18), 3) := by decide +kernel
theorem dX7_run_50 : decode cX7_run 50 = .ok (.aload_n 0, 1) := by decide +kernel
theorem dX7_run_51 : decode cX7_run 51 = .ok (.iconst 0, 1) := by decide +kernel
theorem dX7_run_52 : decode cX7_run 52 = .ok (.putfield 146, 3) := by decide +kernel
theorem dX7_run_55 : decode cX7_run 55 = .ok (.iload_n 1, 1) := by decide +kernel
theorem dX7_run_56 : decode cX7_run 56 = .ok (.istore 4, 2) := by decide +kernel
theorem dX7_run_58 : decode cX7_run 58 = .ok (.iload 4, 2) := by decide +kernel
theorem dX7_run_60 : decode cX7_run 60 = .ok (.iload_n 2, 1) := by decide +kernel
theorem dX7_run_61 : decode cX7_run 61 = .ok (.if_icmp .gt 63, 3) := by decide +kernel
theorem dX7_run_64 : decode cX7_run 64 = .ok (.aload_n 0, 1) := by decide +kernel
theorem dX7_run_65 : decode cX7_run 65 = .ok (.iload 4, 2) := by decide +kernel
theorem dX7_run_67 : decode cX7_run 67 = .ok (.invokevirtual 158, 3) := by decide +kernel
theorem dX7_run_70 : decode cX7_run 70 = .ok (.istore 5, 2) := by decide +kernel
theorem dX7_run_72 : decode cX7_run 72 = .ok (.iload 5, 2) := by decide +kernel
theorem dX7_run_74 : decode cX7_run 74 = .ok (.iconst 5, 1) := by decide +kernel
theorem dX7_run_75 : decode cX7_run 75 = .ok (.if_icmp .ne 19, 3) := by decide +kernel
theorem dX7_run_78 : decode cX7_run 78 = .ok (.iload_n 3, 1) := by decide +kernel
theorem dX7_run_79 : decode cX7_run 79 = .ok (.ifCond .eq 12, 3) := by decide +kernel
theorem dX7_run_82 : decode cX7_run 82 = .ok (.aload_n 0, 1) := by decide +kernel
theorem dX7_run_83 : decode cX7_run 83 = .ok (.bipush 30, 2) := by decide +kernel
theorem dX7_run_85 : decode cX7_run 85 = .ok (.iload 4, 2) := by decide +kernel
theorem dX7_run_87 : decode cX7_run 87 = .ok (.iadd, 1) := by decide +kernel
theorem dX7_run_88 : decode cX7_run 88 = .ok (.invokevirtual 155, 3) := by decide +kernel
theorem dX7_run_91 : decode cX7_run 91 = .ok (.bipush (-10), 2) := by decide +kernel
theorem dX7_run_93 : decode cX7_run 93 = .ok (.ireturn, 1) := by decide +kernel
theorem dX7_run_94 : decode cX7_run 94 = .ok (.iload 5, 2) := by decide +kernel
theorem dX7_run_96 : decode cX7_run 96 = .ok (.ifCond .eq 22, 3) := by decide +kernel
theorem dX7_run_99 : decode cX7_run 99 = .ok (.iload 5, 2) := by decide +kernel
theorem dX7_run_101 : decode cX7_run 101 = .ok (.iconst 4, 1) := by decide +kernel
theorem dX7_run_102 : decode cX7_run 102 = .ok (.if_icmp .ne 13, 3) := by decide +kernel
theorem dX7_run_105 : decode cX7_run 105 = .ok (.bipush 100, 2) := by decide +kernel
theorem dX7_run_107 : decode cX7_run 107 = .ok (.aload_n 0, 1) := by decide +kernel
theorem dX7_run_108 : decode cX7_run 108 = .ok (.getfield 110, 3) := by decide +kernel
theorem dX7_run_111 : decode cX7_run 111 = .ok (.iadd, 1) := by decide +kernel
theorem dX7_run_112 : decode cX7_run 112 = .ok (.goto 5, 3) := by decide +kernel
theorem dX7_run_115 : decode cX7_run 115 = .ok (.bipush (-11), 2) := by decide +kernel
theorem dX7_run_117 : decode cX7_run 117 = .ok (.ireturn, 1) := by decide +kernel
theorem dX7_run_118 : decode cX7_run 118 = .ok (.iinc 4 1, 3) := by decide +kernel
theorem dX7_run_121 : decode cX7_run 121 = .ok (.goto (-63), 3) := by decide +kernel
theorem dX7_run_124 : decode cX7_run 124 = .ok (.iload_n 2, 1) := by decide +kernel
theorem dX7_run_125 : decode cX7_run 125 = .ok (.iload_n 1, 1) := by decide +kernel
theorem dX7_run_126 : decode cX7_run 126 = .ok (.isub, 1) := by decide +kernel
theorem dX7_run_127 : decode cX7_run 127 = .ok (.iconst 1, 1) := by decide +kernel
theorem dX7_run_128 : decode cX7_run 128 = .ok (.iadd, 1) := by decide +kernel
theorem dX7_run_129 : decode cX7_run 129 = .ok (.ireturn, 1) := by decide +kernel
set_option maxRecDepth 20000 in
theorem ggX7_why_X7_in : GoodIn wsX7_why wsX7_in := goodIn_r _ [7] (by decide +kernel) (by decide +kernel)
set_option maxRecDepth 20000 in
theorem gX7_why_X7_in : GoodIn wsX7_why (va_wsS RX7 75 yX7_in wsX7_in) := goodIn_app (goodIn_of _ (by decide +kernel)) ggX7_why_X7_in
theorem dX7_why_0 : decode cX7_why 0 = .ok (.aload_n 0, 1) := by decide +kernel
theorem dX7_why_1 : decode cX7_why 1 = .ok (.iconst 0, 1) := by decide +kernel
theorem dX7_why_2 : decode cX7_why 2 = .ok (.putfield 72, 3) := by decide +kernel
theorem dX7_why_5 : decode cX7_why 5 = .ok (.iload_n 1, 1) := by decide +kernel
theorem dX7_why_6 : decode cX7_why 6 = .ok (.iconst 0, 1) := by decide +kernel
theorem dX7_why_7 : decode cX7_why 7 = .ok (.aload_n 0, 1) := by decide +kernel
theorem dX7_why_8 : decode cX7_why 8 = .ok (.getfield 146, 3) := by decide +kernel
theorem dX7_why_11 : decode cX7_why 11 = .ok (.iconst 1, 1) := by decide +kernel
theorem dX7_why_12 : decode cX7_why 12 = .ok (.isub, 1) := by decide +kernel
theorem dX7_why_13 : decode cX7_why 13 = .ok (.invokestatic 75, 3) := by decide +kernel
theorem dX7_why_16 : decode cX7_why 16 = .ok (.ifCond .eq 12, 3) := by decide +kernel
theorem dX7_why_19 : decode cX7_why 19 = .ok (.aload_n 0, 1) := by decide +kernel
theorem dX7_why_20 : decode cX7_why 20 = .ok (.getfield 69, 3) := by decide +kernel
theorem dX7_why_23 : decode cX7_why 23 = .ok (.iload_n 1, 1) := by decide +kernel
theorem dX7_why_24 : decode cX7_why 24 = .ok (.iaload, 1) := by decide +kernel
theorem dX7_why_25 : decode cX7_why 25 = .ok (.goto 5, 3) := by decide +kernel
theorem dX7_why_28 : decode cX7_why 28 = .ok (.bipush (-4), 2) := by decide +kernel
theorem dX7_why_30 : decode cX7_why 30 = .ok (.ireturn, 1) := by decide +kernel
set_option maxRecDepth 20000 in
theorem ggX7_told_X7_in : GoodIn wsX7_told wsX7_in := goodIn_r _ [6] (by decide +kernel) (by decide +kernel)
set_option maxRecDepth 20000 in
theorem gX7_told_X7_in : GoodIn wsX7_told (va_wsS RX7 75 yX7_in wsX7_in) := goodIn_app (goodIn_of _ (by decide +kernel)) ggX7_told_X7_in
theorem dX7_told_0 : decode cX7_told 0 = .ok (.aload_n 0, 1) := by decide +kernel
theorem dX7_told_1 : decode cX7_told 1 = .ok (.iconst 0, 1) := by decide +kernel
theorem dX7_told_2 : decode cX7_told 2 = .ok (.putfield 72, 3) := by decide +kernel
theorem dX7_told_5 : decode cX7_told 5 = .ok (.iload_n 1, 1) := by decide +kernel
theorem dX7_told_6 : decode cX7_told 6 = .ok (.iconst 0, 1) := by decide +kernel
theorem dX7_told_7 : decode cX7_told 7 = .ok (.bipush 7, 2) := by decide +kernel
theorem dX7_told_9 : decode cX7_told 9 = .ok (.invokestatic 75, 3) := by decide +kernel
theorem dX7_told_12 : decode cX7_told 12 = .ok (.ifCond .eq 12, 3) := by decide +kernel
theorem dX7_told_15 : decode cX7_told 15 = .ok (.aload_n 0, 1) := by decide +kernel
theorem dX7_told_16 : decode cX7_told 16 = .ok (.getfield 60, 3) := by decide +kernel
theorem dX7_told_19 : decode cX7_told 19 = .ok (.iload_n 1, 1) := by decide +kernel
theorem dX7_told_20 : decode cX7_told 20 = .ok (.iaload, 1) := by decide +kernel
theorem dX7_told_21 : decode cX7_told 21 = .ok (.goto 4, 3) := by decide +kernel
theorem dX7_told_24 : decode cX7_told 24 = .ok (.iconst (-1), 1) := by decide +kernel
theorem dX7_told_25 : decode cX7_told 25 = .ok (.ireturn, 1) := by decide +kernel
set_option maxRecDepth 20000 in
theorem ggX7_trace_X7_in : GoodIn wsX7_trace wsX7_in := goodIn_r _ [7] (by decide +kernel) (by decide +kernel)
set_option maxRecDepth 20000 in
theorem gX7_trace_X7_in : GoodIn wsX7_trace (va_wsS RX7 75 yX7_in wsX7_in) := goodIn_app (goodIn_of _ (by decide +kernel)) ggX7_trace_X7_in
theorem dX7_trace_0 : decode cX7_trace 0 = .ok (.aload_n 0, 1) := by decide +kernel
theorem dX7_trace_1 : decode cX7_trace 1 = .ok (.iconst 0, 1) := by decide +kernel
theorem dX7_trace_2 : decode cX7_trace 2 = .ok (.putfield 72, 3) := by decide +kernel
theorem dX7_trace_5 : decode cX7_trace 5 = .ok (.iload_n 1, 1) := by decide +kernel
theorem dX7_trace_6 : decode cX7_trace 6 = .ok (.iconst 0, 1) := by decide +kernel
theorem dX7_trace_7 : decode cX7_trace 7 = .ok (.aload_n 0, 1) := by decide +kernel
theorem dX7_trace_8 : decode cX7_trace 8 = .ok (.getfield 60, 3) := by decide +kernel
theorem dX7_trace_11 : decode cX7_trace 11 = .ok (.bipush 7, 2) := by decide +kernel
theorem dX7_trace_13 : decode cX7_trace 13 = .ok (.iaload, 1) := by decide +kernel
theorem dX7_trace_14 : decode cX7_trace 14 = .ok (.sipush 400, 3) := by decide +kernel
theorem dX7_trace_17 : decode cX7_trace 17 = .ok (.if_icmp .ge 13, 3) := by decide +kernel
theorem dX7_trace_20 : decode cX7_trace 20 = .ok (.aload_n 0, 1) := by decide +kernel
theorem dX7_trace_21 : decode cX7_trace 21 = .ok (.getfield 60, 3) := by decide +kernel
theorem dX7_trace_24 : decode cX7_trace 24 = .ok (.bipush 7, 2) := by decide +kernel
theorem dX7_trace_26 : decode cX7_trace 26 = .ok (.iaload, 1) := by decide +kernel
theorem dX7_trace_27 : decode cX7_trace 27 = .ok (.goto 6, 3) := by decide +kernel
theorem dX7_trace_30 : decode cX7_trace 30 = .ok (.sipush 400, 3) := by decide +kernel
theorem dX7_trace_33 : decode cX7_trace 33 = .ok (.iconst 1, 1) := by decide +kernel
theorem dX7_trace_34 : decode cX7_trace 34 = .ok (.isub, 1) := by decide +kernel
theorem dX7_trace_35 : decode cX7_trace 35 = .ok (.invokestatic 75, 3) := by decide +kernel
theorem dX7_trace_38 : decode cX7_trace 38 = .ok (.ifCond .eq 12, 3) := by decide +kernel
theorem dX7_trace_41 : decode cX7_trace 41 = .ok (.aload_n 0, 1) := by decide +kernel
theorem dX7_trace_42 : decode cX7_trace 42 = .ok (.getfield 63, 3) := by decide +kernel
theorem dX7_trace_45 : decode cX7_trace 45 = .ok (.iload_n 1, 1) := by decide +kernel
theorem dX7_trace_46 : decode cX7_trace 46 = .ok (.iaload, 1) := by decide +kernel
theorem dX7_trace_47 : decode cX7_trace 47 = .ok (.goto 5, 3) := by decide +kernel
theorem dX7_trace_50 : decode cX7_trace 50 = .ok (.bipush (-4), 2) := by decide +kernel
theorem dX7_trace_52 : decode cX7_trace 52 = .ok (.ireturn, 1) := by decide +kernel
set_option maxRecDepth 20000 in
theorem ggX7_noted_X7_in : GoodIn wsX7_noted wsX7_in := goodIn_r _ [7] (by decide +kernel) (by decide +kernel)
set_option maxRecDepth 20000 in
theorem gX7_noted_X7_in : GoodIn wsX7_noted (va_wsS RX7 75 yX7_in wsX7_in) := goodIn_app (goodIn_of _ (by decide +kernel)) ggX7_noted_X7_in
theorem dX7_noted_0 : decode cX7_noted 0 = .ok (.aload_n 0, 1) := by decide +kernel
theorem dX7_noted_1 : decode cX7_noted 1 = .ok (.iconst 0, 1) := by decide +kernel
theorem dX7_noted_2 : decode cX7_noted 2 = .ok (.putfield 72, 3) := by decide +kernel
theorem dX7_noted_5 : decode cX7_noted 5 = .ok (.iload_n 1, 1) := by decide +kernel
theorem dX7_noted_6 : decode cX7_noted 6 = .ok (.iconst 0, 1) := by decide +kernel
theorem dX7_noted_7 : decode cX7_noted 7 = .ok (.aload_n 0, 1) := by decide +kernel
theorem dX7_noted_8 : decode cX7_noted 8 = .ok (.getfield 60, 3) := by decide +kernel
theorem dX7_noted_11 : decode cX7_noted 11 = .ok (.bipush 6, 2) := by decide +kernel
theorem dX7_noted_13 : decode cX7_noted 13 = .ok (.iaload, 1) := by decide +kernel
theorem dX7_noted_14 : decode cX7_noted 14 = .ok (.bipush 24, 2) := by decide +kernel
theorem dX7_noted_16 : decode cX7_noted 16 = .ok (.if_icmp .ge 13, 3) := by decide +kernel
theorem dX7_noted_19 : decode cX7_noted 19 = .ok (.aload_n 0, 1) := by decide +kernel
theorem dX7_noted_20 : decode cX7_noted 20 = .ok (.getfield 60, 3) := by decide +kernel
theorem dX7_noted_23 : decode cX7_noted 23 = .ok (.bipush 6, 2) := by decide +kernel
theorem dX7_noted_25 : decode cX7_noted 25 = .ok (.iaload, 1) := by decide +kernel
theorem dX7_noted_26 : decode cX7_noted 26 = .ok (.goto 5, 3) := by decide +kernel
theorem dX7_noted_29 : decode cX7_noted 29 = .ok (.bipush 24, 2) := by decide +kernel
theorem dX7_noted_31 : decode cX7_noted 31 = .ok (.iconst 1, 1) := by decide +kernel
theorem dX7_noted_32 : decode cX7_noted 32 = .ok (.isub, 1) := by decide +kernel
theorem dX7_noted_33 : decode cX7_noted 33 = .ok (.invokestatic 75, 3) := by decide +kernel
theorem dX7_noted_36 : decode cX7_noted 36 = .ok (.ifCond .eq 12, 3) := by decide +kernel
theorem dX7_noted_39 : decode cX7_noted 39 = .ok (.aload_n 0, 1) := by decide +kernel
theorem dX7_noted_40 : decode cX7_noted 40 = .ok (.getfield 66, 3) := by decide +kernel
theorem dX7_noted_43 : decode cX7_noted 43 = .ok (.iload_n 1, 1) := by decide +kernel
theorem dX7_noted_44 : decode cX7_noted 44 = .ok (.iaload, 1) := by decide +kernel
theorem dX7_noted_45 : decode cX7_noted 45 = .ok (.goto 5, 3) := by decide +kernel
theorem dX7_noted_48 : decode cX7_noted 48 = .ok (.bipush (-4), 2) := by decide +kernel
theorem dX7_noted_50 : decode cX7_noted 50 = .ok (.ireturn, 1) := by decide +kernel
set_option maxRecDepth 20000 in
theorem ggX7_drops_X7_in : GoodIn wsX7_drops wsX7_in := goodIn_r _ [7] (by decide +kernel) (by decide +kernel)
set_option maxRecDepth 20000 in
theorem gX7_drops_X7_in : GoodIn wsX7_drops (va_wsS RX7 75 yX7_in wsX7_in) := goodIn_app (goodIn_of _ (by decide +kernel)) ggX7_drops_X7_in
theorem dX7_drops_0 : decode cX7_drops 0 = .ok (.aload_n 0, 1) := by decide +kernel
theorem dX7_drops_1 : decode cX7_drops 1 = .ok (.iconst 0, 1) := by decide +kernel
theorem dX7_drops_2 : decode cX7_drops 2 = .ok (.putfield 72, 3) := by decide +kernel
theorem dX7_drops_5 : decode cX7_drops 5 = .ok (.iload_n 1, 1) := by decide +kernel
theorem dX7_drops_6 : decode cX7_drops 6 = .ok (.iconst 0, 1) := by decide +kernel
theorem dX7_drops_7 : decode cX7_drops 7 = .ok (.bipush 7, 2) := by decide +kernel
theorem dX7_drops_9 : decode cX7_drops 9 = .ok (.invokestatic 75, 3) := by decide +kernel
theorem dX7_drops_12 : decode cX7_drops 12 = .ok (.ifCond .ne 7, 3) := by decide +kernel
theorem dX7_drops_15 : decode cX7_drops 15 = .ok (.iconst (-1), 1) := by decide +kernel
theorem dX7_drops_16 : decode cX7_drops 16 = .ok (.goto 23, 3) := by decide +kernel
theorem dX7_drops_19 : decode cX7_drops 19 = .ok (.aload_n 0, 1) := by decide +kernel
theorem dX7_drops_20 : decode cX7_drops 20 = .ok (.getfield 7, 3) := by decide +kernel
theorem dX7_drops_23 : decode cX7_drops 23 = .ok (.iload_n 1, 1) := by decide +kernel
theorem dX7_drops_24 : decode cX7_drops 24 = .ok (.baload, 1) := by decide +kernel
theorem dX7_drops_25 : decode cX7_drops 25 = .ok (.ifCond .eq 12, 3) := by decide +kernel
theorem dX7_drops_28 : decode cX7_drops 28 = .ok (.aload_n 0, 1) := by decide +kernel
theorem dX7_drops_29 : decode cX7_drops 29 = .ok (.getfield 13, 3) := by decide +kernel
theorem dX7_drops_32 : decode cX7_drops 32 = .ok (.iload_n 1, 1) := by decide +kernel
theorem dX7_drops_33 : decode cX7_drops 33 = .ok (.iaload, 1) := by decide +kernel
theorem dX7_drops_34 : decode cX7_drops 34 = .ok (.goto 5, 3) := by decide +kernel
theorem dX7_drops_37 : decode cX7_drops 37 = .ok (.bipush (-4), 2) := by decide +kernel
theorem dX7_drops_39 : decode cX7_drops 39 = .ok (.ireturn, 1) := by decide +kernel
theorem dX7_sum_0 : decode cX7_sum 0 = .ok (.aload_n 0, 1) := by decide +kernel
theorem dX7_sum_1 : decode cX7_sum 1 = .ok (.iconst 0, 1) := by decide +kernel
theorem dX7_sum_2 : decode cX7_sum 2 = .ok (.putfield 72, 3) := by decide +kernel
theorem dX7_sum_5 : decode cX7_sum 5 = .ok (.iconst 0, 1) := by decide +kernel
theorem dX7_sum_6 : decode cX7_sum 6 = .ok (.istore_n 1, 1) := by decide +kernel
theorem dX7_sum_7 : decode cX7_sum 7 = .ok (.iconst 0, 1) := by decide +kernel
theorem dX7_sum_8 : decode cX7_sum 8 = .ok (.istore_n 2, 1) := by decide +kernel
theorem dX7_sum_9 : decode cX7_sum 9 = .ok (.iload_n 2, 1) := by decide +kernel
theorem dX7_sum_10 : decode cX7_sum 10 = .ok (.bipush 8, 2) := by decide +kernel
theorem dX7_sum_12 : decode cX7_sum 12 = .ok (.if_icmp .ge 31, 3) := by decide +kernel
theorem dX7_sum_15 : decode cX7_sum 15 = .ok (.iload_n 1, 1) := by decide +kernel
theorem dX7_sum_16 : decode cX7_sum 16 = .ok (.aload_n 0, 1) := by decide +kernel
theorem dX7_sum_17 : decode cX7_sum 17 = .ok (.getfield 7, 3) := by decide +kernel
theorem dX7_sum_20 : decode cX7_sum 20 = .ok (.iload_n 2, 1) := by decide +kernel
theorem dX7_sum_21 : decode cX7_sum 21 = .ok (.baload, 1) := by decide +kernel
theorem dX7_sum_22 : decode cX7_sum 22 = .ok (.ifCond .eq 12, 3) := by decide +kernel
theorem dX7_sum_25 : decode cX7_sum 25 = .ok (.aload_n 0, 1) := by decide +kernel
theorem dX7_sum_26 : decode cX7_sum 26 = .ok (.getfield 13, 3) := by decide +kernel
theorem dX7_sum_29 : decode cX7_sum 29 = .ok (.iload_n 2, 1) := by decide +kernel
theorem dX7_sum_30 : decode cX7_sum 30 = .ok (.iaload, 1) := by decide +kernel
theorem dX7_sum_31 : decode cX7_sum 31 = .ok (.goto 4, 3) := by decide +kernel
theorem dX7_sum_34 : decode cX7_sum 34 = .ok (.iconst 0, 1) := by decide +kernel
theorem dX7_sum_35 : decode cX7_sum 35 = .ok (.iadd, 1) := by decide +kernel
theorem dX7_sum_36 : decode cX7_sum 36 = .ok (.istore_n 1, 1) := by decide +kernel
theorem dX7_sum_37 : decode cX7_sum 37 = .ok (.iinc 2 1, 3) := by decide +kernel
theorem dX7_sum_40 : decode cX7_sum 40 = .ok (.goto (-31), 3) := by decide +kernel
theorem dX7_sum_43 : decode cX7_sum 43 = .ok (.iload_n 1, 1) := by decide +kernel
theorem dX7_sum_44 : decode cX7_sum 44 = .ok (.ireturn, 1) := by decide +kernel
theorem dJ9_min_7cf53_0 : decode cJ9_min_7cf53 0 = .ok (.iload_n 0, 1) := by decide +kernel
theorem dJ9_min_7cf53_1 : decode cJ9_min_7cf53 1 = .ok (.iload_n 1, 1) := by decide +kernel
theorem dJ9_min_7cf53_2 : decode cJ9_min_7cf53 2 = .ok (.if_icmp .gt 7, 3) := by decide +kernel
theorem dJ9_min_7cf53_5 : decode cJ9_min_7cf53 5 = .ok (.iload_n 0, 1) := by decide +kernel
theorem dJ9_min_7cf53_6 : decode cJ9_min_7cf53 6 = .ok (.goto 4, 3) := by decide +kernel
theorem dJ9_min_7cf53_9 : decode cJ9_min_7cf53 9 = .ok (.iload_n 1, 1) := by decide +kernel
theorem dJ9_min_7cf53_10 : decode cJ9_min_7cf53 10 = .ok (.ireturn, 1) := by decide +kernel
set_option maxRecDepth 20000 in
theorem ggL_law_X6_init : GoodIn wsL_law wsX6_init := goodIn_r _ [8, 9, 10, 11, 12, 13, 14, 15, 16, 17, 18, 19, 20, 21, 22, 23, 24, 25, 26, 27, 28, 29, 30, 31, 32, 33, 34, 35, 36, 37, 38, 39, 40, 41, 42, 43, 44, 45, 46, 47, 48, 49, 50, 51, 52, 53, 54, 55, 56, 57, 58, 59, 60, 61, 62, 63, 64, 65, 66, 67, 68, 69, 70, 71, 72, 73, 466, 467, 468, 469, 470, 471, 472, 501, 502, 503, 504, 505, 506, 507, 508, 509, 510, 511, 512, 513, 514, 515, 516, 517, 518, 519, 520, 521, 522, 523] (by decide +kernel) (by decide +kernel)
set_option maxRecDepth 20000 in
theorem gL_law_X6_init : GoodIn wsL_law (wsX6_init) := ggL_law_X6_init
set_option maxRecDepth 20000 in
theorem ggL_law_X7_init : GoodIn wsL_law wsX7_init := goodIn_r _ [76, 77, 10, 11, 78, 79, 12, 80, 81, 82, 83, 84, 85, 86, 87, 88, 89, 90, 91, 92, 93, 94, 95, 96, 97, 98, 473, 474, 475, 476, 477, 478, 479, 480, 481, 482, 483, 484, 485, 486, 487, 488, 489, 490, 491, 492, 493, 494, 495, 496, 497, 498, 499, 500] (by decide +kernel) (by decide +kernel)
set_option maxRecDepth 20000 in
theorem gL_law_X7_init : GoodIn wsL_law (wsX7_init) := ggL_law_X7_init
set_option maxRecDepth 20000 in
theorem ggL_law_X6_vial : GoodIn wsL_law wsX6_vial := goodIn_r _ [102, 13, 103, 104, 2, 105, 106, 107, 108, 466, 467, 468, 469, 470, 471, 472] (by decide +kernel) (by decide +kernel)
set_option maxRecDepth 20000 in
theorem gL_law_X6_vial : GoodIn wsL_law (wsV RL 13 RX6 yX6_vial wsX6_vial) := goodIn_app (goodIn_of _ (by decide +kernel)) ggL_law_X6_vial
set_option maxRecDepth 20000 in
theorem ggL_law_X7_vial : GoodIn wsL_law wsX7_vial := goodIn_r _ [112, 113, 79, 80, 114, 115, 5, 116, 473, 474, 475, 476, 477, 478, 479, 480, 481, 482, 483, 484, 485, 486, 487, 488, 489, 490, 491, 492, 493, 494, 495, 496, 497, 498, 499, 500] (by decide +kernel) (by decide +kernel)
set_option maxRecDepth 20000 in
theorem gL_law_X7_vial : GoodIn wsL_law (wsV RL 17 RX7 yX7_vial wsX7_vial) := goodIn_app (goodIn_of _ (by decide +kernel)) ggL_law_X7_vial
set_option maxRecDepth 20000 in
theorem ggL_law_X6_batch : GoodIn wsL_law wsX6_batch := goodIn_r _ [120, 15, 121, 103, 104, 2, 105, 122, 123, 124, 29, 125, 58, 57, 466, 467, 468, 469, 470, 471, 472, 514, 515, 516] (by decide +kernel) (by decide +kernel)
set_option maxRecDepth 20000 in
theorem gL_law_X6_batch : GoodIn wsL_law (wsV RL 18 RX6 yX6_batch wsX6_batch) := goodIn_app (goodIn_of _ (by decide +kernel)) ggL_law_X6_batch
set_option maxRecDepth 20000 in
theorem ggL_law_X7_batch : GoodIn wsL_law wsX7_batch := goodIn_r _ [129, 113, 82, 81, 130, 131, 5, 132, 114, 115, 116, 473, 474, 475, 476, 477, 478, 479, 480, 481, 482, 483, 484, 485, 486, 487, 488, 489, 490, 491, 492, 493, 494, 495, 496, 497, 498, 499, 500] (by decide +kernel) (by decide +kernel)
set_option maxRecDepth 20000 in
theorem gL_law_X7_batch : GoodIn wsL_law (wsV RL 21 RX7 yX7_batch wsX7_batch) := goodIn_app (goodIn_of _ (by decide +kernel)) ggL_law_X7_batch
set_option maxRecDepth 20000 in
theorem ggL_law_X6_round : GoodIn wsL_law wsX6_round := goodIn_r _ [136, 15, 103, 104, 2, 105, 137, 138, 139, 29, 140, 57, 56, 141, 142, 143, 60, 144, 67, 66, 466, 467, 468, 469, 470, 471, 472, 514, 515, 516, 520, 521, 522, 523] (by decide +kernel) (by decide +kernel)
set_option maxRecDepth 20000 in
theorem gL_law_X6_round : GoodIn wsL_law (wsV RL 22 RX6 yX6_round wsX6_round) := goodIn_app (goodIn_of _ (by decide +kernel)) ggL_law_X6_round
set_option maxRecDepth 20000 in
theorem ggL_law_X7_round : GoodIn wsL_law wsX7_round := goodIn_r _ [148, 113, 82, 83, 84, 130, 131, 5, 132, 114, 115, 116, 473, 474, 475, 476, 477, 478, 479, 480, 481, 482, 483, 484, 485, 486, 487, 488, 489, 490, 491, 492, 493, 494, 495, 496, 497, 498, 499, 500] (by decide +kernel) (by decide +kernel)
set_option maxRecDepth 20000 in
theorem gL_law_X7_round : GoodIn wsL_law (wsV RL 25 RX7 yX7_round wsX7_round) := goodIn_app (goodIn_of _ (by decide +kernel)) ggL_law_X7_round
set_option maxRecDepth 20000 in
theorem ggL_law_X6_step : GoodIn wsL_law wsX6_step := goodIn_r _ [152, 153, 15, 121, 154, 103, 104, 2, 105, 155, 156, 157, 60, 158, 66, 64, 65, 466, 467, 468, 469, 470, 471, 472, 514, 515, 516, 520, 521, 522, 523] (by decide +kernel) (by decide +kernel)
set_option maxRecDepth 20000 in
theorem gL_law_X6_step : GoodIn wsL_law (wsV RL 26 RX6 yX6_step wsX6_step) := goodIn_app (goodIn_of _ (by decide +kernel)) ggL_law_X6_step
set_option maxRecDepth 20000 in
theorem ggL_law_X7_step : GoodIn wsL_law wsX7_step := goodIn_r _ [162, 113, 82, 84, 85, 86, 130, 131, 5, 132, 114, 115, 116, 163, 164, 165, 473, 474, 475, 476, 477, 478, 479, 480, 481, 482, 483, 484, 485, 486, 487, 488, 489, 490, 491, 492, 493, 494, 495, 496, 497, 498, 499, 500] (by decide +kernel) (by decide +kernel)
set_option maxRecDepth 20000 in
theorem gL_law_X7_step : GoodIn wsL_law (wsV RL 30 RX7 yX7_step wsX7_step) := goodIn_app (goodIn_of _ (by decide +kernel)) ggL_law_X7_step
set_option maxRecDepth 20000 in
theorem ggL_law_X6_tool : GoodIn wsL_law wsX6_tool := goodIn_r _ [169, 17, 170, 103, 104, 2, 105, 106, 107, 108, 171, 172, 173, 31, 174, 71, 72, 73, 466, 467, 468, 469, 470, 471, 472, 517, 518, 519] (by decide +kernel) (by decide +kernel)
set_option maxRecDepth 20000 in
theorem gL_law_X6_tool : GoodIn wsL_law (wsV RL 31 RX6 yX6_tool wsX6_tool) := goodIn_app (goodIn_of _ (by decide +kernel)) ggL_law_X6_tool
set_option maxRecDepth 20000 in
theorem ggL_law_X7_tool : GoodIn wsL_law wsX7_tool := goodIn_r _ [178, 113, 87, 88, 89, 114, 115, 5, 116, 473, 474, 475, 476, 477, 478, 479, 480, 481, 482, 483, 484, 485, 486, 487, 488, 489, 490, 491, 492, 493, 494, 495, 496, 497, 498, 499, 500] (by decide +kernel) (by decide +kernel)
set_option maxRecDepth 20000 in
theorem gL_law_X7_tool : GoodIn wsL_law (wsV RL 34 RX7 yX7_tool wsX7_tool) := goodIn_app (goodIn_of _ (by decide +kernel)) ggL_law_X7_tool
set_option maxRecDepth 20000 in
theorem ggL_law_X6_lay : GoodIn wsL_law wsX6_lay := goodIn_r _ [182, 18, 103, 104, 2, 105, 466, 467, 468, 469, 470, 471, 472] (by decide +kernel) (by decide +kernel)
set_option maxRecDepth 20000 in
theorem gL_law_X6_lay : GoodIn wsL_law (wsV RL 35 RX6 yX6_lay wsX6_lay) := goodIn_app (goodIn_of _ (by decide +kernel)) ggL_law_X6_lay
set_option maxRecDepth 20000 in
theorem ggL_law_X7_lay : GoodIn wsL_law wsX7_lay := goodIn_r _ [186, 113, 94, 114, 115, 5, 116, 473, 474, 475, 476, 477, 478, 479, 480, 481, 482, 483, 484, 485, 486, 487, 488, 489, 490, 491, 492, 493, 494, 495, 496, 497, 498, 499, 500] (by decide +kernel) (by decide +kernel)
set_option maxRecDepth 20000 in
theorem gL_law_X7_lay : GoodIn wsL_law (wsV RL 38 RX7 yX7_lay wsX7_lay) := goodIn_app (goodIn_of _ (by decide +kernel)) ggL_law_X7_lay
set_option maxRecDepth 20000 in
theorem ggL_law_X6_about : GoodIn wsL_law wsX6_about := goodIn_r _ [190, 17, 170, 191, 192, 103, 104, 2, 105, 466, 467, 468, 469, 470, 471, 472, 517, 518, 519] (by decide +kernel) (by decide +kernel)
set_option maxRecDepth 20000 in
theorem gL_law_X6_about : GoodIn wsL_law (wsV RL 39 RX6 yX6_about wsX6_about) := goodIn_app (goodIn_of _ (by decide +kernel)) ggL_law_X6_about
set_option maxRecDepth 20000 in
theorem ggL_law_X7_about : GoodIn wsL_law wsX7_about := goodIn_r _ [196, 113, 87, 88, 89, 114, 115, 5, 116, 473, 474, 475, 476, 477, 478, 479, 480, 481, 482, 483, 484, 485, 486, 487, 488, 489, 490, 491, 492, 493, 494, 495, 496, 497, 498, 499, 500] (by decide +kernel) (by decide +kernel)
set_option maxRecDepth 20000 in
theorem gL_law_X7_about : GoodIn wsL_law (wsV RL 42 RX7 yX7_about wsX7_about) := goodIn_app (goodIn_of _ (by decide +kernel)) ggL_law_X7_about
set_option maxRecDepth 20000 in
theorem ggL_law_X6_places : GoodIn wsL_law wsX6_places := goodIn_r _ [200, 22, 103, 104, 2, 105, 201, 202, 203, 21, 204, 36, 37, 39, 40, 466, 467, 468, 469, 470, 471, 472, 501, 502, 503, 504, 505, 506] (by decide +kernel) (by decide +kernel)
set_option maxRecDepth 20000 in
theorem gL_law_X6_places : GoodIn wsL_law (wsV RL 43 RX6 yX6_places wsX6_places) := goodIn_app (goodIn_of _ (by decide +kernel)) ggL_law_X6_places
set_option maxRecDepth 20000 in
theorem ggL_law_X7_places : GoodIn wsL_law wsX7_places := goodIn_r _ [208, 113, 90, 91, 93, 209, 114, 115, 5, 116, 473, 474, 475, 476, 477, 478, 479, 480, 481, 482, 483, 484, 485, 486, 487, 488, 489, 490, 491, 492, 493, 494, 495, 496, 497, 498, 499, 500] (by decide +kernel) (by decide +kernel)
set_option maxRecDepth 20000 in
theorem gL_law_X7_places : GoodIn wsL_law (wsV RL 47 RX7 yX7_places wsX7_places) := goodIn_app (goodIn_of _ (by decide +kernel)) ggL_law_X7_places
set_option maxRecDepth 20000 in
theorem ggL_law_X6_box : GoodIn wsL_law wsX6_box := goodIn_r _ [213, 22, 214, 215, 103, 104, 2, 105, 466, 467, 468, 469, 470, 471, 472, 501, 502, 503, 504, 505, 506] (by decide +kernel) (by decide +kernel)
set_option maxRecDepth 20000 in
theorem gL_law_X6_box : GoodIn wsL_law (wsV RL 48 RX6 yX6_box wsX6_box) := goodIn_app (goodIn_of _ (by decide +kernel)) ggL_law_X6_box
set_option maxRecDepth 20000 in
theorem ggL_law_X7_box : GoodIn wsL_law wsX7_box := goodIn_r _ [219, 113, 91, 92, 114, 115, 5, 116, 473, 474, 475, 476, 477, 478, 479, 480, 481, 482, 483, 484, 485, 486, 487, 488, 489, 490, 491, 492, 493, 494, 495, 496, 497, 498, 499, 500] (by decide +kernel) (by decide +kernel)
set_option maxRecDepth 20000 in
theorem gL_law_X7_box : GoodIn wsL_law (wsV RL 51 RX7 yX7_box wsX7_box) := goodIn_app (goodIn_of _ (by decide +kernel)) ggL_law_X7_box
set_option maxRecDepth 20000 in
theorem ggL_law_X6_run : GoodIn wsL_law wsX6_run := goodIn_r _ [223, 26, 15, 224, 225, 27, 226, 103, 104, 2, 105, 227, 228, 229, 25, 230, 44, 46, 48, 50, 231, 232, 233, 234, 235, 121, 154, 236, 237, 238, 239, 240, 241, 242, 45, 243, 244, 245, 246, 247, 13, 248, 249, 250, 251, 49, 252, 253, 254, 255, 256, 257, 258, 259, 260, 261, 262, 263, 264, 265, 266, 267, 268, 269, 270, 271, 272, 273, 274, 275, 276, 277, 278, 279, 280, 281, 282, 283, 284, 285, 22, 18, 286, 287, 288, 289, 17, 170, 192, 290, 291, 292, 293, 191, 294, 295, 296, 21, 297, 36, 298, 299, 300, 301, 35, 37, 38, 302, 303, 304, 305, 39, 40, 306, 307, 308, 309, 214, 215, 310, 311, 312, 313, 201, 202, 203, 204, 314, 315, 316, 317, 318, 319, 320, 321, 322, 323, 324, 325, 47, 326, 327, 328, 329, 466, 467, 468, 469, 470, 471, 472, 507, 508, 509, 510, 511, 512, 513, 514, 515, 516, 520, 521, 522, 523, 517, 518, 519, 501, 502, 503, 504, 505, 506] (by decide +kernel) (by decide +kernel)
set_option maxRecDepth 20000 in
theorem gL_law_X6_run : GoodIn wsL_law (wsV RL 52 RX6 yX6_run wsX6_run) := goodIn_app (goodIn_of _ (by decide +kernel)) ggL_law_X6_run
set_option maxRecDepth 20000 in
theorem ggL_law_X7_run : GoodIn wsL_law wsX7_run := goodIn_r _ [333, 113, 95, 334, 335, 130, 131, 5, 132, 114, 115, 116, 336, 337, 338, 339, 82, 81, 97, 340, 341, 342, 343, 344, 96, 345, 346, 347, 348, 83, 79, 349, 350, 351, 352, 353, 354, 355, 356, 357, 358, 84, 85, 86, 359, 360, 361, 362, 80, 90, 363, 364, 365, 366, 367, 368, 369, 370, 371, 372, 373, 374, 87, 88, 375, 376, 377, 378, 89, 379, 380, 381, 382, 91, 383, 92, 384, 385, 386, 387, 93, 209, 388, 389, 390, 391, 392, 393, 394, 395, 396, 397, 398, 399, 94, 400, 401, 402, 403, 98, 404, 405, 406, 407, 473, 474, 475, 476, 477, 478, 479, 480, 481, 482, 483, 484, 485, 486, 487, 488, 489, 490, 491, 492, 493, 494, 495, 496, 497, 498, 499, 500] (by decide +kernel) (by decide +kernel)
set_option maxRecDepth 20000 in
theorem gL_law_X7_run : GoodIn wsL_law (wsV RL 56 RX7 yX7_run wsX7_run) := goodIn_app (goodIn_of _ (by decide +kernel)) ggL_law_X7_run
set_option maxRecDepth 20000 in
theorem ggL_law_X6_why : GoodIn wsL_law wsX6_why := goodIn_r _ [411, 26, 412, 413, 103, 104, 2, 105, 466, 467, 468, 469, 470, 471, 472, 507, 508, 509, 510, 511, 512, 513] (by decide +kernel) (by decide +kernel)
set_option maxRecDepth 20000 in
theorem gL_law_X6_why : GoodIn wsL_law (wsV RL 57 RX6 yX6_why wsX6_why) := goodIn_app (goodIn_of _ (by decide +kernel)) ggL_law_X6_why
set_option maxRecDepth 20000 in
theorem ggL_law_X7_why : GoodIn wsL_law wsX7_why := goodIn_r _ [417, 113, 334, 98, 114, 115, 5, 116, 473, 474, 475, 476, 477, 478, 479, 480, 481, 482, 483, 484, 485, 486, 487, 488, 489, 490, 491, 492, 493, 494, 495, 496, 497, 498, 499, 500] (by decide +kernel) (by decide +kernel)
set_option maxRecDepth 20000 in
theorem gL_law_X7_why : GoodIn wsL_law (wsV RL 60 RX7 yX7_why wsX7_why) := goodIn_app (goodIn_of _ (by decide +kernel)) ggL_law_X7_why
set_option maxRecDepth 20000 in
theorem ggL_law_X6_told : GoodIn wsL_law wsX6_told := goodIn_r _ [421, 26, 422, 423, 258, 103, 104, 2, 105, 466, 467, 468, 469, 470, 471, 472, 507, 508, 509, 510, 511, 512, 513] (by decide +kernel) (by decide +kernel)
set_option maxRecDepth 20000 in
theorem gL_law_X6_told : GoodIn wsL_law (wsV RL 61 RX6 yX6_told wsX6_told) := goodIn_app (goodIn_of _ (by decide +kernel)) ggL_law_X6_told
set_option maxRecDepth 20000 in
theorem ggL_law_X7_told : GoodIn wsL_law wsX7_told := goodIn_r _ [427, 113, 95, 114, 115, 5, 116, 473, 474, 475, 476, 477, 478, 479, 480, 481, 482, 483, 484, 485, 486, 487, 488, 489, 490, 491, 492, 493, 494, 495, 496, 497, 498, 499, 500] (by decide +kernel) (by decide +kernel)
set_option maxRecDepth 20000 in
theorem gL_law_X7_told : GoodIn wsL_law (wsV RL 64 RX7 yX7_told wsX7_told) := goodIn_app (goodIn_of _ (by decide +kernel)) ggL_law_X7_told
set_option maxRecDepth 20000 in
theorem ggL_law_X6_trace : GoodIn wsL_law wsX6_trace := goodIn_r _ [431, 26, 422, 432, 433, 434, 435, 436, 103, 104, 2, 105, 466, 467, 468, 469, 470, 471, 472, 507, 508, 509, 510, 511, 512, 513] (by decide +kernel) (by decide +kernel)
set_option maxRecDepth 20000 in
theorem gL_law_X6_trace : GoodIn wsL_law (wsV RL 65 RX6 yX6_trace wsX6_trace) := goodIn_app (goodIn_of _ (by decide +kernel)) ggL_law_X6_trace
set_option maxRecDepth 20000 in
theorem ggL_law_X7_trace : GoodIn wsL_law wsX7_trace := goodIn_r _ [440, 113, 95, 96, 114, 115, 5, 116, 473, 474, 475, 476, 477, 478, 479, 480, 481, 482, 483, 484, 485, 486, 487, 488, 489, 490, 491, 492, 493, 494, 495, 496, 497, 498, 499, 500] (by decide +kernel) (by decide +kernel)
set_option maxRecDepth 20000 in
theorem gL_law_X7_trace : GoodIn wsL_law (wsV RL 68 RX7 yX7_trace wsX7_trace) := goodIn_app (goodIn_of _ (by decide +kernel)) ggL_law_X7_trace
set_option maxRecDepth 20000 in
theorem ggL_law_X6_noted : GoodIn wsL_law wsX6_noted := goodIn_r _ [444, 26, 423, 445, 103, 104, 2, 105, 466, 467, 468, 469, 470, 471, 472, 507, 508, 509, 510, 511, 512, 513] (by decide +kernel) (by decide +kernel)
set_option maxRecDepth 20000 in
theorem gL_law_X6_noted : GoodIn wsL_law (wsV RL 69 RX6 yX6_noted wsX6_noted) := goodIn_app (goodIn_of _ (by decide +kernel)) ggL_law_X6_noted
set_option maxRecDepth 20000 in
theorem ggL_law_X7_noted : GoodIn wsL_law wsX7_noted := goodIn_r _ [449, 113, 95, 97, 114, 115, 5, 116, 473, 474, 475, 476, 477, 478, 479, 480, 481, 482, 483, 484, 485, 486, 487, 488, 489, 490, 491, 492, 493, 494, 495, 496, 497, 498, 499, 500] (by decide +kernel) (by decide +kernel)
set_option maxRecDepth 20000 in
theorem gL_law_X7_noted : GoodIn wsL_law (wsV RL 72 RX7 yX7_noted wsX7_noted) := goodIn_app (goodIn_of _ (by decide +kernel)) ggL_law_X7_noted
set_option maxRecDepth 20000 in
theorem ggL_law_X6_drops : GoodIn wsL_law wsX6_drops := goodIn_r _ [453, 13, 103, 104, 2, 105, 106, 107, 108, 466, 467, 468, 469, 470, 471, 472] (by decide +kernel) (by decide +kernel)
set_option maxRecDepth 20000 in
theorem gL_law_X6_drops : GoodIn wsL_law (wsV RL 73 RX6 yX6_drops wsX6_drops) := goodIn_app (goodIn_of _ (by decide +kernel)) ggL_law_X6_drops
set_option maxRecDepth 20000 in
theorem ggL_law_X7_drops : GoodIn wsL_law wsX7_drops := goodIn_r _ [457, 113, 79, 80, 114, 115, 5, 116, 473, 474, 475, 476, 477, 478, 479, 480, 481, 482, 483, 484, 485, 486, 487, 488, 489, 490, 491, 492, 493, 494, 495, 496, 497, 498, 499, 500] (by decide +kernel) (by decide +kernel)
set_option maxRecDepth 20000 in
theorem gL_law_X7_drops : GoodIn wsL_law (wsV RL 76 RX7 yX7_drops wsX7_drops) := goodIn_app (goodIn_of _ (by decide +kernel)) ggL_law_X7_drops
set_option maxRecDepth 20000 in
theorem ggL_law_X6_sum : GoodIn wsL_law wsX6_sum := goodIn_r _ [461, 13, 466, 467, 468, 469, 470, 471, 472] (by decide +kernel) (by decide +kernel)
set_option maxRecDepth 20000 in
theorem gL_law_X6_sum : GoodIn wsL_law (wsV RL 77 RX6 yX6_sum wsX6_sum) := goodIn_app (goodIn_of _ (by decide +kernel)) ggL_law_X6_sum
set_option maxRecDepth 20000 in
theorem ggL_law_X7_sum : GoodIn wsL_law wsX7_sum := goodIn_r _ [465, 113, 79, 80, 473, 474, 475, 476, 477, 478, 479, 480, 481, 482, 483, 484, 485, 486, 487, 488, 489, 490, 491, 492, 493, 494, 495, 496, 497, 498, 499, 500] (by decide +kernel) (by decide +kernel)
set_option maxRecDepth 20000 in
theorem gL_law_X7_sum : GoodIn wsL_law (wsV RL 81 RX7 yX7_sum wsX7_sum) := goodIn_app (goodIn_of _ (by decide +kernel)) ggL_law_X7_sum
