set_option maxRecDepth 20000 in
theorem ggX4_beat_X4_at : GoodIn wsX4_beat wsX4_at := goodIn_r _ [6] (by decide +kernel) (by decide +kernel)
set_option maxRecDepth 20000 in
theorem gX4_beat_X4_at : GoodIn wsX4_beat (va_wsS RX4 39 yX4_at wsX4_at) := goodIn_app (goodIn_of _ (by decide +kernel)) ggX4_beat_X4_at
set_option maxRecDepth 20000 in
theorem ggX4_beat_X4_floor : GoodIn wsX4_beat wsX4_floor := goodIn_r _ [9] (by decide +kernel) (by decide +kernel)
set_option maxRecDepth 20000 in
theorem gX4_beat_X4_floor : GoodIn wsX4_beat (va_wsS RX4 68 yX4_floor wsX4_floor) := goodIn_app (goodIn_of _ (by decide +kernel)) ggX4_beat_X4_floor
theorem dX4_beat_0 : decode cX4_beat 0 = .ok (.iconst 0, 1) := by decide +kernel
theorem dX4_beat_1 : decode cX4_beat 1 = .ok (.istore_n 2, 1) := by decide +kernel
theorem dX4_beat_2 : decode cX4_beat 2 = .ok (.iload_n 2, 1) := by decide +kernel
theorem dX4_beat_3 : decode cX4_beat 3 = .ok (.aload_n 1, 1) := by decide +kernel
theorem dX4_beat_4 : decode cX4_beat 4 = .ok (.iconst 0, 1) := by decide +kernel
theorem dX4_beat_5 : decode cX4_beat 5 = .ok (.iaload, 1) := by decide +kernel
theorem dX4_beat_6 : decode cX4_beat 6 = .ok (.if_icmp .ge 116, 3) := by decide +kernel
theorem dX4_beat_9 : decode cX4_beat 9 = .ok (.iconst 0, 1) := by decide +kernel
theorem dX4_beat_10 : decode cX4_beat 10 = .ok (.istore_n 3, 1) := by decide +kernel
theorem dX4_beat_11 : decode cX4_beat 11 = .ok (.iload_n 3, 1) := by decide +kernel
theorem dX4_beat_12 : decode cX4_beat 12 = .ok (.aload_n 1, 1) := by decide +kernel
theorem dX4_beat_13 : decode cX4_beat 13 = .ok (.iload_n 2, 1) := by decide +kernel
theorem dX4_beat_14 : decode cX4_beat 14 = .ok (.invokestatic 39, 3) := by decide +kernel
theorem dX4_beat_17 : decode cX4_beat 17 = .ok (.iconst 0, 1) := by decide +kernel
theorem dX4_beat_18 : decode cX4_beat 18 = .ok (.iadd, 1) := by decide +kernel
theorem dX4_beat_19 : decode cX4_beat 19 = .ok (.iaload, 1) := by decide +kernel
theorem dX4_beat_20 : decode cX4_beat 20 = .ok (.if_icmp .ge 96, 3) := by decide +kernel
theorem dX4_beat_23 : decode cX4_beat 23 = .ok (.aload_n 1, 1) := by decide +kernel
theorem dX4_beat_24 : decode cX4_beat 24 = .ok (.iload_n 2, 1) := by decide +kernel
theorem dX4_beat_25 : decode cX4_beat 25 = .ok (.invokestatic 39, 3) := by decide +kernel
theorem dX4_beat_28 : decode cX4_beat 28 = .ok (.bipush 13, 2) := by decide +kernel
theorem dX4_beat_30 : decode cX4_beat 30 = .ok (.iadd, 1) := by decide +kernel
theorem dX4_beat_31 : decode cX4_beat 31 = .ok (.iload_n 3, 1) := by decide +kernel
theorem dX4_beat_32 : decode cX4_beat 32 = .ok (.iadd, 1) := by decide +kernel
theorem dX4_beat_33 : decode cX4_beat 33 = .ok (.iaload, 1) := by decide +kernel
theorem dX4_beat_34 : decode cX4_beat 34 = .ok (.istore 4, 2) := by decide +kernel
theorem dX4_beat_36 : decode cX4_beat 36 = .ok (.iload 4, 2) := by decide +kernel
theorem dX4_beat_38 : decode cX4_beat 38 = .ok (.aload_n 1, 1) := by decide +kernel
theorem dX4_beat_39 : decode cX4_beat 39 = .ok (.iconst 1, 1) := by decide +kernel
theorem dX4_beat_40 : decode cX4_beat 40 = .ok (.iaload, 1) := by decide +kernel
theorem dX4_beat_41 : decode cX4_beat 41 = .ok (.if_icmp .le 9, 3) := by decide +kernel
theorem dX4_beat_44 : decode cX4_beat 44 = .ok (.aload_n 1, 1) := by decide +kernel
theorem dX4_beat_45 : decode cX4_beat 45 = .ok (.iconst 1, 1) := by decide +kernel
theorem dX4_beat_46 : decode cX4_beat 46 = .ok (.iaload, 1) := by decide +kernel
theorem dX4_beat_47 : decode cX4_beat 47 = .ok (.goto 21, 3) := by decide +kernel
theorem dX4_beat_50 : decode cX4_beat 50 = .ok (.iload 4, 2) := by decide +kernel
theorem dX4_beat_52 : decode cX4_beat 52 = .ok (.aload_n 1, 1) := by decide +kernel
theorem dX4_beat_53 : decode cX4_beat 53 = .ok (.iconst 1, 1) := by decide +kernel
theorem dX4_beat_54 : decode cX4_beat 54 = .ok (.iaload, 1) := by decide +kernel
theorem dX4_beat_55 : decode cX4_beat 55 = .ok (.ineg, 1) := by decide +kernel
theorem dX4_beat_56 : decode cX4_beat 56 = .ok (.if_icmp .ge 10, 3) := by decide +kernel
theorem dX4_beat_59 : decode cX4_beat 59 = .ok (.aload_n 1, 1) := by decide +kernel
theorem dX4_beat_60 : decode cX4_beat 60 = .ok (.iconst 1, 1) := by decide +kernel
theorem dX4_beat_61 : decode cX4_beat 61 = .ok (.iaload, 1) := by decide +kernel
theorem dX4_beat_62 : decode cX4_beat 62 = .ok (.ineg, 1) := by decide +kernel
theorem dX4_beat_63 : decode cX4_beat 63 = .ok (.goto 5, 3) := by decide +kernel
theorem dX4_beat_66 : decode cX4_beat 66 = .ok (.iload 4, 2) := by decide +kernel
theorem dX4_beat_68 : decode cX4_beat 68 = .ok (.istore 5, 2) := by decide +kernel
theorem dX4_beat_70 : decode cX4_beat 70 = .ok (.aload_n 0, 1) := by decide +kernel
theorem dX4_beat_71 : decode cX4_beat 71 = .ok (.getfield 29, 3) := by decide +kernel
theorem dX4_beat_74 : decode cX4_beat 74 = .ok (.bipush 9, 2) := by decide +kernel
theorem dX4_beat_76 : decode cX4_beat 76 = .ok (.iload_n 2, 1) := by decide +kernel
theorem dX4_beat_77 : decode cX4_beat 77 = .ok (.imul, 1) := by decide +kernel
theorem dX4_beat_78 : decode cX4_beat 78 = .ok (.iload_n 3, 1) := by decide +kernel
theorem dX4_beat_79 : decode cX4_beat 79 = .ok (.iadd, 1) := by decide +kernel
theorem dX4_beat_80 : decode cX4_beat 80 = .ok (.iload 5, 2) := by decide +kernel
theorem dX4_beat_82 : decode cX4_beat 82 = .ok (.iastore, 1) := by decide +kernel
theorem dX4_beat_83 : decode cX4_beat 83 = .ok (.aload_n 0, 1) := by decide +kernel
theorem dX4_beat_84 : decode cX4_beat 84 = .ok (.getfield 32, 3) := by decide +kernel
theorem dX4_beat_87 : decode cX4_beat 87 = .ok (.bipush 9, 2) := by decide +kernel
theorem dX4_beat_89 : decode cX4_beat 89 = .ok (.iload_n 2, 1) := by decide +kernel
theorem dX4_beat_90 : decode cX4_beat 90 = .ok (.imul, 1) := by decide +kernel
theorem dX4_beat_91 : decode cX4_beat 91 = .ok (.iload_n 3, 1) := by decide +kernel
theorem dX4_beat_92 : decode cX4_beat 92 = .ok (.iadd, 1) := by decide +kernel
theorem dX4_beat_93 : decode cX4_beat 93 = .ok (.aload_n 1, 1) := by decide +kernel
theorem dX4_beat_94 : decode cX4_beat 94 = .ok (.iload_n 2, 1) := by decide +kernel
theorem dX4_beat_95 : decode cX4_beat 95 = .ok (.invokestatic 39, 3) := by decide +kernel
theorem dX4_beat_98 : decode cX4_beat 98 = .ok (.iconst 4, 1) := by decide +kernel
theorem dX4_beat_99 : decode cX4_beat 99 = .ok (.iadd, 1) := by decide +kernel
theorem dX4_beat_100 : decode cX4_beat 100 = .ok (.iload_n 3, 1) := by decide +kernel
theorem dX4_beat_101 : decode cX4_beat 101 = .ok (.iadd, 1) := by decide +kernel
theorem dX4_beat_102 : decode cX4_beat 102 = .ok (.iaload, 1) := by decide +kernel
theorem dX4_beat_103 : decode cX4_beat 103 = .ok (.iload 5, 2) := by decide +kernel
theorem dX4_beat_105 : decode cX4_beat 105 = .ok (.iadd, 1) := by decide +kernel
theorem dX4_beat_106 : decode cX4_beat 106 = .ok (.invokestatic 68, 3) := by decide +kernel
theorem dX4_beat_109 : decode cX4_beat 109 = .ok (.iastore, 1) := by decide +kernel
theorem dX4_beat_110 : decode cX4_beat 110 = .ok (.iinc 3 1, 3) := by decide +kernel
theorem dX4_beat_113 : decode cX4_beat 113 = .ok (.goto (-102), 3) := by decide +kernel
theorem dX4_beat_116 : decode cX4_beat 116 = .ok (.iinc 2 1, 3) := by decide +kernel
theorem dX4_beat_119 : decode cX4_beat 119 = .ok (.goto (-117), 3) := by decide +kernel
theorem dX4_beat_122 : decode cX4_beat 122 = .ok (.iconst 0, 1) := by decide +kernel
theorem dX4_beat_123 : decode cX4_beat 123 = .ok (.istore_n 2, 1) := by decide +kernel
theorem dX4_beat_124 : decode cX4_beat 124 = .ok (.iload_n 2, 1) := by decide +kernel
theorem dX4_beat_125 : decode cX4_beat 125 = .ok (.aload_n 1, 1) := by decide +kernel
theorem dX4_beat_126 : decode cX4_beat 126 = .ok (.iconst 0, 1) := by decide +kernel
theorem dX4_beat_127 : decode cX4_beat 127 = .ok (.iaload, 1) := by decide +kernel
theorem dX4_beat_128 : decode cX4_beat 128 = .ok (.if_icmp .ge 179, 3) := by decide +kernel
theorem dX4_beat_131 : decode cX4_beat 131 = .ok (.aload_n 1, 1) := by decide +kernel
theorem dX4_beat_132 : decode cX4_beat 132 = .ok (.iload_n 2, 1) := by decide +kernel
theorem dX4_beat_133 : decode cX4_beat 133 = .ok (.invokestatic 39, 3) := by decide +kernel
theorem dX4_beat_136 : decode cX4_beat 136 = .ok (.iconst 0, 1) := by decide +kernel
theorem dX4_beat_137 : decode cX4_beat 137 = .ok (.iadd, 1) := by decide +kernel
theorem dX4_beat_138 : decode cX4_beat 138 = .ok (.iaload, 1) := by decide +kernel
theorem dX4_beat_139 : decode cX4_beat 139 = .ok (.istore_n 3, 1) := by decide +kernel
theorem dX4_beat_140 : decode cX4_beat 140 = .ok (.iconst 0, 1) := by decide +kernel
theorem dX4_beat_141 : decode cX4_beat 141 = .ok (.istore 4, 2) := by decide +kernel
theorem dX4_beat_143 : decode cX4_beat 143 = .ok (.iload 4, 2) := by decide +kernel
theorem dX4_beat_145 : decode cX4_beat 145 = .ok (.iload_n 3, 1) := by decide +kernel
theorem dX4_beat_146 : decode cX4_beat 146 = .ok (.if_icmp .ge 155, 3) := by decide +kernel
theorem dX4_beat_149 : decode cX4_beat 149 = .ok (.aload_n 0, 1) := by decide +kernel
theorem dX4_beat_150 : decode cX4_beat 150 = .ok (.getfield 32, 3) := by decide +kernel
theorem dX4_beat_153 : decode cX4_beat 153 = .ok (.bipush 9, 2) := by decide +kernel
theorem dX4_beat_155 : decode cX4_beat 155 = .ok (.iload_n 2, 1) := by decide +kernel
theorem dX4_beat_156 : decode cX4_beat 156 = .ok (.imul, 1) := by decide +kernel
theorem dX4_beat_157 : decode cX4_beat 157 = .ok (.iload 4, 2) := by decide +kernel
theorem dX4_beat_159 : decode cX4_beat 159 = .ok (.iadd, 1) := by decide +kernel
theorem dX4_beat_160 : decode cX4_beat 160 = .ok (.iaload, 1) := by decide +kernel
theorem dX4_beat_161 : decode cX4_beat 161 = .ok (.istore 5, 2) := by decide +kernel
theorem dX4_beat_163 : decode cX4_beat 163 = .ok (.aload_n 1, 1) := by decide +kernel
theorem dX4_beat_164 : decode cX4_beat 164 = .ok (.iload_n 2, 1) := by decide +kernel
theorem dX4_beat_165 : decode cX4_beat 165 = .ok (.invokestatic 39, 3) := by decide +kernel
theorem dX4_beat_168 : decode cX4_beat 168 = .ok (.bipush 13, 2) := by decide +kernel
theorem dX4_beat_170 : decode cX4_beat 170 = .ok (.iadd, 1) := by decide +kernel
theorem dX4_beat_171 : decode cX4_beat 171 = .ok (.iload 4, 2) := by decide +kernel
theorem dX4_beat_173 : decode cX4_beat 173 = .ok (.iadd, 1) := by decide +kernel
theorem dX4_beat_174 : decode cX4_beat 174 = .ok (.dup2, 1) := by decide +kernel
theorem dX4_beat_175 : decode cX4_beat 175 = .ok (.iaload, 1) := by decide +kernel
theorem dX4_beat_176 : decode cX4_beat 176 = .ok (.aload_n 0, 1) := by decide +kernel
theorem dX4_beat_177 : decode cX4_beat 177 = .ok (.getfield 29, 3) := by decide +kernel
theorem dX4_beat_180 : decode cX4_beat 180 = .ok (.bipush 9, 2) := by decide +kernel
theorem dX4_beat_182 : decode cX4_beat 182 = .ok (.iload_n 2, 1) := by decide +kernel
theorem dX4_beat_183 : decode cX4_beat 183 = .ok (.imul, 1) := by decide +kernel
theorem dX4_beat_184 : decode cX4_beat 184 = .ok (.iload 4, 2) := by decide +kernel
theorem dX4_beat_186 : decode cX4_beat 186 = .ok (.iadd, 1) := by decide +kernel
theorem dX4_beat_187 : decode cX4_beat 187 = .ok (.iaload, 1) := by decide +kernel
theorem dX4_beat_188 : decode cX4_beat 188 = .ok (.isub, 1) := by decide +kernel
theorem dX4_beat_189 : decode cX4_beat 189 = .ok (.iastore, 1) := by decide +kernel
theorem dX4_beat_190 : decode cX4_beat 190 = .ok (.aload_n 1, 1) := by decide +kernel
theorem dX4_beat_191 : decode cX4_beat 191 = .ok (.iload_n 2, 1) := by decide +kernel
theorem dX4_beat_192 : decode cX4_beat 192 = .ok (.invokestatic 39, 3) := by decide +kernel
theorem dX4_beat_195 : decode cX4_beat 195 = .ok (.iconst 4, 1) := by decide +kernel
theorem dX4_beat_196 : decode cX4_beat 196 = .ok (.iadd, 1) := by decide +kernel
theorem dX4_beat_197 : decode cX4_beat 197 = .ok (.iload 4, 2) := by decide +kernel
theorem dX4_beat_199 : decode cX4_beat 199 = .ok (.iadd, 1) := by decide +kernel
theorem dX4_beat_200 : decode cX4_beat 200 = .ok (.dup2, 1) := by decide +kernel
theorem dX4_beat_201 : decode cX4_beat 201 = .ok (.iaload, 1) := by decide +kernel
theorem dX4_beat_202 : decode cX4_beat 202 = .ok (.aload_n 0, 1) := by decide +kernel
theorem dX4_beat_203 : decode cX4_beat 203 = .ok (.getfield 29, 3) := by decide +kernel
theorem dX4_beat_206 : decode cX4_beat 206 = .ok (.bipush 9, 2) := by decide +kernel
theorem dX4_beat_208 : decode cX4_beat 208 = .ok (.iload_n 2, 1) := by decide +kernel
theorem dX4_beat_209 : decode cX4_beat 209 = .ok (.imul, 1) := by decide +kernel
theorem dX4_beat_210 : decode cX4_beat 210 = .ok (.iload 4, 2) := by decide +kernel
theorem dX4_beat_212 : decode cX4_beat 212 = .ok (.iadd, 1) := by decide +kernel
theorem dX4_beat_213 : decode cX4_beat 213 = .ok (.iaload, 1) := by decide +kernel
theorem dX4_beat_214 : decode cX4_beat 214 = .ok (.iconst 3, 1) := by decide +kernel
theorem dX4_beat_215 : decode cX4_beat 215 = .ok (.iload 5, 2) := by decide +kernel
theorem dX4_beat_217 : decode cX4_beat 217 = .ok (.imul, 1) := by decide +kernel
theorem dX4_beat_218 : decode cX4_beat 218 = .ok (.isub, 1) := by decide +kernel
theorem dX4_beat_219 : decode cX4_beat 219 = .ok (.iadd, 1) := by decide +kernel
theorem dX4_beat_220 : decode cX4_beat 220 = .ok (.iastore, 1) := by decide +kernel
theorem dX4_beat_221 : decode cX4_beat 221 = .ok (.iload 4, 2) := by decide +kernel
theorem dX4_beat_223 : decode cX4_beat 223 = .ok (.iload_n 3, 1) := by decide +kernel
theorem dX4_beat_224 : decode cX4_beat 224 = .ok (.iconst 1, 1) := by decide +kernel
theorem dX4_beat_225 : decode cX4_beat 225 = .ok (.isub, 1) := by decide +kernel
theorem dX4_beat_226 : decode cX4_beat 226 = .ok (.if_icmp .ge 25, 3) := by decide +kernel
theorem dX4_beat_229 : decode cX4_beat 229 = .ok (.aload_n 1, 1) := by decide +kernel
theorem dX4_beat_230 : decode cX4_beat 230 = .ok (.iload_n 2, 1) := by decide +kernel
theorem dX4_beat_231 : decode cX4_beat 231 = .ok (.invokestatic 39, 3) := by decide +kernel
theorem dX4_beat_234 : decode cX4_beat 234 = .ok (.bipush 13, 2) := by decide +kernel
theorem dX4_beat_236 : decode cX4_beat 236 = .ok (.iadd, 1) := by decide +kernel
theorem dX4_beat_237 : decode cX4_beat 237 = .ok (.iload 4, 2) := by decide +kernel
theorem dX4_beat_239 : decode cX4_beat 239 = .ok (.iadd, 1) := by decide +kernel
theorem dX4_beat_240 : decode cX4_beat 240 = .ok (.iconst 1, 1) := by decide +kernel
theorem dX4_beat_241 : decode cX4_beat 241 = .ok (.iadd, 1) := by decide +kernel
theorem dX4_beat_242 : decode cX4_beat 242 = .ok (.dup2, 1) := by decide +kernel
theorem dX4_beat_243 : decode cX4_beat 243 = .ok (.iaload, 1) := by decide +kernel
theorem dX4_beat_244 : decode cX4_beat 244 = .ok (.iload 5, 2) := by decide +kernel
theorem dX4_beat_246 : decode cX4_beat 246 = .ok (.iadd, 1) := by decide +kernel
theorem dX4_beat_247 : decode cX4_beat 247 = .ok (.iastore, 1) := by decide +kernel
theorem dX4_beat_248 : decode cX4_beat 248 = .ok (.goto 47, 3) := by decide +kernel
theorem dX4_beat_251 : decode cX4_beat 251 = .ok (.aload_n 1, 1) := by decide +kernel
theorem dX4_beat_252 : decode cX4_beat 252 = .ok (.iload_n 2, 1) := by decide +kernel
theorem dX4_beat_253 : decode cX4_beat 253 = .ok (.invokestatic 39, 3) := by decide +kernel
theorem dX4_beat_256 : decode cX4_beat 256 = .ok (.iconst 1, 1) := by decide +kernel
theorem dX4_beat_257 : decode cX4_beat 257 = .ok (.iadd, 1) := by decide +kernel
theorem dX4_beat_258 : decode cX4_beat 258 = .ok (.iaload, 1) := by decide +kernel
theorem dX4_beat_259 : decode cX4_beat 259 = .ok (.iconst 1, 1) := by decide +kernel
theorem dX4_beat_260 : decode cX4_beat 260 = .ok (.if_icmp .ne 22, 3) := by decide +kernel
theorem dX4_beat_263 : decode cX4_beat 263 = .ok (.aload_n 1, 1) := by decide +kernel
theorem dX4_beat_264 : decode cX4_beat 264 = .ok (.iload_n 2, 1) := by decide +kernel
theorem dX4_beat_265 : decode cX4_beat 265 = .ok (.iconst 1, 1) := by decide +kernel
theorem dX4_beat_266 : decode cX4_beat 266 = .ok (.iadd, 1) := by decide +kernel
theorem dX4_beat_267 : decode cX4_beat 267 = .ok (.invokestatic 39, 3) := by decide +kernel
theorem dX4_beat_270 : decode cX4_beat 270 = .ok (.bipush 13, 2) := by decide +kernel
theorem dX4_beat_272 : decode cX4_beat 272 = .ok (.iadd, 1) := by decide +kernel
theorem dX4_beat_273 : decode cX4_beat 273 = .ok (.dup2, 1) := by decide +kernel
theorem dX4_beat_274 : decode cX4_beat 274 = .ok (.iaload, 1) := by decide +kernel
theorem dX4_beat_275 : decode cX4_beat 275 = .ok (.iload 5, 2) := by decide +kernel
theorem dX4_beat_277 : decode cX4_beat 277 = .ok (.iadd, 1) := by decide +kernel
theorem dX4_beat_278 : decode cX4_beat 278 = .ok (.iastore, 1) := by decide +kernel
theorem dX4_beat_279 : decode cX4_beat 279 = .ok (.goto 16, 3) := by decide +kernel
theorem dX4_beat_282 : decode cX4_beat 282 = .ok (.aload_n 1, 1) := by decide +kernel
theorem dX4_beat_283 : decode cX4_beat 283 = .ok (.iload_n 2, 1) := by decide +kernel
theorem dX4_beat_284 : decode cX4_beat 284 = .ok (.invokestatic 39, 3) := by decide +kernel
theorem dX4_beat_287 : decode cX4_beat 287 = .ok (.iconst 2, 1) := by decide +kernel
theorem dX4_beat_288 : decode cX4_beat 288 = .ok (.iadd, 1) := by decide +kernel
theorem dX4_beat_289 : decode cX4_beat 289 = .ok (.dup2, 1) := by decide +kernel
theorem dX4_beat_290 : decode cX4_beat 290 = .ok (.iaload, 1) := by decide +kernel
theorem dX4_beat_291 : decode cX4_beat 291 = .ok (.iload 5, 2) := by decide +kernel
theorem dX4_beat_293 : decode cX4_beat 293 = .ok (.iadd, 1) := by decide +kernel
theorem dX4_beat_294 : decode cX4_beat 294 = .ok (.iastore, 1) := by decide +kernel
theorem dX4_beat_295 : decode cX4_beat 295 = .ok (.iinc 4 1, 3) := by decide +kernel
theorem dX4_beat_298 : decode cX4_beat 298 = .ok (.goto (-155), 3) := by decide +kernel
theorem dX4_beat_301 : decode cX4_beat 301 = .ok (.iinc 2 1, 3) := by decide +kernel
theorem dX4_beat_304 : decode cX4_beat 304 = .ok (.goto (-180), 3) := by decide +kernel
theorem dX4_beat_307 : decode cX4_beat 307 = .ok (.aload_n 1, 1) := by decide +kernel
theorem dX4_beat_308 : decode cX4_beat 308 = .ok (.iconst 2, 1) := by decide +kernel
theorem dX4_beat_309 : decode cX4_beat 309 = .ok (.dup2, 1) := by decide +kernel
theorem dX4_beat_310 : decode cX4_beat 310 = .ok (.iaload, 1) := by decide +kernel
theorem dX4_beat_311 : decode cX4_beat 311 = .ok (.iconst 1, 1) := by decide +kernel
theorem dX4_beat_312 : decode cX4_beat 312 = .ok (.iadd, 1) := by decide +kernel
theorem dX4_beat_313 : decode cX4_beat 313 = .ok (.iastore, 1) := by decide +kernel
theorem dX4_beat_314 : decode cX4_beat 314 = .ok (.return_, 1) := by decide +kernel
set_option maxRecDepth 20000 in
theorem ggX4_append_X4_in : GoodIn wsX4_append wsX4_in := goodIn_r _ [7] (by decide +kernel) (by decide +kernel)
set_option maxRecDepth 20000 in
theorem gX4_append_X4_in : GoodIn wsX4_append (va_wsS RX4 47 yX4_in wsX4_in) := goodIn_app (goodIn_of _ (by decide +kernel)) ggX4_append_X4_in
set_option maxRecDepth 20000 in
theorem ggX4_append_X4_refused : GoodIn wsX4_append wsX4_refused := goodIn_r _ [11, 12, 13, 14, 15, 16, 17, 18, 19, 20, 21, 22, 23] (by decide +kernel) (by decide +kernel)
set_option maxRecDepth 20000 in
theorem gX4_append_X4_refused : GoodIn wsX4_append (wsV RX4 76 RX4 yX4_refused wsX4_refused) := goodIn_app (goodIn_of _ (by decide +kernel)) ggX4_append_X4_refused
theorem dX4_append_0 : decode cX4_append 0 = .ok (.aload_n 0, 1) := by decide +kernel
theorem dX4_append_1 : decode cX4_append 1 = .ok (.iload_n 1, 1) := by decide +kernel
theorem dX4_append_2 : decode cX4_append 2 = .ok (.i2l, 1) := by decide +kernel
theorem dX4_append_3 : decode cX4_append 3 = .ok (.lconst 0, 1) := by decide +kernel
theorem dX4_append_4 : decode cX4_append 4 = .ok (.ldc2_w 71, 3) := by decide +kernel
theorem dX4_append_7 : decode cX4_append 7 = .ok (.invokestatic 47, 3) := by decide +kernel
theorem dX4_append_10 : decode cX4_append 10 = .ok (.ifCond .ne 7, 3) := by decide +kernel
theorem dX4_append_13 : decode cX4_append 13 = .ok (.iconst 1, 1) := by decide +kernel
theorem dX4_append_14 : decode cX4_append 14 = .ok (.goto 17, 3) := by decide +kernel
theorem dX4_append_17 : decode cX4_append 17 = .ok (.aload_n 0, 1) := by decide +kernel
theorem dX4_append_18 : decode cX4_append 18 = .ok (.getfield 73, 3) := by decide +kernel
theorem dX4_append_21 : decode cX4_append 21 = .ok (.bipush 100, 2) := by decide +kernel
theorem dX4_append_23 : decode cX4_append 23 = .ok (.if_icmp .ne 7, 3) := by decide +kernel
theorem dX4_append_26 : decode cX4_append 26 = .ok (.iconst 2, 1) := by decide +kernel
theorem dX4_append_27 : decode cX4_append 27 = .ok (.goto 4, 3) := by decide +kernel
theorem dX4_append_30 : decode cX4_append 30 = .ok (.iconst 0, 1) := by decide +kernel
theorem dX4_append_31 : decode cX4_append 31 = .ok (.invokevirtual 76, 3) := by decide +kernel
theorem dX4_append_34 : decode cX4_append 34 = .ok (.ifCond .eq 5, 3) := by decide +kernel
theorem dX4_append_37 : decode cX4_append 37 = .ok (.iconst 0, 1) := by decide +kernel
theorem dX4_append_38 : decode cX4_append 38 = .ok (.ireturn, 1) := by decide +kernel
theorem dX4_append_39 : decode cX4_append 39 = .ok (.aload_n 0, 1) := by decide +kernel
theorem dX4_append_40 : decode cX4_append 40 = .ok (.getfield 7, 3) := by decide +kernel
theorem dX4_append_43 : decode cX4_append 43 = .ok (.aload_n 0, 1) := by decide +kernel
theorem dX4_append_44 : decode cX4_append 44 = .ok (.getfield 73, 3) := by decide +kernel
theorem dX4_append_47 : decode cX4_append 47 = .ok (.iload_n 1, 1) := by decide +kernel
theorem dX4_append_48 : decode cX4_append 48 = .ok (.iastore, 1) := by decide +kernel
theorem dX4_append_49 : decode cX4_append 49 = .ok (.aload_n 0, 1) := by decide +kernel
theorem dX4_append_50 : decode cX4_append 50 = .ok (.dup, 1) := by decide +kernel
theorem dX4_append_51 : decode cX4_append 51 = .ok (.getfield 73, 3) := by decide +kernel
theorem dX4_append_54 : decode cX4_append 54 = .ok (.iconst 1, 1) := by decide +kernel
theorem dX4_append_55 : decode cX4_append 55 = .ok (.iadd, 1) := by decide +kernel
theorem dX4_append_56 : decode cX4_append 56 = .ok (.putfield 73, 3) := by decide +kernel
theorem dX4_append_59 : decode cX4_append 59 = .ok (.aload_n 0, 1) := by decide +kernel
theorem dX4_append_60 : decode cX4_append 60 = .ok (.getfield 73, 3) := by decide +kernel
theorem dX4_append_63 : decode cX4_append 63 = .ok (.ireturn, 1) := by decide +kernel
theorem dX4_clearText_0 : decode cX4_clearText 0 = .ok (.aload_n 0, 1) := by decide +kernel
theorem dX4_clearText_1 : decode cX4_clearText 1 = .ok (.getfield 73, 3) := by decide +kernel
theorem dX4_clearText_4 : decode cX4_clearText 4 = .ok (.istore_n 1, 1) := by decide +kernel
theorem dX4_clearText_5 : decode cX4_clearText 5 = .ok (.aload_n 0, 1) := by decide +kernel
theorem dX4_clearText_6 : decode cX4_clearText 6 = .ok (.iconst 0, 1) := by decide +kernel
theorem dX4_clearText_7 : decode cX4_clearText 7 = .ok (.putfield 73, 3) := by decide +kernel
theorem dX4_clearText_10 : decode cX4_clearText 10 = .ok (.iload_n 1, 1) := by decide +kernel
theorem dX4_clearText_11 : decode cX4_clearText 11 = .ok (.ireturn, 1) := by decide +kernel
set_option maxRecDepth 20000 in
theorem ggX4_wrong_X4_in : GoodIn wsX4_wrong wsX4_in := goodIn_r _ [8] (by decide +kernel) (by decide +kernel)
set_option maxRecDepth 20000 in
theorem gX4_wrong_X4_in : GoodIn wsX4_wrong (va_wsS RX4 47 yX4_in wsX4_in) := goodIn_app (goodIn_of _ (by decide +kernel)) ggX4_wrong_X4_in
theorem dX4_wrong_0 : decode cX4_wrong 0 = .ok (.iconst 1, 1) := by decide +kernel
theorem dX4_wrong_1 : decode cX4_wrong 1 = .ok (.istore_n 1, 1) := by decide +kernel
theorem dX4_wrong_2 : decode cX4_wrong 2 = .ok (.iconst 0, 1) := by decide +kernel
theorem dX4_wrong_3 : decode cX4_wrong 3 = .ok (.istore_n 2, 1) := by decide +kernel
theorem dX4_wrong_4 : decode cX4_wrong 4 = .ok (.iconst 0, 1) := by decide +kernel
theorem dX4_wrong_5 : decode cX4_wrong 5 = .ok (.istore_n 3, 1) := by decide +kernel
theorem dX4_wrong_6 : decode cX4_wrong 6 = .ok (.iconst 0, 1) := by decide +kernel
theorem dX4_wrong_7 : decode cX4_wrong 7 = .ok (.istore 4, 2) := by decide +kernel
theorem dX4_wrong_9 : decode cX4_wrong 9 = .ok (.iload 4, 2) := by decide +kernel
theorem dX4_wrong_11 : decode cX4_wrong 11 = .ok (.aload_n 0, 1) := by decide +kernel
theorem dX4_wrong_12 : decode cX4_wrong 12 = .ok (.getfield 73, 3) := by decide +kernel
theorem dX4_wrong_15 : decode cX4_wrong 15 = .ok (.if_icmp .ge 191, 3) := by decide +kernel
theorem dX4_wrong_18 : decode cX4_wrong 18 = .ok (.aload_n 0, 1) := by decide +kernel
theorem dX4_wrong_19 : decode cX4_wrong 19 = .ok (.getfield 7, 3) := by decide +kernel
theorem dX4_wrong_22 : decode cX4_wrong 22 = .ok (.iload 4, 2) := by decide +kernel
theorem dX4_wrong_24 : decode cX4_wrong 24 = .ok (.iaload, 1) := by decide +kernel
theorem dX4_wrong_25 : decode cX4_wrong 25 = .ok (.istore 5, 2) := by decide +kernel
theorem dX4_wrong_27 : decode cX4_wrong 27 = .ok (.iload 5, 2) := by decide +kernel
theorem dX4_wrong_29 : decode cX4_wrong 29 = .ok (.i2l, 1) := by decide +kernel
theorem dX4_wrong_30 : decode cX4_wrong 30 = .ok (.ldc2_w 80, 3) := by decide +kernel
theorem dX4_wrong_33 : decode cX4_wrong 33 = .ok (.ldc2_w 82, 3) := by decide +kernel
theorem dX4_wrong_36 : decode cX4_wrong 36 = .ok (.invokestatic 47, 3) := by decide +kernel
theorem dX4_wrong_39 : decode cX4_wrong 39 = .ok (.ifCond .eq 13, 3) := by decide +kernel
theorem dX4_wrong_42 : decode cX4_wrong 42 = .ok (.iload_n 2, 1) := by decide +kernel
theorem dX4_wrong_43 : decode cX4_wrong 43 = .ok (.bipush 9, 2) := by decide +kernel
theorem dX4_wrong_45 : decode cX4_wrong 45 = .ok (.if_icmp .ge 7, 3) := by decide +kernel
theorem dX4_wrong_48 : decode cX4_wrong 48 = .ok (.iconst 1, 1) := by decide +kernel
theorem dX4_wrong_49 : decode cX4_wrong 49 = .ok (.goto 4, 3) := by decide +kernel
theorem dX4_wrong_52 : decode cX4_wrong 52 = .ok (.iconst 0, 1) := by decide +kernel
theorem dX4_wrong_53 : decode cX4_wrong 53 = .ok (.istore 6, 2) := by decide +kernel
theorem dX4_wrong_55 : decode cX4_wrong 55 = .ok (.iload 5, 2) := by decide +kernel
theorem dX4_wrong_57 : decode cX4_wrong 57 = .ok (.bipush 43, 2) := by decide +kernel
theorem dX4_wrong_59 : decode cX4_wrong 59 = .ok (.if_icmp .eq 10, 3) := by decide +kernel
theorem dX4_wrong_62 : decode cX4_wrong 62 = .ok (.iload 5, 2) := by decide +kernel
theorem dX4_wrong_64 : decode cX4_wrong 64 = .ok (.bipush 45, 2) := by decide +kernel
theorem dX4_wrong_66 : decode cX4_wrong 66 = .ok (.if_icmp .ne 34, 3) := by decide +kernel
theorem dX4_wrong_69 : decode cX4_wrong 69 = .ok (.iload_n 2, 1) := by decide +kernel
theorem dX4_wrong_70 : decode cX4_wrong 70 = .ok (.ifCond .le 30, 3) := by decide +kernel
theorem dX4_wrong_73 : decode cX4_wrong 73 = .ok (.iload_n 3, 1) := by decide +kernel
theorem dX4_wrong_74 : decode cX4_wrong 74 = .ok (.iconst 5, 1) := by decide +kernel
theorem dX4_wrong_75 : decode cX4_wrong 75 = .ok (.if_icmp .ge 25, 3) := by decide +kernel
theorem dX4_wrong_78 : decode cX4_wrong 78 = .ok (.iload_n 3, 1) := by decide +kernel
theorem dX4_wrong_79 : decode cX4_wrong 79 = .ok (.ifCond .eq 17, 3) := by decide +kernel
theorem dX4_wrong_82 : decode cX4_wrong 82 = .ok (.aload_n 0, 1) := by decide +kernel
theorem dX4_wrong_83 : decode cX4_wrong 83 = .ok (.getfield 7, 3) := by decide +kernel
theorem dX4_wrong_86 : decode cX4_wrong 86 = .ok (.iload 4, 2) := by decide +kernel
theorem dX4_wrong_88 : decode cX4_wrong 88 = .ok (.iconst 1, 1) := by decide +kernel
theorem dX4_wrong_89 : decode cX4_wrong 89 = .ok (.isub, 1) := by decide +kernel
theorem dX4_wrong_90 : decode cX4_wrong 90 = .ok (.iaload, 1) := by decide +kernel
theorem dX4_wrong_91 : decode cX4_wrong 91 = .ok (.iload 5, 2) := by decide +kernel
theorem dX4_wrong_93 : decode cX4_wrong 93 = .ok (.if_icmp .ne 7, 3) := by decide +kernel
theorem dX4_wrong_96 : decode cX4_wrong 96 = .ok (.iconst 1, 1) := by decide +kernel
theorem dX4_wrong_97 : decode cX4_wrong 97 = .ok (.goto 4, 3) := by decide +kernel
theorem dX4_wrong_100 : decode cX4_wrong 100 = .ok (.iconst 0, 1) := by decide +kernel
theorem dX4_wrong_101 : decode cX4_wrong 101 = .ok (.istore 7, 2) := by decide +kernel
theorem dX4_wrong_103 : decode cX4_wrong 103 = .ok (.iload 5, 2) := by decide +kernel
theorem dX4_wrong_105 : decode cX4_wrong 105 = .ok (.bipush 47, 2) := by decide +kernel
theorem dX4_wrong_107 : decode cX4_wrong 107 = .ok (.if_icmp .eq 10, 3) := by decide +kernel
theorem dX4_wrong_110 : decode cX4_wrong 110 = .ok (.iload 5, 2) := by decide +kernel
theorem dX4_wrong_112 : decode cX4_wrong 112 = .ok (.bipush 62, 2) := by decide +kernel
theorem dX4_wrong_114 : decode cX4_wrong 114 = .ok (.if_icmp .ne 17, 3) := by decide +kernel
theorem dX4_wrong_117 : decode cX4_wrong 117 = .ok (.iload_n 2, 1) := by decide +kernel
theorem dX4_wrong_118 : decode cX4_wrong 118 = .ok (.ifCond .le 13, 3) := by decide +kernel
theorem dX4_wrong_121 : decode cX4_wrong 121 = .ok (.iload_n 1, 1) := by decide +kernel
theorem dX4_wrong_122 : decode cX4_wrong 122 = .ok (.bipush 6, 2) := by decide +kernel
theorem dX4_wrong_124 : decode cX4_wrong 124 = .ok (.if_icmp .ge 7, 3) := by decide +kernel
theorem dX4_wrong_127 : decode cX4_wrong 127 = .ok (.iconst 1, 1) := by decide +kernel
theorem dX4_wrong_128 : decode cX4_wrong 128 = .ok (.goto 4, 3) := by decide +kernel
theorem dX4_wrong_131 : decode cX4_wrong 131 = .ok (.iconst 0, 1) := by decide +kernel
theorem dX4_wrong_132 : decode cX4_wrong 132 = .ok (.istore 8, 2) := by decide +kernel
theorem dX4_wrong_134 : decode cX4_wrong 134 = .ok (.iload 6, 2) := by decide +kernel
theorem dX4_wrong_136 : decode cX4_wrong 136 = .ok (.ifCond .ne 16, 3) := by decide +kernel
theorem dX4_wrong_139 : decode cX4_wrong 139 = .ok (.iload 7, 2) := by decide +kernel
theorem dX4_wrong_141 : decode cX4_wrong 141 = .ok (.ifCond .ne 11, 3) := by decide +kernel
theorem dX4_wrong_144 : decode cX4_wrong 144 = .ok (.iload 8, 2) := by decide +kernel
theorem dX4_wrong_146 : decode cX4_wrong 146 = .ok (.ifCond .ne 6, 3) := by decide +kernel
theorem dX4_wrong_149 : decode cX4_wrong 149 = .ok (.iload 4, 2) := by decide +kernel
theorem dX4_wrong_151 : decode cX4_wrong 151 = .ok (.ireturn, 1) := by decide +kernel
theorem dX4_wrong_152 : decode cX4_wrong 152 = .ok (.iload_n 1, 1) := by decide +kernel
theorem dX4_wrong_153 : decode cX4_wrong 153 = .ok (.iload 8, 2) := by decide +kernel
theorem dX4_wrong_155 : decode cX4_wrong 155 = .ok (.ifCond .eq 7, 3) := by decide +kernel
theorem dX4_wrong_158 : decode cX4_wrong 158 = .ok (.iconst 1, 1) := by decide +kernel
theorem dX4_wrong_159 : decode cX4_wrong 159 = .ok (.goto 4, 3) := by decide +kernel
theorem dX4_wrong_162 : decode cX4_wrong 162 = .ok (.iconst 0, 1) := by decide +kernel
theorem dX4_wrong_163 : decode cX4_wrong 163 = .ok (.iadd, 1) := by decide +kernel
theorem dX4_wrong_164 : decode cX4_wrong 164 = .ok (.istore_n 1, 1) := by decide +kernel
theorem dX4_wrong_165 : decode cX4_wrong 165 = .ok (.iload 8, 2) := by decide +kernel
theorem dX4_wrong_167 : decode cX4_wrong 167 = .ok (.ifCond .eq 7, 3) := by decide +kernel
theorem dX4_wrong_170 : decode cX4_wrong 170 = .ok (.iconst 0, 1) := by decide +kernel
theorem dX4_wrong_171 : decode cX4_wrong 171 = .ok (.goto 15, 3) := by decide +kernel
theorem dX4_wrong_174 : decode cX4_wrong 174 = .ok (.iload 6, 2) := by decide +kernel
theorem dX4_wrong_176 : decode cX4_wrong 176 = .ok (.ifCond .eq 9, 3) := by decide +kernel
theorem dX4_wrong_179 : decode cX4_wrong 179 = .ok (.iload_n 2, 1) := by decide +kernel
theorem dX4_wrong_180 : decode cX4_wrong 180 = .ok (.iconst 1, 1) := by decide +kernel
theorem dX4_wrong_181 : decode cX4_wrong 181 = .ok (.iadd, 1) := by decide +kernel
theorem dX4_wrong_182 : decode cX4_wrong 182 = .ok (.goto 4, 3) := by decide +kernel
theorem dX4_wrong_185 : decode cX4_wrong 185 = .ok (.iload_n 2, 1) := by decide +kernel
theorem dX4_wrong_186 : decode cX4_wrong 186 = .ok (.istore_n 2, 1) := by decide +kernel
theorem dX4_wrong_187 : decode cX4_wrong 187 = .ok (.iload 7, 2) := by decide +kernel
theorem dX4_wrong_189 : decode cX4_wrong 189 = .ok (.ifCond .eq 9, 3) := by decide +kernel
theorem dX4_wrong_192 : decode cX4_wrong 192 = .ok (.iload_n 3, 1) := by decide +kernel
theorem dX4_wrong_193 : decode cX4_wrong 193 = .ok (.iconst 1, 1) := by decide +kernel
theorem dX4_wrong_194 : decode cX4_wrong 194 = .ok (.iadd, 1) := by decide +kernel
theorem dX4_wrong_195 : decode cX4_wrong 195 = .ok (.goto 4, 3) := by decide +kernel
theorem dX4_wrong_198 : decode cX4_wrong 198 = .ok (.iconst 0, 1) := by decide +kernel
theorem dX4_wrong_199 : decode cX4_wrong 199 = .ok (.istore_n 3, 1) := by decide +kernel
theorem dX4_wrong_200 : decode cX4_wrong 200 = .ok (.iinc 4 1, 3) := by decide +kernel
theorem dX4_wrong_203 : decode cX4_wrong 203 = .ok (.goto (-194), 3) := by decide +kernel
theorem dX4_wrong_206 : decode cX4_wrong 206 = .ok (.iload_n 2, 1) := by decide +kernel
theorem dX4_wrong_207 : decode cX4_wrong 207 = .ok (.ifCond .ne 10, 3) := by decide +kernel
theorem dX4_wrong_210 : decode cX4_wrong 210 = .ok (.aload_n 0, 1) := by decide +kernel
theorem dX4_wrong_211 : decode cX4_wrong 211 = .ok (.getfield 73, 3) := by decide +kernel
theorem dX4_wrong_214 : decode cX4_wrong 214 = .ok (.goto 4, 3) := by decide +kernel
theorem dX4_wrong_217 : decode cX4_wrong 217 = .ok (.iconst (-1), 1) := by decide +kernel
theorem dX4_wrong_218 : decode cX4_wrong 218 = .ok (.ireturn, 1) := by decide +kernel
set_option maxRecDepth 20000 in
theorem ggX4_errorPosition_X4_wrong : GoodIn wsX4_errorPosition wsX4_wrong := goodIn_r _ [5, 6, 7, 8, 9, 10, 11, 4, 12, 13, 14, 15, 16, 17, 18, 19, 20, 21, 22, 23] (by decide +kernel) (by decide +kernel)
set_option maxRecDepth 20000 in
theorem gX4_errorPosition_X4_wrong : GoodIn wsX4_errorPosition (wsV RX4 84 RX4 yX4_wrong wsX4_wrong) := goodIn_app (goodIn_of _ (by decide +kernel)) ggX4_errorPosition_X4_wrong
theorem dX4_errorPosition_0 : decode cX4_errorPosition 0 = .ok (.aload_n 0, 1) := by decide +kernel
theorem dX4_errorPosition_1 : decode cX4_errorPosition 1 = .ok (.invokevirtual 84, 3) := by decide +kernel
theorem dX4_errorPosition_4 : decode cX4_errorPosition 4 = .ok (.ireturn, 1) := by decide +kernel
set_option maxRecDepth 20000 in
theorem ggX4_shift_X4_at : GoodIn wsX4_shift wsX4_at := goodIn_r _ [4] (by decide +kernel) (by decide +kernel)
set_option maxRecDepth 20000 in
theorem gX4_shift_X4_at : GoodIn wsX4_shift (va_wsS RX4 39 yX4_at wsX4_at) := goodIn_app (goodIn_of _ (by decide +kernel)) ggX4_shift_X4_at
theorem dX4_shift_0 : decode cX4_shift 0 = .ok (.aload_n 0, 1) := by decide +kernel
theorem dX4_shift_1 : decode cX4_shift 1 = .ok (.iload_n 1, 1) := by decide +kernel
theorem dX4_shift_2 : decode cX4_shift 2 = .ok (.invokestatic 39, 3) := by decide +kernel
theorem dX4_shift_5 : decode cX4_shift 5 = .ok (.iconst 0, 1) := by decide +kernel
theorem dX4_shift_6 : decode cX4_shift 6 = .ok (.iadd, 1) := by decide +kernel
theorem dX4_shift_7 : decode cX4_shift 7 = .ok (.iaload, 1) := by decide +kernel
theorem dX4_shift_8 : decode cX4_shift 8 = .ok (.istore_n 3, 1) := by decide +kernel
theorem dX4_shift_9 : decode cX4_shift 9 = .ok (.iload_n 3, 1) := by decide +kernel
theorem dX4_shift_10 : decode cX4_shift 10 = .ok (.ifCond .le 55, 3) := by decide +kernel
theorem dX4_shift_13 : decode cX4_shift 13 = .ok (.aload_n 0, 1) := by decide +kernel
theorem dX4_shift_14 : decode cX4_shift 14 = .ok (.iload_n 1, 1) := by decide +kernel
theorem dX4_shift_15 : decode cX4_shift 15 = .ok (.invokestatic 39, 3) := by decide +kernel
theorem dX4_shift_18 : decode cX4_shift 18 = .ok (.iconst 4, 1) := by decide +kernel
theorem dX4_shift_19 : decode cX4_shift 19 = .ok (.iadd, 1) := by decide +kernel
theorem dX4_shift_20 : decode cX4_shift 20 = .ok (.iload_n 3, 1) := by decide +kernel
theorem dX4_shift_21 : decode cX4_shift 21 = .ok (.iadd, 1) := by decide +kernel
theorem dX4_shift_22 : decode cX4_shift 22 = .ok (.aload_n 0, 1) := by decide +kernel
theorem dX4_shift_23 : decode cX4_shift 23 = .ok (.iload_n 1, 1) := by decide +kernel
theorem dX4_shift_24 : decode cX4_shift 24 = .ok (.invokestatic 39, 3) := by decide +kernel
theorem dX4_shift_27 : decode cX4_shift 27 = .ok (.iconst 4, 1) := by decide +kernel
theorem dX4_shift_28 : decode cX4_shift 28 = .ok (.iadd, 1) := by decide +kernel
theorem dX4_shift_29 : decode cX4_shift 29 = .ok (.iload_n 3, 1) := by decide +kernel
theorem dX4_shift_30 : decode cX4_shift 30 = .ok (.iadd, 1) := by decide +kernel
theorem dX4_shift_31 : decode cX4_shift 31 = .ok (.iconst 1, 1) := by decide +kernel
theorem dX4_shift_32 : decode cX4_shift 32 = .ok (.isub, 1) := by decide +kernel
theorem dX4_shift_33 : decode cX4_shift 33 = .ok (.iaload, 1) := by decide +kernel
theorem dX4_shift_34 : decode cX4_shift 34 = .ok (.iastore, 1) := by decide +kernel
theorem dX4_shift_35 : decode cX4_shift 35 = .ok (.aload_n 0, 1) := by decide +kernel
theorem dX4_shift_36 : decode cX4_shift 36 = .ok (.iload_n 1, 1) := by decide +kernel
theorem dX4_shift_37 : decode cX4_shift 37 = .ok (.invokestatic 39, 3) := by decide +kernel
theorem dX4_shift_40 : decode cX4_shift 40 = .ok (.bipush 13, 2) := by decide +kernel
theorem dX4_shift_42 : decode cX4_shift 42 = .ok (.iadd, 1) := by decide +kernel
theorem dX4_shift_43 : decode cX4_shift 43 = .ok (.iload_n 3, 1) := by decide +kernel
theorem dX4_shift_44 : decode cX4_shift 44 = .ok (.iadd, 1) := by decide +kernel
theorem dX4_shift_45 : decode cX4_shift 45 = .ok (.aload_n 0, 1) := by decide +kernel
theorem dX4_shift_46 : decode cX4_shift 46 = .ok (.iload_n 1, 1) := by decide +kernel
theorem dX4_shift_47 : decode cX4_shift 47 = .ok (.invokestatic 39, 3) := by decide +kernel
theorem dX4_shift_50 : decode cX4_shift 50 = .ok (.bipush 13, 2) := by decide +kernel
theorem dX4_shift_52 : decode cX4_shift 52 = .ok (.iadd, 1) := by decide +kernel
theorem dX4_shift_53 : decode cX4_shift 53 = .ok (.iload_n 3, 1) := by decide +kernel
theorem dX4_shift_54 : decode cX4_shift 54 = .ok (.iadd, 1) := by decide +kernel
theorem dX4_shift_55 : decode cX4_shift 55 = .ok (.iconst 1, 1) := by decide +kernel
theorem dX4_shift_56 : decode cX4_shift 56 = .ok (.isub, 1) := by decide +kernel
theorem dX4_shift_57 : decode cX4_shift 57 = .ok (.iaload, 1) := by decide +kernel
theorem dX4_shift_58 : decode cX4_shift 58 = .ok (.iastore, 1) := by decide +kernel
theorem dX4_shift_59 : decode cX4_shift 59 = .ok (.iinc 3 (-1), 3) := by decide +kernel
theorem dX4_shift_62 : decode cX4_shift 62 = .ok (.goto (-53), 3) := by decide +kernel
theorem dX4_shift_65 : decode cX4_shift 65 = .ok (.aload_n 0, 1) := by decide +kernel
theorem dX4_shift_66 : decode cX4_shift 66 = .ok (.iload_n 1, 1) := by decide +kernel
theorem dX4_shift_67 : decode cX4_shift 67 = .ok (.invokestatic 39, 3) := by decide +kernel
theorem dX4_shift_70 : decode cX4_shift 70 = .ok (.iconst 4, 1) := by decide +kernel
theorem dX4_shift_71 : decode cX4_shift 71 = .ok (.iadd, 1) := by decide +kernel
theorem dX4_shift_72 : decode cX4_shift 72 = .ok (.iload_n 2, 1) := by decide +kernel
theorem dX4_shift_73 : decode cX4_shift 73 = .ok (.iastore, 1) := by decide +kernel
theorem dX4_shift_74 : decode cX4_shift 74 = .ok (.aload_n 0, 1) := by decide +kernel
theorem dX4_shift_75 : decode cX4_shift 75 = .ok (.iload_n 1, 1) := by decide +kernel
theorem dX4_shift_76 : decode cX4_shift 76 = .ok (.invokestatic 39, 3) := by decide +kernel
theorem dX4_shift_79 : decode cX4_shift 79 = .ok (.bipush 13, 2) := by decide +kernel
theorem dX4_shift_81 : decode cX4_shift 81 = .ok (.iadd, 1) := by decide +kernel
theorem dX4_shift_82 : decode cX4_shift 82 = .ok (.iconst 0, 1) := by decide +kernel
theorem dX4_shift_83 : decode cX4_shift 83 = .ok (.iastore, 1) := by decide +kernel
theorem dX4_shift_84 : decode cX4_shift 84 = .ok (.aload_n 0, 1) := by decide +kernel
theorem dX4_shift_85 : decode cX4_shift 85 = .ok (.iload_n 1, 1) := by decide +kernel
theorem dX4_shift_86 : decode cX4_shift 86 = .ok (.invokestatic 39, 3) := by decide +kernel
theorem dX4_shift_89 : decode cX4_shift 89 = .ok (.iconst 0, 1) := by decide +kernel
theorem dX4_shift_90 : decode cX4_shift 90 = .ok (.iadd, 1) := by decide +kernel
theorem dX4_shift_91 : decode cX4_shift 91 = .ok (.dup2, 1) := by decide +kernel
theorem dX4_shift_92 : decode cX4_shift 92 = .ok (.iaload, 1) := by decide +kernel
theorem dX4_shift_93 : decode cX4_shift 93 = .ok (.iconst 1, 1) := by decide +kernel
theorem dX4_shift_94 : decode cX4_shift 94 = .ok (.iadd, 1) := by decide +kernel
theorem dX4_shift_95 : decode cX4_shift 95 = .ok (.iastore, 1) := by decide +kernel
theorem dX4_shift_96 : decode cX4_shift 96 = .ok (.return_, 1) := by decide +kernel
set_option maxRecDepth 20000 in
theorem ggX4_load_X4_wrong : GoodIn wsX4_load wsX4_wrong := goodIn_r _ [12, 2, 3, 4, 5, 13, 14, 11, 15, 30, 31, 32, 33, 34, 35, 36, 37, 38, 39, 40] (by decide +kernel) (by decide +kernel)
set_option maxRecDepth 20000 in
theorem gX4_load_X4_wrong : GoodIn wsX4_load (wsV RX4 84 RX4 yX4_wrong wsX4_wrong) := goodIn_app (goodIn_of _ (by decide +kernel)) ggX4_load_X4_wrong
set_option maxRecDepth 20000 in
theorem ggX4_load_X4_refused : GoodIn wsX4_load wsX4_refused := goodIn_r _ [19, 20, 30, 31, 32, 33, 34, 35, 36, 37, 38, 39, 40] (by decide +kernel) (by decide +kernel)
set_option maxRecDepth 20000 in
theorem gX4_load_X4_refused : GoodIn wsX4_load (wsV RX4 76 RX4 yX4_refused wsX4_refused) := goodIn_app (goodIn_of _ (by decide +kernel)) ggX4_load_X4_refused
set_option maxRecDepth 20000 in
theorem ggX4_load_X4_begin : GoodIn wsX4_load wsX4_begin := goodIn_r _ [23] (by decide +kernel) (by decide +kernel)
set_option maxRecDepth 20000 in
theorem gX4_load_X4_begin : GoodIn wsX4_load (va_wsS RX4 35 yX4_begin wsX4_begin) := goodIn_app (goodIn_of _ (by decide +kernel)) ggX4_load_X4_begin
set_option maxRecDepth 20000 in
theorem ggX4_load_X4_in : GoodIn wsX4_load wsX4_in := goodIn_r _ [15] (by decide +kernel) (by decide +kernel)
set_option maxRecDepth 20000 in
theorem gX4_load_X4_in : GoodIn wsX4_load (va_wsS RX4 47 yX4_in wsX4_in) := goodIn_app (goodIn_of _ (by decide +kernel)) ggX4_load_X4_in
set_option maxRecDepth 20000 in
theorem ggX4_load_X4_shift : GoodIn wsX4_load wsX4_shift := goodIn_r _ [26, 27, 28, 11, 29] (by decide +kernel) (by decide +kernel)
set_option maxRecDepth 20000 in
theorem gX4_load_X4_shift : GoodIn wsX4_load (va_wsS RX4 88 yX4_shift wsX4_shift) := goodIn_app (goodIn_of _ (by decide +kernel)) ggX4_load_X4_shift
set_option maxRecDepth 20000 in
theorem ggX4_load_X4_at : GoodIn wsX4_load wsX4_at := goodIn_r _ [29] (by decide +kernel) (by decide +kernel)
set_option maxRecDepth 20000 in
theorem gX4_load_X4_at : GoodIn wsX4_load (va_wsS RX4 39 yX4_at wsX4_at) := goodIn_app (goodIn_of _ (by decide +kernel)) ggX4_load_X4_at
theorem dX4_load_0 : decode cX4_load 0 = .ok (.aload_n 0, 1) := by decide +kernel
theorem dX4_load_1 : decode cX4_load 1 = .ok (.aload_n 0, 1) := by decide +kernel
theorem dX4_load_2 : decode cX4_load 2 = .ok (.invokevirtual 84, 3) := by decide +kernel
theorem dX4_load_5 : decode cX4_load 5 = .ok (.iconst (-1), 1) := by decide +kernel
theorem dX4_load_6 : decode cX4_load 6 = .ok (.if_icmp .ne 7, 3) := by decide +kernel
theorem dX4_load_9 : decode cX4_load 9 = .ok (.iconst 0, 1) := by decide +kernel
theorem dX4_load_10 : decode cX4_load 10 = .ok (.goto 4, 3) := by decide +kernel
theorem dX4_load_13 : decode cX4_load 13 = .ok (.iconst 1, 1) := by decide +kernel
theorem dX4_load_14 : decode cX4_load 14 = .ok (.invokevirtual 76, 3) := by decide +kernel
theorem dX4_load_17 : decode cX4_load 17 = .ok (.ifCond .eq 5, 3) := by decide +kernel
theorem dX4_load_20 : decode cX4_load 20 = .ok (.iconst 0, 1) := by decide +kernel
theorem dX4_load_21 : decode cX4_load 21 = .ok (.ireturn, 1) := by decide +kernel
theorem dX4_load_22 : decode cX4_load 22 = .ok (.aload_n 0, 1) := by decide +kernel
theorem dX4_load_23 : decode cX4_load 23 = .ok (.getfield 13, 3) := by decide +kernel
theorem dX4_load_26 : decode cX4_load 26 = .ok (.invokestatic 35, 3) := by decide +kernel
theorem dX4_load_29 : decode cX4_load 29 = .ok (.aload_n 0, 1) := by decide +kernel
theorem dX4_load_30 : decode cX4_load 30 = .ok (.getfield 13, 3) := by decide +kernel
theorem dX4_load_33 : decode cX4_load 33 = .ok (.iconst 0, 1) := by decide +kernel
theorem dX4_load_34 : decode cX4_load 34 = .ok (.iconst 1, 1) := by decide +kernel
theorem dX4_load_35 : decode cX4_load 35 = .ok (.iastore, 1) := by decide +kernel
theorem dX4_load_36 : decode cX4_load 36 = .ok (.iconst 0, 1) := by decide +kernel
theorem dX4_load_37 : decode cX4_load 37 = .ok (.istore_n 1, 1) := by decide +kernel
theorem dX4_load_38 : decode cX4_load 38 = .ok (.iload_n 1, 1) := by decide +kernel
theorem dX4_load_39 : decode cX4_load 39 = .ok (.aload_n 0, 1) := by decide +kernel
theorem dX4_load_40 : decode cX4_load 40 = .ok (.getfield 73, 3) := by decide +kernel
theorem dX4_load_43 : decode cX4_load 43 = .ok (.if_icmp .ge 150, 3) := by decide +kernel
theorem dX4_load_46 : decode cX4_load 46 = .ok (.aload_n 0, 1) := by decide +kernel
theorem dX4_load_47 : decode cX4_load 47 = .ok (.getfield 13, 3) := by decide +kernel
theorem dX4_load_50 : decode cX4_load 50 = .ok (.iconst 0, 1) := by decide +kernel
theorem dX4_load_51 : decode cX4_load 51 = .ok (.iaload, 1) := by decide +kernel
theorem dX4_load_52 : decode cX4_load 52 = .ok (.iconst 1, 1) := by decide +kernel
theorem dX4_load_53 : decode cX4_load 53 = .ok (.isub, 1) := by decide +kernel
theorem dX4_load_54 : decode cX4_load 54 = .ok (.istore_n 2, 1) := by decide +kernel
theorem dX4_load_55 : decode cX4_load 55 = .ok (.aload_n 0, 1) := by decide +kernel
theorem dX4_load_56 : decode cX4_load 56 = .ok (.getfield 7, 3) := by decide +kernel
theorem dX4_load_59 : decode cX4_load 59 = .ok (.iload_n 1, 1) := by decide +kernel
theorem dX4_load_60 : decode cX4_load 60 = .ok (.iaload, 1) := by decide +kernel
theorem dX4_load_61 : decode cX4_load 61 = .ok (.i2l, 1) := by decide +kernel
theorem dX4_load_62 : decode cX4_load 62 = .ok (.ldc2_w 80, 3) := by decide +kernel
theorem dX4_load_65 : decode cX4_load 65 = .ok (.ldc2_w 82, 3) := by decide +kernel
theorem dX4_load_68 : decode cX4_load 68 = .ok (.invokestatic 47, 3) := by decide +kernel
theorem dX4_load_71 : decode cX4_load 71 = .ok (.ifCond .eq 23, 3) := by decide +kernel
theorem dX4_load_74 : decode cX4_load 74 = .ok (.aload_n 0, 1) := by decide +kernel
theorem dX4_load_75 : decode cX4_load 75 = .ok (.getfield 13, 3) := by decide +kernel
theorem dX4_load_78 : decode cX4_load 78 = .ok (.iload_n 2, 1) := by decide +kernel
theorem dX4_load_79 : decode cX4_load 79 = .ok (.aload_n 0, 1) := by decide +kernel
theorem dX4_load_80 : decode cX4_load 80 = .ok (.getfield 7, 3) := by decide +kernel
theorem dX4_load_83 : decode cX4_load 83 = .ok (.iload_n 1, 1) := by decide +kernel
theorem dX4_load_84 : decode cX4_load 84 = .ok (.iaload, 1) := by decide +kernel
theorem dX4_load_85 : decode cX4_load 85 = .ok (.bipush 48, 2) := by decide +kernel
theorem dX4_load_87 : decode cX4_load 87 = .ok (.isub, 1) := by decide +kernel
theorem dX4_load_88 : decode cX4_load 88 = .ok (.invokestatic 88, 3) := by decide +kernel
theorem dX4_load_91 : decode cX4_load 91 = .ok (.goto 96, 3) := by decide +kernel
theorem dX4_load_94 : decode cX4_load 94 = .ok (.aload_n 0, 1) := by decide +kernel
theorem dX4_load_95 : decode cX4_load 95 = .ok (.getfield 7, 3) := by decide +kernel
theorem dX4_load_98 : decode cX4_load 98 = .ok (.iload_n 1, 1) := by decide +kernel
theorem dX4_load_99 : decode cX4_load 99 = .ok (.iaload, 1) := by decide +kernel
theorem dX4_load_100 : decode cX4_load 100 = .ok (.bipush 43, 2) := by decide +kernel
theorem dX4_load_102 : decode cX4_load 102 = .ok (.if_icmp .eq 14, 3) := by decide +kernel
theorem dX4_load_105 : decode cX4_load 105 = .ok (.aload_n 0, 1) := by decide +kernel
theorem dX4_load_106 : decode cX4_load 106 = .ok (.getfield 7, 3) := by decide +kernel
theorem dX4_load_109 : decode cX4_load 109 = .ok (.iload_n 1, 1) := by decide +kernel
theorem dX4_load_110 : decode cX4_load 110 = .ok (.iaload, 1) := by decide +kernel
theorem dX4_load_111 : decode cX4_load 111 = .ok (.bipush 45, 2) := by decide +kernel
theorem dX4_load_113 : decode cX4_load 113 = .ok (.if_icmp .ne 37, 3) := by decide +kernel
theorem dX4_load_116 : decode cX4_load 116 = .ok (.aload_n 0, 1) := by decide +kernel
theorem dX4_load_117 : decode cX4_load 117 = .ok (.getfield 13, 3) := by decide +kernel
theorem dX4_load_120 : decode cX4_load 120 = .ok (.iload_n 2, 1) := by decide +kernel
theorem dX4_load_121 : decode cX4_load 121 = .ok (.invokestatic 39, 3) := by decide +kernel
theorem dX4_load_124 : decode cX4_load 124 = .ok (.bipush 13, 2) := by decide +kernel
theorem dX4_load_126 : decode cX4_load 126 = .ok (.iadd, 1) := by decide +kernel
theorem dX4_load_127 : decode cX4_load 127 = .ok (.dup2, 1) := by decide +kernel
theorem dX4_load_128 : decode cX4_load 128 = .ok (.iaload, 1) := by decide +kernel
theorem dX4_load_129 : decode cX4_load 129 = .ok (.aload_n 0, 1) := by decide +kernel
theorem dX4_load_130 : decode cX4_load 130 = .ok (.getfield 7, 3) := by decide +kernel
theorem dX4_load_133 : decode cX4_load 133 = .ok (.iload_n 1, 1) := by decide +kernel
theorem dX4_load_134 : decode cX4_load 134 = .ok (.iaload, 1) := by decide +kernel
theorem dX4_load_135 : decode cX4_load 135 = .ok (.bipush 43, 2) := by decide +kernel
theorem dX4_load_137 : decode cX4_load 137 = .ok (.if_icmp .ne 7, 3) := by decide +kernel
theorem dX4_load_140 : decode cX4_load 140 = .ok (.iconst 1, 1) := by decide +kernel
theorem dX4_load_141 : decode cX4_load 141 = .ok (.goto 4, 3) := by decide +kernel
theorem dX4_load_144 : decode cX4_load 144 = .ok (.iconst (-1), 1) := by decide +kernel
theorem dX4_load_145 : decode cX4_load 145 = .ok (.iadd, 1) := by decide +kernel
theorem dX4_load_146 : decode cX4_load 146 = .ok (.iastore, 1) := by decide +kernel
theorem dX4_load_147 : decode cX4_load 147 = .ok (.goto 40, 3) := by decide +kernel
theorem dX4_load_150 : decode cX4_load 150 = .ok (.aload_n 0, 1) := by decide +kernel
theorem dX4_load_151 : decode cX4_load 151 = .ok (.getfield 13, 3) := by decide +kernel
theorem dX4_load_154 : decode cX4_load 154 = .ok (.iload_n 2, 1) := by decide +kernel
theorem dX4_load_155 : decode cX4_load 155 = .ok (.invokestatic 39, 3) := by decide +kernel
theorem dX4_load_158 : decode cX4_load 158 = .ok (.iconst 1, 1) := by decide +kernel
theorem dX4_load_159 : decode cX4_load 159 = .ok (.iadd, 1) := by decide +kernel
theorem dX4_load_160 : decode cX4_load 160 = .ok (.aload_n 0, 1) := by decide +kernel
theorem dX4_load_161 : decode cX4_load 161 = .ok (.getfield 7, 3) := by decide +kernel
theorem dX4_load_164 : decode cX4_load 164 = .ok (.iload_n 1, 1) := by decide +kernel
theorem dX4_load_165 : decode cX4_load 165 = .ok (.iaload, 1) := by decide +kernel
theorem dX4_load_166 : decode cX4_load 166 = .ok (.bipush 62, 2) := by decide +kernel
theorem dX4_load_168 : decode cX4_load 168 = .ok (.if_icmp .ne 7, 3) := by decide +kernel
theorem dX4_load_171 : decode cX4_load 171 = .ok (.iconst 1, 1) := by decide +kernel
theorem dX4_load_172 : decode cX4_load 172 = .ok (.goto 4, 3) := by decide +kernel
theorem dX4_load_175 : decode cX4_load 175 = .ok (.iconst 0, 1) := by decide +kernel
theorem dX4_load_176 : decode cX4_load 176 = .ok (.iastore, 1) := by decide +kernel
theorem dX4_load_177 : decode cX4_load 177 = .ok (.aload_n 0, 1) := by decide +kernel
theorem dX4_load_178 : decode cX4_load 178 = .ok (.getfield 13, 3) := by decide +kernel
theorem dX4_load_181 : decode cX4_load 181 = .ok (.iconst 0, 1) := by decide +kernel
theorem dX4_load_182 : decode cX4_load 182 = .ok (.dup2, 1) := by decide +kernel
theorem dX4_load_183 : decode cX4_load 183 = .ok (.iaload, 1) := by decide +kernel
theorem dX4_load_184 : decode cX4_load 184 = .ok (.iconst 1, 1) := by decide +kernel
theorem dX4_load_185 : decode cX4_load 185 = .ok (.iadd, 1) := by decide +kernel
theorem dX4_load_186 : decode cX4_load 186 = .ok (.iastore, 1) := by decide +kernel
theorem dX4_load_187 : decode cX4_load 187 = .ok (.iinc 1 1, 3) := by decide +kernel
theorem dX4_load_190 : decode cX4_load 190 = .ok (.goto (-152), 3) := by decide +kernel
theorem dX4_load_193 : decode cX4_load 193 = .ok (.aload_n 0, 1) := by decide +kernel
theorem dX4_load_194 : decode cX4_load 194 = .ok (.iconst 0, 1) := by decide +kernel
theorem dX4_load_195 : decode cX4_load 195 = .ok (.putfield 92, 3) := by decide +kernel
theorem dX4_load_198 : decode cX4_load 198 = .ok (.aload_n 0, 1) := by decide +kernel
theorem dX4_load_199 : decode cX4_load 199 = .ok (.getfield 25, 3) := by decide +kernel
theorem dX4_load_202 : decode cX4_load 202 = .ok (.iconst 0, 1) := by decide +kernel
theorem dX4_load_203 : decode cX4_load 203 = .ok (.iconst 0, 1) := by decide +kernel
theorem dX4_load_204 : decode cX4_load 204 = .ok (.bastore, 1) := by decide +kernel
theorem dX4_load_205 : decode cX4_load 205 = .ok (.aload_n 0, 1) := by decide +kernel
theorem dX4_load_206 : decode cX4_load 206 = .ok (.getfield 25, 3) := by decide +kernel
theorem dX4_load_209 : decode cX4_load 209 = .ok (.iconst 1, 1) := by decide +kernel
theorem dX4_load_210 : decode cX4_load 210 = .ok (.iconst 0, 1) := by decide +kernel
theorem dX4_load_211 : decode cX4_load 211 = .ok (.bastore, 1) := by decide +kernel
theorem dX4_load_212 : decode cX4_load 212 = .ok (.aload_n 0, 1) := by decide +kernel
theorem dX4_load_213 : decode cX4_load 213 = .ok (.getfield 13, 3) := by decide +kernel
theorem dX4_load_216 : decode cX4_load 216 = .ok (.iconst 0, 1) := by decide +kernel
theorem dX4_load_217 : decode cX4_load 217 = .ok (.iaload, 1) := by decide +kernel
theorem dX4_load_218 : decode cX4_load 218 = .ok (.ireturn, 1) := by decide +kernel
set_option maxRecDepth 20000 in
theorem ggX4_about_X4_in : GoodIn wsX4_about wsX4_in := goodIn_r _ [6] (by decide +kernel) (by decide +kernel)
set_option maxRecDepth 20000 in
theorem gX4_about_X4_in : GoodIn wsX4_about (va_wsS RX4 47 yX4_in wsX4_in) := goodIn_app (goodIn_of _ (by decide +kernel)) ggX4_about_X4_in
set_option maxRecDepth 20000 in
theorem ggX4_about_X4_refused : GoodIn wsX4_about wsX4_refused := goodIn_r _ [10, 11, 33, 34, 35, 36, 37, 38, 39, 40, 41, 42, 43] (by decide +kernel) (by decide +kernel)
set_option maxRecDepth 20000 in
theorem gX4_about_X4_refused : GoodIn wsX4_about (wsV RX4 76 RX4 yX4_refused wsX4_refused) := goodIn_app (goodIn_of _ (by decide +kernel)) ggX4_about_X4_refused
set_option maxRecDepth 20000 in
theorem ggX4_about_X4_settledOn : GoodIn wsX4_about wsX4_settledOn := goodIn_r _ [14, 15, 16, 5, 17, 18, 19, 20] (by decide +kernel) (by decide +kernel)
set_option maxRecDepth 20000 in
theorem gX4_about_X4_settledOn : GoodIn wsX4_about (va_wsS RX4 57 yX4_settledOn wsX4_settledOn) := goodIn_app (goodIn_of _ (by decide +kernel)) ggX4_about_X4_settledOn
set_option maxRecDepth 20000 in
theorem ggX4_about_X4_waitsInAll : GoodIn wsX4_about wsX4_waitsInAll := goodIn_r _ [23, 15, 16, 5, 17, 18, 19, 20] (by decide +kernel) (by decide +kernel)
set_option maxRecDepth 20000 in
theorem gX4_about_X4_waitsInAll : GoodIn wsX4_about (va_wsS RX4 97 yX4_waitsInAll wsX4_waitsInAll) := goodIn_app (goodIn_of _ (by decide +kernel)) ggX4_about_X4_waitsInAll
set_option maxRecDepth 20000 in
theorem ggX4_about_X4_doublesOn : GoodIn wsX4_about wsX4_doublesOn := goodIn_r _ [26, 27, 28, 5, 29, 30, 31, 32] (by decide +kernel) (by decide +kernel)
set_option maxRecDepth 20000 in
theorem gX4_about_X4_doublesOn : GoodIn wsX4_about (va_wsS RX4 100 yX4_doublesOn wsX4_doublesOn) := goodIn_app (goodIn_of _ (by decide +kernel)) ggX4_about_X4_doublesOn
theorem dX4_about_0 : decode cX4_about 0 = .ok (.aload_n 0, 1) := by decide +kernel
theorem dX4_about_1 : decode cX4_about 1 = .ok (.iload_n 1, 1) := by decide +kernel
theorem dX4_about_2 : decode cX4_about 2 = .ok (.i2l, 1) := by decide +kernel
theorem dX4_about_3 : decode cX4_about 3 = .ok (.lconst 0, 1) := by decide +kernel
theorem dX4_about_4 : decode cX4_about 4 = .ok (.ldc2_w 95, 3) := by decide +kernel
theorem dX4_about_7 : decode cX4_about 7 = .ok (.invokestatic 47, 3) := by decide +kernel
theorem dX4_about_10 : decode cX4_about 10 = .ok (.ifCond .eq 7, 3) := by decide +kernel
theorem dX4_about_13 : decode cX4_about 13 = .ok (.iconst 0, 1) := by decide +kernel
theorem dX4_about_14 : decode cX4_about 14 = .ok (.goto 4, 3) := by decide +kernel
theorem dX4_about_17 : decode cX4_about 17 = .ok (.iconst 1, 1) := by decide +kernel
theorem dX4_about_18 : decode cX4_about 18 = .ok (.invokevirtual 76, 3) := by decide +kernel
theorem dX4_about_21 : decode cX4_about 21 = .ok (.ifCond .eq 5, 3) := by decide +kernel
theorem dX4_about_24 : decode cX4_about 24 = .ok (.iconst 0, 1) := by decide +kernel
theorem dX4_about_25 : decode cX4_about 25 = .ok (.ireturn, 1) := by decide +kernel
theorem dX4_about_26 : decode cX4_about 26 = .ok (.iload_n 1, 1) := by decide +kernel
theorem dX4_about_27 : decode cX4_about 27 = .ok (.iconst 4, 1) := by decide +kernel
theorem dX4_about_28 : decode cX4_about 28 = .ok (.if_icmp .ge 12, 3) := by decide +kernel
theorem dX4_about_31 : decode cX4_about 31 = .ok (.aload_n 0, 1) := by decide +kernel
theorem dX4_about_32 : decode cX4_about 32 = .ok (.getfield 13, 3) := by decide +kernel
theorem dX4_about_35 : decode cX4_about 35 = .ok (.iload_n 1, 1) := by decide +kernel
theorem dX4_about_36 : decode cX4_about 36 = .ok (.iaload, 1) := by decide +kernel
theorem dX4_about_37 : decode cX4_about 37 = .ok (.goto 40, 3) := by decide +kernel
theorem dX4_about_40 : decode cX4_about 40 = .ok (.iload_n 1, 1) := by decide +kernel
theorem dX4_about_41 : decode cX4_about 41 = .ok (.iconst 4, 1) := by decide +kernel
theorem dX4_about_42 : decode cX4_about 42 = .ok (.if_icmp .ne 13, 3) := by decide +kernel
theorem dX4_about_45 : decode cX4_about 45 = .ok (.aload_n 0, 1) := by decide +kernel
theorem dX4_about_46 : decode cX4_about 46 = .ok (.getfield 13, 3) := by decide +kernel
theorem dX4_about_49 : decode cX4_about 49 = .ok (.invokestatic 57, 3) := by decide +kernel
theorem dX4_about_52 : decode cX4_about 52 = .ok (.goto 25, 3) := by decide +kernel
theorem dX4_about_55 : decode cX4_about 55 = .ok (.iload_n 1, 1) := by decide +kernel
theorem dX4_about_56 : decode cX4_about 56 = .ok (.iconst 5, 1) := by decide +kernel
theorem dX4_about_57 : decode cX4_about 57 = .ok (.if_icmp .ne 13, 3) := by decide +kernel
theorem dX4_about_60 : decode cX4_about 60 = .ok (.aload_n 0, 1) := by decide +kernel
theorem dX4_about_61 : decode cX4_about 61 = .ok (.getfield 13, 3) := by decide +kernel
theorem dX4_about_64 : decode cX4_about 64 = .ok (.invokestatic 97, 3) := by decide +kernel
theorem dX4_about_67 : decode cX4_about 67 = .ok (.goto 10, 3) := by decide +kernel
theorem dX4_about_70 : decode cX4_about 70 = .ok (.aload_n 0, 1) := by decide +kernel
theorem dX4_about_71 : decode cX4_about 71 = .ok (.getfield 13, 3) := by decide +kernel
theorem dX4_about_74 : decode cX4_about 74 = .ok (.invokestatic 100, 3) := by decide +kernel
theorem dX4_about_77 : decode cX4_about 77 = .ok (.ireturn, 1) := by decide +kernel
set_option maxRecDepth 20000 in
theorem ggX4_shown_X4_isCounter : GoodIn wsX4_shown wsX4_isCounter := goodIn_r _ [5, 6, 7, 4, 8] (by decide +kernel) (by decide +kernel)
set_option maxRecDepth 20000 in
theorem gX4_shown_X4_isCounter : GoodIn wsX4_shown (va_wsS RX4 103 yX4_isCounter wsX4_isCounter) := goodIn_app (goodIn_of _ (by decide +kernel)) ggX4_shown_X4_isCounter
set_option maxRecDepth 20000 in
theorem ggX4_shown_X4_refused : GoodIn wsX4_shown wsX4_refused := goodIn_r _ [12, 13, 20, 21, 22, 23, 24, 25, 26, 27, 28, 29, 30] (by decide +kernel) (by decide +kernel)
set_option maxRecDepth 20000 in
theorem gX4_shown_X4_refused : GoodIn wsX4_shown (wsV RX4 76 RX4 yX4_refused wsX4_refused) := goodIn_app (goodIn_of _ (by decide +kernel)) ggX4_shown_X4_refused
set_option maxRecDepth 20000 in
theorem ggX4_shown_X4_shownOn : GoodIn wsX4_shown wsX4_shownOn := goodIn_r _ [16, 17, 18, 4, 19] (by decide +kernel) (by decide +kernel)
set_option maxRecDepth 20000 in
theorem gX4_shown_X4_shownOn : GoodIn wsX4_shown (va_wsS RX4 107 yX4_shownOn wsX4_shownOn) := goodIn_app (goodIn_of _ (by decide +kernel)) ggX4_shown_X4_shownOn
theorem dX4_shown_0 : decode cX4_shown 0 = .ok (.aload_n 0, 1) := by decide +kernel
theorem dX4_shown_1 : decode cX4_shown 1 = .ok (.aload_n 0, 1) := by decide +kernel
theorem dX4_shown_2 : decode cX4_shown 2 = .ok (.getfield 13, 3) := by decide +kernel
theorem dX4_shown_5 : decode cX4_shown 5 = .ok (.iload_n 1, 1) := by decide +kernel
theorem dX4_shown_6 : decode cX4_shown 6 = .ok (.invokestatic 103, 3) := by decide +kernel
theorem dX4_shown_9 : decode cX4_shown 9 = .ok (.ifCond .eq 7, 3) := by decide +kernel
theorem dX4_shown_12 : decode cX4_shown 12 = .ok (.iconst 0, 1) := by decide +kernel
theorem dX4_shown_13 : decode cX4_shown 13 = .ok (.goto 4, 3) := by decide +kernel
theorem dX4_shown_16 : decode cX4_shown 16 = .ok (.iconst 1, 1) := by decide +kernel
theorem dX4_shown_17 : decode cX4_shown 17 = .ok (.invokevirtual 76, 3) := by decide +kernel
theorem dX4_shown_20 : decode cX4_shown 20 = .ok (.ifCond .eq 5, 3) := by decide +kernel
theorem dX4_shown_23 : decode cX4_shown 23 = .ok (.iconst 0, 1) := by decide +kernel
theorem dX4_shown_24 : decode cX4_shown 24 = .ok (.ireturn, 1) := by decide +kernel
theorem dX4_shown_25 : decode cX4_shown 25 = .ok (.aload_n 0, 1) := by decide +kernel
theorem dX4_shown_26 : decode cX4_shown 26 = .ok (.getfield 13, 3) := by decide +kernel
theorem dX4_shown_29 : decode cX4_shown 29 = .ok (.iload_n 1, 1) := by decide +kernel
theorem dX4_shown_30 : decode cX4_shown 30 = .ok (.invokestatic 107, 3) := by decide +kernel
theorem dX4_shown_33 : decode cX4_shown 33 = .ok (.ireturn, 1) := by decide +kernel
