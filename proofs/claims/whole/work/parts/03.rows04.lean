set_option maxRecDepth 20000 in
theorem ggX3_obeys_X1_tryPutDigits : GoodIn wsX3_obeys wsX1_tryPutDigits := goodIn_r _ [6, 7, 8, 9, 5, 10, 11, 12, 13, 14, 15, 16, 17, 18, 19, 20, 21, 22, 23, 24, 25, 26, 27, 28, 115, 116, 117, 118, 119, 120, 121, 122, 123, 124, 125, 126, 127] (by decide +kernel) (by decide +kernel)
set_option maxRecDepth 20000 in
theorem gX3_obeys_X1_tryPutDigits : GoodIn wsX3_obeys (wsV RX3 270 RX1 yX1_tryPutDigits wsX1_tryPutDigits) := goodIn_app (goodIn_of _ (by decide +kernel)) ggX3_obeys_X1_tryPutDigits
set_option maxRecDepth 20000 in
theorem ggX3_obeys_X1_tryDraw : GoodIn wsX3_obeys wsX1_tryDraw := goodIn_r _ [32, 33, 7, 8, 9, 5, 10, 11, 34, 35, 36, 37, 38, 39, 40, 41, 42, 25, 43, 44, 45, 46, 20, 47, 26, 27, 28, 48, 49, 50, 51, 52, 115, 116, 117, 118, 119, 120, 121, 122, 123, 124, 125, 126, 127] (by decide +kernel) (by decide +kernel)
set_option maxRecDepth 20000 in
theorem gX3_obeys_X1_tryDraw : GoodIn wsX3_obeys (wsV RX3 273 RX1 yX1_tryDraw wsX1_tryDraw) := goodIn_app (goodIn_of _ (by decide +kernel)) ggX3_obeys_X1_tryDraw
set_option maxRecDepth 20000 in
theorem ggX3_obeys_X3_obeysBeats : GoodIn wsX3_obeys wsX3_obeysBeats := goodIn_r _ [55, 56, 57, 58, 5, 59, 11, 41, 60, 61, 62, 63, 20, 25, 26, 27, 28, 64, 65, 66, 67, 68, 69, 70, 18, 71, 72, 73, 74, 47, 75, 76, 77, 78, 79, 80, 81, 82, 83, 84, 85, 86, 87, 88, 89, 90, 91, 115, 116, 117, 118, 119, 120, 121, 122, 123, 124, 125, 126, 127] (by decide +kernel) (by decide +kernel)
set_option maxRecDepth 20000 in
theorem gX3_obeys_X3_obeysBeats : GoodIn wsX3_obeys (va_wsS RX3 276 yX3_obeysBeats wsX3_obeysBeats) := goodIn_app (goodIn_of _ (by decide +kernel)) ggX3_obeys_X3_obeysBeats
set_option maxRecDepth 20000 in
theorem ggX3_obeys_X3_obeysPace : GoodIn wsX3_obeys wsX3_obeysPace := goodIn_r _ [94, 95, 115, 116, 117, 118, 119, 120, 121, 122, 123, 124, 125, 126, 127] (by decide +kernel) (by decide +kernel)
set_option maxRecDepth 20000 in
theorem gX3_obeys_X3_obeysPace : GoodIn wsX3_obeys (va_wsS RX3 279 yX3_obeysPace wsX3_obeysPace) := goodIn_app (goodIn_of _ (by decide +kernel)) ggX3_obeys_X3_obeysPace
set_option maxRecDepth 20000 in
theorem ggX3_obeys_X3_obeysLink : GoodIn wsX3_obeys wsX3_obeysLink := goodIn_r _ [98, 99, 100, 89, 90, 5, 91, 11, 115, 116, 117, 118, 119, 120, 121, 122, 123, 124, 125, 126, 127] (by decide +kernel) (by decide +kernel)
set_option maxRecDepth 20000 in
theorem gX3_obeys_X3_obeysLink : GoodIn wsX3_obeys (va_wsS RX3 282 yX3_obeysLink wsX3_obeysLink) := goodIn_app (goodIn_of _ (by decide +kernel)) ggX3_obeys_X3_obeysLink
set_option maxRecDepth 20000 in
theorem ggX3_obeys_X1_hasCounter : GoodIn wsX3_obeys wsX1_hasCounter := goodIn_r _ [10, 11, 115, 116, 117, 118, 119, 120, 121, 122, 123, 124, 125, 126, 127] (by decide +kernel) (by decide +kernel)
set_option maxRecDepth 20000 in
theorem gX3_obeys_X1_hasCounter : GoodIn wsX3_obeys (wsV RX3 258 RX1 yX1_hasCounter wsX1_hasCounter) := goodIn_app (goodIn_of _ (by decide +kernel)) ggX3_obeys_X1_hasCounter
set_option maxRecDepth 20000 in
theorem ggX3_obeys_X1_reading : GoodIn wsX3_obeys wsX1_reading := goodIn_r _ [46, 20, 47, 26, 27, 28, 115, 116, 117, 118, 119, 120, 121, 122, 123, 124, 125, 126, 127] (by decide +kernel) (by decide +kernel)
set_option maxRecDepth 20000 in
theorem gX3_obeys_X1_reading : GoodIn wsX3_obeys (wsV RX3 105 RX1 yX1_reading wsX1_reading) := goodIn_app (goodIn_of _ (by decide +kernel)) ggX3_obeys_X1_reading
set_option maxRecDepth 20000 in
theorem ggX3_obeys_X1_isAtRest : GoodIn wsX3_obeys wsX1_isAtRest := goodIn_r _ [106, 107, 108, 109, 5, 110, 20, 25, 26, 27, 28, 115, 116, 117, 118, 119, 120, 121, 122, 123, 124, 125, 126, 127] (by decide +kernel) (by decide +kernel)
set_option maxRecDepth 20000 in
theorem gX3_obeys_X1_isAtRest : GoodIn wsX3_obeys (wsV RX3 286 RX1 yX1_isAtRest wsX1_isAtRest) := goodIn_app (goodIn_of _ (by decide +kernel)) ggX3_obeys_X1_isAtRest
set_option maxRecDepth 20000 in
theorem ggX3_obeys_X3_obeysGreater : GoodIn wsX3_obeys wsX3_obeysGreater := goodIn_r _ [113, 101, 8, 9, 5, 10, 11, 114, 49, 50, 51, 20, 52, 47, 25, 26, 27, 28, 115, 116, 117, 118, 119, 120, 121, 122, 123, 124, 125, 126, 127] (by decide +kernel) (by decide +kernel)
set_option maxRecDepth 20000 in
theorem gX3_obeys_X3_obeysGreater : GoodIn wsX3_obeys (va_wsS RX3 289 yX3_obeysGreater wsX3_obeysGreater) := goodIn_app (goodIn_of _ (by decide +kernel)) ggX3_obeys_X3_obeysGreater
theorem dX3_obeys_0 : decode cX3_obeys 0 = .ok (.iload_n 1, 1) := by decide +kernel
theorem dX3_obeys_1 : decode cX3_obeys 1 = .ok (.ldc_w 269, 3) := by decide +kernel
theorem dX3_obeys_4 : decode cX3_obeys 4 = .ok (.idiv, 1) := by decide +kernel
theorem dX3_obeys_5 : decode cX3_obeys 5 = .ok (.istore_n 2, 1) := by decide +kernel
theorem dX3_obeys_6 : decode cX3_obeys 6 = .ok (.iload_n 1, 1) := by decide +kernel
theorem dX3_obeys_7 : decode cX3_obeys 7 = .ok (.sipush 10000, 3) := by decide +kernel
theorem dX3_obeys_10 : decode cX3_obeys 10 = .ok (.idiv, 1) := by decide +kernel
theorem dX3_obeys_11 : decode cX3_obeys 11 = .ok (.bipush 10, 2) := by decide +kernel
theorem dX3_obeys_13 : decode cX3_obeys 13 = .ok (.irem, 1) := by decide +kernel
theorem dX3_obeys_14 : decode cX3_obeys 14 = .ok (.istore_n 3, 1) := by decide +kernel
theorem dX3_obeys_15 : decode cX3_obeys 15 = .ok (.iload_n 1, 1) := by decide +kernel
theorem dX3_obeys_16 : decode cX3_obeys 16 = .ok (.sipush 10000, 3) := by decide +kernel
theorem dX3_obeys_19 : decode cX3_obeys 19 = .ok (.irem, 1) := by decide +kernel
theorem dX3_obeys_20 : decode cX3_obeys 20 = .ok (.istore 4, 2) := by decide +kernel
theorem dX3_obeys_22 : decode cX3_obeys 22 = .ok (.iload_n 2, 1) := by decide +kernel
theorem dX3_obeys_23 : decode cX3_obeys 23 = .ok (.tableswitch 223 1 9 #[49, 57, 66, 85, 104, 123, 131, 155, 194], 49) := by decide +kernel
theorem dX3_obeys_72 : decode cX3_obeys 72 = .ok (.aload_n 0, 1) := by decide +kernel
theorem dX3_obeys_73 : decode cX3_obeys 73 = .ok (.iload_n 3, 1) := by decide +kernel
theorem dX3_obeys_74 : decode cX3_obeys 74 = .ok (.iload 4, 2) := by decide +kernel
theorem dX3_obeys_76 : decode cX3_obeys 76 = .ok (.invokevirtual 270, 3) := by decide +kernel
theorem dX3_obeys_79 : decode cX3_obeys 79 = .ok (.ireturn, 1) := by decide +kernel
theorem dX3_obeys_80 : decode cX3_obeys 80 = .ok (.aload_n 0, 1) := by decide +kernel
theorem dX3_obeys_81 : decode cX3_obeys 81 = .ok (.iload_n 3, 1) := by decide +kernel
theorem dX3_obeys_82 : decode cX3_obeys 82 = .ok (.iload 4, 2) := by decide +kernel
theorem dX3_obeys_84 : decode cX3_obeys 84 = .ok (.ineg, 1) := by decide +kernel
theorem dX3_obeys_85 : decode cX3_obeys 85 = .ok (.invokevirtual 270, 3) := by decide +kernel
theorem dX3_obeys_88 : decode cX3_obeys 88 = .ok (.ireturn, 1) := by decide +kernel
theorem dX3_obeys_89 : decode cX3_obeys 89 = .ok (.iload 4, 2) := by decide +kernel
theorem dX3_obeys_91 : decode cX3_obeys 91 = .ok (.ifCond .ne 15, 3) := by decide +kernel
theorem dX3_obeys_94 : decode cX3_obeys 94 = .ok (.aload_n 0, 1) := by decide +kernel
theorem dX3_obeys_95 : decode cX3_obeys 95 = .ok (.iload_n 3, 1) := by decide +kernel
theorem dX3_obeys_96 : decode cX3_obeys 96 = .ok (.invokevirtual 273, 3) := by decide +kernel
theorem dX3_obeys_99 : decode cX3_obeys 99 = .ok (.ifCond .eq 7, 3) := by decide +kernel
theorem dX3_obeys_102 : decode cX3_obeys 102 = .ok (.iconst 1, 1) := by decide +kernel
theorem dX3_obeys_103 : decode cX3_obeys 103 = .ok (.goto 4, 3) := by decide +kernel
theorem dX3_obeys_106 : decode cX3_obeys 106 = .ok (.iconst 0, 1) := by decide +kernel
theorem dX3_obeys_107 : decode cX3_obeys 107 = .ok (.ireturn, 1) := by decide +kernel
theorem dX3_obeys_108 : decode cX3_obeys 108 = .ok (.iload_n 3, 1) := by decide +kernel
theorem dX3_obeys_109 : decode cX3_obeys 109 = .ok (.ifCond .ne 16, 3) := by decide +kernel
theorem dX3_obeys_112 : decode cX3_obeys 112 = .ok (.aload_n 0, 1) := by decide +kernel
theorem dX3_obeys_113 : decode cX3_obeys 113 = .ok (.iload 4, 2) := by decide +kernel
theorem dX3_obeys_115 : decode cX3_obeys 115 = .ok (.invokestatic 276, 3) := by decide +kernel
theorem dX3_obeys_118 : decode cX3_obeys 118 = .ok (.ifCond .eq 7, 3) := by decide +kernel
theorem dX3_obeys_121 : decode cX3_obeys 121 = .ok (.iconst 1, 1) := by decide +kernel
theorem dX3_obeys_122 : decode cX3_obeys 122 = .ok (.goto 4, 3) := by decide +kernel
theorem dX3_obeys_125 : decode cX3_obeys 125 = .ok (.iconst 0, 1) := by decide +kernel
theorem dX3_obeys_126 : decode cX3_obeys 126 = .ok (.ireturn, 1) := by decide +kernel
theorem dX3_obeys_127 : decode cX3_obeys 127 = .ok (.iload_n 3, 1) := by decide +kernel
theorem dX3_obeys_128 : decode cX3_obeys 128 = .ok (.ifCond .ne 16, 3) := by decide +kernel
theorem dX3_obeys_131 : decode cX3_obeys 131 = .ok (.aload_n 0, 1) := by decide +kernel
theorem dX3_obeys_132 : decode cX3_obeys 132 = .ok (.iload 4, 2) := by decide +kernel
theorem dX3_obeys_134 : decode cX3_obeys 134 = .ok (.invokestatic 279, 3) := by decide +kernel
theorem dX3_obeys_137 : decode cX3_obeys 137 = .ok (.ifCond .eq 7, 3) := by decide +kernel
theorem dX3_obeys_140 : decode cX3_obeys 140 = .ok (.iconst 1, 1) := by decide +kernel
theorem dX3_obeys_141 : decode cX3_obeys 141 = .ok (.goto 4, 3) := by decide +kernel
theorem dX3_obeys_144 : decode cX3_obeys 144 = .ok (.iconst 0, 1) := by decide +kernel
theorem dX3_obeys_145 : decode cX3_obeys 145 = .ok (.ireturn, 1) := by decide +kernel
theorem dX3_obeys_146 : decode cX3_obeys 146 = .ok (.aload_n 0, 1) := by decide +kernel
theorem dX3_obeys_147 : decode cX3_obeys 147 = .ok (.iload_n 3, 1) := by decide +kernel
theorem dX3_obeys_148 : decode cX3_obeys 148 = .ok (.iload 4, 2) := by decide +kernel
theorem dX3_obeys_150 : decode cX3_obeys 150 = .ok (.invokestatic 282, 3) := by decide +kernel
theorem dX3_obeys_153 : decode cX3_obeys 153 = .ok (.ireturn, 1) := by decide +kernel
theorem dX3_obeys_154 : decode cX3_obeys 154 = .ok (.aload_n 0, 1) := by decide +kernel
theorem dX3_obeys_155 : decode cX3_obeys 155 = .ok (.iload_n 3, 1) := by decide +kernel
theorem dX3_obeys_156 : decode cX3_obeys 156 = .ok (.invokevirtual 258, 3) := by decide +kernel
theorem dX3_obeys_159 : decode cX3_obeys 159 = .ok (.ifCond .eq 17, 3) := by decide +kernel
theorem dX3_obeys_162 : decode cX3_obeys 162 = .ok (.aload_n 0, 1) := by decide +kernel
theorem dX3_obeys_163 : decode cX3_obeys 163 = .ok (.iload_n 3, 1) := by decide +kernel
theorem dX3_obeys_164 : decode cX3_obeys 164 = .ok (.invokevirtual 105, 3) := by decide +kernel
theorem dX3_obeys_167 : decode cX3_obeys 167 = .ok (.iload 4, 2) := by decide +kernel
theorem dX3_obeys_169 : decode cX3_obeys 169 = .ok (.if_icmp .ne 7, 3) := by decide +kernel
theorem dX3_obeys_172 : decode cX3_obeys 172 = .ok (.iconst 1, 1) := by decide +kernel
theorem dX3_obeys_173 : decode cX3_obeys 173 = .ok (.goto 4, 3) := by decide +kernel
theorem dX3_obeys_176 : decode cX3_obeys 176 = .ok (.iconst 0, 1) := by decide +kernel
theorem dX3_obeys_177 : decode cX3_obeys 177 = .ok (.ireturn, 1) := by decide +kernel
theorem dX3_obeys_178 : decode cX3_obeys 178 = .ok (.iload 4, 2) := by decide +kernel
theorem dX3_obeys_180 : decode cX3_obeys 180 = .ok (.iconst 1, 1) := by decide +kernel
theorem dX3_obeys_181 : decode cX3_obeys 181 = .ok (.if_icmp .gt 34, 3) := by decide +kernel
theorem dX3_obeys_184 : decode cX3_obeys 184 = .ok (.aload_n 0, 1) := by decide +kernel
theorem dX3_obeys_185 : decode cX3_obeys 185 = .ok (.iload_n 3, 1) := by decide +kernel
theorem dX3_obeys_186 : decode cX3_obeys 186 = .ok (.invokevirtual 258, 3) := by decide +kernel
theorem dX3_obeys_189 : decode cX3_obeys 189 = .ok (.ifCond .eq 26, 3) := by decide +kernel
theorem dX3_obeys_192 : decode cX3_obeys 192 = .ok (.aload_n 0, 1) := by decide +kernel
theorem dX3_obeys_193 : decode cX3_obeys 193 = .ok (.iload_n 3, 1) := by decide +kernel
theorem dX3_obeys_194 : decode cX3_obeys 194 = .ok (.invokevirtual 286, 3) := by decide +kernel
theorem dX3_obeys_197 : decode cX3_obeys 197 = .ok (.iload 4, 2) := by decide +kernel
theorem dX3_obeys_199 : decode cX3_obeys 199 = .ok (.iconst 1, 1) := by decide +kernel
theorem dX3_obeys_200 : decode cX3_obeys 200 = .ok (.if_icmp .ne 7, 3) := by decide +kernel
theorem dX3_obeys_203 : decode cX3_obeys 203 = .ok (.iconst 1, 1) := by decide +kernel
theorem dX3_obeys_204 : decode cX3_obeys 204 = .ok (.goto 4, 3) := by decide +kernel
theorem dX3_obeys_207 : decode cX3_obeys 207 = .ok (.iconst 0, 1) := by decide +kernel
theorem dX3_obeys_208 : decode cX3_obeys 208 = .ok (.if_icmp .ne 7, 3) := by decide +kernel
theorem dX3_obeys_211 : decode cX3_obeys 211 = .ok (.iconst 1, 1) := by decide +kernel
theorem dX3_obeys_212 : decode cX3_obeys 212 = .ok (.goto 4, 3) := by decide +kernel
theorem dX3_obeys_215 : decode cX3_obeys 215 = .ok (.iconst 0, 1) := by decide +kernel
theorem dX3_obeys_216 : decode cX3_obeys 216 = .ok (.ireturn, 1) := by decide +kernel
theorem dX3_obeys_217 : decode cX3_obeys 217 = .ok (.iload 4, 2) := by decide +kernel
theorem dX3_obeys_219 : decode cX3_obeys 219 = .ok (.sipush 1000, 3) := by decide +kernel
theorem dX3_obeys_222 : decode cX3_obeys 222 = .ok (.irem, 1) := by decide +kernel
theorem dX3_obeys_223 : decode cX3_obeys 223 = .ok (.ifCond .ne 21, 3) := by decide +kernel
theorem dX3_obeys_226 : decode cX3_obeys 226 = .ok (.aload_n 0, 1) := by decide +kernel
theorem dX3_obeys_227 : decode cX3_obeys 227 = .ok (.iload_n 3, 1) := by decide +kernel
theorem dX3_obeys_228 : decode cX3_obeys 228 = .ok (.iload 4, 2) := by decide +kernel
theorem dX3_obeys_230 : decode cX3_obeys 230 = .ok (.sipush 1000, 3) := by decide +kernel
theorem dX3_obeys_233 : decode cX3_obeys 233 = .ok (.idiv, 1) := by decide +kernel
theorem dX3_obeys_234 : decode cX3_obeys 234 = .ok (.invokestatic 289, 3) := by decide +kernel
theorem dX3_obeys_237 : decode cX3_obeys 237 = .ok (.ifCond .eq 7, 3) := by decide +kernel
theorem dX3_obeys_240 : decode cX3_obeys 240 = .ok (.iconst 1, 1) := by decide +kernel
theorem dX3_obeys_241 : decode cX3_obeys 241 = .ok (.goto 4, 3) := by decide +kernel
theorem dX3_obeys_244 : decode cX3_obeys 244 = .ok (.iconst 0, 1) := by decide +kernel
theorem dX3_obeys_245 : decode cX3_obeys 245 = .ok (.ireturn, 1) := by decide +kernel
theorem dX3_obeys_246 : decode cX3_obeys 246 = .ok (.iconst 0, 1) := by decide +kernel
theorem dX3_obeys_247 : decode cX3_obeys 247 = .ok (.ireturn, 1) := by decide +kernel
set_option maxRecDepth 20000 in
theorem ggX3_obeysBeats_X1_passBeats : GoodIn wsX3_obeysBeats wsX1_passBeats := goodIn_r _ [5, 6, 7, 8, 9, 10, 4, 11, 12, 13, 14, 15, 16, 17, 18, 19, 20, 21, 22, 23, 24, 25, 26, 27, 28, 29, 30, 31, 32, 33, 34, 35, 36, 37, 38, 39, 40, 41, 42, 43, 44, 45, 46, 47, 48, 49, 50, 51, 52, 53, 54, 55, 56, 57, 58, 59] (by decide +kernel) (by decide +kernel)
set_option maxRecDepth 20000 in
theorem gX3_obeysBeats_X1_passBeats : GoodIn wsX3_obeysBeats (wsV RX3 189 RX1 yX1_passBeats wsX1_passBeats) := goodIn_app (goodIn_of _ (by decide +kernel)) ggX3_obeysBeats_X1_passBeats
theorem dX3_obeysBeats_0 : decode cX3_obeysBeats 0 = .ok (.iload_n 1, 1) := by decide +kernel
theorem dX3_obeysBeats_1 : decode cX3_obeysBeats 1 = .ok (.iconst 1, 1) := by decide +kernel
theorem dX3_obeysBeats_2 : decode cX3_obeysBeats 2 = .ok (.if_icmp .lt 9, 3) := by decide +kernel
theorem dX3_obeysBeats_5 : decode cX3_obeysBeats 5 = .ok (.iload_n 1, 1) := by decide +kernel
theorem dX3_obeysBeats_6 : decode cX3_obeysBeats 6 = .ok (.bipush 99, 2) := by decide +kernel
theorem dX3_obeysBeats_8 : decode cX3_obeysBeats 8 = .ok (.if_icmp .le 5, 3) := by decide +kernel
theorem dX3_obeysBeats_11 : decode cX3_obeysBeats 11 = .ok (.iconst 0, 1) := by decide +kernel
theorem dX3_obeysBeats_12 : decode cX3_obeysBeats 12 = .ok (.ireturn, 1) := by decide +kernel
theorem dX3_obeysBeats_13 : decode cX3_obeysBeats 13 = .ok (.aload_n 0, 1) := by decide +kernel
theorem dX3_obeysBeats_14 : decode cX3_obeysBeats 14 = .ok (.iload_n 1, 1) := by decide +kernel
theorem dX3_obeysBeats_15 : decode cX3_obeysBeats 15 = .ok (.invokevirtual 189, 3) := by decide +kernel
theorem dX3_obeysBeats_18 : decode cX3_obeysBeats 18 = .ok (.iconst 1, 1) := by decide +kernel
theorem dX3_obeysBeats_19 : decode cX3_obeysBeats 19 = .ok (.ireturn, 1) := by decide +kernel
theorem dX3_obeysPace_0 : decode cX3_obeysPace 0 = .ok (.iload_n 1, 1) := by decide +kernel
theorem dX3_obeysPace_1 : decode cX3_obeysPace 1 = .ok (.iconst 1, 1) := by decide +kernel
theorem dX3_obeysPace_2 : decode cX3_obeysPace 2 = .ok (.if_icmp .lt 9, 3) := by decide +kernel
theorem dX3_obeysPace_5 : decode cX3_obeysPace 5 = .ok (.iload_n 1, 1) := by decide +kernel
theorem dX3_obeysPace_6 : decode cX3_obeysPace 6 = .ok (.bipush 9, 2) := by decide +kernel
theorem dX3_obeysPace_8 : decode cX3_obeysPace 8 = .ok (.if_icmp .le 5, 3) := by decide +kernel
theorem dX3_obeysPace_11 : decode cX3_obeysPace 11 = .ok (.iconst 0, 1) := by decide +kernel
theorem dX3_obeysPace_12 : decode cX3_obeysPace 12 = .ok (.ireturn, 1) := by decide +kernel
theorem dX3_obeysPace_13 : decode cX3_obeysPace 13 = .ok (.aload_n 0, 1) := by decide +kernel
theorem dX3_obeysPace_14 : decode cX3_obeysPace 14 = .ok (.iload_n 1, 1) := by decide +kernel
theorem dX3_obeysPace_15 : decode cX3_obeysPace 15 = .ok (.putfield 83, 3) := by decide +kernel
theorem dX3_obeysPace_18 : decode cX3_obeysPace 18 = .ok (.iconst 1, 1) := by decide +kernel
theorem dX3_obeysPace_19 : decode cX3_obeysPace 19 = .ok (.ireturn, 1) := by decide +kernel
set_option maxRecDepth 20000 in
theorem ggX3_obeysLink_X1_canLink : GoodIn wsX3_obeysLink wsX1_canLink := goodIn_r _ [6, 7, 8, 9, 10, 11, 12, 13, 14, 15, 16, 17, 18, 19, 20] (by decide +kernel) (by decide +kernel)
set_option maxRecDepth 20000 in
theorem gX3_obeysLink_X1_canLink : GoodIn wsX3_obeysLink (wsV RX3 192 RX1 yX1_canLink wsX1_canLink) := goodIn_app (goodIn_of _ (by decide +kernel)) ggX3_obeysLink_X1_canLink
theorem dX3_obeysLink_0 : decode cX3_obeysLink 0 = .ok (.iload_n 2, 1) := by decide +kernel
theorem dX3_obeysLink_1 : decode cX3_obeysLink 1 = .ok (.iconst 1, 1) := by decide +kernel
theorem dX3_obeysLink_2 : decode cX3_obeysLink 2 = .ok (.if_icmp .gt 11, 3) := by decide +kernel
theorem dX3_obeysLink_5 : decode cX3_obeysLink 5 = .ok (.aload_n 0, 1) := by decide +kernel
theorem dX3_obeysLink_6 : decode cX3_obeysLink 6 = .ok (.iload_n 1, 1) := by decide +kernel
theorem dX3_obeysLink_7 : decode cX3_obeysLink 7 = .ok (.invokevirtual 192, 3) := by decide +kernel
theorem dX3_obeysLink_10 : decode cX3_obeysLink 10 = .ok (.ifCond .ne 5, 3) := by decide +kernel
theorem dX3_obeysLink_13 : decode cX3_obeysLink 13 = .ok (.iconst 0, 1) := by decide +kernel
theorem dX3_obeysLink_14 : decode cX3_obeysLink 14 = .ok (.ireturn, 1) := by decide +kernel
theorem dX3_obeysLink_15 : decode cX3_obeysLink 15 = .ok (.aload_n 0, 1) := by decide +kernel
theorem dX3_obeysLink_16 : decode cX3_obeysLink 16 = .ok (.getfield 116, 3) := by decide +kernel
theorem dX3_obeysLink_19 : decode cX3_obeysLink 19 = .ok (.iload_n 1, 1) := by decide +kernel
theorem dX3_obeysLink_20 : decode cX3_obeysLink 20 = .ok (.iload_n 2, 1) := by decide +kernel
theorem dX3_obeysLink_21 : decode cX3_obeysLink 21 = .ok (.iconst 1, 1) := by decide +kernel
theorem dX3_obeysLink_22 : decode cX3_obeysLink 22 = .ok (.if_icmp .ne 7, 3) := by decide +kernel
theorem dX3_obeysLink_25 : decode cX3_obeysLink 25 = .ok (.iconst 1, 1) := by decide +kernel
theorem dX3_obeysLink_26 : decode cX3_obeysLink 26 = .ok (.goto 4, 3) := by decide +kernel
theorem dX3_obeysLink_29 : decode cX3_obeysLink 29 = .ok (.iconst 0, 1) := by decide +kernel
theorem dX3_obeysLink_30 : decode cX3_obeysLink 30 = .ok (.bastore, 1) := by decide +kernel
theorem dX3_obeysLink_31 : decode cX3_obeysLink 31 = .ok (.iconst 1, 1) := by decide +kernel
theorem dX3_obeysLink_32 : decode cX3_obeysLink 32 = .ok (.ireturn, 1) := by decide +kernel
set_option maxRecDepth 20000 in
theorem ggX3_obeysGreater_X1_hasCounter : GoodIn wsX3_obeysGreater wsX1_hasCounter := goodIn_r _ [5, 6, 18, 19, 20, 21, 22, 23, 24, 25, 26, 27, 28, 29, 30] (by decide +kernel) (by decide +kernel)
set_option maxRecDepth 20000 in
theorem gX3_obeysGreater_X1_hasCounter : GoodIn wsX3_obeysGreater (wsV RX3 258 RX1 yX1_hasCounter wsX1_hasCounter) := goodIn_app (goodIn_of _ (by decide +kernel)) ggX3_obeysGreater_X1_hasCounter
set_option maxRecDepth 20000 in
theorem ggX3_obeysGreater_X1_fullReading : GoodIn wsX3_obeysGreater wsX1_fullReading := goodIn_r _ [10, 11, 12, 13, 14, 15, 16, 17, 18, 19, 20, 21, 22, 23, 24, 25, 26, 27, 28, 29, 30] (by decide +kernel) (by decide +kernel)
set_option maxRecDepth 20000 in
theorem gX3_obeysGreater_X1_fullReading : GoodIn wsX3_obeysGreater (wsV RX3 109 RX1 yX1_fullReading wsX1_fullReading) := goodIn_app (goodIn_of _ (by decide +kernel)) ggX3_obeysGreater_X1_fullReading
theorem dX3_obeysGreater_0 : decode cX3_obeysGreater 0 = .ok (.aload_n 0, 1) := by decide +kernel
theorem dX3_obeysGreater_1 : decode cX3_obeysGreater 1 = .ok (.iload_n 1, 1) := by decide +kernel
theorem dX3_obeysGreater_2 : decode cX3_obeysGreater 2 = .ok (.invokevirtual 258, 3) := by decide +kernel
theorem dX3_obeysGreater_5 : decode cX3_obeysGreater 5 = .ok (.ifCond .eq 29, 3) := by decide +kernel
theorem dX3_obeysGreater_8 : decode cX3_obeysGreater 8 = .ok (.aload_n 0, 1) := by decide +kernel
theorem dX3_obeysGreater_9 : decode cX3_obeysGreater 9 = .ok (.iload_n 2, 1) := by decide +kernel
theorem dX3_obeysGreater_10 : decode cX3_obeysGreater 10 = .ok (.invokevirtual 258, 3) := by decide +kernel
theorem dX3_obeysGreater_13 : decode cX3_obeysGreater 13 = .ok (.ifCond .eq 21, 3) := by decide +kernel
theorem dX3_obeysGreater_16 : decode cX3_obeysGreater 16 = .ok (.aload_n 0, 1) := by decide +kernel
theorem dX3_obeysGreater_17 : decode cX3_obeysGreater 17 = .ok (.iload_n 1, 1) := by decide +kernel
theorem dX3_obeysGreater_18 : decode cX3_obeysGreater 18 = .ok (.invokevirtual 109, 3) := by decide +kernel
theorem dX3_obeysGreater_21 : decode cX3_obeysGreater 21 = .ok (.aload_n 0, 1) := by decide +kernel
theorem dX3_obeysGreater_22 : decode cX3_obeysGreater 22 = .ok (.iload_n 2, 1) := by decide +kernel
theorem dX3_obeysGreater_23 : decode cX3_obeysGreater 23 = .ok (.invokevirtual 109, 3) := by decide +kernel
theorem dX3_obeysGreater_26 : decode cX3_obeysGreater 26 = .ok (.lcmp, 1) := by decide +kernel
theorem dX3_obeysGreater_27 : decode cX3_obeysGreater 27 = .ok (.ifCond .le 7, 3) := by decide +kernel
theorem dX3_obeysGreater_30 : decode cX3_obeysGreater 30 = .ok (.iconst 1, 1) := by decide +kernel
theorem dX3_obeysGreater_31 : decode cX3_obeysGreater 31 = .ok (.goto 4, 3) := by decide +kernel
theorem dX3_obeysGreater_34 : decode cX3_obeysGreater 34 = .ok (.iconst 0, 1) := by decide +kernel
theorem dX3_obeysGreater_35 : decode cX3_obeysGreater 35 = .ok (.ireturn, 1) := by decide +kernel
set_option maxRecDepth 20000 in
theorem ggX3_takeTurn_X1_tryDraw : GoodIn wsX3_takeTurn wsX1_tryDraw := goodIn_r _ [6, 7, 8, 9, 10, 5, 11, 12, 13, 14, 15, 16, 17, 18, 19, 20, 21, 22, 23, 24, 25, 26, 27, 28, 29, 30, 31, 32, 33, 34, 35, 36, 62, 63, 64, 65, 66, 67, 68, 69, 70, 71, 72, 73, 74] (by decide +kernel) (by decide +kernel)
set_option maxRecDepth 20000 in
theorem gX3_takeTurn_X1_tryDraw : GoodIn wsX3_takeTurn (wsV RX3 273 RX1 yX1_tryDraw wsX1_tryDraw) := goodIn_app (goodIn_of _ (by decide +kernel)) ggX3_takeTurn_X1_tryDraw
set_option maxRecDepth 20000 in
theorem ggX3_takeTurn_X1_tryPutDigits : GoodIn wsX3_takeTurn wsX1_tryPutDigits := goodIn_r _ [40, 8, 9, 10, 5, 11, 12, 41, 42, 43, 44, 45, 46, 47, 48, 27, 49, 50, 51, 52, 22, 29, 30, 31, 62, 63, 64, 65, 66, 67, 68, 69, 70, 71, 72, 73, 74] (by decide +kernel) (by decide +kernel)
set_option maxRecDepth 20000 in
theorem gX3_takeTurn_X1_tryPutDigits : GoodIn wsX3_takeTurn (wsV RX3 270 RX1 yX1_tryPutDigits wsX1_tryPutDigits) := goodIn_app (goodIn_of _ (by decide +kernel)) ggX3_takeTurn_X1_tryPutDigits
set_option maxRecDepth 20000 in
theorem ggX3_takeTurn_X1_tryPour : GoodIn wsX3_takeTurn wsX1_tryPour := goodIn_r _ [56, 8, 9, 10, 5, 11, 12, 57, 58, 59, 60, 27, 28, 22, 61, 29, 30, 31, 62, 63, 64, 65, 66, 67, 68, 69, 70, 71, 72, 73, 74] (by decide +kernel) (by decide +kernel)
set_option maxRecDepth 20000 in
theorem gX3_takeTurn_X1_tryPour : GoodIn wsX3_takeTurn (wsV RX3 292 RX1 yX1_tryPour wsX1_tryPour) := goodIn_app (goodIn_of _ (by decide +kernel)) ggX3_takeTurn_X1_tryPour
theorem dX3_takeTurn_0 : decode cX3_takeTurn 0 = .ok (.aload_n 0, 1) := by decide +kernel
theorem dX3_takeTurn_1 : decode cX3_takeTurn 1 = .ok (.getfield 80, 3) := by decide +kernel
theorem dX3_takeTurn_4 : decode cX3_takeTurn 4 = .ok (.istore_n 2, 1) := by decide +kernel
theorem dX3_takeTurn_5 : decode cX3_takeTurn 5 = .ok (.iload_n 2, 1) := by decide +kernel
theorem dX3_takeTurn_6 : decode cX3_takeTurn 6 = .ok (.iconst 1, 1) := by decide +kernel
theorem dX3_takeTurn_7 : decode cX3_takeTurn 7 = .ok (.if_icmp .ge 4, 3) := by decide +kernel
theorem dX3_takeTurn_10 : decode cX3_takeTurn 10 = .ok (.return_, 1) := by decide +kernel
theorem dX3_takeTurn_11 : decode cX3_takeTurn 11 = .ok (.iload_n 1, 1) := by decide +kernel
theorem dX3_takeTurn_12 : decode cX3_takeTurn 12 = .ok (.bipush 8, 2) := by decide +kernel
theorem dX3_takeTurn_14 : decode cX3_takeTurn 14 = .ok (.idiv, 1) := by decide +kernel
theorem dX3_takeTurn_15 : decode cX3_takeTurn 15 = .ok (.iload_n 2, 1) := by decide +kernel
theorem dX3_takeTurn_16 : decode cX3_takeTurn 16 = .ok (.irem, 1) := by decide +kernel
theorem dX3_takeTurn_17 : decode cX3_takeTurn 17 = .ok (.istore_n 3, 1) := by decide +kernel
theorem dX3_takeTurn_18 : decode cX3_takeTurn 18 = .ok (.iload_n 1, 1) := by decide +kernel
theorem dX3_takeTurn_19 : decode cX3_takeTurn 19 = .ok (.bipush 64, 2) := by decide +kernel
theorem dX3_takeTurn_21 : decode cX3_takeTurn 21 = .ok (.idiv, 1) := by decide +kernel
theorem dX3_takeTurn_22 : decode cX3_takeTurn 22 = .ok (.bipush 81, 2) := by decide +kernel
theorem dX3_takeTurn_24 : decode cX3_takeTurn 24 = .ok (.irem, 1) := by decide +kernel
theorem dX3_takeTurn_25 : decode cX3_takeTurn 25 = .ok (.istore 4, 2) := by decide +kernel
theorem dX3_takeTurn_27 : decode cX3_takeTurn 27 = .ok (.iload_n 1, 1) := by decide +kernel
theorem dX3_takeTurn_28 : decode cX3_takeTurn 28 = .ok (.bipush 8, 2) := by decide +kernel
theorem dX3_takeTurn_30 : decode cX3_takeTurn 30 = .ok (.irem, 1) := by decide +kernel
theorem dX3_takeTurn_31 : decode cX3_takeTurn 31 = .ok (.tableswitch 82 0 5 #[37, 37, 37, 46, 57, 69], 37) := by decide +kernel
theorem dX3_takeTurn_68 : decode cX3_takeTurn 68 = .ok (.aload_n 0, 1) := by decide +kernel
theorem dX3_takeTurn_69 : decode cX3_takeTurn 69 = .ok (.iload_n 3, 1) := by decide +kernel
theorem dX3_takeTurn_70 : decode cX3_takeTurn 70 = .ok (.invokevirtual 273, 3) := by decide +kernel
theorem dX3_takeTurn_73 : decode cX3_takeTurn 73 = .ok (.pop, 1) := by decide +kernel
theorem dX3_takeTurn_74 : decode cX3_takeTurn 74 = .ok (.goto 39, 3) := by decide +kernel
theorem dX3_takeTurn_77 : decode cX3_takeTurn 77 = .ok (.aload_n 0, 1) := by decide +kernel
theorem dX3_takeTurn_78 : decode cX3_takeTurn 78 = .ok (.iload_n 3, 1) := by decide +kernel
theorem dX3_takeTurn_79 : decode cX3_takeTurn 79 = .ok (.iload 4, 2) := by decide +kernel
theorem dX3_takeTurn_81 : decode cX3_takeTurn 81 = .ok (.invokevirtual 270, 3) := by decide +kernel
theorem dX3_takeTurn_84 : decode cX3_takeTurn 84 = .ok (.pop, 1) := by decide +kernel
theorem dX3_takeTurn_85 : decode cX3_takeTurn 85 = .ok (.goto 28, 3) := by decide +kernel
theorem dX3_takeTurn_88 : decode cX3_takeTurn 88 = .ok (.aload_n 0, 1) := by decide +kernel
theorem dX3_takeTurn_89 : decode cX3_takeTurn 89 = .ok (.iload_n 3, 1) := by decide +kernel
theorem dX3_takeTurn_90 : decode cX3_takeTurn 90 = .ok (.iload 4, 2) := by decide +kernel
theorem dX3_takeTurn_92 : decode cX3_takeTurn 92 = .ok (.ineg, 1) := by decide +kernel
theorem dX3_takeTurn_93 : decode cX3_takeTurn 93 = .ok (.invokevirtual 270, 3) := by decide +kernel
theorem dX3_takeTurn_96 : decode cX3_takeTurn 96 = .ok (.pop, 1) := by decide +kernel
theorem dX3_takeTurn_97 : decode cX3_takeTurn 97 = .ok (.goto 16, 3) := by decide +kernel
theorem dX3_takeTurn_100 : decode cX3_takeTurn 100 = .ok (.aload_n 0, 1) := by decide +kernel
theorem dX3_takeTurn_101 : decode cX3_takeTurn 101 = .ok (.iload_n 3, 1) := by decide +kernel
theorem dX3_takeTurn_102 : decode cX3_takeTurn 102 = .ok (.iload_n 3, 1) := by decide +kernel
theorem dX3_takeTurn_103 : decode cX3_takeTurn 103 = .ok (.iconst 1, 1) := by decide +kernel
theorem dX3_takeTurn_104 : decode cX3_takeTurn 104 = .ok (.iadd, 1) := by decide +kernel
theorem dX3_takeTurn_105 : decode cX3_takeTurn 105 = .ok (.iload_n 2, 1) := by decide +kernel
theorem dX3_takeTurn_106 : decode cX3_takeTurn 106 = .ok (.irem, 1) := by decide +kernel
theorem dX3_takeTurn_107 : decode cX3_takeTurn 107 = .ok (.invokevirtual 292, 3) := by decide +kernel
theorem dX3_takeTurn_110 : decode cX3_takeTurn 110 = .ok (.goto 3, 3) := by decide +kernel
theorem dX3_takeTurn_113 : decode cX3_takeTurn 113 = .ok (.return_, 1) := by decide +kernel
set_option maxRecDepth 20000 in
theorem ggX4_init_X4_begin : GoodIn wsX4_init wsX4_begin := goodIn_r _ [17] (by decide +kernel) (by decide +kernel)
set_option maxRecDepth 20000 in
theorem gX4_init_X4_begin : GoodIn wsX4_init (va_wsS RX4 35 yX4_begin wsX4_begin) := goodIn_app (goodIn_of _ (by decide +kernel)) ggX4_init_X4_begin
set_option maxRecDepth 20000 in
theorem ggX4_init_X4_at : GoodIn wsX4_init wsX4_at := goodIn_r _ [20] (by decide +kernel) (by decide +kernel)
set_option maxRecDepth 20000 in
theorem gX4_init_X4_at : GoodIn wsX4_init (va_wsS RX4 39 yX4_at wsX4_at) := goodIn_app (goodIn_of _ (by decide +kernel)) ggX4_init_X4_at
theorem dX4_init_0 : decode cX4_init 0 = .ok (.aload_n 0, 1) := by decide +kernel
theorem dX4_init_1 : decode cX4_init 1 = .ok (.invokespecial 1, 3) := by decide +kernel
theorem dX4_init_4 : decode cX4_init 4 = .ok (.aload_n 0, 1) := by decide +kernel
theorem dX4_init_5 : decode cX4_init 5 = .ok (.bipush 100, 2) := by decide +kernel
theorem dX4_init_7 : decode cX4_init 7 = .ok (.newarray .int, 2) := by decide +kernel
theorem dX4_init_9 : decode cX4_init 9 = .ok (.putfield 7, 3) := by decide +kernel
theorem dX4_init_12 : decode cX4_init 12 = .ok (.aload_n 0, 1) := by decide +kernel
theorem dX4_init_13 : decode cX4_init 13 = .ok (.sipush 336, 3) := by decide +kernel
theorem dX4_init_16 : decode cX4_init 16 = .ok (.newarray .int, 2) := by decide +kernel
theorem dX4_init_18 : decode cX4_init 18 = .ok (.putfield 13, 3) := by decide +kernel
theorem dX4_init_21 : decode cX4_init 21 = .ok (.aload_n 0, 1) := by decide +kernel
theorem dX4_init_22 : decode cX4_init 22 = .ok (.sipush 336, 3) := by decide +kernel
theorem dX4_init_25 : decode cX4_init 25 = .ok (.newarray .int, 2) := by decide +kernel
theorem dX4_init_27 : decode cX4_init 27 = .ok (.putfield 16, 3) := by decide +kernel
theorem dX4_init_30 : decode cX4_init 30 = .ok (.aload_n 0, 1) := by decide +kernel
theorem dX4_init_31 : decode cX4_init 31 = .ok (.sipush 4704, 3) := by decide +kernel
theorem dX4_init_34 : decode cX4_init 34 = .ok (.newarray .int, 2) := by decide +kernel
theorem dX4_init_36 : decode cX4_init 36 = .ok (.putfield 19, 3) := by decide +kernel
theorem dX4_init_39 : decode cX4_init 39 = .ok (.aload_n 0, 1) := by decide +kernel
theorem dX4_init_40 : decode cX4_init 40 = .ok (.sipush 672, 3) := by decide +kernel
theorem dX4_init_43 : decode cX4_init 43 = .ok (.newarray .int, 2) := by decide +kernel
theorem dX4_init_45 : decode cX4_init 45 = .ok (.putfield 22, 3) := by decide +kernel
theorem dX4_init_48 : decode cX4_init 48 = .ok (.aload_n 0, 1) := by decide +kernel
theorem dX4_init_49 : decode cX4_init 49 = .ok (.iconst 2, 1) := by decide +kernel
theorem dX4_init_50 : decode cX4_init 50 = .ok (.newarray .boolean, 2) := by decide +kernel
theorem dX4_init_52 : decode cX4_init 52 = .ok (.putfield 25, 3) := by decide +kernel
theorem dX4_init_55 : decode cX4_init 55 = .ok (.aload_n 0, 1) := by decide +kernel
theorem dX4_init_56 : decode cX4_init 56 = .ok (.bipush 54, 2) := by decide +kernel
theorem dX4_init_58 : decode cX4_init 58 = .ok (.newarray .int, 2) := by decide +kernel
theorem dX4_init_60 : decode cX4_init 60 = .ok (.putfield 29, 3) := by decide +kernel
theorem dX4_init_63 : decode cX4_init 63 = .ok (.aload_n 0, 1) := by decide +kernel
theorem dX4_init_64 : decode cX4_init 64 = .ok (.bipush 54, 2) := by decide +kernel
theorem dX4_init_66 : decode cX4_init 66 = .ok (.newarray .int, 2) := by decide +kernel
theorem dX4_init_68 : decode cX4_init 68 = .ok (.putfield 32, 3) := by decide +kernel
theorem dX4_init_71 : decode cX4_init 71 = .ok (.aload_n 0, 1) := by decide +kernel
theorem dX4_init_72 : decode cX4_init 72 = .ok (.getfield 13, 3) := by decide +kernel
theorem dX4_init_75 : decode cX4_init 75 = .ok (.invokestatic 35, 3) := by decide +kernel
theorem dX4_init_78 : decode cX4_init 78 = .ok (.aload_n 0, 1) := by decide +kernel
theorem dX4_init_79 : decode cX4_init 79 = .ok (.getfield 13, 3) := by decide +kernel
theorem dX4_init_82 : decode cX4_init 82 = .ok (.iconst 0, 1) := by decide +kernel
theorem dX4_init_83 : decode cX4_init 83 = .ok (.iconst 3, 1) := by decide +kernel
theorem dX4_init_84 : decode cX4_init 84 = .ok (.iastore, 1) := by decide +kernel
theorem dX4_init_85 : decode cX4_init 85 = .ok (.iconst 0, 1) := by decide +kernel
theorem dX4_init_86 : decode cX4_init 86 = .ok (.istore_n 1, 1) := by decide +kernel
theorem dX4_init_87 : decode cX4_init 87 = .ok (.iload_n 1, 1) := by decide +kernel
theorem dX4_init_88 : decode cX4_init 88 = .ok (.iconst 3, 1) := by decide +kernel
theorem dX4_init_89 : decode cX4_init 89 = .ok (.if_icmp .ge 21, 3) := by decide +kernel
theorem dX4_init_92 : decode cX4_init 92 = .ok (.aload_n 0, 1) := by decide +kernel
theorem dX4_init_93 : decode cX4_init 93 = .ok (.getfield 13, 3) := by decide +kernel
theorem dX4_init_96 : decode cX4_init 96 = .ok (.iload_n 1, 1) := by decide +kernel
theorem dX4_init_97 : decode cX4_init 97 = .ok (.invokestatic 39, 3) := by decide +kernel
theorem dX4_init_100 : decode cX4_init 100 = .ok (.iconst 0, 1) := by decide +kernel
theorem dX4_init_101 : decode cX4_init 101 = .ok (.iadd, 1) := by decide +kernel
theorem dX4_init_102 : decode cX4_init 102 = .ok (.iconst 4, 1) := by decide +kernel
theorem dX4_init_103 : decode cX4_init 103 = .ok (.iastore, 1) := by decide +kernel
theorem dX4_init_104 : decode cX4_init 104 = .ok (.iinc 1 1, 3) := by decide +kernel
theorem dX4_init_107 : decode cX4_init 107 = .ok (.goto (-20), 3) := by decide +kernel
theorem dX4_init_110 : decode cX4_init 110 = .ok (.return_, 1) := by decide +kernel
theorem dX4_begin_0 : decode cX4_begin 0 = .ok (.iconst 0, 1) := by decide +kernel
theorem dX4_begin_1 : decode cX4_begin 1 = .ok (.istore_n 1, 1) := by decide +kernel
theorem dX4_begin_2 : decode cX4_begin 2 = .ok (.iload_n 1, 1) := by decide +kernel
theorem dX4_begin_3 : decode cX4_begin 3 = .ok (.sipush 336, 3) := by decide +kernel
theorem dX4_begin_6 : decode cX4_begin 6 = .ok (.if_icmp .ge 13, 3) := by decide +kernel
theorem dX4_begin_9 : decode cX4_begin 9 = .ok (.aload_n 0, 1) := by decide +kernel
theorem dX4_begin_10 : decode cX4_begin 10 = .ok (.iload_n 1, 1) := by decide +kernel
theorem dX4_begin_11 : decode cX4_begin 11 = .ok (.iconst 0, 1) := by decide +kernel
theorem dX4_begin_12 : decode cX4_begin 12 = .ok (.iastore, 1) := by decide +kernel
theorem dX4_begin_13 : decode cX4_begin 13 = .ok (.iinc 1 1, 3) := by decide +kernel
theorem dX4_begin_16 : decode cX4_begin 16 = .ok (.goto (-14), 3) := by decide +kernel
theorem dX4_begin_19 : decode cX4_begin 19 = .ok (.aload_n 0, 1) := by decide +kernel
theorem dX4_begin_20 : decode cX4_begin 20 = .ok (.iconst 1, 1) := by decide +kernel
theorem dX4_begin_21 : decode cX4_begin 21 = .ok (.iconst 1, 1) := by decide +kernel
theorem dX4_begin_22 : decode cX4_begin 22 = .ok (.iastore, 1) := by decide +kernel
theorem dX4_begin_23 : decode cX4_begin 23 = .ok (.return_, 1) := by decide +kernel
theorem dX4_thrown_0 : decode cX4_thrown 0 = .ok (.aload_n 0, 1) := by decide +kernel
theorem dX4_thrown_1 : decode cX4_thrown 1 = .ok (.getfield 43, 3) := by decide +kernel
theorem dX4_thrown_4 : decode cX4_thrown 4 = .ok (.ireturn, 1) := by decide +kernel
theorem dX4_refused_0 : decode cX4_refused 0 = .ok (.aload_n 0, 1) := by decide +kernel
theorem dX4_refused_1 : decode cX4_refused 1 = .ok (.iload_n 1, 1) := by decide +kernel
theorem dX4_refused_2 : decode cX4_refused 2 = .ok (.putfield 43, 3) := by decide +kernel
theorem dX4_refused_5 : decode cX4_refused 5 = .ok (.iload_n 1, 1) := by decide +kernel
theorem dX4_refused_6 : decode cX4_refused 6 = .ok (.ifCond .le 7, 3) := by decide +kernel
theorem dX4_refused_9 : decode cX4_refused 9 = .ok (.iconst 1, 1) := by decide +kernel
theorem dX4_refused_10 : decode cX4_refused 10 = .ok (.goto 4, 3) := by decide +kernel
theorem dX4_refused_13 : decode cX4_refused 13 = .ok (.iconst 0, 1) := by decide +kernel
theorem dX4_refused_14 : decode cX4_refused 14 = .ok (.ireturn, 1) := by decide +kernel
theorem dX4_in_0 : decode cX4_in 0 = .ok (.lload_n 0, 1) := by decide +kernel
theorem dX4_in_1 : decode cX4_in 1 = .ok (.lload_n 2, 1) := by decide +kernel
theorem dX4_in_2 : decode cX4_in 2 = .ok (.lcmp, 1) := by decide +kernel
theorem dX4_in_3 : decode cX4_in 3 = .ok (.ifCond .lt 14, 3) := by decide +kernel
theorem dX4_in_6 : decode cX4_in 6 = .ok (.lload_n 0, 1) := by decide +kernel
theorem dX4_in_7 : decode cX4_in 7 = .ok (.lload 4, 2) := by decide +kernel
theorem dX4_in_9 : decode cX4_in 9 = .ok (.lcmp, 1) := by decide +kernel
theorem dX4_in_10 : decode cX4_in 10 = .ok (.ifCond .gt 7, 3) := by decide +kernel
theorem dX4_in_13 : decode cX4_in 13 = .ok (.iconst 1, 1) := by decide +kernel
theorem dX4_in_14 : decode cX4_in 14 = .ok (.goto 4, 3) := by decide +kernel
theorem dX4_in_17 : decode cX4_in 17 = .ok (.iconst 0, 1) := by decide +kernel
theorem dX4_in_18 : decode cX4_in 18 = .ok (.ireturn, 1) := by decide +kernel
theorem dX4_at_0 : decode cX4_at 0 = .ok (.iconst 4, 1) := by decide +kernel
theorem dX4_at_1 : decode cX4_at 1 = .ok (.bipush 22, 2) := by decide +kernel
theorem dX4_at_3 : decode cX4_at 3 = .ok (.iload_n 0, 1) := by decide +kernel
theorem dX4_at_4 : decode cX4_at 4 = .ok (.imul, 1) := by decide +kernel
theorem dX4_at_5 : decode cX4_at 5 = .ok (.iadd, 1) := by decide +kernel
theorem dX4_at_6 : decode cX4_at 6 = .ok (.ireturn, 1) := by decide +kernel
theorem dX4_copyLine_0 : decode cX4_copyLine 0 = .ok (.iconst 0, 1) := by decide +kernel
theorem dX4_copyLine_1 : decode cX4_copyLine 1 = .ok (.istore 4, 2) := by decide +kernel
theorem dX4_copyLine_3 : decode cX4_copyLine 3 = .ok (.iload 4, 2) := by decide +kernel
theorem dX4_copyLine_5 : decode cX4_copyLine 5 = .ok (.sipush 336, 3) := by decide +kernel
theorem dX4_copyLine_8 : decode cX4_copyLine 8 = .ok (.if_icmp .ge 21, 3) := by decide +kernel
theorem dX4_copyLine_11 : decode cX4_copyLine 11 = .ok (.aload_n 2, 1) := by decide +kernel
theorem dX4_copyLine_12 : decode cX4_copyLine 12 = .ok (.iload_n 3, 1) := by decide +kernel
theorem dX4_copyLine_13 : decode cX4_copyLine 13 = .ok (.iload 4, 2) := by decide +kernel
theorem dX4_copyLine_15 : decode cX4_copyLine 15 = .ok (.iadd, 1) := by decide +kernel
theorem dX4_copyLine_16 : decode cX4_copyLine 16 = .ok (.aload_n 0, 1) := by decide +kernel
theorem dX4_copyLine_17 : decode cX4_copyLine 17 = .ok (.iload_n 1, 1) := by decide +kernel
theorem dX4_copyLine_18 : decode cX4_copyLine 18 = .ok (.iload 4, 2) := by decide +kernel
theorem dX4_copyLine_20 : decode cX4_copyLine 20 = .ok (.iadd, 1) := by decide +kernel
theorem dX4_copyLine_21 : decode cX4_copyLine 21 = .ok (.iaload, 1) := by decide +kernel
theorem dX4_copyLine_22 : decode cX4_copyLine 22 = .ok (.iastore, 1) := by decide +kernel
theorem dX4_copyLine_23 : decode cX4_copyLine 23 = .ok (.iinc 4 1, 3) := by decide +kernel
theorem dX4_copyLine_26 : decode cX4_copyLine 26 = .ok (.goto (-23), 3) := by decide +kernel
theorem dX4_copyLine_29 : decode cX4_copyLine 29 = .ok (.return_, 1) := by decide +kernel
set_option maxRecDepth 20000 in
theorem ggX4_isCounter_X4_in : GoodIn wsX4_isCounter wsX4_in := goodIn_r _ [4] (by decide +kernel) (by decide +kernel)
set_option maxRecDepth 20000 in
theorem gX4_isCounter_X4_in : GoodIn wsX4_isCounter (va_wsS RX4 47 yX4_in wsX4_in) := goodIn_app (goodIn_of _ (by decide +kernel)) ggX4_isCounter_X4_in
theorem dX4_isCounter_0 : decode cX4_isCounter 0 = .ok (.iload_n 1, 1) := by decide +kernel
theorem dX4_isCounter_1 : decode cX4_isCounter 1 = .ok (.i2l, 1) := by decide +kernel
theorem dX4_isCounter_2 : decode cX4_isCounter 2 = .ok (.lconst 0, 1) := by decide +kernel
theorem dX4_isCounter_3 : decode cX4_isCounter 3 = .ok (.aload_n 0, 1) := by decide +kernel
theorem dX4_isCounter_4 : decode cX4_isCounter 4 = .ok (.iconst 0, 1) := by decide +kernel
theorem dX4_isCounter_5 : decode cX4_isCounter 5 = .ok (.iaload, 1) := by decide +kernel
theorem dX4_isCounter_6 : decode cX4_isCounter 6 = .ok (.iconst 1, 1) := by decide +kernel
theorem dX4_isCounter_7 : decode cX4_isCounter 7 = .ok (.isub, 1) := by decide +kernel
theorem dX4_isCounter_8 : decode cX4_isCounter 8 = .ok (.i2l, 1) := by decide +kernel
theorem dX4_isCounter_9 : decode cX4_isCounter 9 = .ok (.invokestatic 47, 3) := by decide +kernel
theorem dX4_isCounter_12 : decode cX4_isCounter 12 = .ok (.ireturn, 1) := by decide +kernel
set_option maxRecDepth 20000 in
theorem ggX4_shownOn_X4_at : GoodIn wsX4_shownOn wsX4_at := goodIn_r _ [4] (by decide +kernel) (by decide +kernel)
set_option maxRecDepth 20000 in
theorem gX4_shownOn_X4_at : GoodIn wsX4_shownOn (va_wsS RX4 39 yX4_at wsX4_at) := goodIn_app (goodIn_of _ (by decide +kernel)) ggX4_shownOn_X4_at
theorem dX4_shownOn_0 : decode cX4_shownOn 0 = .ok (.iconst 0, 1) := by decide +kernel
theorem dX4_shownOn_1 : decode cX4_shownOn 1 = .ok (.istore_n 2, 1) := by decide +kernel
theorem dX4_shownOn_2 : decode cX4_shownOn 2 = .ok (.aload_n 0, 1) := by decide +kernel
theorem dX4_shownOn_3 : decode cX4_shownOn 3 = .ok (.iload_n 1, 1) := by decide +kernel
theorem dX4_shownOn_4 : decode cX4_shownOn 4 = .ok (.invokestatic 39, 3) := by decide +kernel
theorem dX4_shownOn_7 : decode cX4_shownOn 7 = .ok (.iconst 0, 1) := by decide +kernel
theorem dX4_shownOn_8 : decode cX4_shownOn 8 = .ok (.iadd, 1) := by decide +kernel
theorem dX4_shownOn_9 : decode cX4_shownOn 9 = .ok (.iaload, 1) := by decide +kernel
theorem dX4_shownOn_10 : decode cX4_shownOn 10 = .ok (.iconst 1, 1) := by decide +kernel
theorem dX4_shownOn_11 : decode cX4_shownOn 11 = .ok (.isub, 1) := by decide +kernel
theorem dX4_shownOn_12 : decode cX4_shownOn 12 = .ok (.istore_n 3, 1) := by decide +kernel
theorem dX4_shownOn_13 : decode cX4_shownOn 13 = .ok (.iload_n 3, 1) := by decide +kernel
theorem dX4_shownOn_14 : decode cX4_shownOn 14 = .ok (.ifCond .lt 24, 3) := by decide +kernel
theorem dX4_shownOn_17 : decode cX4_shownOn 17 = .ok (.iconst 3, 1) := by decide +kernel
theorem dX4_shownOn_18 : decode cX4_shownOn 18 = .ok (.iload_n 2, 1) := by decide +kernel
theorem dX4_shownOn_19 : decode cX4_shownOn 19 = .ok (.imul, 1) := by decide +kernel
theorem dX4_shownOn_20 : decode cX4_shownOn 20 = .ok (.aload_n 0, 1) := by decide +kernel
theorem dX4_shownOn_21 : decode cX4_shownOn 21 = .ok (.iload_n 1, 1) := by decide +kernel
theorem dX4_shownOn_22 : decode cX4_shownOn 22 = .ok (.invokestatic 39, 3) := by decide +kernel
theorem dX4_shownOn_25 : decode cX4_shownOn 25 = .ok (.iconst 4, 1) := by decide +kernel
theorem dX4_shownOn_26 : decode cX4_shownOn 26 = .ok (.iadd, 1) := by decide +kernel
theorem dX4_shownOn_27 : decode cX4_shownOn 27 = .ok (.iload_n 3, 1) := by decide +kernel
theorem dX4_shownOn_28 : decode cX4_shownOn 28 = .ok (.iadd, 1) := by decide +kernel
theorem dX4_shownOn_29 : decode cX4_shownOn 29 = .ok (.iaload, 1) := by decide +kernel
theorem dX4_shownOn_30 : decode cX4_shownOn 30 = .ok (.iadd, 1) := by decide +kernel
theorem dX4_shownOn_31 : decode cX4_shownOn 31 = .ok (.istore_n 2, 1) := by decide +kernel
theorem dX4_shownOn_32 : decode cX4_shownOn 32 = .ok (.iinc 3 (-1), 3) := by decide +kernel
theorem dX4_shownOn_35 : decode cX4_shownOn 35 = .ok (.goto (-22), 3) := by decide +kernel
theorem dX4_shownOn_38 : decode cX4_shownOn 38 = .ok (.iload_n 2, 1) := by decide +kernel
theorem dX4_shownOn_39 : decode cX4_shownOn 39 = .ok (.ireturn, 1) := by decide +kernel
set_option maxRecDepth 20000 in
theorem ggX4_worthOn_X4_at : GoodIn wsX4_worthOn wsX4_at := goodIn_r _ [5] (by decide +kernel) (by decide +kernel)
set_option maxRecDepth 20000 in
theorem gX4_worthOn_X4_at : GoodIn wsX4_worthOn (va_wsS RX4 39 yX4_at wsX4_at) := goodIn_app (goodIn_of _ (by decide +kernel)) ggX4_worthOn_X4_at
theorem dX4_worthOn_0 : decode cX4_worthOn 0 = .ok (.lconst 0, 1) := by decide +kernel
theorem dX4_worthOn_1 : decode cX4_worthOn 1 = .ok (.lstore_n 2, 1) := by decide +kernel
theorem dX4_worthOn_2 : decode cX4_worthOn 2 = .ok (.aload_n 0, 1) := by decide +kernel
theorem dX4_worthOn_3 : decode cX4_worthOn 3 = .ok (.iload_n 1, 1) := by decide +kernel
theorem dX4_worthOn_4 : decode cX4_worthOn 4 = .ok (.invokestatic 39, 3) := by decide +kernel
theorem dX4_worthOn_7 : decode cX4_worthOn 7 = .ok (.iconst 0, 1) := by decide +kernel
theorem dX4_worthOn_8 : decode cX4_worthOn 8 = .ok (.iadd, 1) := by decide +kernel
theorem dX4_worthOn_9 : decode cX4_worthOn 9 = .ok (.iaload, 1) := by decide +kernel
theorem dX4_worthOn_10 : decode cX4_worthOn 10 = .ok (.iconst 1, 1) := by decide +kernel
theorem dX4_worthOn_11 : decode cX4_worthOn 11 = .ok (.isub, 1) := by decide +kernel
theorem dX4_worthOn_12 : decode cX4_worthOn 12 = .ok (.istore 4, 2) := by decide +kernel
theorem dX4_worthOn_14 : decode cX4_worthOn 14 = .ok (.iload 4, 2) := by decide +kernel
theorem dX4_worthOn_16 : decode cX4_worthOn 16 = .ok (.ifCond .lt 42, 3) := by decide +kernel
theorem dX4_worthOn_19 : decode cX4_worthOn 19 = .ok (.ldc2_w 51, 3) := by decide +kernel
theorem dX4_worthOn_22 : decode cX4_worthOn 22 = .ok (.lload_n 2, 1) := by decide +kernel
theorem dX4_worthOn_23 : decode cX4_worthOn 23 = .ok (.lmul, 1) := by decide +kernel
theorem dX4_worthOn_24 : decode cX4_worthOn 24 = .ok (.aload_n 0, 1) := by decide +kernel
theorem dX4_worthOn_25 : decode cX4_worthOn 25 = .ok (.iload_n 1, 1) := by decide +kernel
theorem dX4_worthOn_26 : decode cX4_worthOn 26 = .ok (.invokestatic 39, 3) := by decide +kernel
theorem dX4_worthOn_29 : decode cX4_worthOn 29 = .ok (.iconst 4, 1) := by decide +kernel
theorem dX4_worthOn_30 : decode cX4_worthOn 30 = .ok (.iadd, 1) := by decide +kernel
theorem dX4_worthOn_31 : decode cX4_worthOn 31 = .ok (.iload 4, 2) := by decide +kernel
theorem dX4_worthOn_33 : decode cX4_worthOn 33 = .ok (.iadd, 1) := by decide +kernel
theorem dX4_worthOn_34 : decode cX4_worthOn 34 = .ok (.iaload, 1) := by decide +kernel
theorem dX4_worthOn_35 : decode cX4_worthOn 35 = .ok (.i2l, 1) := by decide +kernel
theorem dX4_worthOn_36 : decode cX4_worthOn 36 = .ok (.ladd, 1) := by decide +kernel
theorem dX4_worthOn_37 : decode cX4_worthOn 37 = .ok (.aload_n 0, 1) := by decide +kernel
theorem dX4_worthOn_38 : decode cX4_worthOn 38 = .ok (.iload_n 1, 1) := by decide +kernel
theorem dX4_worthOn_39 : decode cX4_worthOn 39 = .ok (.invokestatic 39, 3) := by decide +kernel
theorem dX4_worthOn_42 : decode cX4_worthOn 42 = .ok (.bipush 13, 2) := by decide +kernel
theorem dX4_worthOn_44 : decode cX4_worthOn 44 = .ok (.iadd, 1) := by decide +kernel
theorem dX4_worthOn_45 : decode cX4_worthOn 45 = .ok (.iload 4, 2) := by decide +kernel
theorem dX4_worthOn_47 : decode cX4_worthOn 47 = .ok (.iadd, 1) := by decide +kernel
theorem dX4_worthOn_48 : decode cX4_worthOn 48 = .ok (.iaload, 1) := by decide +kernel
theorem dX4_worthOn_49 : decode cX4_worthOn 49 = .ok (.i2l, 1) := by decide +kernel
theorem dX4_worthOn_50 : decode cX4_worthOn 50 = .ok (.ladd, 1) := by decide +kernel
theorem dX4_worthOn_51 : decode cX4_worthOn 51 = .ok (.lstore_n 2, 1) := by decide +kernel
theorem dX4_worthOn_52 : decode cX4_worthOn 52 = .ok (.iinc 4 (-1), 3) := by decide +kernel
theorem dX4_worthOn_55 : decode cX4_worthOn 55 = .ok (.goto (-41), 3) := by decide +kernel
theorem dX4_worthOn_58 : decode cX4_worthOn 58 = .ok (.lload_n 2, 1) := by decide +kernel
theorem dX4_worthOn_59 : decode cX4_worthOn 59 = .ok (.lreturn, 1) := by decide +kernel
set_option maxRecDepth 20000 in
theorem ggX4_waitsOn_X4_at : GoodIn wsX4_waitsOn wsX4_at := goodIn_r _ [4] (by decide +kernel) (by decide +kernel)
set_option maxRecDepth 20000 in
theorem gX4_waitsOn_X4_at : GoodIn wsX4_waitsOn (va_wsS RX4 39 yX4_at wsX4_at) := goodIn_app (goodIn_of _ (by decide +kernel)) ggX4_waitsOn_X4_at
theorem dX4_waitsOn_0 : decode cX4_waitsOn 0 = .ok (.iconst 0, 1) := by decide +kernel
theorem dX4_waitsOn_1 : decode cX4_waitsOn 1 = .ok (.istore_n 2, 1) := by decide +kernel
theorem dX4_waitsOn_2 : decode cX4_waitsOn 2 = .ok (.iconst 0, 1) := by decide +kernel
theorem dX4_waitsOn_3 : decode cX4_waitsOn 3 = .ok (.istore_n 3, 1) := by decide +kernel
theorem dX4_waitsOn_4 : decode cX4_waitsOn 4 = .ok (.iload_n 3, 1) := by decide +kernel
theorem dX4_waitsOn_5 : decode cX4_waitsOn 5 = .ok (.aload_n 0, 1) := by decide +kernel
theorem dX4_waitsOn_6 : decode cX4_waitsOn 6 = .ok (.iload_n 1, 1) := by decide +kernel
theorem dX4_waitsOn_7 : decode cX4_waitsOn 7 = .ok (.invokestatic 39, 3) := by decide +kernel
theorem dX4_waitsOn_10 : decode cX4_waitsOn 10 = .ok (.iconst 0, 1) := by decide +kernel
theorem dX4_waitsOn_11 : decode cX4_waitsOn 11 = .ok (.iadd, 1) := by decide +kernel
theorem dX4_waitsOn_12 : decode cX4_waitsOn 12 = .ok (.iaload, 1) := by decide +kernel
theorem dX4_waitsOn_13 : decode cX4_waitsOn 13 = .ok (.if_icmp .ge 31, 3) := by decide +kernel
theorem dX4_waitsOn_16 : decode cX4_waitsOn 16 = .ok (.iload_n 2, 1) := by decide +kernel
theorem dX4_waitsOn_17 : decode cX4_waitsOn 17 = .ok (.aload_n 0, 1) := by decide +kernel
theorem dX4_waitsOn_18 : decode cX4_waitsOn 18 = .ok (.iload_n 1, 1) := by decide +kernel
theorem dX4_waitsOn_19 : decode cX4_waitsOn 19 = .ok (.invokestatic 39, 3) := by decide +kernel
theorem dX4_waitsOn_22 : decode cX4_waitsOn 22 = .ok (.bipush 13, 2) := by decide +kernel
theorem dX4_waitsOn_24 : decode cX4_waitsOn 24 = .ok (.iadd, 1) := by decide +kernel
theorem dX4_waitsOn_25 : decode cX4_waitsOn 25 = .ok (.iload_n 3, 1) := by decide +kernel
theorem dX4_waitsOn_26 : decode cX4_waitsOn 26 = .ok (.iadd, 1) := by decide +kernel
theorem dX4_waitsOn_27 : decode cX4_waitsOn 27 = .ok (.iaload, 1) := by decide +kernel
theorem dX4_waitsOn_28 : decode cX4_waitsOn 28 = .ok (.ifCond .ne 7, 3) := by decide +kernel
theorem dX4_waitsOn_31 : decode cX4_waitsOn 31 = .ok (.iconst 0, 1) := by decide +kernel
theorem dX4_waitsOn_32 : decode cX4_waitsOn 32 = .ok (.goto 4, 3) := by decide +kernel
theorem dX4_waitsOn_35 : decode cX4_waitsOn 35 = .ok (.iconst 1, 1) := by decide +kernel
theorem dX4_waitsOn_36 : decode cX4_waitsOn 36 = .ok (.iadd, 1) := by decide +kernel
theorem dX4_waitsOn_37 : decode cX4_waitsOn 37 = .ok (.istore_n 2, 1) := by decide +kernel
theorem dX4_waitsOn_38 : decode cX4_waitsOn 38 = .ok (.iinc 3 1, 3) := by decide +kernel
theorem dX4_waitsOn_41 : decode cX4_waitsOn 41 = .ok (.goto (-37), 3) := by decide +kernel
theorem dX4_waitsOn_44 : decode cX4_waitsOn 44 = .ok (.iload_n 2, 1) := by decide +kernel
theorem dX4_waitsOn_45 : decode cX4_waitsOn 45 = .ok (.ireturn, 1) := by decide +kernel
set_option maxRecDepth 20000 in
theorem ggX4_waitsInAll_X4_waitsOn : GoodIn wsX4_waitsInAll wsX4_waitsOn := goodIn_r _ [4, 5, 6, 3, 7] (by decide +kernel) (by decide +kernel)
set_option maxRecDepth 20000 in
theorem gX4_waitsInAll_X4_waitsOn : GoodIn wsX4_waitsInAll (va_wsS RX4 53 yX4_waitsOn wsX4_waitsOn) := goodIn_app (goodIn_of _ (by decide +kernel)) ggX4_waitsInAll_X4_waitsOn
theorem dX4_waitsInAll_0 : decode cX4_waitsInAll 0 = .ok (.iconst 0, 1) := by decide +kernel
theorem dX4_waitsInAll_1 : decode cX4_waitsInAll 1 = .ok (.istore_n 1, 1) := by decide +kernel
theorem dX4_waitsInAll_2 : decode cX4_waitsInAll 2 = .ok (.iconst 0, 1) := by decide +kernel
theorem dX4_waitsInAll_3 : decode cX4_waitsInAll 3 = .ok (.istore_n 2, 1) := by decide +kernel
theorem dX4_waitsInAll_4 : decode cX4_waitsInAll 4 = .ok (.iload_n 2, 1) := by decide +kernel
theorem dX4_waitsInAll_5 : decode cX4_waitsInAll 5 = .ok (.aload_n 0, 1) := by decide +kernel
theorem dX4_waitsInAll_6 : decode cX4_waitsInAll 6 = .ok (.iconst 0, 1) := by decide +kernel
theorem dX4_waitsInAll_7 : decode cX4_waitsInAll 7 = .ok (.iaload, 1) := by decide +kernel
theorem dX4_waitsInAll_8 : decode cX4_waitsInAll 8 = .ok (.if_icmp .ge 17, 3) := by decide +kernel
theorem dX4_waitsInAll_11 : decode cX4_waitsInAll 11 = .ok (.iload_n 1, 1) := by decide +kernel
theorem dX4_waitsInAll_12 : decode cX4_waitsInAll 12 = .ok (.aload_n 0, 1) := by decide +kernel
theorem dX4_waitsInAll_13 : decode cX4_waitsInAll 13 = .ok (.iload_n 2, 1) := by decide +kernel
theorem dX4_waitsInAll_14 : decode cX4_waitsInAll 14 = .ok (.invokestatic 53, 3) := by decide +kernel
theorem dX4_waitsInAll_17 : decode cX4_waitsInAll 17 = .ok (.iadd, 1) := by decide +kernel
theorem dX4_waitsInAll_18 : decode cX4_waitsInAll 18 = .ok (.istore_n 1, 1) := by decide +kernel
theorem dX4_waitsInAll_19 : decode cX4_waitsInAll 19 = .ok (.iinc 2 1, 3) := by decide +kernel
theorem dX4_waitsInAll_22 : decode cX4_waitsInAll 22 = .ok (.goto (-18), 3) := by decide +kernel
theorem dX4_waitsInAll_25 : decode cX4_waitsInAll 25 = .ok (.iload_n 1, 1) := by decide +kernel
theorem dX4_waitsInAll_26 : decode cX4_waitsInAll 26 = .ok (.ireturn, 1) := by decide +kernel
set_option maxRecDepth 20000 in
theorem ggX4_settledOn_X4_waitsOn : GoodIn wsX4_settledOn wsX4_waitsOn := goodIn_r _ [4, 5, 6, 3, 7] (by decide +kernel) (by decide +kernel)
set_option maxRecDepth 20000 in
theorem gX4_settledOn_X4_waitsOn : GoodIn wsX4_settledOn (va_wsS RX4 53 yX4_waitsOn wsX4_waitsOn) := goodIn_app (goodIn_of _ (by decide +kernel)) ggX4_settledOn_X4_waitsOn
theorem dX4_settledOn_0 : decode cX4_settledOn 0 = .ok (.iconst 0, 1) := by decide +kernel
theorem dX4_settledOn_1 : decode cX4_settledOn 1 = .ok (.istore_n 1, 1) := by decide +kernel
theorem dX4_settledOn_2 : decode cX4_settledOn 2 = .ok (.iconst 0, 1) := by decide +kernel
theorem dX4_settledOn_3 : decode cX4_settledOn 3 = .ok (.istore_n 2, 1) := by decide +kernel
theorem dX4_settledOn_4 : decode cX4_settledOn 4 = .ok (.iload_n 2, 1) := by decide +kernel
theorem dX4_settledOn_5 : decode cX4_settledOn 5 = .ok (.aload_n 0, 1) := by decide +kernel
theorem dX4_settledOn_6 : decode cX4_settledOn 6 = .ok (.iconst 0, 1) := by decide +kernel
theorem dX4_settledOn_7 : decode cX4_settledOn 7 = .ok (.iaload, 1) := by decide +kernel
theorem dX4_settledOn_8 : decode cX4_settledOn 8 = .ok (.if_icmp .ge 25, 3) := by decide +kernel
theorem dX4_settledOn_11 : decode cX4_settledOn 11 = .ok (.iload_n 1, 1) := by decide +kernel
theorem dX4_settledOn_12 : decode cX4_settledOn 12 = .ok (.aload_n 0, 1) := by decide +kernel
theorem dX4_settledOn_13 : decode cX4_settledOn 13 = .ok (.iload_n 2, 1) := by decide +kernel
theorem dX4_settledOn_14 : decode cX4_settledOn 14 = .ok (.invokestatic 53, 3) := by decide +kernel
theorem dX4_settledOn_17 : decode cX4_settledOn 17 = .ok (.ifCond .ne 7, 3) := by decide +kernel
theorem dX4_settledOn_20 : decode cX4_settledOn 20 = .ok (.iconst 1, 1) := by decide +kernel
theorem dX4_settledOn_21 : decode cX4_settledOn 21 = .ok (.goto 4, 3) := by decide +kernel
theorem dX4_settledOn_24 : decode cX4_settledOn 24 = .ok (.iconst 0, 1) := by decide +kernel
theorem dX4_settledOn_25 : decode cX4_settledOn 25 = .ok (.iadd, 1) := by decide +kernel
theorem dX4_settledOn_26 : decode cX4_settledOn 26 = .ok (.istore_n 1, 1) := by decide +kernel
theorem dX4_settledOn_27 : decode cX4_settledOn 27 = .ok (.iinc 2 1, 3) := by decide +kernel
theorem dX4_settledOn_30 : decode cX4_settledOn 30 = .ok (.goto (-26), 3) := by decide +kernel
theorem dX4_settledOn_33 : decode cX4_settledOn 33 = .ok (.iload_n 1, 1) := by decide +kernel
theorem dX4_settledOn_34 : decode cX4_settledOn 34 = .ok (.ireturn, 1) := by decide +kernel
set_option maxRecDepth 20000 in
theorem ggX4_allSettled_X4_settledOn : GoodIn wsX4_allSettled wsX4_settledOn := goodIn_r _ [4, 5, 6, 3, 7, 8, 9, 10] (by decide +kernel) (by decide +kernel)
set_option maxRecDepth 20000 in
theorem gX4_allSettled_X4_settledOn : GoodIn wsX4_allSettled (va_wsS RX4 57 yX4_settledOn wsX4_settledOn) := goodIn_app (goodIn_of _ (by decide +kernel)) ggX4_allSettled_X4_settledOn
theorem dX4_allSettled_0 : decode cX4_allSettled 0 = .ok (.aload_n 0, 1) := by decide +kernel
theorem dX4_allSettled_1 : decode cX4_allSettled 1 = .ok (.invokestatic 57, 3) := by decide +kernel
theorem dX4_allSettled_4 : decode cX4_allSettled 4 = .ok (.aload_n 0, 1) := by decide +kernel
theorem dX4_allSettled_5 : decode cX4_allSettled 5 = .ok (.iconst 0, 1) := by decide +kernel
theorem dX4_allSettled_6 : decode cX4_allSettled 6 = .ok (.iaload, 1) := by decide +kernel
theorem dX4_allSettled_7 : decode cX4_allSettled 7 = .ok (.if_icmp .ne 7, 3) := by decide +kernel
theorem dX4_allSettled_10 : decode cX4_allSettled 10 = .ok (.iconst 1, 1) := by decide +kernel
theorem dX4_allSettled_11 : decode cX4_allSettled 11 = .ok (.goto 4, 3) := by decide +kernel
theorem dX4_allSettled_14 : decode cX4_allSettled 14 = .ok (.iconst 0, 1) := by decide +kernel
theorem dX4_allSettled_15 : decode cX4_allSettled 15 = .ok (.ireturn, 1) := by decide +kernel
theorem dX4_areDouble_0 : decode cX4_areDouble 0 = .ok (.aload_n 0, 1) := by decide +kernel
theorem dX4_areDouble_1 : decode cX4_areDouble 1 = .ok (.sipush 136, 3) := by decide +kernel
theorem dX4_areDouble_4 : decode cX4_areDouble 4 = .ok (.iconst 4, 1) := by decide +kernel
theorem dX4_areDouble_5 : decode cX4_areDouble 5 = .ok (.iload_n 1, 1) := by decide +kernel
theorem dX4_areDouble_6 : decode cX4_areDouble 6 = .ok (.imul, 1) := by decide +kernel
theorem dX4_areDouble_7 : decode cX4_areDouble 7 = .ok (.iadd, 1) := by decide +kernel
theorem dX4_areDouble_8 : decode cX4_areDouble 8 = .ok (.iaload, 1) := by decide +kernel
theorem dX4_areDouble_9 : decode cX4_areDouble 9 = .ok (.aload_n 0, 1) := by decide +kernel
theorem dX4_areDouble_10 : decode cX4_areDouble 10 = .ok (.sipush 136, 3) := by decide +kernel
theorem dX4_areDouble_13 : decode cX4_areDouble 13 = .ok (.iconst 4, 1) := by decide +kernel
theorem dX4_areDouble_14 : decode cX4_areDouble 14 = .ok (.iload_n 2, 1) := by decide +kernel
theorem dX4_areDouble_15 : decode cX4_areDouble 15 = .ok (.imul, 1) := by decide +kernel
theorem dX4_areDouble_16 : decode cX4_areDouble 16 = .ok (.iadd, 1) := by decide +kernel
theorem dX4_areDouble_17 : decode cX4_areDouble 17 = .ok (.iaload, 1) := by decide +kernel
theorem dX4_areDouble_18 : decode cX4_areDouble 18 = .ok (.if_icmp .ne 32, 3) := by decide +kernel
theorem dX4_areDouble_21 : decode cX4_areDouble 21 = .ok (.aload_n 0, 1) := by decide +kernel
theorem dX4_areDouble_22 : decode cX4_areDouble 22 = .ok (.sipush 136, 3) := by decide +kernel
theorem dX4_areDouble_25 : decode cX4_areDouble 25 = .ok (.iconst 4, 1) := by decide +kernel
theorem dX4_areDouble_26 : decode cX4_areDouble 26 = .ok (.iload_n 1, 1) := by decide +kernel
theorem dX4_areDouble_27 : decode cX4_areDouble 27 = .ok (.imul, 1) := by decide +kernel
theorem dX4_areDouble_28 : decode cX4_areDouble 28 = .ok (.iadd, 1) := by decide +kernel
theorem dX4_areDouble_29 : decode cX4_areDouble 29 = .ok (.iconst 1, 1) := by decide +kernel
theorem dX4_areDouble_30 : decode cX4_areDouble 30 = .ok (.iadd, 1) := by decide +kernel
theorem dX4_areDouble_31 : decode cX4_areDouble 31 = .ok (.iaload, 1) := by decide +kernel
theorem dX4_areDouble_32 : decode cX4_areDouble 32 = .ok (.aload_n 0, 1) := by decide +kernel
theorem dX4_areDouble_33 : decode cX4_areDouble 33 = .ok (.sipush 136, 3) := by decide +kernel
theorem dX4_areDouble_36 : decode cX4_areDouble 36 = .ok (.iconst 4, 1) := by decide +kernel
theorem dX4_areDouble_37 : decode cX4_areDouble 37 = .ok (.iload_n 2, 1) := by decide +kernel
theorem dX4_areDouble_38 : decode cX4_areDouble 38 = .ok (.imul, 1) := by decide +kernel
theorem dX4_areDouble_39 : decode cX4_areDouble 39 = .ok (.iadd, 1) := by decide +kernel
theorem dX4_areDouble_40 : decode cX4_areDouble 40 = .ok (.iconst 1, 1) := by decide +kernel
theorem dX4_areDouble_41 : decode cX4_areDouble 41 = .ok (.iadd, 1) := by decide +kernel
theorem dX4_areDouble_42 : decode cX4_areDouble 42 = .ok (.iaload, 1) := by decide +kernel
theorem dX4_areDouble_43 : decode cX4_areDouble 43 = .ok (.if_icmp .ne 7, 3) := by decide +kernel
theorem dX4_areDouble_46 : decode cX4_areDouble 46 = .ok (.iconst 1, 1) := by decide +kernel
theorem dX4_areDouble_47 : decode cX4_areDouble 47 = .ok (.goto 4, 3) := by decide +kernel
theorem dX4_areDouble_50 : decode cX4_areDouble 50 = .ok (.iconst 0, 1) := by decide +kernel
theorem dX4_areDouble_51 : decode cX4_areDouble 51 = .ok (.ireturn, 1) := by decide +kernel
set_option maxRecDepth 20000 in
theorem ggX4_doublesOf_X4_areDouble : GoodIn wsX4_doublesOf wsX4_areDouble := goodIn_r _ [4] (by decide +kernel) (by decide +kernel)
set_option maxRecDepth 20000 in
theorem gX4_doublesOf_X4_areDouble : GoodIn wsX4_doublesOf (va_wsS RX4 61 yX4_areDouble wsX4_areDouble) := goodIn_app (goodIn_of _ (by decide +kernel)) ggX4_doublesOf_X4_areDouble
theorem dX4_doublesOf_0 : decode cX4_doublesOf 0 = .ok (.iconst 0, 1) := by decide +kernel
theorem dX4_doublesOf_1 : decode cX4_doublesOf 1 = .ok (.istore_n 2, 1) := by decide +kernel
theorem dX4_doublesOf_2 : decode cX4_doublesOf 2 = .ok (.iconst 0, 1) := by decide +kernel
theorem dX4_doublesOf_3 : decode cX4_doublesOf 3 = .ok (.istore_n 3, 1) := by decide +kernel
theorem dX4_doublesOf_4 : decode cX4_doublesOf 4 = .ok (.iload_n 3, 1) := by decide +kernel
theorem dX4_doublesOf_5 : decode cX4_doublesOf 5 = .ok (.aload_n 0, 1) := by decide +kernel
theorem dX4_doublesOf_6 : decode cX4_doublesOf 6 = .ok (.iconst 3, 1) := by decide +kernel
theorem dX4_doublesOf_7 : decode cX4_doublesOf 7 = .ok (.iaload, 1) := by decide +kernel
theorem dX4_doublesOf_8 : decode cX4_doublesOf 8 = .ok (.if_icmp .ge 31, 3) := by decide +kernel
theorem dX4_doublesOf_11 : decode cX4_doublesOf 11 = .ok (.iload_n 2, 1) := by decide +kernel
theorem dX4_doublesOf_12 : decode cX4_doublesOf 12 = .ok (.iload_n 3, 1) := by decide +kernel
theorem dX4_doublesOf_13 : decode cX4_doublesOf 13 = .ok (.iload_n 1, 1) := by decide +kernel
theorem dX4_doublesOf_14 : decode cX4_doublesOf 14 = .ok (.if_icmp .eq 16, 3) := by decide +kernel
theorem dX4_doublesOf_17 : decode cX4_doublesOf 17 = .ok (.aload_n 0, 1) := by decide +kernel
theorem dX4_doublesOf_18 : decode cX4_doublesOf 18 = .ok (.iload_n 1, 1) := by decide +kernel
theorem dX4_doublesOf_19 : decode cX4_doublesOf 19 = .ok (.iload_n 3, 1) := by decide +kernel
theorem dX4_doublesOf_20 : decode cX4_doublesOf 20 = .ok (.invokestatic 61, 3) := by decide +kernel
theorem dX4_doublesOf_23 : decode cX4_doublesOf 23 = .ok (.ifCond .eq 7, 3) := by decide +kernel
theorem dX4_doublesOf_26 : decode cX4_doublesOf 26 = .ok (.iconst 1, 1) := by decide +kernel
theorem dX4_doublesOf_27 : decode cX4_doublesOf 27 = .ok (.goto 4, 3) := by decide +kernel
theorem dX4_doublesOf_30 : decode cX4_doublesOf 30 = .ok (.iconst 0, 1) := by decide +kernel
theorem dX4_doublesOf_31 : decode cX4_doublesOf 31 = .ok (.iadd, 1) := by decide +kernel
theorem dX4_doublesOf_32 : decode cX4_doublesOf 32 = .ok (.istore_n 2, 1) := by decide +kernel
theorem dX4_doublesOf_33 : decode cX4_doublesOf 33 = .ok (.iinc 3 1, 3) := by decide +kernel
theorem dX4_doublesOf_36 : decode cX4_doublesOf 36 = .ok (.goto (-32), 3) := by decide +kernel
theorem dX4_doublesOf_39 : decode cX4_doublesOf 39 = .ok (.iload_n 2, 1) := by decide +kernel
theorem dX4_doublesOf_40 : decode cX4_doublesOf 40 = .ok (.ireturn, 1) := by decide +kernel
set_option maxRecDepth 20000 in
theorem ggX4_doublesOn_X4_doublesOf : GoodIn wsX4_doublesOn wsX4_doublesOf := goodIn_r _ [4, 5, 6, 3, 7] (by decide +kernel) (by decide +kernel)
set_option maxRecDepth 20000 in
theorem gX4_doublesOn_X4_doublesOf : GoodIn wsX4_doublesOn (va_wsS RX4 65 yX4_doublesOf wsX4_doublesOf) := goodIn_app (goodIn_of _ (by decide +kernel)) ggX4_doublesOn_X4_doublesOf
theorem dX4_doublesOn_0 : decode cX4_doublesOn 0 = .ok (.iconst 0, 1) := by decide +kernel
theorem dX4_doublesOn_1 : decode cX4_doublesOn 1 = .ok (.istore_n 1, 1) := by decide +kernel
theorem dX4_doublesOn_2 : decode cX4_doublesOn 2 = .ok (.iconst 0, 1) := by decide +kernel
theorem dX4_doublesOn_3 : decode cX4_doublesOn 3 = .ok (.istore_n 2, 1) := by decide +kernel
theorem dX4_doublesOn_4 : decode cX4_doublesOn 4 = .ok (.iload_n 2, 1) := by decide +kernel
theorem dX4_doublesOn_5 : decode cX4_doublesOn 5 = .ok (.aload_n 0, 1) := by decide +kernel
theorem dX4_doublesOn_6 : decode cX4_doublesOn 6 = .ok (.iconst 3, 1) := by decide +kernel
theorem dX4_doublesOn_7 : decode cX4_doublesOn 7 = .ok (.iaload, 1) := by decide +kernel
theorem dX4_doublesOn_8 : decode cX4_doublesOn 8 = .ok (.if_icmp .ge 17, 3) := by decide +kernel
theorem dX4_doublesOn_11 : decode cX4_doublesOn 11 = .ok (.iload_n 1, 1) := by decide +kernel
theorem dX4_doublesOn_12 : decode cX4_doublesOn 12 = .ok (.aload_n 0, 1) := by decide +kernel
theorem dX4_doublesOn_13 : decode cX4_doublesOn 13 = .ok (.iload_n 2, 1) := by decide +kernel
theorem dX4_doublesOn_14 : decode cX4_doublesOn 14 = .ok (.invokestatic 65, 3) := by decide +kernel
theorem dX4_doublesOn_17 : decode cX4_doublesOn 17 = .ok (.iadd, 1) := by decide +kernel
theorem dX4_doublesOn_18 : decode cX4_doublesOn 18 = .ok (.istore_n 1, 1) := by decide +kernel
theorem dX4_doublesOn_19 : decode cX4_doublesOn 19 = .ok (.iinc 2 1, 3) := by decide +kernel
theorem dX4_doublesOn_22 : decode cX4_doublesOn 22 = .ok (.goto (-18), 3) := by decide +kernel
theorem dX4_doublesOn_25 : decode cX4_doublesOn 25 = .ok (.iload_n 1, 1) := by decide +kernel
theorem dX4_doublesOn_26 : decode cX4_doublesOn 26 = .ok (.iconst 2, 1) := by decide +kernel
theorem dX4_doublesOn_27 : decode cX4_doublesOn 27 = .ok (.idiv, 1) := by decide +kernel
theorem dX4_doublesOn_28 : decode cX4_doublesOn 28 = .ok (.ireturn, 1) := by decide +kernel
theorem dX4_floor_0 : decode cX4_floor 0 = .ok (.iload_n 0, 1) := by decide +kernel
theorem dX4_floor_1 : decode cX4_floor 1 = .ok (.ifCond .lt 9, 3) := by decide +kernel
theorem dX4_floor_4 : decode cX4_floor 4 = .ok (.iload_n 0, 1) := by decide +kernel
theorem dX4_floor_5 : decode cX4_floor 5 = .ok (.iconst 3, 1) := by decide +kernel
theorem dX4_floor_6 : decode cX4_floor 6 = .ok (.idiv, 1) := by decide +kernel
theorem dX4_floor_7 : decode cX4_floor 7 = .ok (.goto 9, 3) := by decide +kernel
theorem dX4_floor_10 : decode cX4_floor 10 = .ok (.iconst 2, 1) := by decide +kernel
theorem dX4_floor_11 : decode cX4_floor 11 = .ok (.iload_n 0, 1) := by decide +kernel
theorem dX4_floor_12 : decode cX4_floor 12 = .ok (.isub, 1) := by decide +kernel
theorem dX4_floor_13 : decode cX4_floor 13 = .ok (.iconst 3, 1) := by decide +kernel
theorem dX4_floor_14 : decode cX4_floor 14 = .ok (.idiv, 1) := by decide +kernel
theorem dX4_floor_15 : decode cX4_floor 15 = .ok (.ineg, 1) := by decide +kernel
theorem dX4_floor_16 : decode cX4_floor 16 = .ok (.ireturn, 1) := by decide +kernel
