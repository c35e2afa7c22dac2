theorem zd_M_init_0 : decode zc_M_init 0 = .ok (.aload_n 0, 1) := by decide +kernel
theorem zd_M_init_1 : decode zc_M_init 1 = .ok (.invokespecial 1, 3) := by decide +kernel
theorem zd_M_init_4 : decode zc_M_init 4 = .ok (.aload_n 0, 1) := by decide +kernel
theorem zd_M_init_5 : decode zc_M_init 5 = .ok (.iconst 4, 1) := by decide +kernel
theorem zd_M_init_6 : decode zc_M_init 6 = .ok (.newarray .int, 2) := by decide +kernel
theorem zd_M_init_8 : decode zc_M_init 8 = .ok (.putfield 7, 3) := by decide +kernel
theorem zd_M_init_11 : decode zc_M_init 11 = .ok (.aload_n 0, 1) := by decide +kernel
theorem zd_M_init_12 : decode zc_M_init 12 = .ok (.iconst 3, 1) := by decide +kernel
theorem zd_M_init_13 : decode zc_M_init 13 = .ok (.newarray .boolean, 2) := by decide +kernel
theorem zd_M_init_15 : decode zc_M_init 15 = .ok (.putfield 13, 3) := by decide +kernel
theorem zd_M_init_18 : decode zc_M_init 18 = .ok (.aload_n 0, 1) := by decide +kernel
theorem zd_M_init_19 : decode zc_M_init 19 = .ok (.iconst 3, 1) := by decide +kernel
theorem zd_M_init_20 : decode zc_M_init 20 = .ok (.newarray .int, 2) := by decide +kernel
theorem zd_M_init_22 : decode zc_M_init 22 = .ok (.putfield 17, 3) := by decide +kernel
theorem zd_M_init_25 : decode zc_M_init 25 = .ok (.aload_n 0, 1) := by decide +kernel
theorem zd_M_init_26 : decode zc_M_init 26 = .ok (.bipush 9, 2) := by decide +kernel
theorem zd_M_init_28 : decode zc_M_init 28 = .ok (.newarray .boolean, 2) := by decide +kernel
theorem zd_M_init_30 : decode zc_M_init 30 = .ok (.putfield 20, 3) := by decide +kernel
theorem zd_M_init_33 : decode zc_M_init 33 = .ok (.aload_n 0, 1) := by decide +kernel
theorem zd_M_init_34 : decode zc_M_init 34 = .ok (.bipush 9, 2) := by decide +kernel
theorem zd_M_init_36 : decode zc_M_init 36 = .ok (.newarray .boolean, 2) := by decide +kernel
theorem zd_M_init_38 : decode zc_M_init 38 = .ok (.putfield 23, 3) := by decide +kernel
theorem zd_M_init_41 : decode zc_M_init 41 = .ok (.aload_n 0, 1) := by decide +kernel
theorem zd_M_init_42 : decode zc_M_init 42 = .ok (.bipush 36, 2) := by decide +kernel
theorem zd_M_init_44 : decode zc_M_init 44 = .ok (.newarray .int, 2) := by decide +kernel
theorem zd_M_init_46 : decode zc_M_init 46 = .ok (.putfield 26, 3) := by decide +kernel
theorem zd_M_init_49 : decode zc_M_init 49 = .ok (.aload_n 0, 1) := by decide +kernel
theorem zd_M_init_50 : decode zc_M_init 50 = .ok (.bipush 36, 2) := by decide +kernel
theorem zd_M_init_52 : decode zc_M_init 52 = .ok (.newarray .int, 2) := by decide +kernel
theorem zd_M_init_54 : decode zc_M_init 54 = .ok (.putfield 29, 3) := by decide +kernel
theorem zd_M_init_57 : decode zc_M_init 57 = .ok (.aload_n 0, 1) := by decide +kernel
theorem zd_M_init_58 : decode zc_M_init 58 = .ok (.bipush 36, 2) := by decide +kernel
theorem zd_M_init_60 : decode zc_M_init 60 = .ok (.newarray .int, 2) := by decide +kernel
theorem zd_M_init_62 : decode zc_M_init 62 = .ok (.putfield 32, 3) := by decide +kernel
theorem zd_M_init_65 : decode zc_M_init 65 = .ok (.aload_n 0, 1) := by decide +kernel
theorem zd_M_init_66 : decode zc_M_init 66 = .ok (.iconst 4, 1) := by decide +kernel
theorem zd_M_init_67 : decode zc_M_init 67 = .ok (.newarray .int, 2) := by decide +kernel
theorem zd_M_init_69 : decode zc_M_init 69 = .ok (.putfield 35, 3) := by decide +kernel
theorem zd_M_init_72 : decode zc_M_init 72 = .ok (.aload_n 0, 1) := by decide +kernel
theorem zd_M_init_73 : decode zc_M_init 73 = .ok (.iconst 4, 1) := by decide +kernel
theorem zd_M_init_74 : decode zc_M_init 74 = .ok (.newarray .int, 2) := by decide +kernel
theorem zd_M_init_76 : decode zc_M_init 76 = .ok (.putfield 38, 3) := by decide +kernel
theorem zd_M_init_79 : decode zc_M_init 79 = .ok (.aload_n 0, 1) := by decide +kernel
theorem zd_M_init_80 : decode zc_M_init 80 = .ok (.iconst 4, 1) := by decide +kernel
theorem zd_M_init_81 : decode zc_M_init 81 = .ok (.newarray .int, 2) := by decide +kernel
theorem zd_M_init_83 : decode zc_M_init 83 = .ok (.putfield 41, 3) := by decide +kernel
theorem zd_M_init_86 : decode zc_M_init 86 = .ok (.aload_n 0, 1) := by decide +kernel
theorem zd_M_init_87 : decode zc_M_init 87 = .ok (.iconst 4, 1) := by decide +kernel
theorem zd_M_init_88 : decode zc_M_init 88 = .ok (.newarray .boolean, 2) := by decide +kernel
theorem zd_M_init_90 : decode zc_M_init 90 = .ok (.putfield 44, 3) := by decide +kernel
theorem zd_M_init_93 : decode zc_M_init 93 = .ok (.aload_n 0, 1) := by decide +kernel
theorem zd_M_init_94 : decode zc_M_init 94 = .ok (.iconst 4, 1) := by decide +kernel
theorem zd_M_init_95 : decode zc_M_init 95 = .ok (.newarray .int, 2) := by decide +kernel
theorem zd_M_init_97 : decode zc_M_init 97 = .ok (.putfield 47, 3) := by decide +kernel
theorem zd_M_init_100 : decode zc_M_init 100 = .ok (.aload_n 0, 1) := by decide +kernel
theorem zd_M_init_101 : decode zc_M_init 101 = .ok (.bipush 36, 2) := by decide +kernel
theorem zd_M_init_103 : decode zc_M_init 103 = .ok (.newarray .boolean, 2) := by decide +kernel
theorem zd_M_init_105 : decode zc_M_init 105 = .ok (.putfield 50, 3) := by decide +kernel
theorem zd_M_init_108 : decode zc_M_init 108 = .ok (.aload_n 0, 1) := by decide +kernel
theorem zd_M_init_109 : decode zc_M_init 109 = .ok (.iconst 3, 1) := by decide +kernel
theorem zd_M_init_110 : decode zc_M_init 110 = .ok (.newarray .int, 2) := by decide +kernel
theorem zd_M_init_112 : decode zc_M_init 112 = .ok (.putfield 53, 3) := by decide +kernel
theorem zd_M_init_115 : decode zc_M_init 115 = .ok (.aload_n 0, 1) := by decide +kernel
theorem zd_M_init_116 : decode zc_M_init 116 = .ok (.iconst 3, 1) := by decide +kernel
theorem zd_M_init_117 : decode zc_M_init 117 = .ok (.newarray .int, 2) := by decide +kernel
theorem zd_M_init_119 : decode zc_M_init 119 = .ok (.putfield 56, 3) := by decide +kernel
theorem zd_M_init_122 : decode zc_M_init 122 = .ok (.aload_n 0, 1) := by decide +kernel
theorem zd_M_init_123 : decode zc_M_init 123 = .ok (.iconst 3, 1) := by decide +kernel
theorem zd_M_init_124 : decode zc_M_init 124 = .ok (.newarray .int, 2) := by decide +kernel
theorem zd_M_init_126 : decode zc_M_init 126 = .ok (.putfield 59, 3) := by decide +kernel
theorem zd_M_init_129 : decode zc_M_init 129 = .ok (.aload_n 0, 1) := by decide +kernel
theorem zd_M_init_130 : decode zc_M_init 130 = .ok (.iconst 3, 1) := by decide +kernel
theorem zd_M_init_131 : decode zc_M_init 131 = .ok (.newarray .int, 2) := by decide +kernel
theorem zd_M_init_133 : decode zc_M_init 133 = .ok (.putfield 62, 3) := by decide +kernel
theorem zd_M_init_136 : decode zc_M_init 136 = .ok (.aload_n 0, 1) := by decide +kernel
theorem zd_M_init_137 : decode zc_M_init 137 = .ok (.bipush 27, 2) := by decide +kernel
theorem zd_M_init_139 : decode zc_M_init 139 = .ok (.newarray .boolean, 2) := by decide +kernel
theorem zd_M_init_141 : decode zc_M_init 141 = .ok (.putfield 65, 3) := by decide +kernel
theorem zd_M_init_144 : decode zc_M_init 144 = .ok (.aload_n 0, 1) := by decide +kernel
theorem zd_M_init_145 : decode zc_M_init 145 = .ok (.bipush 27, 2) := by decide +kernel
theorem zd_M_init_147 : decode zc_M_init 147 = .ok (.newarray .int, 2) := by decide +kernel
theorem zd_M_init_149 : decode zc_M_init 149 = .ok (.putfield 68, 3) := by decide +kernel
theorem zd_M_init_152 : decode zc_M_init 152 = .ok (.aload_n 0, 1) := by decide +kernel
theorem zd_M_init_153 : decode zc_M_init 153 = .ok (.bipush 27, 2) := by decide +kernel
theorem zd_M_init_155 : decode zc_M_init 155 = .ok (.newarray .int, 2) := by decide +kernel
theorem zd_M_init_157 : decode zc_M_init 157 = .ok (.putfield 71, 3) := by decide +kernel
theorem zd_M_init_160 : decode zc_M_init 160 = .ok (.aload_n 0, 1) := by decide +kernel
theorem zd_M_init_161 : decode zc_M_init 161 = .ok (.bipush 27, 2) := by decide +kernel
theorem zd_M_init_163 : decode zc_M_init 163 = .ok (.newarray .int, 2) := by decide +kernel
theorem zd_M_init_165 : decode zc_M_init 165 = .ok (.putfield 74, 3) := by decide +kernel
theorem zd_M_init_168 : decode zc_M_init 168 = .ok (.aload_n 0, 1) := by decide +kernel
theorem zd_M_init_169 : decode zc_M_init 169 = .ok (.bipush 12, 2) := by decide +kernel
theorem zd_M_init_171 : decode zc_M_init 171 = .ok (.newarray .int, 2) := by decide +kernel
theorem zd_M_init_173 : decode zc_M_init 173 = .ok (.putfield 77, 3) := by decide +kernel
theorem zd_M_init_176 : decode zc_M_init 176 = .ok (.aload_n 0, 1) := by decide +kernel
theorem zd_M_init_177 : decode zc_M_init 177 = .ok (.bipush 12, 2) := by decide +kernel
theorem zd_M_init_179 : decode zc_M_init 179 = .ok (.newarray .int, 2) := by decide +kernel
theorem zd_M_init_181 : decode zc_M_init 181 = .ok (.putfield 80, 3) := by decide +kernel
theorem zd_M_init_184 : decode zc_M_init 184 = .ok (.aload_n 0, 1) := by decide +kernel
theorem zd_M_init_185 : decode zc_M_init 185 = .ok (.bipush 12, 2) := by decide +kernel
theorem zd_M_init_187 : decode zc_M_init 187 = .ok (.newarray .int, 2) := by decide +kernel
theorem zd_M_init_189 : decode zc_M_init 189 = .ok (.putfield 83, 3) := by decide +kernel
theorem zd_M_init_192 : decode zc_M_init 192 = .ok (.aload_n 0, 1) := by decide +kernel
theorem zd_M_init_193 : decode zc_M_init 193 = .ok (.iconst 3, 1) := by decide +kernel
theorem zd_M_init_194 : decode zc_M_init 194 = .ok (.newarray .boolean, 2) := by decide +kernel
theorem zd_M_init_196 : decode zc_M_init 196 = .ok (.putfield 86, 3) := by decide +kernel
theorem zd_M_init_199 : decode zc_M_init 199 = .ok (.aload_n 0, 1) := by decide +kernel
theorem zd_M_init_200 : decode zc_M_init 200 = .ok (.bipush 12, 2) := by decide +kernel
theorem zd_M_init_202 : decode zc_M_init 202 = .ok (.newarray .int, 2) := by decide +kernel
theorem zd_M_init_204 : decode zc_M_init 204 = .ok (.putfield 89, 3) := by decide +kernel
theorem zd_M_init_207 : decode zc_M_init 207 = .ok (.aload_n 0, 1) := by decide +kernel
theorem zd_M_init_208 : decode zc_M_init 208 = .ok (.iconst 4, 1) := by decide +kernel
theorem zd_M_init_209 : decode zc_M_init 209 = .ok (.newarray .boolean, 2) := by decide +kernel
theorem zd_M_init_211 : decode zc_M_init 211 = .ok (.putfield 92, 3) := by decide +kernel
theorem zd_M_init_214 : decode zc_M_init 214 = .ok (.aload_n 0, 1) := by decide +kernel
theorem zd_M_init_215 : decode zc_M_init 215 = .ok (.iconst 4, 1) := by decide +kernel
theorem zd_M_init_216 : decode zc_M_init 216 = .ok (.newarray .int, 2) := by decide +kernel
theorem zd_M_init_218 : decode zc_M_init 218 = .ok (.putfield 95, 3) := by decide +kernel
theorem zd_M_init_221 : decode zc_M_init 221 = .ok (.aload_n 0, 1) := by decide +kernel
theorem zd_M_init_222 : decode zc_M_init 222 = .ok (.iconst 4, 1) := by decide +kernel
theorem zd_M_init_223 : decode zc_M_init 223 = .ok (.newarray .int, 2) := by decide +kernel
theorem zd_M_init_225 : decode zc_M_init 225 = .ok (.putfield 98, 3) := by decide +kernel
theorem zd_M_init_228 : decode zc_M_init 228 = .ok (.aload_n 0, 1) := by decide +kernel
theorem zd_M_init_229 : decode zc_M_init 229 = .ok (.sipush 301, 3) := by decide +kernel
theorem zd_M_init_232 : decode zc_M_init 232 = .ok (.newarray .int, 2) := by decide +kernel
theorem zd_M_init_234 : decode zc_M_init 234 = .ok (.putfield 101, 3) := by decide +kernel
theorem zd_M_init_237 : decode zc_M_init 237 = .ok (.aload_n 0, 1) := by decide +kernel
theorem zd_M_init_238 : decode zc_M_init 238 = .ok (.sipush 301, 3) := by decide +kernel
theorem zd_M_init_241 : decode zc_M_init 241 = .ok (.newarray .int, 2) := by decide +kernel
theorem zd_M_init_243 : decode zc_M_init 243 = .ok (.putfield 104, 3) := by decide +kernel
theorem zd_M_init_246 : decode zc_M_init 246 = .ok (.aload_n 0, 1) := by decide +kernel
theorem zd_M_init_247 : decode zc_M_init 247 = .ok (.sipush 301, 3) := by decide +kernel
theorem zd_M_init_250 : decode zc_M_init 250 = .ok (.newarray .int, 2) := by decide +kernel
theorem zd_M_init_252 : decode zc_M_init 252 = .ok (.putfield 107, 3) := by decide +kernel
theorem zd_M_init_255 : decode zc_M_init 255 = .ok (.aload_n 0, 1) := by decide +kernel
theorem zd_M_init_256 : decode zc_M_init 256 = .ok (.sipush 301, 3) := by decide +kernel
theorem zd_M_init_259 : decode zc_M_init 259 = .ok (.newarray .int, 2) := by decide +kernel
theorem zd_M_init_261 : decode zc_M_init 261 = .ok (.putfield 110, 3) := by decide +kernel
theorem zd_M_init_264 : decode zc_M_init 264 = .ok (.aload_n 0, 1) := by decide +kernel
theorem zd_M_init_265 : decode zc_M_init 265 = .ok (.sipush 301, 3) := by decide +kernel
theorem zd_M_init_268 : decode zc_M_init 268 = .ok (.newarray .int, 2) := by decide +kernel
theorem zd_M_init_270 : decode zc_M_init 270 = .ok (.putfield 113, 3) := by decide +kernel
theorem zd_M_init_273 : decode zc_M_init 273 = .ok (.aload_n 0, 1) := by decide +kernel
theorem zd_M_init_274 : decode zc_M_init 274 = .ok (.sipush 301, 3) := by decide +kernel
theorem zd_M_init_277 : decode zc_M_init 277 = .ok (.newarray .int, 2) := by decide +kernel
theorem zd_M_init_279 : decode zc_M_init 279 = .ok (.putfield 116, 3) := by decide +kernel
theorem zd_M_init_282 : decode zc_M_init 282 = .ok (.aload_n 0, 1) := by decide +kernel
theorem zd_M_init_283 : decode zc_M_init 283 = .ok (.sipush 301, 3) := by decide +kernel
theorem zd_M_init_286 : decode zc_M_init 286 = .ok (.newarray .int, 2) := by decide +kernel
theorem zd_M_init_288 : decode zc_M_init 288 = .ok (.putfield 119, 3) := by decide +kernel
theorem zd_M_init_291 : decode zc_M_init 291 = .ok (.aload_n 0, 1) := by decide +kernel
theorem zd_M_init_292 : decode zc_M_init 292 = .ok (.sipush 301, 3) := by decide +kernel
theorem zd_M_init_295 : decode zc_M_init 295 = .ok (.newarray .int, 2) := by decide +kernel
theorem zd_M_init_297 : decode zc_M_init 297 = .ok (.putfield 122, 3) := by decide +kernel
theorem zd_M_init_300 : decode zc_M_init 300 = .ok (.aload_n 0, 1) := by decide +kernel
theorem zd_M_init_301 : decode zc_M_init 301 = .ok (.iload_n 1, 1) := by decide +kernel
theorem zd_M_init_302 : decode zc_M_init 302 = .ok (.iconst 1, 1) := by decide +kernel
theorem zd_M_init_303 : decode zc_M_init 303 = .ok (.if_icmp .ge 7, 3) := by decide +kernel
theorem zd_M_init_306 : decode zc_M_init 306 = .ok (.iconst 1, 1) := by decide +kernel
theorem zd_M_init_307 : decode zc_M_init 307 = .ok (.goto 15, 3) := by decide +kernel
theorem zd_M_init_310 : decode zc_M_init 310 = .ok (.iload_n 1, 1) := by decide +kernel
theorem zd_M_init_311 : decode zc_M_init 311 = .ok (.bipush 9, 2) := by decide +kernel
theorem zd_M_init_313 : decode zc_M_init 313 = .ok (.if_icmp .le 8, 3) := by decide +kernel
theorem zd_M_init_316 : decode zc_M_init 316 = .ok (.bipush 9, 2) := by decide +kernel
theorem zd_M_init_318 : decode zc_M_init 318 = .ok (.goto 4, 3) := by decide +kernel
theorem zd_M_init_321 : decode zc_M_init 321 = .ok (.iload_n 1, 1) := by decide +kernel
theorem zd_M_init_322 : decode zc_M_init 322 = .ok (.putfield 125, 3) := by decide +kernel
theorem zd_M_init_325 : decode zc_M_init 325 = .ok (.return_, 1) := by decide +kernel
theorem zd_M_below_0 : decode zc_M_below 0 = .ok (.iload_n 0, 1) := by decide +kernel
theorem zd_M_below_1 : decode zc_M_below 1 = .ok (.ifCond .lt 12, 3) := by decide +kernel
theorem zd_M_below_4 : decode zc_M_below 4 = .ok (.iload_n 0, 1) := by decide +kernel
theorem zd_M_below_5 : decode zc_M_below 5 = .ok (.iload_n 1, 1) := by decide +kernel
theorem zd_M_below_6 : decode zc_M_below 6 = .ok (.if_icmp .ge 7, 3) := by decide +kernel
theorem zd_M_below_9 : decode zc_M_below 9 = .ok (.iconst 1, 1) := by decide +kernel
theorem zd_M_below_10 : decode zc_M_below 10 = .ok (.goto 4, 3) := by decide +kernel
theorem zd_M_below_13 : decode zc_M_below 13 = .ok (.iconst 0, 1) := by decide +kernel
theorem zd_M_below_14 : decode zc_M_below 14 = .ok (.ireturn, 1) := by decide +kernel
theorem zd_M_hall_0 : decode zc_M_hall 0 = .ok (.iload_n 1, 1) := by decide +kernel
theorem zd_M_hall_1 : decode zc_M_hall 1 = .ok (.iconst 4, 1) := by decide +kernel
theorem zd_M_hall_2 : decode zc_M_hall 2 = .ok (.invokestatic 129, 3) := by decide +kernel
theorem zd_M_hall_5 : decode zc_M_hall 5 = .ok (.ifCond .eq 11, 3) := by decide +kernel
theorem zd_M_hall_8 : decode zc_M_hall 8 = .ok (.iload_n 2, 1) := by decide +kernel
theorem zd_M_hall_9 : decode zc_M_hall 9 = .ok (.iconst 3, 1) := by decide +kernel
theorem zd_M_hall_10 : decode zc_M_hall 10 = .ok (.invokestatic 129, 3) := by decide +kernel
theorem zd_M_hall_13 : decode zc_M_hall 13 = .ok (.ifCond .ne 5, 3) := by decide +kernel
theorem zd_M_hall_16 : decode zc_M_hall 16 = .ok (.iconst 0, 1) := by decide +kernel
theorem zd_M_hall_17 : decode zc_M_hall 17 = .ok (.ireturn, 1) := by decide +kernel
theorem zd_M_hall_18 : decode zc_M_hall 18 = .ok (.aload_n 0, 1) := by decide +kernel
theorem zd_M_hall_19 : decode zc_M_hall 19 = .ok (.getfield 7, 3) := by decide +kernel
theorem zd_M_hall_22 : decode zc_M_hall 22 = .ok (.iload_n 1, 1) := by decide +kernel
theorem zd_M_hall_23 : decode zc_M_hall 23 = .ok (.iload_n 2, 1) := by decide +kernel
theorem zd_M_hall_24 : decode zc_M_hall 24 = .ok (.iastore, 1) := by decide +kernel
theorem zd_M_hall_25 : decode zc_M_hall 25 = .ok (.iconst 1, 1) := by decide +kernel
theorem zd_M_hall_26 : decode zc_M_hall 26 = .ok (.ireturn, 1) := by decide +kernel
theorem zd_M_send_0 : decode zc_M_send 0 = .ok (.aload_n 0, 1) := by decide +kernel
theorem zd_M_send_1 : decode zc_M_send 1 = .ok (.getfield 133, 3) := by decide +kernel
theorem zd_M_send_4 : decode zc_M_send 4 = .ok (.sipush 300, 3) := by decide +kernel
theorem zd_M_send_7 : decode zc_M_send 7 = .ok (.if_icmp .ne 4, 3) := by decide +kernel
theorem zd_M_send_10 : decode zc_M_send 10 = .ok (.return_, 1) := by decide +kernel
theorem zd_M_send_11 : decode zc_M_send 11 = .ok (.aload_n 0, 1) := by decide +kernel
theorem zd_M_send_12 : decode zc_M_send 12 = .ok (.getfield 101, 3) := by decide +kernel
theorem zd_M_send_15 : decode zc_M_send 15 = .ok (.aload_n 0, 1) := by decide +kernel
theorem zd_M_send_16 : decode zc_M_send 16 = .ok (.getfield 133, 3) := by decide +kernel
theorem zd_M_send_19 : decode zc_M_send 19 = .ok (.iload_n 1, 1) := by decide +kernel
theorem zd_M_send_20 : decode zc_M_send 20 = .ok (.iastore, 1) := by decide +kernel
theorem zd_M_send_21 : decode zc_M_send 21 = .ok (.aload_n 0, 1) := by decide +kernel
theorem zd_M_send_22 : decode zc_M_send 22 = .ok (.getfield 104, 3) := by decide +kernel
theorem zd_M_send_25 : decode zc_M_send 25 = .ok (.aload_n 0, 1) := by decide +kernel
theorem zd_M_send_26 : decode zc_M_send 26 = .ok (.getfield 133, 3) := by decide +kernel
theorem zd_M_send_29 : decode zc_M_send 29 = .ok (.iload_n 2, 1) := by decide +kernel
theorem zd_M_send_30 : decode zc_M_send 30 = .ok (.iastore, 1) := by decide +kernel
theorem zd_M_send_31 : decode zc_M_send 31 = .ok (.aload_n 0, 1) := by decide +kernel
theorem zd_M_send_32 : decode zc_M_send 32 = .ok (.getfield 107, 3) := by decide +kernel
theorem zd_M_send_35 : decode zc_M_send 35 = .ok (.aload_n 0, 1) := by decide +kernel
theorem zd_M_send_36 : decode zc_M_send 36 = .ok (.getfield 133, 3) := by decide +kernel
theorem zd_M_send_39 : decode zc_M_send 39 = .ok (.iload_n 3, 1) := by decide +kernel
theorem zd_M_send_40 : decode zc_M_send 40 = .ok (.iastore, 1) := by decide +kernel
theorem zd_M_send_41 : decode zc_M_send 41 = .ok (.aload_n 0, 1) := by decide +kernel
theorem zd_M_send_42 : decode zc_M_send 42 = .ok (.getfield 110, 3) := by decide +kernel
theorem zd_M_send_45 : decode zc_M_send 45 = .ok (.aload_n 0, 1) := by decide +kernel
theorem zd_M_send_46 : decode zc_M_send 46 = .ok (.getfield 133, 3) := by decide +kernel
theorem zd_M_send_49 : decode zc_M_send 49 = .ok (.iload 4, 2) := by decide +kernel
theorem zd_M_send_51 : decode zc_M_send 51 = .ok (.iastore, 1) := by decide +kernel
theorem zd_M_send_52 : decode zc_M_send 52 = .ok (.aload_n 0, 1) := by decide +kernel
theorem zd_M_send_53 : decode zc_M_send 53 = .ok (.getfield 113, 3) := by decide +kernel
theorem zd_M_send_56 : decode zc_M_send 56 = .ok (.aload_n 0, 1) := by decide +kernel
theorem zd_M_send_57 : decode zc_M_send 57 = .ok (.getfield 133, 3) := by decide +kernel
theorem zd_M_send_60 : decode zc_M_send 60 = .ok (.iload 5, 2) := by decide +kernel
theorem zd_M_send_62 : decode zc_M_send 62 = .ok (.iastore, 1) := by decide +kernel
theorem zd_M_send_63 : decode zc_M_send 63 = .ok (.aload_n 0, 1) := by decide +kernel
theorem zd_M_send_64 : decode zc_M_send 64 = .ok (.getfield 116, 3) := by decide +kernel
theorem zd_M_send_67 : decode zc_M_send 67 = .ok (.aload_n 0, 1) := by decide +kernel
theorem zd_M_send_68 : decode zc_M_send 68 = .ok (.getfield 133, 3) := by decide +kernel
theorem zd_M_send_71 : decode zc_M_send 71 = .ok (.iload 5, 2) := by decide +kernel
theorem zd_M_send_73 : decode zc_M_send 73 = .ok (.iastore, 1) := by decide +kernel
theorem zd_M_send_74 : decode zc_M_send 74 = .ok (.aload_n 0, 1) := by decide +kernel
theorem zd_M_send_75 : decode zc_M_send 75 = .ok (.getfield 119, 3) := by decide +kernel
theorem zd_M_send_78 : decode zc_M_send 78 = .ok (.aload_n 0, 1) := by decide +kernel
theorem zd_M_send_79 : decode zc_M_send 79 = .ok (.getfield 133, 3) := by decide +kernel
theorem zd_M_send_82 : decode zc_M_send 82 = .ok (.iload 6, 2) := by decide +kernel
theorem zd_M_send_84 : decode zc_M_send 84 = .ok (.iastore, 1) := by decide +kernel
theorem zd_M_send_85 : decode zc_M_send 85 = .ok (.aload_n 0, 1) := by decide +kernel
theorem zd_M_send_86 : decode zc_M_send 86 = .ok (.getfield 122, 3) := by decide +kernel
theorem zd_M_send_89 : decode zc_M_send 89 = .ok (.aload_n 0, 1) := by decide +kernel
theorem zd_M_send_90 : decode zc_M_send 90 = .ok (.getfield 133, 3) := by decide +kernel
theorem zd_M_send_93 : decode zc_M_send 93 = .ok (.iload 7, 2) := by decide +kernel
theorem zd_M_send_95 : decode zc_M_send 95 = .ok (.iastore, 1) := by decide +kernel
theorem zd_M_send_96 : decode zc_M_send 96 = .ok (.aload_n 0, 1) := by decide +kernel
theorem zd_M_send_97 : decode zc_M_send 97 = .ok (.dup, 1) := by decide +kernel
theorem zd_M_send_98 : decode zc_M_send 98 = .ok (.getfield 133, 3) := by decide +kernel
theorem zd_M_send_101 : decode zc_M_send 101 = .ok (.iconst 1, 1) := by decide +kernel
theorem zd_M_send_102 : decode zc_M_send 102 = .ok (.iadd, 1) := by decide +kernel
theorem zd_M_send_103 : decode zc_M_send 103 = .ok (.putfield 133, 3) := by decide +kernel
theorem zd_M_send_106 : decode zc_M_send 106 = .ok (.return_, 1) := by decide +kernel
theorem zd_M_sendTell_0 : decode zc_M_sendTell 0 = .ok (.aload_n 0, 1) := by decide +kernel
theorem zd_M_sendTell_1 : decode zc_M_sendTell 1 = .ok (.getfield 133, 3) := by decide +kernel
theorem zd_M_sendTell_4 : decode zc_M_sendTell 4 = .ok (.istore 8, 2) := by decide +kernel
theorem zd_M_sendTell_6 : decode zc_M_sendTell 6 = .ok (.aload_n 0, 1) := by decide +kernel
theorem zd_M_sendTell_7 : decode zc_M_sendTell 7 = .ok (.iconst 4, 1) := by decide +kernel
theorem zd_M_sendTell_8 : decode zc_M_sendTell 8 = .ok (.iload_n 1, 1) := by decide +kernel
theorem zd_M_sendTell_9 : decode zc_M_sendTell 9 = .ok (.iload_n 2, 1) := by decide +kernel
theorem zd_M_sendTell_10 : decode zc_M_sendTell 10 = .ok (.iload_n 3, 1) := by decide +kernel
theorem zd_M_sendTell_11 : decode zc_M_sendTell 11 = .ok (.iload 4, 2) := by decide +kernel
theorem zd_M_sendTell_13 : decode zc_M_sendTell 13 = .ok (.iload 6, 2) := by decide +kernel
theorem zd_M_sendTell_15 : decode zc_M_sendTell 15 = .ok (.iload 7, 2) := by decide +kernel
theorem zd_M_sendTell_17 : decode zc_M_sendTell 17 = .ok (.invokevirtual 136, 3) := by decide +kernel
theorem zd_M_sendTell_20 : decode zc_M_sendTell 20 = .ok (.aload_n 0, 1) := by decide +kernel
theorem zd_M_sendTell_21 : decode zc_M_sendTell 21 = .ok (.getfield 133, 3) := by decide +kernel
theorem zd_M_sendTell_24 : decode zc_M_sendTell 24 = .ok (.iload 8, 2) := by decide +kernel
theorem zd_M_sendTell_26 : decode zc_M_sendTell 26 = .ok (.if_icmp .le 12, 3) := by decide +kernel
theorem zd_M_sendTell_29 : decode zc_M_sendTell 29 = .ok (.aload_n 0, 1) := by decide +kernel
theorem zd_M_sendTell_30 : decode zc_M_sendTell 30 = .ok (.getfield 116, 3) := by decide +kernel
theorem zd_M_sendTell_33 : decode zc_M_sendTell 33 = .ok (.iload 8, 2) := by decide +kernel
theorem zd_M_sendTell_35 : decode zc_M_sendTell 35 = .ok (.iload 5, 2) := by decide +kernel
theorem zd_M_sendTell_37 : decode zc_M_sendTell 37 = .ok (.iastore, 1) := by decide +kernel
theorem zd_M_sendTell_38 : decode zc_M_sendTell 38 = .ok (.return_, 1) := by decide +kernel
theorem zd_M_copyLetter_0 : decode zc_M_copyLetter 0 = .ok (.aload_n 0, 1) := by decide +kernel
theorem zd_M_copyLetter_1 : decode zc_M_copyLetter 1 = .ok (.getfield 101, 3) := by decide +kernel
theorem zd_M_copyLetter_4 : decode zc_M_copyLetter 4 = .ok (.iload_n 2, 1) := by decide +kernel
theorem zd_M_copyLetter_5 : decode zc_M_copyLetter 5 = .ok (.aload_n 0, 1) := by decide +kernel
theorem zd_M_copyLetter_6 : decode zc_M_copyLetter 6 = .ok (.getfield 101, 3) := by decide +kernel
theorem zd_M_copyLetter_9 : decode zc_M_copyLetter 9 = .ok (.iload_n 1, 1) := by decide +kernel
theorem zd_M_copyLetter_10 : decode zc_M_copyLetter 10 = .ok (.iaload, 1) := by decide +kernel
theorem zd_M_copyLetter_11 : decode zc_M_copyLetter 11 = .ok (.iastore, 1) := by decide +kernel
theorem zd_M_copyLetter_12 : decode zc_M_copyLetter 12 = .ok (.aload_n 0, 1) := by decide +kernel
theorem zd_M_copyLetter_13 : decode zc_M_copyLetter 13 = .ok (.getfield 104, 3) := by decide +kernel
theorem zd_M_copyLetter_16 : decode zc_M_copyLetter 16 = .ok (.iload_n 2, 1) := by decide +kernel
theorem zd_M_copyLetter_17 : decode zc_M_copyLetter 17 = .ok (.aload_n 0, 1) := by decide +kernel
theorem zd_M_copyLetter_18 : decode zc_M_copyLetter 18 = .ok (.getfield 104, 3) := by decide +kernel
theorem zd_M_copyLetter_21 : decode zc_M_copyLetter 21 = .ok (.iload_n 1, 1) := by decide +kernel
theorem zd_M_copyLetter_22 : decode zc_M_copyLetter 22 = .ok (.iaload, 1) := by decide +kernel
theorem zd_M_copyLetter_23 : decode zc_M_copyLetter 23 = .ok (.iastore, 1) := by decide +kernel
theorem zd_M_copyLetter_24 : decode zc_M_copyLetter 24 = .ok (.aload_n 0, 1) := by decide +kernel
theorem zd_M_copyLetter_25 : decode zc_M_copyLetter 25 = .ok (.getfield 107, 3) := by decide +kernel
theorem zd_M_copyLetter_28 : decode zc_M_copyLetter 28 = .ok (.iload_n 2, 1) := by decide +kernel
theorem zd_M_copyLetter_29 : decode zc_M_copyLetter 29 = .ok (.aload_n 0, 1) := by decide +kernel
theorem zd_M_copyLetter_30 : decode zc_M_copyLetter 30 = .ok (.getfield 107, 3) := by decide +kernel
theorem zd_M_copyLetter_33 : decode zc_M_copyLetter 33 = .ok (.iload_n 1, 1) := by decide +kernel
theorem zd_M_copyLetter_34 : decode zc_M_copyLetter 34 = .ok (.iaload, 1) := by decide +kernel
theorem zd_M_copyLetter_35 : decode zc_M_copyLetter 35 = .ok (.iastore, 1) := by decide +kernel
theorem zd_M_copyLetter_36 : decode zc_M_copyLetter 36 = .ok (.aload_n 0, 1) := by decide +kernel
theorem zd_M_copyLetter_37 : decode zc_M_copyLetter 37 = .ok (.getfield 110, 3) := by decide +kernel
theorem zd_M_copyLetter_40 : decode zc_M_copyLetter 40 = .ok (.iload_n 2, 1) := by decide +kernel
theorem zd_M_copyLetter_41 : decode zc_M_copyLetter 41 = .ok (.aload_n 0, 1) := by decide +kernel
theorem zd_M_copyLetter_42 : decode zc_M_copyLetter 42 = .ok (.getfield 110, 3) := by decide +kernel
theorem zd_M_copyLetter_45 : decode zc_M_copyLetter 45 = .ok (.iload_n 1, 1) := by decide +kernel
theorem zd_M_copyLetter_46 : decode zc_M_copyLetter 46 = .ok (.iaload, 1) := by decide +kernel
theorem zd_M_copyLetter_47 : decode zc_M_copyLetter 47 = .ok (.iastore, 1) := by decide +kernel
theorem zd_M_copyLetter_48 : decode zc_M_copyLetter 48 = .ok (.aload_n 0, 1) := by decide +kernel
theorem zd_M_copyLetter_49 : decode zc_M_copyLetter 49 = .ok (.getfield 113, 3) := by decide +kernel
theorem zd_M_copyLetter_52 : decode zc_M_copyLetter 52 = .ok (.iload_n 2, 1) := by decide +kernel
theorem zd_M_copyLetter_53 : decode zc_M_copyLetter 53 = .ok (.aload_n 0, 1) := by decide +kernel
theorem zd_M_copyLetter_54 : decode zc_M_copyLetter 54 = .ok (.getfield 113, 3) := by decide +kernel
theorem zd_M_copyLetter_57 : decode zc_M_copyLetter 57 = .ok (.iload_n 1, 1) := by decide +kernel
theorem zd_M_copyLetter_58 : decode zc_M_copyLetter 58 = .ok (.iaload, 1) := by decide +kernel
theorem zd_M_copyLetter_59 : decode zc_M_copyLetter 59 = .ok (.iastore, 1) := by decide +kernel
theorem zd_M_copyLetter_60 : decode zc_M_copyLetter 60 = .ok (.aload_n 0, 1) := by decide +kernel
theorem zd_M_copyLetter_61 : decode zc_M_copyLetter 61 = .ok (.getfield 116, 3) := by decide +kernel
theorem zd_M_copyLetter_64 : decode zc_M_copyLetter 64 = .ok (.iload_n 2, 1) := by decide +kernel
theorem zd_M_copyLetter_65 : decode zc_M_copyLetter 65 = .ok (.aload_n 0, 1) := by decide +kernel
theorem zd_M_copyLetter_66 : decode zc_M_copyLetter 66 = .ok (.getfield 116, 3) := by decide +kernel
theorem zd_M_copyLetter_69 : decode zc_M_copyLetter 69 = .ok (.iload_n 1, 1) := by decide +kernel
theorem zd_M_copyLetter_70 : decode zc_M_copyLetter 70 = .ok (.iaload, 1) := by decide +kernel
theorem zd_M_copyLetter_71 : decode zc_M_copyLetter 71 = .ok (.iastore, 1) := by decide +kernel
theorem zd_M_copyLetter_72 : decode zc_M_copyLetter 72 = .ok (.aload_n 0, 1) := by decide +kernel
theorem zd_M_copyLetter_73 : decode zc_M_copyLetter 73 = .ok (.getfield 119, 3) := by decide +kernel
theorem zd_M_copyLetter_76 : decode zc_M_copyLetter 76 = .ok (.iload_n 2, 1) := by decide +kernel
theorem zd_M_copyLetter_77 : decode zc_M_copyLetter 77 = .ok (.aload_n 0, 1) := by decide +kernel
theorem zd_M_copyLetter_78 : decode zc_M_copyLetter 78 = .ok (.getfield 119, 3) := by decide +kernel
theorem zd_M_copyLetter_81 : decode zc_M_copyLetter 81 = .ok (.iload_n 1, 1) := by decide +kernel
theorem zd_M_copyLetter_82 : decode zc_M_copyLetter 82 = .ok (.iaload, 1) := by decide +kernel
theorem zd_M_copyLetter_83 : decode zc_M_copyLetter 83 = .ok (.iastore, 1) := by decide +kernel
theorem zd_M_copyLetter_84 : decode zc_M_copyLetter 84 = .ok (.aload_n 0, 1) := by decide +kernel
theorem zd_M_copyLetter_85 : decode zc_M_copyLetter 85 = .ok (.getfield 122, 3) := by decide +kernel
theorem zd_M_copyLetter_88 : decode zc_M_copyLetter 88 = .ok (.iload_n 2, 1) := by decide +kernel
theorem zd_M_copyLetter_89 : decode zc_M_copyLetter 89 = .ok (.aload_n 0, 1) := by decide +kernel
theorem zd_M_copyLetter_90 : decode zc_M_copyLetter 90 = .ok (.getfield 122, 3) := by decide +kernel
theorem zd_M_copyLetter_93 : decode zc_M_copyLetter 93 = .ok (.iload_n 1, 1) := by decide +kernel
theorem zd_M_copyLetter_94 : decode zc_M_copyLetter 94 = .ok (.iaload, 1) := by decide +kernel
theorem zd_M_copyLetter_95 : decode zc_M_copyLetter 95 = .ok (.iastore, 1) := by decide +kernel
theorem zd_M_copyLetter_96 : decode zc_M_copyLetter 96 = .ok (.return_, 1) := by decide +kernel
theorem zd_M_takeOut_0 : decode zc_M_takeOut 0 = .ok (.iload_n 1, 1) := by decide +kernel
theorem zd_M_takeOut_1 : decode zc_M_takeOut 1 = .ok (.aload_n 0, 1) := by decide +kernel
theorem zd_M_takeOut_2 : decode zc_M_takeOut 2 = .ok (.getfield 133, 3) := by decide +kernel
theorem zd_M_takeOut_5 : decode zc_M_takeOut 5 = .ok (.invokestatic 129, 3) := by decide +kernel
theorem zd_M_takeOut_8 : decode zc_M_takeOut 8 = .ok (.ifCond .ne 5, 3) := by decide +kernel
theorem zd_M_takeOut_11 : decode zc_M_takeOut 11 = .ok (.iconst 0, 1) := by decide +kernel
theorem zd_M_takeOut_12 : decode zc_M_takeOut 12 = .ok (.ireturn, 1) := by decide +kernel
theorem zd_M_takeOut_13 : decode zc_M_takeOut 13 = .ok (.aload_n 0, 1) := by decide +kernel
theorem zd_M_takeOut_14 : decode zc_M_takeOut 14 = .ok (.iload_n 1, 1) := by decide +kernel
theorem zd_M_takeOut_15 : decode zc_M_takeOut 15 = .ok (.sipush 300, 3) := by decide +kernel
theorem zd_M_takeOut_18 : decode zc_M_takeOut 18 = .ok (.invokevirtual 140, 3) := by decide +kernel
theorem zd_M_takeOut_21 : decode zc_M_takeOut 21 = .ok (.aload_n 0, 1) := by decide +kernel
theorem zd_M_takeOut_22 : decode zc_M_takeOut 22 = .ok (.dup, 1) := by decide +kernel
theorem zd_M_takeOut_23 : decode zc_M_takeOut 23 = .ok (.getfield 133, 3) := by decide +kernel
theorem zd_M_takeOut_26 : decode zc_M_takeOut 26 = .ok (.iconst 1, 1) := by decide +kernel
theorem zd_M_takeOut_27 : decode zc_M_takeOut 27 = .ok (.isub, 1) := by decide +kernel
theorem zd_M_takeOut_28 : decode zc_M_takeOut 28 = .ok (.putfield 133, 3) := by decide +kernel
theorem zd_M_takeOut_31 : decode zc_M_takeOut 31 = .ok (.iload_n 1, 1) := by decide +kernel
theorem zd_M_takeOut_32 : decode zc_M_takeOut 32 = .ok (.istore_n 2, 1) := by decide +kernel
theorem zd_M_takeOut_33 : decode zc_M_takeOut 33 = .ok (.iload_n 2, 1) := by decide +kernel
theorem zd_M_takeOut_34 : decode zc_M_takeOut 34 = .ok (.aload_n 0, 1) := by decide +kernel
theorem zd_M_takeOut_35 : decode zc_M_takeOut 35 = .ok (.getfield 133, 3) := by decide +kernel
theorem zd_M_takeOut_38 : decode zc_M_takeOut 38 = .ok (.if_icmp .ge 17, 3) := by decide +kernel
theorem zd_M_takeOut_41 : decode zc_M_takeOut 41 = .ok (.aload_n 0, 1) := by decide +kernel
theorem zd_M_takeOut_42 : decode zc_M_takeOut 42 = .ok (.iload_n 2, 1) := by decide +kernel
theorem zd_M_takeOut_43 : decode zc_M_takeOut 43 = .ok (.iconst 1, 1) := by decide +kernel
theorem zd_M_takeOut_44 : decode zc_M_takeOut 44 = .ok (.iadd, 1) := by decide +kernel
theorem zd_M_takeOut_45 : decode zc_M_takeOut 45 = .ok (.iload_n 2, 1) := by decide +kernel
theorem zd_M_takeOut_46 : decode zc_M_takeOut 46 = .ok (.invokevirtual 140, 3) := by decide +kernel
theorem zd_M_takeOut_49 : decode zc_M_takeOut 49 = .ok (.iinc 2 1, 3) := by decide +kernel
theorem zd_M_takeOut_52 : decode zc_M_takeOut 52 = .ok (.goto (-19), 3) := by decide +kernel
theorem zd_M_takeOut_55 : decode zc_M_takeOut 55 = .ok (.iconst 1, 1) := by decide +kernel
theorem zd_M_takeOut_56 : decode zc_M_takeOut 56 = .ok (.ireturn, 1) := by decide +kernel
theorem zd_M_letters_0 : decode zc_M_letters 0 = .ok (.aload_n 0, 1) := by decide +kernel
theorem zd_M_letters_1 : decode zc_M_letters 1 = .ok (.getfield 133, 3) := by decide +kernel
theorem zd_M_letters_4 : decode zc_M_letters 4 = .ok (.ireturn, 1) := by decide +kernel
