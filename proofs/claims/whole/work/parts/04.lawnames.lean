/-! names and decode rows of the law and its helpers; written by wip/whole/gen/law.py -/
abbrev c_LA_feed : ByteArray := method_3_code
def y_LA_feed : MethodName := ⟨R_LA, "feed", "(LFrameWalk;I[J)I"⟩
theorem d_LA_feed_0 : decode c_LA_feed 0 = .ok (.aload_n 2, 1) := by decide +kernel
theorem d_LA_feed_1 : decode c_LA_feed 1 = .ok (.iconst 0, 1) := by decide +kernel
theorem d_LA_feed_2 : decode c_LA_feed 2 = .ok (.aload_n 0, 1) := by decide +kernel
theorem d_LA_feed_3 : decode c_LA_feed 3 = .ok (.iload_n 1, 1) := by decide +kernel
theorem d_LA_feed_4 : decode c_LA_feed 4 = .ok (.invokevirtual 7, 3) := by decide +kernel
theorem d_LA_feed_7 : decode c_LA_feed 7 = .ok (.i2l, 1) := by decide +kernel
theorem d_LA_feed_8 : decode c_LA_feed 8 = .ok (.lastore, 1) := by decide +kernel
theorem d_LA_feed_9 : decode c_LA_feed 9 = .ok (.goto 6, 3) := by decide +kernel
theorem d_LA_feed_12 : decode c_LA_feed 12 = .ok (.astore_n 3, 1) := by decide +kernel
theorem d_LA_feed_13 : decode c_LA_feed 13 = .ok (.iconst 1, 1) := by decide +kernel
theorem d_LA_feed_14 : decode c_LA_feed 14 = .ok (.ireturn, 1) := by decide +kernel
theorem d_LA_feed_15 : decode c_LA_feed 15 = .ok (.iconst 0, 1) := by decide +kernel
theorem d_LA_feed_16 : decode c_LA_feed 16 = .ok (.ireturn, 1) := by decide +kernel
abbrev c_LA_method : ByteArray := method_4_code
def y_LA_method : MethodName := ⟨R_LA, "method", "(LFrameWalk;IIIIZ[J)I"⟩
theorem d_LA_method_0 : decode c_LA_method 0 = .ok (.aload 6, 2) := by decide +kernel
theorem d_LA_method_2 : decode c_LA_method 2 = .ok (.iconst 0, 1) := by decide +kernel
theorem d_LA_method_3 : decode c_LA_method 3 = .ok (.aload_n 0, 1) := by decide +kernel
theorem d_LA_method_4 : decode c_LA_method 4 = .ok (.iload_n 1, 1) := by decide +kernel
theorem d_LA_method_5 : decode c_LA_method 5 = .ok (.iload_n 2, 1) := by decide +kernel
theorem d_LA_method_6 : decode c_LA_method 6 = .ok (.iload_n 3, 1) := by decide +kernel
theorem d_LA_method_7 : decode c_LA_method 7 = .ok (.iload 4, 2) := by decide +kernel
theorem d_LA_method_9 : decode c_LA_method 9 = .ok (.iload 5, 2) := by decide +kernel
theorem d_LA_method_11 : decode c_LA_method 11 = .ok (.invokevirtual 15, 3) := by decide +kernel
theorem d_LA_method_14 : decode c_LA_method 14 = .ok (.i2l, 1) := by decide +kernel
theorem d_LA_method_15 : decode c_LA_method 15 = .ok (.lastore, 1) := by decide +kernel
theorem d_LA_method_16 : decode c_LA_method 16 = .ok (.goto 11, 3) := by decide +kernel
theorem d_LA_method_19 : decode c_LA_method 19 = .ok (.astore 7, 2) := by decide +kernel
theorem d_LA_method_21 : decode c_LA_method 21 = .ok (.iconst 1, 1) := by decide +kernel
theorem d_LA_method_22 : decode c_LA_method 22 = .ok (.ireturn, 1) := by decide +kernel
theorem d_LA_method_23 : decode c_LA_method 23 = .ok (.astore 7, 2) := by decide +kernel
theorem d_LA_method_25 : decode c_LA_method 25 = .ok (.iconst 2, 1) := by decide +kernel
theorem d_LA_method_26 : decode c_LA_method 26 = .ok (.ireturn, 1) := by decide +kernel
theorem d_LA_method_27 : decode c_LA_method 27 = .ok (.iconst 0, 1) := by decide +kernel
theorem d_LA_method_28 : decode c_LA_method 28 = .ok (.ireturn, 1) := by decide +kernel
abbrev c_LA_verify : ByteArray := method_5_code
def y_LA_verify : MethodName := ⟨R_LA, "verify", "(LFrameWalk;[J)I"⟩
theorem d_LA_verify_0 : decode c_LA_verify 0 = .ok (.aload_n 1, 1) := by decide +kernel
theorem d_LA_verify_1 : decode c_LA_verify 1 = .ok (.iconst 0, 1) := by decide +kernel
theorem d_LA_verify_2 : decode c_LA_verify 2 = .ok (.aload_n 0, 1) := by decide +kernel
theorem d_LA_verify_3 : decode c_LA_verify 3 = .ok (.invokevirtual 21, 3) := by decide +kernel
theorem d_LA_verify_6 : decode c_LA_verify 6 = .ok (.i2l, 1) := by decide +kernel
theorem d_LA_verify_7 : decode c_LA_verify 7 = .ok (.lastore, 1) := by decide +kernel
theorem d_LA_verify_8 : decode c_LA_verify 8 = .ok (.goto 9, 3) := by decide +kernel
theorem d_LA_verify_11 : decode c_LA_verify 11 = .ok (.astore_n 2, 1) := by decide +kernel
theorem d_LA_verify_12 : decode c_LA_verify 12 = .ok (.iconst 1, 1) := by decide +kernel
theorem d_LA_verify_13 : decode c_LA_verify 13 = .ok (.ireturn, 1) := by decide +kernel
theorem d_LA_verify_14 : decode c_LA_verify 14 = .ok (.astore_n 2, 1) := by decide +kernel
theorem d_LA_verify_15 : decode c_LA_verify 15 = .ok (.iconst 2, 1) := by decide +kernel
theorem d_LA_verify_16 : decode c_LA_verify 16 = .ok (.ireturn, 1) := by decide +kernel
theorem d_LA_verify_17 : decode c_LA_verify 17 = .ok (.iconst 0, 1) := by decide +kernel
theorem d_LA_verify_18 : decode c_LA_verify 18 = .ok (.ireturn, 1) := by decide +kernel
abbrev c_LA_start : ByteArray := method_6_code
def y_LA_start : MethodName := ⟨R_LA, "start", "(LFrameWalk;I[J)I"⟩
theorem d_LA_start_0 : decode c_LA_start 0 = .ok (.aload_n 2, 1) := by decide +kernel
theorem d_LA_start_1 : decode c_LA_start 1 = .ok (.iconst 0, 1) := by decide +kernel
theorem d_LA_start_2 : decode c_LA_start 2 = .ok (.aload_n 0, 1) := by decide +kernel
theorem d_LA_start_3 : decode c_LA_start 3 = .ok (.iload_n 1, 1) := by decide +kernel
theorem d_LA_start_4 : decode c_LA_start 4 = .ok (.invokevirtual 25, 3) := by decide +kernel
theorem d_LA_start_7 : decode c_LA_start 7 = .ok (.ifCond .eq 7, 3) := by decide +kernel
theorem d_LA_start_10 : decode c_LA_start 10 = .ok (.lconst 1, 1) := by decide +kernel
theorem d_LA_start_11 : decode c_LA_start 11 = .ok (.goto 4, 3) := by decide +kernel
theorem d_LA_start_14 : decode c_LA_start 14 = .ok (.lconst 0, 1) := by decide +kernel
theorem d_LA_start_15 : decode c_LA_start 15 = .ok (.lastore, 1) := by decide +kernel
theorem d_LA_start_16 : decode c_LA_start 16 = .ok (.goto 9, 3) := by decide +kernel
theorem d_LA_start_19 : decode c_LA_start 19 = .ok (.astore_n 3, 1) := by decide +kernel
theorem d_LA_start_20 : decode c_LA_start 20 = .ok (.iconst 1, 1) := by decide +kernel
theorem d_LA_start_21 : decode c_LA_start 21 = .ok (.ireturn, 1) := by decide +kernel
theorem d_LA_start_22 : decode c_LA_start 22 = .ok (.astore_n 3, 1) := by decide +kernel
theorem d_LA_start_23 : decode c_LA_start 23 = .ok (.iconst 2, 1) := by decide +kernel
theorem d_LA_start_24 : decode c_LA_start 24 = .ok (.ireturn, 1) := by decide +kernel
theorem d_LA_start_25 : decode c_LA_start 25 = .ok (.iconst 0, 1) := by decide +kernel
theorem d_LA_start_26 : decode c_LA_start 26 = .ok (.ireturn, 1) := by decide +kernel
abbrev c_LA_run : ByteArray := method_7_code
def y_LA_run : MethodName := ⟨R_LA, "run", "(LFrameWalk;I[J)I"⟩
theorem d_LA_run_0 : decode c_LA_run 0 = .ok (.aload_n 2, 1) := by decide +kernel
theorem d_LA_run_1 : decode c_LA_run 1 = .ok (.iconst 0, 1) := by decide +kernel
theorem d_LA_run_2 : decode c_LA_run 2 = .ok (.aload_n 0, 1) := by decide +kernel
theorem d_LA_run_3 : decode c_LA_run 3 = .ok (.iload_n 1, 1) := by decide +kernel
theorem d_LA_run_4 : decode c_LA_run 4 = .ok (.invokevirtual 29, 3) := by decide +kernel
theorem d_LA_run_7 : decode c_LA_run 7 = .ok (.i2l, 1) := by decide +kernel
theorem d_LA_run_8 : decode c_LA_run 8 = .ok (.lastore, 1) := by decide +kernel
theorem d_LA_run_9 : decode c_LA_run 9 = .ok (.goto 6, 3) := by decide +kernel
theorem d_LA_run_12 : decode c_LA_run 12 = .ok (.astore_n 3, 1) := by decide +kernel
theorem d_LA_run_13 : decode c_LA_run 13 = .ok (.iconst 1, 1) := by decide +kernel
theorem d_LA_run_14 : decode c_LA_run 14 = .ok (.ireturn, 1) := by decide +kernel
theorem d_LA_run_15 : decode c_LA_run 15 = .ok (.iconst 0, 1) := by decide +kernel
theorem d_LA_run_16 : decode c_LA_run 16 = .ok (.ireturn, 1) := by decide +kernel
theorem d_law_0 : decode code 0 = .ok (.new 8, 3) := by decide +kernel
theorem d_law_3 : decode code 3 = .ok (.dup, 1) := by decide +kernel
theorem d_law_4 : decode code 4 = .ok (.invokespecial 32, 3) := by decide +kernel
theorem d_law_7 : decode code 7 = .ok (.astore_n 1, 1) := by decide +kernel
theorem d_law_8 : decode code 8 = .ok (.new 33, 3) := by decide +kernel
theorem d_law_11 : decode code 11 = .ok (.dup, 1) := by decide +kernel
theorem d_law_12 : decode code 12 = .ok (.invokespecial 35, 3) := by decide +kernel
theorem d_law_15 : decode code 15 = .ok (.astore_n 2, 1) := by decide +kernel
theorem d_law_16 : decode code 16 = .ok (.iconst 1, 1) := by decide +kernel
theorem d_law_17 : decode code 17 = .ok (.newarray .long, 2) := by decide +kernel
theorem d_law_19 : decode code 19 = .ok (.astore_n 3, 1) := by decide +kernel
theorem d_law_20 : decode code 20 = .ok (.iconst 0, 1) := by decide +kernel
theorem d_law_21 : decode code 21 = .ok (.istore 4, 2) := by decide +kernel
theorem d_law_23 : decode code 23 = .ok (.iload 4, 2) := by decide +kernel
theorem d_law_25 : decode code 25 = .ok (.aload_n 0, 1) := by decide +kernel
theorem d_law_26 : decode code 26 = .ok (.arraylength, 1) := by decide +kernel
theorem d_law_27 : decode code 27 = .ok (.bipush 6, 2) := by decide +kernel
theorem d_law_29 : decode code 29 = .ok (.isub, 1) := by decide +kernel
theorem d_law_30 : decode code 30 = .ok (.if_icmp .gt 778, 3) := by decide +kernel
theorem d_law_33 : decode code 33 = .ok (.aload_n 0, 1) := by decide +kernel
theorem d_law_34 : decode code 34 = .ok (.iload 4, 2) := by decide +kernel
theorem d_law_36 : decode code 36 = .ok (.iaload, 1) := by decide +kernel
theorem d_law_37 : decode code 37 = .ok (.bipush 31, 2) := by decide +kernel
theorem d_law_39 : decode code 39 = .ok (.iand, 1) := by decide +kernel
theorem d_law_40 : decode code 40 = .ok (.tableswitch 762 0 17 #[88, 144, 264, 325, 369, 382, 393, 418, 481, 537, 550, 563, 576, 613, 638, 663, 688, 713], 88) := by decide +kernel
theorem d_law_128 : decode code 128 = .ok (.aload_n 1, 1) := by decide +kernel
theorem d_law_129 : decode code 129 = .ok (.aload_n 0, 1) := by decide +kernel
theorem d_law_130 : decode code 130 = .ok (.iload 4, 2) := by decide +kernel
theorem d_law_132 : decode code 132 = .ok (.iconst 1, 1) := by decide +kernel
theorem d_law_133 : decode code 133 = .ok (.iadd, 1) := by decide +kernel
theorem d_law_134 : decode code 134 = .ok (.iaload, 1) := by decide +kernel
theorem d_law_135 : decode code 135 = .ok (.aload_n 3, 1) := by decide +kernel
theorem d_law_136 : decode code 136 = .ok (.invokestatic 36, 3) := by decide +kernel
theorem d_law_139 : decode code 139 = .ok (.istore 5, 2) := by decide +kernel
theorem d_law_141 : decode code 141 = .ok (.aload_n 2, 1) := by decide +kernel
theorem d_law_142 : decode code 142 = .ok (.aload_n 0, 1) := by decide +kernel
theorem d_law_143 : decode code 143 = .ok (.iload 4, 2) := by decide +kernel
theorem d_law_145 : decode code 145 = .ok (.iconst 1, 1) := by decide +kernel
theorem d_law_146 : decode code 146 = .ok (.iadd, 1) := by decide +kernel
theorem d_law_147 : decode code 147 = .ok (.iaload, 1) := by decide +kernel
theorem d_law_148 : decode code 148 = .ok (.invokevirtual 41, 3) := by decide +kernel
theorem d_law_151 : decode code 151 = .ok (.istore 6, 2) := by decide +kernel
theorem d_law_153 : decode code 153 = .ok (.aload_n 2, 1) := by decide +kernel
theorem d_law_154 : decode code 154 = .ok (.invokevirtual 42, 3) := by decide +kernel
theorem d_law_157 : decode code 157 = .ok (.iload 5, 2) := by decide +kernel
theorem d_law_159 : decode code 159 = .ok (.if_icmp .eq 5, 3) := by decide +kernel
theorem d_law_162 : decode code 162 = .ok (.iconst 0, 1) := by decide +kernel
theorem d_law_163 : decode code 163 = .ok (.ireturn, 1) := by decide +kernel
theorem d_law_164 : decode code 164 = .ok (.iload 5, 2) := by decide +kernel
theorem d_law_166 : decode code 166 = .ok (.ifCond .ne 15, 3) := by decide +kernel
theorem d_law_169 : decode code 169 = .ok (.aload_n 3, 1) := by decide +kernel
theorem d_law_170 : decode code 170 = .ok (.iconst 0, 1) := by decide +kernel
theorem d_law_171 : decode code 171 = .ok (.laload, 1) := by decide +kernel
theorem d_law_172 : decode code 172 = .ok (.iload 6, 2) := by decide +kernel
theorem d_law_174 : decode code 174 = .ok (.i2l, 1) := by decide +kernel
theorem d_law_175 : decode code 175 = .ok (.lcmp, 1) := by decide +kernel
theorem d_law_176 : decode code 176 = .ok (.ifCond .eq 5, 3) := by decide +kernel
theorem d_law_179 : decode code 179 = .ok (.iconst 0, 1) := by decide +kernel
theorem d_law_180 : decode code 180 = .ok (.ireturn, 1) := by decide +kernel
theorem d_law_181 : decode code 181 = .ok (.goto 621, 3) := by decide +kernel
theorem d_law_184 : decode code 184 = .ok (.aload_n 1, 1) := by decide +kernel
theorem d_law_185 : decode code 185 = .ok (.aload_n 0, 1) := by decide +kernel
theorem d_law_186 : decode code 186 = .ok (.iload 4, 2) := by decide +kernel
theorem d_law_188 : decode code 188 = .ok (.iconst 1, 1) := by decide +kernel
theorem d_law_189 : decode code 189 = .ok (.iadd, 1) := by decide +kernel
theorem d_law_190 : decode code 190 = .ok (.iaload, 1) := by decide +kernel
theorem d_law_191 : decode code 191 = .ok (.aload_n 0, 1) := by decide +kernel
theorem d_law_192 : decode code 192 = .ok (.iload 4, 2) := by decide +kernel
theorem d_law_194 : decode code 194 = .ok (.iconst 2, 1) := by decide +kernel
theorem d_law_195 : decode code 195 = .ok (.iadd, 1) := by decide +kernel
theorem d_law_196 : decode code 196 = .ok (.iaload, 1) := by decide +kernel
theorem d_law_197 : decode code 197 = .ok (.aload_n 0, 1) := by decide +kernel
theorem d_law_198 : decode code 198 = .ok (.iload 4, 2) := by decide +kernel
theorem d_law_200 : decode code 200 = .ok (.iconst 3, 1) := by decide +kernel
theorem d_law_201 : decode code 201 = .ok (.iadd, 1) := by decide +kernel
theorem d_law_202 : decode code 202 = .ok (.iaload, 1) := by decide +kernel
theorem d_law_203 : decode code 203 = .ok (.aload_n 0, 1) := by decide +kernel
theorem d_law_204 : decode code 204 = .ok (.iload 4, 2) := by decide +kernel
theorem d_law_206 : decode code 206 = .ok (.iconst 4, 1) := by decide +kernel
theorem d_law_207 : decode code 207 = .ok (.iadd, 1) := by decide +kernel
theorem d_law_208 : decode code 208 = .ok (.iaload, 1) := by decide +kernel
theorem d_law_209 : decode code 209 = .ok (.aload_n 0, 1) := by decide +kernel
theorem d_law_210 : decode code 210 = .ok (.iload 4, 2) := by decide +kernel
theorem d_law_212 : decode code 212 = .ok (.iconst 5, 1) := by decide +kernel
theorem d_law_213 : decode code 213 = .ok (.iadd, 1) := by decide +kernel
theorem d_law_214 : decode code 214 = .ok (.iaload, 1) := by decide +kernel
theorem d_law_215 : decode code 215 = .ok (.ifCond .eq 7, 3) := by decide +kernel
theorem d_law_218 : decode code 218 = .ok (.iconst 1, 1) := by decide +kernel
theorem d_law_219 : decode code 219 = .ok (.goto 4, 3) := by decide +kernel
theorem d_law_222 : decode code 222 = .ok (.iconst 0, 1) := by decide +kernel
theorem d_law_223 : decode code 223 = .ok (.aload_n 3, 1) := by decide +kernel
theorem d_law_224 : decode code 224 = .ok (.invokestatic 45, 3) := by decide +kernel
theorem d_law_227 : decode code 227 = .ok (.istore 5, 2) := by decide +kernel
theorem d_law_229 : decode code 229 = .ok (.aload_n 2, 1) := by decide +kernel
theorem d_law_230 : decode code 230 = .ok (.aload_n 0, 1) := by decide +kernel
theorem d_law_231 : decode code 231 = .ok (.iload 4, 2) := by decide +kernel
theorem d_law_233 : decode code 233 = .ok (.iconst 1, 1) := by decide +kernel
theorem d_law_234 : decode code 234 = .ok (.iadd, 1) := by decide +kernel
theorem d_law_235 : decode code 235 = .ok (.iaload, 1) := by decide +kernel
theorem d_law_236 : decode code 236 = .ok (.aload_n 0, 1) := by decide +kernel
theorem d_law_237 : decode code 237 = .ok (.iload 4, 2) := by decide +kernel
theorem d_law_239 : decode code 239 = .ok (.iconst 2, 1) := by decide +kernel
theorem d_law_240 : decode code 240 = .ok (.iadd, 1) := by decide +kernel
theorem d_law_241 : decode code 241 = .ok (.iaload, 1) := by decide +kernel
theorem d_law_242 : decode code 242 = .ok (.aload_n 0, 1) := by decide +kernel
theorem d_law_243 : decode code 243 = .ok (.iload 4, 2) := by decide +kernel
theorem d_law_245 : decode code 245 = .ok (.iconst 3, 1) := by decide +kernel
theorem d_law_246 : decode code 246 = .ok (.iadd, 1) := by decide +kernel
theorem d_law_247 : decode code 247 = .ok (.iaload, 1) := by decide +kernel
theorem d_law_248 : decode code 248 = .ok (.aload_n 0, 1) := by decide +kernel
theorem d_law_249 : decode code 249 = .ok (.iload 4, 2) := by decide +kernel
theorem d_law_251 : decode code 251 = .ok (.iconst 4, 1) := by decide +kernel
theorem d_law_252 : decode code 252 = .ok (.iadd, 1) := by decide +kernel
theorem d_law_253 : decode code 253 = .ok (.iaload, 1) := by decide +kernel
theorem d_law_254 : decode code 254 = .ok (.aload_n 0, 1) := by decide +kernel
theorem d_law_255 : decode code 255 = .ok (.iload 4, 2) := by decide +kernel
theorem d_law_257 : decode code 257 = .ok (.iconst 5, 1) := by decide +kernel
theorem d_law_258 : decode code 258 = .ok (.iadd, 1) := by decide +kernel
theorem d_law_259 : decode code 259 = .ok (.iaload, 1) := by decide +kernel
theorem d_law_260 : decode code 260 = .ok (.ifCond .eq 7, 3) := by decide +kernel
theorem d_law_263 : decode code 263 = .ok (.iconst 1, 1) := by decide +kernel
theorem d_law_264 : decode code 264 = .ok (.goto 4, 3) := by decide +kernel
theorem d_law_267 : decode code 267 = .ok (.iconst 0, 1) := by decide +kernel
theorem d_law_268 : decode code 268 = .ok (.invokevirtual 48, 3) := by decide +kernel
theorem d_law_271 : decode code 271 = .ok (.istore 6, 2) := by decide +kernel
theorem d_law_273 : decode code 273 = .ok (.aload_n 2, 1) := by decide +kernel
theorem d_law_274 : decode code 274 = .ok (.invokevirtual 42, 3) := by decide +kernel
theorem d_law_277 : decode code 277 = .ok (.iload 5, 2) := by decide +kernel
theorem d_law_279 : decode code 279 = .ok (.if_icmp .eq 5, 3) := by decide +kernel
theorem d_law_282 : decode code 282 = .ok (.iconst 0, 1) := by decide +kernel
theorem d_law_283 : decode code 283 = .ok (.ireturn, 1) := by decide +kernel
theorem d_law_284 : decode code 284 = .ok (.iload 5, 2) := by decide +kernel
theorem d_law_286 : decode code 286 = .ok (.ifCond .ne 15, 3) := by decide +kernel
theorem d_law_289 : decode code 289 = .ok (.aload_n 3, 1) := by decide +kernel
theorem d_law_290 : decode code 290 = .ok (.iconst 0, 1) := by decide +kernel
theorem d_law_291 : decode code 291 = .ok (.laload, 1) := by decide +kernel
theorem d_law_292 : decode code 292 = .ok (.iload 6, 2) := by decide +kernel
theorem d_law_294 : decode code 294 = .ok (.i2l, 1) := by decide +kernel
theorem d_law_295 : decode code 295 = .ok (.lcmp, 1) := by decide +kernel
theorem d_law_296 : decode code 296 = .ok (.ifCond .eq 5, 3) := by decide +kernel
theorem d_law_299 : decode code 299 = .ok (.iconst 0, 1) := by decide +kernel
theorem d_law_300 : decode code 300 = .ok (.ireturn, 1) := by decide +kernel
theorem d_law_301 : decode code 301 = .ok (.goto 501, 3) := by decide +kernel
theorem d_law_304 : decode code 304 = .ok (.aload_n 1, 1) := by decide +kernel
theorem d_law_305 : decode code 305 = .ok (.aload_n 0, 1) := by decide +kernel
theorem d_law_306 : decode code 306 = .ok (.iload 4, 2) := by decide +kernel
theorem d_law_308 : decode code 308 = .ok (.iconst 1, 1) := by decide +kernel
theorem d_law_309 : decode code 309 = .ok (.iadd, 1) := by decide +kernel
theorem d_law_310 : decode code 310 = .ok (.iaload, 1) := by decide +kernel
theorem d_law_311 : decode code 311 = .ok (.aload_n 0, 1) := by decide +kernel
theorem d_law_312 : decode code 312 = .ok (.iload 4, 2) := by decide +kernel
theorem d_law_314 : decode code 314 = .ok (.iconst 2, 1) := by decide +kernel
theorem d_law_315 : decode code 315 = .ok (.iadd, 1) := by decide +kernel
theorem d_law_316 : decode code 316 = .ok (.iaload, 1) := by decide +kernel
theorem d_law_317 : decode code 317 = .ok (.aload_n 0, 1) := by decide +kernel
theorem d_law_318 : decode code 318 = .ok (.iload 4, 2) := by decide +kernel
theorem d_law_320 : decode code 320 = .ok (.iconst 3, 1) := by decide +kernel
theorem d_law_321 : decode code 321 = .ok (.iadd, 1) := by decide +kernel
theorem d_law_322 : decode code 322 = .ok (.iaload, 1) := by decide +kernel
theorem d_law_323 : decode code 323 = .ok (.aload_n 0, 1) := by decide +kernel
theorem d_law_324 : decode code 324 = .ok (.iload 4, 2) := by decide +kernel
theorem d_law_326 : decode code 326 = .ok (.iconst 4, 1) := by decide +kernel
theorem d_law_327 : decode code 327 = .ok (.iadd, 1) := by decide +kernel
theorem d_law_328 : decode code 328 = .ok (.iaload, 1) := by decide +kernel
theorem d_law_329 : decode code 329 = .ok (.invokevirtual 49, 3) := by decide +kernel
theorem d_law_332 : decode code 332 = .ok (.aload_n 2, 1) := by decide +kernel
theorem d_law_333 : decode code 333 = .ok (.aload_n 0, 1) := by decide +kernel
theorem d_law_334 : decode code 334 = .ok (.iload 4, 2) := by decide +kernel
theorem d_law_336 : decode code 336 = .ok (.iconst 1, 1) := by decide +kernel
theorem d_law_337 : decode code 337 = .ok (.iadd, 1) := by decide +kernel
theorem d_law_338 : decode code 338 = .ok (.iaload, 1) := by decide +kernel
theorem d_law_339 : decode code 339 = .ok (.aload_n 0, 1) := by decide +kernel
theorem d_law_340 : decode code 340 = .ok (.iload 4, 2) := by decide +kernel
theorem d_law_342 : decode code 342 = .ok (.iconst 2, 1) := by decide +kernel
theorem d_law_343 : decode code 343 = .ok (.iadd, 1) := by decide +kernel
theorem d_law_344 : decode code 344 = .ok (.iaload, 1) := by decide +kernel
theorem d_law_345 : decode code 345 = .ok (.aload_n 0, 1) := by decide +kernel
theorem d_law_346 : decode code 346 = .ok (.iload 4, 2) := by decide +kernel
theorem d_law_348 : decode code 348 = .ok (.iconst 3, 1) := by decide +kernel
theorem d_law_349 : decode code 349 = .ok (.iadd, 1) := by decide +kernel
theorem d_law_350 : decode code 350 = .ok (.iaload, 1) := by decide +kernel
theorem d_law_351 : decode code 351 = .ok (.aload_n 0, 1) := by decide +kernel
theorem d_law_352 : decode code 352 = .ok (.iload 4, 2) := by decide +kernel
theorem d_law_354 : decode code 354 = .ok (.iconst 4, 1) := by decide +kernel
theorem d_law_355 : decode code 355 = .ok (.iadd, 1) := by decide +kernel
theorem d_law_356 : decode code 356 = .ok (.iaload, 1) := by decide +kernel
theorem d_law_357 : decode code 357 = .ok (.invokevirtual 53, 3) := by decide +kernel
theorem d_law_360 : decode code 360 = .ok (.if_icmp .eq 442, 3) := by decide +kernel
theorem d_law_363 : decode code 363 = .ok (.iconst 0, 1) := by decide +kernel
theorem d_law_364 : decode code 364 = .ok (.ireturn, 1) := by decide +kernel
theorem d_law_365 : decode code 365 = .ok (.aload_n 1, 1) := by decide +kernel
theorem d_law_366 : decode code 366 = .ok (.aload_n 3, 1) := by decide +kernel
theorem d_law_367 : decode code 367 = .ok (.invokestatic 54, 3) := by decide +kernel
theorem d_law_370 : decode code 370 = .ok (.istore 5, 2) := by decide +kernel
theorem d_law_372 : decode code 372 = .ok (.aload_n 2, 1) := by decide +kernel
theorem d_law_373 : decode code 373 = .ok (.invokevirtual 57, 3) := by decide +kernel
theorem d_law_376 : decode code 376 = .ok (.istore 6, 2) := by decide +kernel
theorem d_law_378 : decode code 378 = .ok (.aload_n 2, 1) := by decide +kernel
theorem d_law_379 : decode code 379 = .ok (.invokevirtual 42, 3) := by decide +kernel
theorem d_law_382 : decode code 382 = .ok (.iload 5, 2) := by decide +kernel
theorem d_law_384 : decode code 384 = .ok (.if_icmp .eq 5, 3) := by decide +kernel
theorem d_law_387 : decode code 387 = .ok (.iconst 0, 1) := by decide +kernel
theorem d_law_388 : decode code 388 = .ok (.ireturn, 1) := by decide +kernel
theorem d_law_389 : decode code 389 = .ok (.iload 5, 2) := by decide +kernel
theorem d_law_391 : decode code 391 = .ok (.ifCond .ne 15, 3) := by decide +kernel
theorem d_law_394 : decode code 394 = .ok (.aload_n 3, 1) := by decide +kernel
theorem d_law_395 : decode code 395 = .ok (.iconst 0, 1) := by decide +kernel
theorem d_law_396 : decode code 396 = .ok (.laload, 1) := by decide +kernel
theorem d_law_397 : decode code 397 = .ok (.iload 6, 2) := by decide +kernel
theorem d_law_399 : decode code 399 = .ok (.i2l, 1) := by decide +kernel
theorem d_law_400 : decode code 400 = .ok (.lcmp, 1) := by decide +kernel
theorem d_law_401 : decode code 401 = .ok (.ifCond .eq 5, 3) := by decide +kernel
theorem d_law_404 : decode code 404 = .ok (.iconst 0, 1) := by decide +kernel
theorem d_law_405 : decode code 405 = .ok (.ireturn, 1) := by decide +kernel
theorem d_law_406 : decode code 406 = .ok (.goto 396, 3) := by decide +kernel
theorem d_law_409 : decode code 409 = .ok (.aload_n 1, 1) := by decide +kernel
theorem d_law_410 : decode code 410 = .ok (.invokevirtual 58, 3) := by decide +kernel
theorem d_law_413 : decode code 413 = .ok (.aload_n 2, 1) := by decide +kernel
theorem d_law_414 : decode code 414 = .ok (.invokevirtual 61, 3) := by decide +kernel
theorem d_law_417 : decode code 417 = .ok (.if_icmp .eq 385, 3) := by decide +kernel
theorem d_law_420 : decode code 420 = .ok (.iconst 0, 1) := by decide +kernel
theorem d_law_421 : decode code 421 = .ok (.ireturn, 1) := by decide +kernel
theorem d_law_422 : decode code 422 = .ok (.aload_n 1, 1) := by decide +kernel
theorem d_law_423 : decode code 423 = .ok (.invokevirtual 62, 3) := by decide +kernel
theorem d_law_426 : decode code 426 = .ok (.aload_n 2, 1) := by decide +kernel
theorem d_law_427 : decode code 427 = .ok (.invokevirtual 65, 3) := by decide +kernel
theorem d_law_430 : decode code 430 = .ok (.goto 372, 3) := by decide +kernel
theorem d_law_433 : decode code 433 = .ok (.aload_n 1, 1) := by decide +kernel
theorem d_law_434 : decode code 434 = .ok (.aload_n 0, 1) := by decide +kernel
theorem d_law_435 : decode code 435 = .ok (.iload 4, 2) := by decide +kernel
theorem d_law_437 : decode code 437 = .ok (.iconst 1, 1) := by decide +kernel
theorem d_law_438 : decode code 438 = .ok (.iadd, 1) := by decide +kernel
theorem d_law_439 : decode code 439 = .ok (.iaload, 1) := by decide +kernel
theorem d_law_440 : decode code 440 = .ok (.invokevirtual 66, 3) := by decide +kernel
theorem d_law_443 : decode code 443 = .ok (.aload_n 2, 1) := by decide +kernel
theorem d_law_444 : decode code 444 = .ok (.aload_n 0, 1) := by decide +kernel
theorem d_law_445 : decode code 445 = .ok (.iload 4, 2) := by decide +kernel
theorem d_law_447 : decode code 447 = .ok (.iconst 1, 1) := by decide +kernel
theorem d_law_448 : decode code 448 = .ok (.iadd, 1) := by decide +kernel
theorem d_law_449 : decode code 449 = .ok (.iaload, 1) := by decide +kernel
theorem d_law_450 : decode code 450 = .ok (.invokevirtual 69, 3) := by decide +kernel
theorem d_law_453 : decode code 453 = .ok (.if_icmp .eq 349, 3) := by decide +kernel
theorem d_law_456 : decode code 456 = .ok (.iconst 0, 1) := by decide +kernel
theorem d_law_457 : decode code 457 = .ok (.ireturn, 1) := by decide +kernel
theorem d_law_458 : decode code 458 = .ok (.aload_n 1, 1) := by decide +kernel
theorem d_law_459 : decode code 459 = .ok (.aload_n 0, 1) := by decide +kernel
theorem d_law_460 : decode code 460 = .ok (.iload 4, 2) := by decide +kernel
theorem d_law_462 : decode code 462 = .ok (.iconst 1, 1) := by decide +kernel
theorem d_law_463 : decode code 463 = .ok (.iadd, 1) := by decide +kernel
theorem d_law_464 : decode code 464 = .ok (.iaload, 1) := by decide +kernel
theorem d_law_465 : decode code 465 = .ok (.aload_n 3, 1) := by decide +kernel
theorem d_law_466 : decode code 466 = .ok (.invokestatic 70, 3) := by decide +kernel
theorem d_law_469 : decode code 469 = .ok (.istore 5, 2) := by decide +kernel
theorem d_law_471 : decode code 471 = .ok (.aload_n 2, 1) := by decide +kernel
theorem d_law_472 : decode code 472 = .ok (.aload_n 0, 1) := by decide +kernel
theorem d_law_473 : decode code 473 = .ok (.iload 4, 2) := by decide +kernel
theorem d_law_475 : decode code 475 = .ok (.iconst 1, 1) := by decide +kernel
theorem d_law_476 : decode code 476 = .ok (.iadd, 1) := by decide +kernel
theorem d_law_477 : decode code 477 = .ok (.iaload, 1) := by decide +kernel
theorem d_law_478 : decode code 478 = .ok (.invokevirtual 72, 3) := by decide +kernel
theorem d_law_481 : decode code 481 = .ok (.istore 6, 2) := by decide +kernel
theorem d_law_483 : decode code 483 = .ok (.aload_n 2, 1) := by decide +kernel
theorem d_law_484 : decode code 484 = .ok (.invokevirtual 42, 3) := by decide +kernel
theorem d_law_487 : decode code 487 = .ok (.iload 5, 2) := by decide +kernel
theorem d_law_489 : decode code 489 = .ok (.if_icmp .eq 5, 3) := by decide +kernel
theorem d_law_492 : decode code 492 = .ok (.iconst 0, 1) := by decide +kernel
theorem d_law_493 : decode code 493 = .ok (.ireturn, 1) := by decide +kernel
theorem d_law_494 : decode code 494 = .ok (.iload 5, 2) := by decide +kernel
theorem d_law_496 : decode code 496 = .ok (.ifCond .ne 22, 3) := by decide +kernel
theorem d_law_499 : decode code 499 = .ok (.aload_n 3, 1) := by decide +kernel
theorem d_law_500 : decode code 500 = .ok (.iconst 0, 1) := by decide +kernel
theorem d_law_501 : decode code 501 = .ok (.laload, 1) := by decide +kernel
theorem d_law_502 : decode code 502 = .ok (.iload 6, 2) := by decide +kernel
theorem d_law_504 : decode code 504 = .ok (.ifCond .eq 7, 3) := by decide +kernel
theorem d_law_507 : decode code 507 = .ok (.lconst 1, 1) := by decide +kernel
theorem d_law_508 : decode code 508 = .ok (.goto 4, 3) := by decide +kernel
theorem d_law_511 : decode code 511 = .ok (.lconst 0, 1) := by decide +kernel
theorem d_law_512 : decode code 512 = .ok (.lcmp, 1) := by decide +kernel
theorem d_law_513 : decode code 513 = .ok (.ifCond .eq 5, 3) := by decide +kernel
theorem d_law_516 : decode code 516 = .ok (.iconst 0, 1) := by decide +kernel
theorem d_law_517 : decode code 517 = .ok (.ireturn, 1) := by decide +kernel
theorem d_law_518 : decode code 518 = .ok (.goto 284, 3) := by decide +kernel
theorem d_law_521 : decode code 521 = .ok (.aload_n 1, 1) := by decide +kernel
theorem d_law_522 : decode code 522 = .ok (.aload_n 0, 1) := by decide +kernel
theorem d_law_523 : decode code 523 = .ok (.iload 4, 2) := by decide +kernel
theorem d_law_525 : decode code 525 = .ok (.iconst 1, 1) := by decide +kernel
theorem d_law_526 : decode code 526 = .ok (.iadd, 1) := by decide +kernel
theorem d_law_527 : decode code 527 = .ok (.iaload, 1) := by decide +kernel
theorem d_law_528 : decode code 528 = .ok (.aload_n 3, 1) := by decide +kernel
theorem d_law_529 : decode code 529 = .ok (.invokestatic 73, 3) := by decide +kernel
theorem d_law_532 : decode code 532 = .ok (.istore 5, 2) := by decide +kernel
theorem d_law_534 : decode code 534 = .ok (.aload_n 2, 1) := by decide +kernel
theorem d_law_535 : decode code 535 = .ok (.aload_n 0, 1) := by decide +kernel
theorem d_law_536 : decode code 536 = .ok (.iload 4, 2) := by decide +kernel
theorem d_law_538 : decode code 538 = .ok (.iconst 1, 1) := by decide +kernel
theorem d_law_539 : decode code 539 = .ok (.iadd, 1) := by decide +kernel
theorem d_law_540 : decode code 540 = .ok (.iaload, 1) := by decide +kernel
theorem d_law_541 : decode code 541 = .ok (.invokevirtual 75, 3) := by decide +kernel
theorem d_law_544 : decode code 544 = .ok (.istore 6, 2) := by decide +kernel
theorem d_law_546 : decode code 546 = .ok (.aload_n 2, 1) := by decide +kernel
theorem d_law_547 : decode code 547 = .ok (.invokevirtual 42, 3) := by decide +kernel
theorem d_law_550 : decode code 550 = .ok (.iload 5, 2) := by decide +kernel
theorem d_law_552 : decode code 552 = .ok (.if_icmp .eq 5, 3) := by decide +kernel
theorem d_law_555 : decode code 555 = .ok (.iconst 0, 1) := by decide +kernel
theorem d_law_556 : decode code 556 = .ok (.ireturn, 1) := by decide +kernel
theorem d_law_557 : decode code 557 = .ok (.iload 5, 2) := by decide +kernel
theorem d_law_559 : decode code 559 = .ok (.ifCond .ne 15, 3) := by decide +kernel
theorem d_law_562 : decode code 562 = .ok (.aload_n 3, 1) := by decide +kernel
theorem d_law_563 : decode code 563 = .ok (.iconst 0, 1) := by decide +kernel
theorem d_law_564 : decode code 564 = .ok (.laload, 1) := by decide +kernel
theorem d_law_565 : decode code 565 = .ok (.iload 6, 2) := by decide +kernel
theorem d_law_567 : decode code 567 = .ok (.i2l, 1) := by decide +kernel
theorem d_law_568 : decode code 568 = .ok (.lcmp, 1) := by decide +kernel
theorem d_law_569 : decode code 569 = .ok (.ifCond .eq 5, 3) := by decide +kernel
theorem d_law_572 : decode code 572 = .ok (.iconst 0, 1) := by decide +kernel
theorem d_law_573 : decode code 573 = .ok (.ireturn, 1) := by decide +kernel
theorem d_law_574 : decode code 574 = .ok (.goto 228, 3) := by decide +kernel
theorem d_law_577 : decode code 577 = .ok (.aload_n 1, 1) := by decide +kernel
theorem d_law_578 : decode code 578 = .ok (.invokevirtual 76, 3) := by decide +kernel
theorem d_law_581 : decode code 581 = .ok (.aload_n 2, 1) := by decide +kernel
theorem d_law_582 : decode code 582 = .ok (.invokevirtual 79, 3) := by decide +kernel
theorem d_law_585 : decode code 585 = .ok (.if_icmp .eq 217, 3) := by decide +kernel
theorem d_law_588 : decode code 588 = .ok (.iconst 0, 1) := by decide +kernel
theorem d_law_589 : decode code 589 = .ok (.ireturn, 1) := by decide +kernel
theorem d_law_590 : decode code 590 = .ok (.aload_n 1, 1) := by decide +kernel
theorem d_law_591 : decode code 591 = .ok (.invokevirtual 80, 3) := by decide +kernel
theorem d_law_594 : decode code 594 = .ok (.aload_n 2, 1) := by decide +kernel
theorem d_law_595 : decode code 595 = .ok (.invokevirtual 83, 3) := by decide +kernel
theorem d_law_598 : decode code 598 = .ok (.if_icmp .eq 204, 3) := by decide +kernel
theorem d_law_601 : decode code 601 = .ok (.iconst 0, 1) := by decide +kernel
theorem d_law_602 : decode code 602 = .ok (.ireturn, 1) := by decide +kernel
theorem d_law_603 : decode code 603 = .ok (.aload_n 1, 1) := by decide +kernel
theorem d_law_604 : decode code 604 = .ok (.invokevirtual 84, 3) := by decide +kernel
theorem d_law_607 : decode code 607 = .ok (.aload_n 2, 1) := by decide +kernel
theorem d_law_608 : decode code 608 = .ok (.invokevirtual 87, 3) := by decide +kernel
theorem d_law_611 : decode code 611 = .ok (.if_icmp .eq 191, 3) := by decide +kernel
theorem d_law_614 : decode code 614 = .ok (.iconst 0, 1) := by decide +kernel
theorem d_law_615 : decode code 615 = .ok (.ireturn, 1) := by decide +kernel
theorem d_law_616 : decode code 616 = .ok (.aload_n 1, 1) := by decide +kernel
theorem d_law_617 : decode code 617 = .ok (.aload_n 0, 1) := by decide +kernel
theorem d_law_618 : decode code 618 = .ok (.iload 4, 2) := by decide +kernel
theorem d_law_620 : decode code 620 = .ok (.iconst 1, 1) := by decide +kernel
theorem d_law_621 : decode code 621 = .ok (.iadd, 1) := by decide +kernel
theorem d_law_622 : decode code 622 = .ok (.iaload, 1) := by decide +kernel
theorem d_law_623 : decode code 623 = .ok (.aload_n 0, 1) := by decide +kernel
theorem d_law_624 : decode code 624 = .ok (.iload 4, 2) := by decide +kernel
theorem d_law_626 : decode code 626 = .ok (.iconst 2, 1) := by decide +kernel
theorem d_law_627 : decode code 627 = .ok (.iadd, 1) := by decide +kernel
theorem d_law_628 : decode code 628 = .ok (.iaload, 1) := by decide +kernel
theorem d_law_629 : decode code 629 = .ok (.invokevirtual 88, 3) := by decide +kernel
theorem d_law_632 : decode code 632 = .ok (.aload_n 2, 1) := by decide +kernel
theorem d_law_633 : decode code 633 = .ok (.aload_n 0, 1) := by decide +kernel
theorem d_law_634 : decode code 634 = .ok (.iload 4, 2) := by decide +kernel
theorem d_law_636 : decode code 636 = .ok (.iconst 1, 1) := by decide +kernel
theorem d_law_637 : decode code 637 = .ok (.iadd, 1) := by decide +kernel
theorem d_law_638 : decode code 638 = .ok (.iaload, 1) := by decide +kernel
theorem d_law_639 : decode code 639 = .ok (.aload_n 0, 1) := by decide +kernel
theorem d_law_640 : decode code 640 = .ok (.iload 4, 2) := by decide +kernel
theorem d_law_642 : decode code 642 = .ok (.iconst 2, 1) := by decide +kernel
theorem d_law_643 : decode code 643 = .ok (.iadd, 1) := by decide +kernel
theorem d_law_644 : decode code 644 = .ok (.iaload, 1) := by decide +kernel
theorem d_law_645 : decode code 645 = .ok (.invokevirtual 92, 3) := by decide +kernel
theorem d_law_648 : decode code 648 = .ok (.if_icmp .eq 154, 3) := by decide +kernel
theorem d_law_651 : decode code 651 = .ok (.iconst 0, 1) := by decide +kernel
theorem d_law_652 : decode code 652 = .ok (.ireturn, 1) := by decide +kernel
theorem d_law_653 : decode code 653 = .ok (.aload_n 1, 1) := by decide +kernel
theorem d_law_654 : decode code 654 = .ok (.aload_n 0, 1) := by decide +kernel
theorem d_law_655 : decode code 655 = .ok (.iload 4, 2) := by decide +kernel
theorem d_law_657 : decode code 657 = .ok (.iconst 1, 1) := by decide +kernel
theorem d_law_658 : decode code 658 = .ok (.iadd, 1) := by decide +kernel
theorem d_law_659 : decode code 659 = .ok (.iaload, 1) := by decide +kernel
theorem d_law_660 : decode code 660 = .ok (.invokevirtual 93, 3) := by decide +kernel
theorem d_law_663 : decode code 663 = .ok (.aload_n 2, 1) := by decide +kernel
theorem d_law_664 : decode code 664 = .ok (.aload_n 0, 1) := by decide +kernel
theorem d_law_665 : decode code 665 = .ok (.iload 4, 2) := by decide +kernel
theorem d_law_667 : decode code 667 = .ok (.iconst 1, 1) := by decide +kernel
theorem d_law_668 : decode code 668 = .ok (.iadd, 1) := by decide +kernel
theorem d_law_669 : decode code 669 = .ok (.iaload, 1) := by decide +kernel
theorem d_law_670 : decode code 670 = .ok (.invokevirtual 96, 3) := by decide +kernel
theorem d_law_673 : decode code 673 = .ok (.if_icmp .eq 129, 3) := by decide +kernel
theorem d_law_676 : decode code 676 = .ok (.iconst 0, 1) := by decide +kernel
theorem d_law_677 : decode code 677 = .ok (.ireturn, 1) := by decide +kernel
theorem d_law_678 : decode code 678 = .ok (.aload_n 1, 1) := by decide +kernel
theorem d_law_679 : decode code 679 = .ok (.aload_n 0, 1) := by decide +kernel
theorem d_law_680 : decode code 680 = .ok (.iload 4, 2) := by decide +kernel
theorem d_law_682 : decode code 682 = .ok (.iconst 1, 1) := by decide +kernel
theorem d_law_683 : decode code 683 = .ok (.iadd, 1) := by decide +kernel
theorem d_law_684 : decode code 684 = .ok (.iaload, 1) := by decide +kernel
theorem d_law_685 : decode code 685 = .ok (.invokevirtual 97, 3) := by decide +kernel
theorem d_law_688 : decode code 688 = .ok (.aload_n 2, 1) := by decide +kernel
theorem d_law_689 : decode code 689 = .ok (.aload_n 0, 1) := by decide +kernel
theorem d_law_690 : decode code 690 = .ok (.iload 4, 2) := by decide +kernel
theorem d_law_692 : decode code 692 = .ok (.iconst 1, 1) := by decide +kernel
theorem d_law_693 : decode code 693 = .ok (.iadd, 1) := by decide +kernel
theorem d_law_694 : decode code 694 = .ok (.iaload, 1) := by decide +kernel
theorem d_law_695 : decode code 695 = .ok (.invokevirtual 100, 3) := by decide +kernel
theorem d_law_698 : decode code 698 = .ok (.if_icmp .eq 104, 3) := by decide +kernel
theorem d_law_701 : decode code 701 = .ok (.iconst 0, 1) := by decide +kernel
theorem d_law_702 : decode code 702 = .ok (.ireturn, 1) := by decide +kernel
theorem d_law_703 : decode code 703 = .ok (.aload_n 1, 1) := by decide +kernel
theorem d_law_704 : decode code 704 = .ok (.aload_n 0, 1) := by decide +kernel
theorem d_law_705 : decode code 705 = .ok (.iload 4, 2) := by decide +kernel
theorem d_law_707 : decode code 707 = .ok (.iconst 1, 1) := by decide +kernel
theorem d_law_708 : decode code 708 = .ok (.iadd, 1) := by decide +kernel
theorem d_law_709 : decode code 709 = .ok (.iaload, 1) := by decide +kernel
theorem d_law_710 : decode code 710 = .ok (.invokevirtual 101, 3) := by decide +kernel
theorem d_law_713 : decode code 713 = .ok (.aload_n 2, 1) := by decide +kernel
theorem d_law_714 : decode code 714 = .ok (.aload_n 0, 1) := by decide +kernel
theorem d_law_715 : decode code 715 = .ok (.iload 4, 2) := by decide +kernel
theorem d_law_717 : decode code 717 = .ok (.iconst 1, 1) := by decide +kernel
theorem d_law_718 : decode code 718 = .ok (.iadd, 1) := by decide +kernel
theorem d_law_719 : decode code 719 = .ok (.iaload, 1) := by decide +kernel
theorem d_law_720 : decode code 720 = .ok (.invokevirtual 104, 3) := by decide +kernel
theorem d_law_723 : decode code 723 = .ok (.if_icmp .eq 79, 3) := by decide +kernel
theorem d_law_726 : decode code 726 = .ok (.iconst 0, 1) := by decide +kernel
theorem d_law_727 : decode code 727 = .ok (.ireturn, 1) := by decide +kernel
theorem d_law_728 : decode code 728 = .ok (.aload_n 1, 1) := by decide +kernel
theorem d_law_729 : decode code 729 = .ok (.aload_n 0, 1) := by decide +kernel
theorem d_law_730 : decode code 730 = .ok (.iload 4, 2) := by decide +kernel
theorem d_law_732 : decode code 732 = .ok (.iconst 1, 1) := by decide +kernel
theorem d_law_733 : decode code 733 = .ok (.iadd, 1) := by decide +kernel
theorem d_law_734 : decode code 734 = .ok (.iaload, 1) := by decide +kernel
theorem d_law_735 : decode code 735 = .ok (.invokevirtual 105, 3) := by decide +kernel
theorem d_law_738 : decode code 738 = .ok (.aload_n 2, 1) := by decide +kernel
theorem d_law_739 : decode code 739 = .ok (.aload_n 0, 1) := by decide +kernel
theorem d_law_740 : decode code 740 = .ok (.iload 4, 2) := by decide +kernel
theorem d_law_742 : decode code 742 = .ok (.iconst 1, 1) := by decide +kernel
theorem d_law_743 : decode code 743 = .ok (.iadd, 1) := by decide +kernel
theorem d_law_744 : decode code 744 = .ok (.iaload, 1) := by decide +kernel
theorem d_law_745 : decode code 745 = .ok (.invokevirtual 108, 3) := by decide +kernel
theorem d_law_748 : decode code 748 = .ok (.if_icmp .eq 54, 3) := by decide +kernel
theorem d_law_751 : decode code 751 = .ok (.iconst 0, 1) := by decide +kernel
theorem d_law_752 : decode code 752 = .ok (.ireturn, 1) := by decide +kernel
theorem d_law_753 : decode code 753 = .ok (.aload_n 1, 1) := by decide +kernel
theorem d_law_754 : decode code 754 = .ok (.aload_n 0, 1) := by decide +kernel
theorem d_law_755 : decode code 755 = .ok (.iload 4, 2) := by decide +kernel
theorem d_law_757 : decode code 757 = .ok (.iconst 1, 1) := by decide +kernel
theorem d_law_758 : decode code 758 = .ok (.iadd, 1) := by decide +kernel
theorem d_law_759 : decode code 759 = .ok (.iaload, 1) := by decide +kernel
theorem d_law_760 : decode code 760 = .ok (.aload_n 0, 1) := by decide +kernel
theorem d_law_761 : decode code 761 = .ok (.iload 4, 2) := by decide +kernel
theorem d_law_763 : decode code 763 = .ok (.iconst 2, 1) := by decide +kernel
theorem d_law_764 : decode code 764 = .ok (.iadd, 1) := by decide +kernel
theorem d_law_765 : decode code 765 = .ok (.iaload, 1) := by decide +kernel
theorem d_law_766 : decode code 766 = .ok (.aload_n 0, 1) := by decide +kernel
theorem d_law_767 : decode code 767 = .ok (.iload 4, 2) := by decide +kernel
theorem d_law_769 : decode code 769 = .ok (.iconst 3, 1) := by decide +kernel
theorem d_law_770 : decode code 770 = .ok (.iadd, 1) := by decide +kernel
theorem d_law_771 : decode code 771 = .ok (.iaload, 1) := by decide +kernel
theorem d_law_772 : decode code 772 = .ok (.invokevirtual 109, 3) := by decide +kernel
theorem d_law_775 : decode code 775 = .ok (.aload_n 2, 1) := by decide +kernel
theorem d_law_776 : decode code 776 = .ok (.aload_n 0, 1) := by decide +kernel
theorem d_law_777 : decode code 777 = .ok (.iload 4, 2) := by decide +kernel
theorem d_law_779 : decode code 779 = .ok (.iconst 1, 1) := by decide +kernel
theorem d_law_780 : decode code 780 = .ok (.iadd, 1) := by decide +kernel
theorem d_law_781 : decode code 781 = .ok (.iaload, 1) := by decide +kernel
theorem d_law_782 : decode code 782 = .ok (.aload_n 0, 1) := by decide +kernel
theorem d_law_783 : decode code 783 = .ok (.iload 4, 2) := by decide +kernel
theorem d_law_785 : decode code 785 = .ok (.iconst 2, 1) := by decide +kernel
theorem d_law_786 : decode code 786 = .ok (.iadd, 1) := by decide +kernel
theorem d_law_787 : decode code 787 = .ok (.iaload, 1) := by decide +kernel
theorem d_law_788 : decode code 788 = .ok (.aload_n 0, 1) := by decide +kernel
theorem d_law_789 : decode code 789 = .ok (.iload 4, 2) := by decide +kernel
theorem d_law_791 : decode code 791 = .ok (.iconst 3, 1) := by decide +kernel
theorem d_law_792 : decode code 792 = .ok (.iadd, 1) := by decide +kernel
theorem d_law_793 : decode code 793 = .ok (.iaload, 1) := by decide +kernel
theorem d_law_794 : decode code 794 = .ok (.invokevirtual 113, 3) := by decide +kernel
theorem d_law_797 : decode code 797 = .ok (.if_icmp .eq 5, 3) := by decide +kernel
theorem d_law_800 : decode code 800 = .ok (.iconst 0, 1) := by decide +kernel
theorem d_law_801 : decode code 801 = .ok (.ireturn, 1) := by decide +kernel
theorem d_law_802 : decode code 802 = .ok (.iinc 4 6, 3) := by decide +kernel
theorem d_law_805 : decode code 805 = .ok (.goto (-782), 3) := by decide +kernel
theorem d_law_808 : decode code 808 = .ok (.iconst 1, 1) := by decide +kernel
theorem d_law_809 : decode code 809 = .ok (.ireturn, 1) := by decide +kernel
