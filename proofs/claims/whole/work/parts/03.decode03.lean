/-! decode rows; written by wip/whole/gen/methods.py -/
theorem d_MO_toHandlers_0 : decode c_MO_toHandlers 0 = .ok (.iconst 4, 1) := by decide +kernel
theorem d_MO_toHandlers_1 : decode c_MO_toHandlers 1 = .ok (.iload_n 1, 1) := by decide +kernel
theorem d_MO_toHandlers_2 : decode c_MO_toHandlers 2 = .ok (.imul, 1) := by decide +kernel
theorem d_MO_toHandlers_3 : decode c_MO_toHandlers 3 = .ok (.istore_n 3, 1) := by decide +kernel
theorem d_MO_toHandlers_4 : decode c_MO_toHandlers 4 = .ok (.iload_n 3, 1) := by decide +kernel
theorem d_MO_toHandlers_5 : decode c_MO_toHandlers 5 = .ok (.iconst 4, 1) := by decide +kernel
theorem d_MO_toHandlers_6 : decode c_MO_toHandlers 6 = .ok (.iload_n 1, 1) := by decide +kernel
theorem d_MO_toHandlers_7 : decode c_MO_toHandlers 7 = .ok (.imul, 1) := by decide +kernel
theorem d_MO_toHandlers_8 : decode c_MO_toHandlers 8 = .ok (.aload_n 0, 1) := by decide +kernel
theorem d_MO_toHandlers_9 : decode c_MO_toHandlers 9 = .ok (.getfield 32, 3) := by decide +kernel
theorem d_MO_toHandlers_12 : decode c_MO_toHandlers 12 = .ok (.iload_n 1, 1) := by decide +kernel
theorem d_MO_toHandlers_13 : decode c_MO_toHandlers 13 = .ok (.iaload, 1) := by decide +kernel
theorem d_MO_toHandlers_14 : decode c_MO_toHandlers 14 = .ok (.iadd, 1) := by decide +kernel
theorem d_MO_toHandlers_15 : decode c_MO_toHandlers 15 = .ok (.if_icmp .ge 48, 3) := by decide +kernel
theorem d_MO_toHandlers_18 : decode c_MO_toHandlers 18 = .ok (.aload_n 0, 1) := by decide +kernel
theorem d_MO_toHandlers_19 : decode c_MO_toHandlers 19 = .ok (.getfield 35, 3) := by decide +kernel
theorem d_MO_toHandlers_22 : decode c_MO_toHandlers 22 = .ok (.iload_n 3, 1) := by decide +kernel
theorem d_MO_toHandlers_23 : decode c_MO_toHandlers 23 = .ok (.iaload, 1) := by decide +kernel
theorem d_MO_toHandlers_24 : decode c_MO_toHandlers 24 = .ok (.iload_n 2, 1) := by decide +kernel
theorem d_MO_toHandlers_25 : decode c_MO_toHandlers 25 = .ok (.if_icmp .gt 32, 3) := by decide +kernel
theorem d_MO_toHandlers_28 : decode c_MO_toHandlers 28 = .ok (.iload_n 2, 1) := by decide +kernel
theorem d_MO_toHandlers_29 : decode c_MO_toHandlers 29 = .ok (.aload_n 0, 1) := by decide +kernel
theorem d_MO_toHandlers_30 : decode c_MO_toHandlers 30 = .ok (.getfield 38, 3) := by decide +kernel
theorem d_MO_toHandlers_33 : decode c_MO_toHandlers 33 = .ok (.iload_n 3, 1) := by decide +kernel
theorem d_MO_toHandlers_34 : decode c_MO_toHandlers 34 = .ok (.iaload, 1) := by decide +kernel
theorem d_MO_toHandlers_35 : decode c_MO_toHandlers 35 = .ok (.if_icmp .ge 22, 3) := by decide +kernel
theorem d_MO_toHandlers_38 : decode c_MO_toHandlers 38 = .ok (.aload_n 0, 1) := by decide +kernel
theorem d_MO_toHandlers_39 : decode c_MO_toHandlers 39 = .ok (.iload_n 1, 1) := by decide +kernel
theorem d_MO_toHandlers_40 : decode c_MO_toHandlers 40 = .ok (.aload_n 0, 1) := by decide +kernel
theorem d_MO_toHandlers_41 : decode c_MO_toHandlers 41 = .ok (.getfield 13, 3) := by decide +kernel
theorem d_MO_toHandlers_44 : decode c_MO_toHandlers 44 = .ok (.iload_n 1, 1) := by decide +kernel
theorem d_MO_toHandlers_45 : decode c_MO_toHandlers 45 = .ok (.iaload, 1) := by decide +kernel
theorem d_MO_toHandlers_46 : decode c_MO_toHandlers 46 = .ok (.aload_n 0, 1) := by decide +kernel
theorem d_MO_toHandlers_47 : decode c_MO_toHandlers 47 = .ok (.getfield 41, 3) := by decide +kernel
theorem d_MO_toHandlers_50 : decode c_MO_toHandlers 50 = .ok (.iload_n 3, 1) := by decide +kernel
theorem d_MO_toHandlers_51 : decode c_MO_toHandlers 51 = .ok (.iaload, 1) := by decide +kernel
theorem d_MO_toHandlers_52 : decode c_MO_toHandlers 52 = .ok (.iadd, 1) := by decide +kernel
theorem d_MO_toHandlers_53 : decode c_MO_toHandlers 53 = .ok (.iconst 1, 1) := by decide +kernel
theorem d_MO_toHandlers_54 : decode c_MO_toHandlers 54 = .ok (.invokevirtual 144, 3) := by decide +kernel
theorem d_MO_toHandlers_57 : decode c_MO_toHandlers 57 = .ok (.iinc 3 1, 3) := by decide +kernel
theorem d_MO_toHandlers_60 : decode c_MO_toHandlers 60 = .ok (.goto (-56), 3) := by decide +kernel
theorem d_MO_toHandlers_63 : decode c_MO_toHandlers 63 = .ok (.return_, 1) := by decide +kernel
theorem d_MO_plain_0 : decode c_MO_plain 0 = .ok (.aload_n 0, 1) := by decide +kernel
theorem d_MO_plain_1 : decode c_MO_plain 1 = .ok (.getfield 7, 3) := by decide +kernel
theorem d_MO_plain_4 : decode c_MO_plain 4 = .ok (.iload_n 2, 1) := by decide +kernel
theorem d_MO_plain_5 : decode c_MO_plain 5 = .ok (.iaload, 1) := by decide +kernel
theorem d_MO_plain_6 : decode c_MO_plain 6 = .ok (.istore_n 3, 1) := by decide +kernel
theorem d_MO_plain_7 : decode c_MO_plain 7 = .ok (.aload_n 0, 1) := by decide +kernel
theorem d_MO_plain_8 : decode c_MO_plain 8 = .ok (.iload_n 2, 1) := by decide +kernel
theorem d_MO_plain_9 : decode c_MO_plain 9 = .ok (.invokevirtual 122, 3) := by decide +kernel
theorem d_MO_plain_12 : decode c_MO_plain 12 = .ok (.istore 4, 2) := by decide +kernel
theorem d_MO_plain_14 : decode c_MO_plain 14 = .ok (.iload_n 3, 1) := by decide +kernel
theorem d_MO_plain_15 : decode c_MO_plain 15 = .ok (.iconst 1, 1) := by decide +kernel
theorem d_MO_plain_16 : decode c_MO_plain 16 = .ok (.if_icmp .ne 12, 3) := by decide +kernel
theorem d_MO_plain_19 : decode c_MO_plain 19 = .ok (.aload_n 0, 1) := by decide +kernel
theorem d_MO_plain_20 : decode c_MO_plain 20 = .ok (.iconst 2, 1) := by decide +kernel
theorem d_MO_plain_21 : decode c_MO_plain 21 = .ok (.iload_n 1, 1) := by decide +kernel
theorem d_MO_plain_22 : decode c_MO_plain 22 = .ok (.invokevirtual 148, 3) := by decide +kernel
theorem d_MO_plain_25 : decode c_MO_plain 25 = .ok (.goto 233, 3) := by decide +kernel
theorem d_MO_plain_28 : decode c_MO_plain 28 = .ok (.iload_n 3, 1) := by decide +kernel
theorem d_MO_plain_29 : decode c_MO_plain 29 = .ok (.iconst 2, 1) := by decide +kernel
theorem d_MO_plain_30 : decode c_MO_plain 30 = .ok (.bipush 8, 2) := by decide +kernel
theorem d_MO_plain_32 : decode c_MO_plain 32 = .ok (.invokestatic 100, 3) := by decide +kernel
theorem d_MO_plain_35 : decode c_MO_plain 35 = .ok (.ifCond .ne 22, 3) := by decide +kernel
theorem d_MO_plain_38 : decode c_MO_plain 38 = .ok (.iload_n 3, 1) := by decide +kernel
theorem d_MO_plain_39 : decode c_MO_plain 39 = .ok (.bipush 16, 2) := by decide +kernel
theorem d_MO_plain_41 : decode c_MO_plain 41 = .ok (.if_icmp .eq 16, 3) := by decide +kernel
theorem d_MO_plain_44 : decode c_MO_plain 44 = .ok (.iload_n 3, 1) := by decide +kernel
theorem d_MO_plain_45 : decode c_MO_plain 45 = .ok (.bipush 17, 2) := by decide +kernel
theorem d_MO_plain_47 : decode c_MO_plain 47 = .ok (.if_icmp .eq 10, 3) := by decide +kernel
theorem d_MO_plain_50 : decode c_MO_plain 50 = .ok (.iload_n 3, 1) := by decide +kernel
theorem d_MO_plain_51 : decode c_MO_plain 51 = .ok (.sipush 178, 3) := by decide +kernel
theorem d_MO_plain_54 : decode c_MO_plain 54 = .ok (.if_icmp .ne 12, 3) := by decide +kernel
theorem d_MO_plain_57 : decode c_MO_plain 57 = .ok (.aload_n 0, 1) := by decide +kernel
theorem d_MO_plain_58 : decode c_MO_plain 58 = .ok (.iconst 1, 1) := by decide +kernel
theorem d_MO_plain_59 : decode c_MO_plain 59 = .ok (.iload_n 1, 1) := by decide +kernel
theorem d_MO_plain_60 : decode c_MO_plain 60 = .ok (.invokevirtual 148, 3) := by decide +kernel
theorem d_MO_plain_63 : decode c_MO_plain 63 = .ok (.goto 195, 3) := by decide +kernel
theorem d_MO_plain_66 : decode c_MO_plain 66 = .ok (.iload_n 3, 1) := by decide +kernel
theorem d_MO_plain_67 : decode c_MO_plain 67 = .ok (.bipush 21, 2) := by decide +kernel
theorem d_MO_plain_69 : decode c_MO_plain 69 = .ok (.if_icmp .eq 21, 3) := by decide +kernel
theorem d_MO_plain_72 : decode c_MO_plain 72 = .ok (.iload_n 3, 1) := by decide +kernel
theorem d_MO_plain_73 : decode c_MO_plain 73 = .ok (.bipush 26, 2) := by decide +kernel
theorem d_MO_plain_75 : decode c_MO_plain 75 = .ok (.bipush 29, 2) := by decide +kernel
theorem d_MO_plain_77 : decode c_MO_plain 77 = .ok (.invokestatic 100, 3) := by decide +kernel
theorem d_MO_plain_80 : decode c_MO_plain 80 = .ok (.ifCond .ne 10, 3) := by decide +kernel
theorem d_MO_plain_83 : decode c_MO_plain 83 = .ok (.iload_n 3, 1) := by decide +kernel
theorem d_MO_plain_84 : decode c_MO_plain 84 = .ok (.sipush 132, 3) := by decide +kernel
theorem d_MO_plain_87 : decode c_MO_plain 87 = .ok (.if_icmp .ne 46, 3) := by decide +kernel
theorem d_MO_plain_90 : decode c_MO_plain 90 = .ok (.aload_n 0, 1) := by decide +kernel
theorem d_MO_plain_91 : decode c_MO_plain 91 = .ok (.aload_n 0, 1) := by decide +kernel
theorem d_MO_plain_92 : decode c_MO_plain 92 = .ok (.getfield 138, 3) := by decide +kernel
theorem d_MO_plain_95 : decode c_MO_plain 95 = .ok (.ifCond .eq 18, 3) := by decide +kernel
theorem d_MO_plain_98 : decode c_MO_plain 98 = .ok (.aload_n 0, 1) := by decide +kernel
theorem d_MO_plain_99 : decode c_MO_plain 99 = .ok (.getfield 63, 3) := by decide +kernel
theorem d_MO_plain_102 : decode c_MO_plain 102 = .ok (.iload 4, 2) := by decide +kernel
theorem d_MO_plain_104 : decode c_MO_plain 104 = .ok (.iaload, 1) := by decide +kernel
theorem d_MO_plain_105 : decode c_MO_plain 105 = .ok (.iconst 1, 1) := by decide +kernel
theorem d_MO_plain_106 : decode c_MO_plain 106 = .ok (.if_icmp .ne 7, 3) := by decide +kernel
theorem d_MO_plain_109 : decode c_MO_plain 109 = .ok (.iconst 1, 1) := by decide +kernel
theorem d_MO_plain_110 : decode c_MO_plain 110 = .ok (.goto 4, 3) := by decide +kernel
theorem d_MO_plain_113 : decode c_MO_plain 113 = .ok (.iconst 0, 1) := by decide +kernel
theorem d_MO_plain_114 : decode c_MO_plain 114 = .ok (.putfield 138, 3) := by decide +kernel
theorem d_MO_plain_117 : decode c_MO_plain 117 = .ok (.iload_n 3, 1) := by decide +kernel
theorem d_MO_plain_118 : decode c_MO_plain 118 = .ok (.sipush 132, 3) := by decide +kernel
theorem d_MO_plain_121 : decode c_MO_plain 121 = .ok (.if_icmp .eq 137, 3) := by decide +kernel
theorem d_MO_plain_124 : decode c_MO_plain 124 = .ok (.aload_n 0, 1) := by decide +kernel
theorem d_MO_plain_125 : decode c_MO_plain 125 = .ok (.iconst 1, 1) := by decide +kernel
theorem d_MO_plain_126 : decode c_MO_plain 126 = .ok (.iload_n 1, 1) := by decide +kernel
theorem d_MO_plain_127 : decode c_MO_plain 127 = .ok (.invokevirtual 148, 3) := by decide +kernel
theorem d_MO_plain_130 : decode c_MO_plain 130 = .ok (.goto 128, 3) := by decide +kernel
theorem d_MO_plain_133 : decode c_MO_plain 133 = .ok (.iload_n 3, 1) := by decide +kernel
theorem d_MO_plain_134 : decode c_MO_plain 134 = .ok (.bipush 25, 2) := by decide +kernel
theorem d_MO_plain_136 : decode c_MO_plain 136 = .ok (.if_icmp .eq 14, 3) := by decide +kernel
theorem d_MO_plain_139 : decode c_MO_plain 139 = .ok (.iload_n 3, 1) := by decide +kernel
theorem d_MO_plain_140 : decode c_MO_plain 140 = .ok (.bipush 42, 2) := by decide +kernel
theorem d_MO_plain_142 : decode c_MO_plain 142 = .ok (.bipush 45, 2) := by decide +kernel
theorem d_MO_plain_144 : decode c_MO_plain 144 = .ok (.invokestatic 100, 3) := by decide +kernel
theorem d_MO_plain_147 : decode c_MO_plain 147 = .ok (.ifCond .eq 39, 3) := by decide +kernel
theorem d_MO_plain_150 : decode c_MO_plain 150 = .ok (.aload_n 0, 1) := by decide +kernel
theorem d_MO_plain_151 : decode c_MO_plain 151 = .ok (.aload_n 0, 1) := by decide +kernel
theorem d_MO_plain_152 : decode c_MO_plain 152 = .ok (.getfield 138, 3) := by decide +kernel
theorem d_MO_plain_155 : decode c_MO_plain 155 = .ok (.ifCond .eq 18, 3) := by decide +kernel
theorem d_MO_plain_158 : decode c_MO_plain 158 = .ok (.aload_n 0, 1) := by decide +kernel
theorem d_MO_plain_159 : decode c_MO_plain 159 = .ok (.getfield 63, 3) := by decide +kernel
theorem d_MO_plain_162 : decode c_MO_plain 162 = .ok (.iload 4, 2) := by decide +kernel
theorem d_MO_plain_164 : decode c_MO_plain 164 = .ok (.iaload, 1) := by decide +kernel
theorem d_MO_plain_165 : decode c_MO_plain 165 = .ok (.iconst 2, 1) := by decide +kernel
theorem d_MO_plain_166 : decode c_MO_plain 166 = .ok (.if_icmp .ne 7, 3) := by decide +kernel
theorem d_MO_plain_169 : decode c_MO_plain 169 = .ok (.iconst 1, 1) := by decide +kernel
theorem d_MO_plain_170 : decode c_MO_plain 170 = .ok (.goto 4, 3) := by decide +kernel
theorem d_MO_plain_173 : decode c_MO_plain 173 = .ok (.iconst 0, 1) := by decide +kernel
theorem d_MO_plain_174 : decode c_MO_plain 174 = .ok (.putfield 138, 3) := by decide +kernel
theorem d_MO_plain_177 : decode c_MO_plain 177 = .ok (.aload_n 0, 1) := by decide +kernel
theorem d_MO_plain_178 : decode c_MO_plain 178 = .ok (.iconst 2, 1) := by decide +kernel
theorem d_MO_plain_179 : decode c_MO_plain 179 = .ok (.iload_n 1, 1) := by decide +kernel
theorem d_MO_plain_180 : decode c_MO_plain 180 = .ok (.invokevirtual 148, 3) := by decide +kernel
theorem d_MO_plain_183 : decode c_MO_plain 183 = .ok (.goto 75, 3) := by decide +kernel
theorem d_MO_plain_186 : decode c_MO_plain 186 = .ok (.iload_n 3, 1) := by decide +kernel
theorem d_MO_plain_187 : decode c_MO_plain 187 = .ok (.bipush 54, 2) := by decide +kernel
theorem d_MO_plain_189 : decode c_MO_plain 189 = .ok (.if_icmp .eq 14, 3) := by decide +kernel
theorem d_MO_plain_192 : decode c_MO_plain 192 = .ok (.iload_n 3, 1) := by decide +kernel
theorem d_MO_plain_193 : decode c_MO_plain 193 = .ok (.bipush 59, 2) := by decide +kernel
theorem d_MO_plain_195 : decode c_MO_plain 195 = .ok (.bipush 62, 2) := by decide +kernel
theorem d_MO_plain_197 : decode c_MO_plain 197 = .ok (.invokestatic 100, 3) := by decide +kernel
theorem d_MO_plain_200 : decode c_MO_plain 200 = .ok (.ifCond .eq 21, 3) := by decide +kernel
theorem d_MO_plain_203 : decode c_MO_plain 203 = .ok (.aload_n 0, 1) := by decide +kernel
theorem d_MO_plain_204 : decode c_MO_plain 204 = .ok (.iconst 1, 1) := by decide +kernel
theorem d_MO_plain_205 : decode c_MO_plain 205 = .ok (.invokevirtual 152, 3) := by decide +kernel
theorem d_MO_plain_208 : decode c_MO_plain 208 = .ok (.istore 5, 2) := by decide +kernel
theorem d_MO_plain_210 : decode c_MO_plain 210 = .ok (.aload_n 0, 1) := by decide +kernel
theorem d_MO_plain_211 : decode c_MO_plain 211 = .ok (.getfield 63, 3) := by decide +kernel
theorem d_MO_plain_214 : decode c_MO_plain 214 = .ok (.iload 4, 2) := by decide +kernel
theorem d_MO_plain_216 : decode c_MO_plain 216 = .ok (.iconst 1, 1) := by decide +kernel
theorem d_MO_plain_217 : decode c_MO_plain 217 = .ok (.iastore, 1) := by decide +kernel
theorem d_MO_plain_218 : decode c_MO_plain 218 = .ok (.goto 40, 3) := by decide +kernel
theorem d_MO_plain_221 : decode c_MO_plain 221 = .ok (.iload_n 3, 1) := by decide +kernel
theorem d_MO_plain_222 : decode c_MO_plain 222 = .ok (.bipush 58, 2) := by decide +kernel
theorem d_MO_plain_224 : decode c_MO_plain 224 = .ok (.if_icmp .eq 14, 3) := by decide +kernel
theorem d_MO_plain_227 : decode c_MO_plain 227 = .ok (.iload_n 3, 1) := by decide +kernel
theorem d_MO_plain_228 : decode c_MO_plain 228 = .ok (.bipush 75, 2) := by decide +kernel
theorem d_MO_plain_230 : decode c_MO_plain 230 = .ok (.bipush 78, 2) := by decide +kernel
theorem d_MO_plain_232 : decode c_MO_plain 232 = .ok (.invokestatic 100, 3) := by decide +kernel
theorem d_MO_plain_235 : decode c_MO_plain 235 = .ok (.ifCond .eq 21, 3) := by decide +kernel
theorem d_MO_plain_238 : decode c_MO_plain 238 = .ok (.aload_n 0, 1) := by decide +kernel
theorem d_MO_plain_239 : decode c_MO_plain 239 = .ok (.iconst 2, 1) := by decide +kernel
theorem d_MO_plain_240 : decode c_MO_plain 240 = .ok (.invokevirtual 152, 3) := by decide +kernel
theorem d_MO_plain_243 : decode c_MO_plain 243 = .ok (.istore 5, 2) := by decide +kernel
theorem d_MO_plain_245 : decode c_MO_plain 245 = .ok (.aload_n 0, 1) := by decide +kernel
theorem d_MO_plain_246 : decode c_MO_plain 246 = .ok (.getfield 63, 3) := by decide +kernel
theorem d_MO_plain_249 : decode c_MO_plain 249 = .ok (.iload 4, 2) := by decide +kernel
theorem d_MO_plain_251 : decode c_MO_plain 251 = .ok (.iconst 2, 1) := by decide +kernel
theorem d_MO_plain_252 : decode c_MO_plain 252 = .ok (.iastore, 1) := by decide +kernel
theorem d_MO_plain_253 : decode c_MO_plain 253 = .ok (.goto 5, 3) := by decide +kernel
theorem d_MO_plain_256 : decode c_MO_plain 256 = .ok (.iconst 0, 1) := by decide +kernel
theorem d_MO_plain_257 : decode c_MO_plain 257 = .ok (.ireturn, 1) := by decide +kernel
theorem d_MO_plain_258 : decode c_MO_plain 258 = .ok (.iconst 1, 1) := by decide +kernel
theorem d_MO_plain_259 : decode c_MO_plain 259 = .ok (.ireturn, 1) := by decide +kernel
theorem d_MO_others_0 : decode c_MO_others 0 = .ok (.aload_n 0, 1) := by decide +kernel
theorem d_MO_others_1 : decode c_MO_others 1 = .ok (.getfield 7, 3) := by decide +kernel
theorem d_MO_others_4 : decode c_MO_others 4 = .ok (.iload_n 2, 1) := by decide +kernel
theorem d_MO_others_5 : decode c_MO_others 5 = .ok (.iaload, 1) := by decide +kernel
theorem d_MO_others_6 : decode c_MO_others 6 = .ok (.istore_n 3, 1) := by decide +kernel
theorem d_MO_others_7 : decode c_MO_others 7 = .ok (.iload_n 3, 1) := by decide +kernel
theorem d_MO_others_8 : decode c_MO_others 8 = .ok (.bipush 89, 2) := by decide +kernel
theorem d_MO_others_10 : decode c_MO_others 10 = .ok (.if_icmp .eq 9, 3) := by decide +kernel
theorem d_MO_others_13 : decode c_MO_others 13 = .ok (.iload_n 3, 1) := by decide +kernel
theorem d_MO_others_14 : decode c_MO_others 14 = .ok (.bipush 95, 2) := by decide +kernel
theorem d_MO_others_16 : decode c_MO_others 16 = .ok (.if_icmp .ne 45, 3) := by decide +kernel
theorem d_MO_others_19 : decode c_MO_others 19 = .ok (.aload_n 0, 1) := by decide +kernel
theorem d_MO_others_20 : decode c_MO_others 20 = .ok (.iconst 0, 1) := by decide +kernel
theorem d_MO_others_21 : decode c_MO_others 21 = .ok (.invokevirtual 152, 3) := by decide +kernel
theorem d_MO_others_24 : decode c_MO_others 24 = .ok (.istore 4, 2) := by decide +kernel
theorem d_MO_others_26 : decode c_MO_others 26 = .ok (.iload_n 3, 1) := by decide +kernel
theorem d_MO_others_27 : decode c_MO_others 27 = .ok (.bipush 89, 2) := by decide +kernel
theorem d_MO_others_29 : decode c_MO_others 29 = .ok (.if_icmp .ne 8, 3) := by decide +kernel
theorem d_MO_others_32 : decode c_MO_others 32 = .ok (.iload 4, 2) := by decide +kernel
theorem d_MO_others_34 : decode c_MO_others 34 = .ok (.goto 8, 3) := by decide +kernel
theorem d_MO_others_37 : decode c_MO_others 37 = .ok (.aload_n 0, 1) := by decide +kernel
theorem d_MO_others_38 : decode c_MO_others 38 = .ok (.iconst 0, 1) := by decide +kernel
theorem d_MO_others_39 : decode c_MO_others 39 = .ok (.invokevirtual 152, 3) := by decide +kernel
theorem d_MO_others_42 : decode c_MO_others 42 = .ok (.istore 5, 2) := by decide +kernel
theorem d_MO_others_44 : decode c_MO_others 44 = .ok (.aload_n 0, 1) := by decide +kernel
theorem d_MO_others_45 : decode c_MO_others 45 = .ok (.iload 4, 2) := by decide +kernel
theorem d_MO_others_47 : decode c_MO_others 47 = .ok (.iload_n 1, 1) := by decide +kernel
theorem d_MO_others_48 : decode c_MO_others 48 = .ok (.invokevirtual 148, 3) := by decide +kernel
theorem d_MO_others_51 : decode c_MO_others 51 = .ok (.aload_n 0, 1) := by decide +kernel
theorem d_MO_others_52 : decode c_MO_others 52 = .ok (.iload 5, 2) := by decide +kernel
theorem d_MO_others_54 : decode c_MO_others 54 = .ok (.iload_n 1, 1) := by decide +kernel
theorem d_MO_others_55 : decode c_MO_others 55 = .ok (.invokevirtual 148, 3) := by decide +kernel
theorem d_MO_others_58 : decode c_MO_others 58 = .ok (.goto 376, 3) := by decide +kernel
theorem d_MO_others_61 : decode c_MO_others 61 = .ok (.iload_n 3, 1) := by decide +kernel
theorem d_MO_others_62 : decode c_MO_others 62 = .ok (.sipush 184, 3) := by decide +kernel
theorem d_MO_others_65 : decode c_MO_others 65 = .ok (.if_icmp .ne 59, 3) := by decide +kernel
theorem d_MO_others_68 : decode c_MO_others 68 = .ok (.aload_n 0, 1) := by decide +kernel
theorem d_MO_others_69 : decode c_MO_others 69 = .ok (.iload_n 2, 1) := by decide +kernel
theorem d_MO_others_70 : decode c_MO_others 70 = .ok (.iconst 1, 1) := by decide +kernel
theorem d_MO_others_71 : decode c_MO_others 71 = .ok (.iadd, 1) := by decide +kernel
theorem d_MO_others_72 : decode c_MO_others 72 = .ok (.invokevirtual 125, 3) := by decide +kernel
theorem d_MO_others_75 : decode c_MO_others 75 = .ok (.istore 4, 2) := by decide +kernel
theorem d_MO_others_77 : decode c_MO_others 77 = .ok (.iconst 0, 1) := by decide +kernel
theorem d_MO_others_78 : decode c_MO_others 78 = .ok (.istore 5, 2) := by decide +kernel
theorem d_MO_others_80 : decode c_MO_others 80 = .ok (.iload 5, 2) := by decide +kernel
theorem d_MO_others_82 : decode c_MO_others 82 = .ok (.aload_n 0, 1) := by decide +kernel
theorem d_MO_others_83 : decode c_MO_others 83 = .ok (.getfield 19, 3) := by decide +kernel
theorem d_MO_others_86 : decode c_MO_others 86 = .ok (.iload 4, 2) := by decide +kernel
theorem d_MO_others_88 : decode c_MO_others 88 = .ok (.iaload, 1) := by decide +kernel
theorem d_MO_others_89 : decode c_MO_others 89 = .ok (.if_icmp .ge 16, 3) := by decide +kernel
theorem d_MO_others_92 : decode c_MO_others 92 = .ok (.aload_n 0, 1) := by decide +kernel
theorem d_MO_others_93 : decode c_MO_others 93 = .ok (.iconst 1, 1) := by decide +kernel
theorem d_MO_others_94 : decode c_MO_others 94 = .ok (.invokevirtual 152, 3) := by decide +kernel
theorem d_MO_others_97 : decode c_MO_others 97 = .ok (.istore 6, 2) := by decide +kernel
theorem d_MO_others_99 : decode c_MO_others 99 = .ok (.iinc 5 1, 3) := by decide +kernel
theorem d_MO_others_102 : decode c_MO_others 102 = .ok (.goto (-22), 3) := by decide +kernel
theorem d_MO_others_105 : decode c_MO_others 105 = .ok (.aload_n 0, 1) := by decide +kernel
theorem d_MO_others_106 : decode c_MO_others 106 = .ok (.getfield 28, 3) := by decide +kernel
theorem d_MO_others_109 : decode c_MO_others 109 = .ok (.iload 4, 2) := by decide +kernel
theorem d_MO_others_111 : decode c_MO_others 111 = .ok (.baload, 1) := by decide +kernel
theorem d_MO_others_112 : decode c_MO_others 112 = .ok (.ifCond .eq 9, 3) := by decide +kernel
theorem d_MO_others_115 : decode c_MO_others 115 = .ok (.aload_n 0, 1) := by decide +kernel
theorem d_MO_others_116 : decode c_MO_others 116 = .ok (.iconst 1, 1) := by decide +kernel
theorem d_MO_others_117 : decode c_MO_others 117 = .ok (.iload_n 1, 1) := by decide +kernel
theorem d_MO_others_118 : decode c_MO_others 118 = .ok (.invokevirtual 148, 3) := by decide +kernel
theorem d_MO_others_121 : decode c_MO_others 121 = .ok (.goto 313, 3) := by decide +kernel
theorem d_MO_others_124 : decode c_MO_others 124 = .ok (.iload_n 3, 1) := by decide +kernel
theorem d_MO_others_125 : decode c_MO_others 125 = .ok (.invokestatic 112, 3) := by decide +kernel
theorem d_MO_others_128 : decode c_MO_others 128 = .ok (.ifCond .ne 28, 3) := by decide +kernel
theorem d_MO_others_131 : decode c_MO_others 131 = .ok (.iload_n 3, 1) := by decide +kernel
theorem d_MO_others_132 : decode c_MO_others 132 = .ok (.bipush 46, 2) := by decide +kernel
theorem d_MO_others_134 : decode c_MO_others 134 = .ok (.if_icmp .eq 22, 3) := by decide +kernel
theorem d_MO_others_137 : decode c_MO_others 137 = .ok (.iload_n 3, 1) := by decide +kernel
theorem d_MO_others_138 : decode c_MO_others 138 = .ok (.bipush 79, 2) := by decide +kernel
theorem d_MO_others_140 : decode c_MO_others 140 = .ok (.if_icmp .eq 16, 3) := by decide +kernel
theorem d_MO_others_143 : decode c_MO_others 143 = .ok (.iload_n 3, 1) := by decide +kernel
theorem d_MO_others_144 : decode c_MO_others 144 = .ok (.sipush 159, 3) := by decide +kernel
theorem d_MO_others_147 : decode c_MO_others 147 = .ok (.sipush 164, 3) := by decide +kernel
theorem d_MO_others_150 : decode c_MO_others 150 = .ok (.invokestatic 100, 3) := by decide +kernel
theorem d_MO_others_153 : decode c_MO_others 153 = .ok (.ifCond .eq 7, 3) := by decide +kernel
theorem d_MO_others_156 : decode c_MO_others 156 = .ok (.iconst 2, 1) := by decide +kernel
theorem d_MO_others_157 : decode c_MO_others 157 = .ok (.goto 48, 3) := by decide +kernel
theorem d_MO_others_160 : decode c_MO_others 160 = .ok (.iload_n 3, 1) := by decide +kernel
theorem d_MO_others_161 : decode c_MO_others 161 = .ok (.bipush 116, 2) := by decide +kernel
theorem d_MO_others_163 : decode c_MO_others 163 = .ok (.if_icmp .eq 37, 3) := by decide +kernel
theorem d_MO_others_166 : decode c_MO_others 166 = .ok (.iload_n 3, 1) := by decide +kernel
theorem d_MO_others_167 : decode c_MO_others 167 = .ok (.sipush 153, 3) := by decide +kernel
theorem d_MO_others_170 : decode c_MO_others 170 = .ok (.sipush 158, 3) := by decide +kernel
theorem d_MO_others_173 : decode c_MO_others 173 = .ok (.invokestatic 100, 3) := by decide +kernel
theorem d_MO_others_176 : decode c_MO_others 176 = .ok (.ifCond .ne 24, 3) := by decide +kernel
theorem d_MO_others_179 : decode c_MO_others 179 = .ok (.iload_n 3, 1) := by decide +kernel
theorem d_MO_others_180 : decode c_MO_others 180 = .ok (.sipush 172, 3) := by decide +kernel
theorem d_MO_others_183 : decode c_MO_others 183 = .ok (.if_icmp .eq 17, 3) := by decide +kernel
theorem d_MO_others_186 : decode c_MO_others 186 = .ok (.iload_n 3, 1) := by decide +kernel
theorem d_MO_others_187 : decode c_MO_others 187 = .ok (.sipush 179, 3) := by decide +kernel
theorem d_MO_others_190 : decode c_MO_others 190 = .ok (.if_icmp .eq 10, 3) := by decide +kernel
theorem d_MO_others_193 : decode c_MO_others 193 = .ok (.iload_n 3, 1) := by decide +kernel
theorem d_MO_others_194 : decode c_MO_others 194 = .ok (.sipush 188, 3) := by decide +kernel
theorem d_MO_others_197 : decode c_MO_others 197 = .ok (.if_icmp .ne 7, 3) := by decide +kernel
theorem d_MO_others_200 : decode c_MO_others 200 = .ok (.iconst 1, 1) := by decide +kernel
theorem d_MO_others_201 : decode c_MO_others 201 = .ok (.goto 4, 3) := by decide +kernel
theorem d_MO_others_204 : decode c_MO_others 204 = .ok (.iconst 0, 1) := by decide +kernel
theorem d_MO_others_205 : decode c_MO_others 205 = .ok (.istore 4, 2) := by decide +kernel
theorem d_MO_others_207 : decode c_MO_others 207 = .ok (.iload_n 3, 1) := by decide +kernel
theorem d_MO_others_208 : decode c_MO_others 208 = .ok (.bipush 46, 2) := by decide +kernel
theorem d_MO_others_210 : decode c_MO_others 210 = .ok (.if_icmp .ne 7, 3) := by decide +kernel
theorem d_MO_others_213 : decode c_MO_others 213 = .ok (.iconst 1, 1) := by decide +kernel
theorem d_MO_others_214 : decode c_MO_others 214 = .ok (.goto 5, 3) := by decide +kernel
theorem d_MO_others_217 : decode c_MO_others 217 = .ok (.iload 4, 2) := by decide +kernel
theorem d_MO_others_219 : decode c_MO_others 219 = .ok (.istore 4, 2) := by decide +kernel
theorem d_MO_others_221 : decode c_MO_others 221 = .ok (.iload_n 3, 1) := by decide +kernel
theorem d_MO_others_222 : decode c_MO_others 222 = .ok (.bipush 46, 2) := by decide +kernel
theorem d_MO_others_224 : decode c_MO_others 224 = .ok (.if_icmp .eq 30, 3) := by decide +kernel
theorem d_MO_others_227 : decode c_MO_others 227 = .ok (.iload_n 3, 1) := by decide +kernel
theorem d_MO_others_228 : decode c_MO_others 228 = .ok (.bipush 79, 2) := by decide +kernel
theorem d_MO_others_230 : decode c_MO_others 230 = .ok (.if_icmp .eq 24, 3) := by decide +kernel
theorem d_MO_others_233 : decode c_MO_others 233 = .ok (.iload_n 3, 1) := by decide +kernel
theorem d_MO_others_234 : decode c_MO_others 234 = .ok (.sipush 190, 3) := by decide +kernel
theorem d_MO_others_237 : decode c_MO_others 237 = .ok (.if_icmp .eq 17, 3) := by decide +kernel
theorem d_MO_others_240 : decode c_MO_others 240 = .ok (.iload_n 3, 1) := by decide +kernel
theorem d_MO_others_241 : decode c_MO_others 241 = .ok (.sipush 198, 3) := by decide +kernel
theorem d_MO_others_244 : decode c_MO_others 244 = .ok (.if_icmp .eq 10, 3) := by decide +kernel
theorem d_MO_others_247 : decode c_MO_others 247 = .ok (.iload_n 3, 1) := by decide +kernel
theorem d_MO_others_248 : decode c_MO_others 248 = .ok (.sipush 199, 3) := by decide +kernel
theorem d_MO_others_251 : decode c_MO_others 251 = .ok (.if_icmp .ne 7, 3) := by decide +kernel
theorem d_MO_others_254 : decode c_MO_others 254 = .ok (.iconst 1, 1) := by decide +kernel
theorem d_MO_others_255 : decode c_MO_others 255 = .ok (.goto 22, 3) := by decide +kernel
theorem d_MO_others_258 : decode c_MO_others 258 = .ok (.iload_n 3, 1) := by decide +kernel
theorem d_MO_others_259 : decode c_MO_others 259 = .ok (.sipush 165, 3) := by decide +kernel
theorem d_MO_others_262 : decode c_MO_others 262 = .ok (.if_icmp .eq 10, 3) := by decide +kernel
theorem d_MO_others_265 : decode c_MO_others 265 = .ok (.iload_n 3, 1) := by decide +kernel
theorem d_MO_others_266 : decode c_MO_others 266 = .ok (.sipush 166, 3) := by decide +kernel
theorem d_MO_others_269 : decode c_MO_others 269 = .ok (.if_icmp .ne 7, 3) := by decide +kernel
theorem d_MO_others_272 : decode c_MO_others 272 = .ok (.iconst 2, 1) := by decide +kernel
theorem d_MO_others_273 : decode c_MO_others 273 = .ok (.goto 4, 3) := by decide +kernel
theorem d_MO_others_276 : decode c_MO_others 276 = .ok (.iconst 0, 1) := by decide +kernel
theorem d_MO_others_277 : decode c_MO_others 277 = .ok (.istore 5, 2) := by decide +kernel
theorem d_MO_others_279 : decode c_MO_others 279 = .ok (.iconst 0, 1) := by decide +kernel
theorem d_MO_others_280 : decode c_MO_others 280 = .ok (.istore 6, 2) := by decide +kernel
theorem d_MO_others_282 : decode c_MO_others 282 = .ok (.iload 6, 2) := by decide +kernel
theorem d_MO_others_284 : decode c_MO_others 284 = .ok (.iload 4, 2) := by decide +kernel
theorem d_MO_others_286 : decode c_MO_others 286 = .ok (.if_icmp .ge 16, 3) := by decide +kernel
theorem d_MO_others_289 : decode c_MO_others 289 = .ok (.aload_n 0, 1) := by decide +kernel
theorem d_MO_others_290 : decode c_MO_others 290 = .ok (.iconst 1, 1) := by decide +kernel
theorem d_MO_others_291 : decode c_MO_others 291 = .ok (.invokevirtual 152, 3) := by decide +kernel
theorem d_MO_others_294 : decode c_MO_others 294 = .ok (.istore 7, 2) := by decide +kernel
theorem d_MO_others_296 : decode c_MO_others 296 = .ok (.iinc 6 1, 3) := by decide +kernel
theorem d_MO_others_299 : decode c_MO_others 299 = .ok (.goto (-17), 3) := by decide +kernel
theorem d_MO_others_302 : decode c_MO_others 302 = .ok (.iconst 0, 1) := by decide +kernel
theorem d_MO_others_303 : decode c_MO_others 303 = .ok (.istore 6, 2) := by decide +kernel
theorem d_MO_others_305 : decode c_MO_others 305 = .ok (.iload 6, 2) := by decide +kernel
theorem d_MO_others_307 : decode c_MO_others 307 = .ok (.iload 5, 2) := by decide +kernel
theorem d_MO_others_309 : decode c_MO_others 309 = .ok (.if_icmp .ge 16, 3) := by decide +kernel
theorem d_MO_others_312 : decode c_MO_others 312 = .ok (.aload_n 0, 1) := by decide +kernel
theorem d_MO_others_313 : decode c_MO_others 313 = .ok (.iconst 2, 1) := by decide +kernel
theorem d_MO_others_314 : decode c_MO_others 314 = .ok (.invokevirtual 152, 3) := by decide +kernel
theorem d_MO_others_317 : decode c_MO_others 317 = .ok (.istore 7, 2) := by decide +kernel
theorem d_MO_others_319 : decode c_MO_others 319 = .ok (.iinc 6 1, 3) := by decide +kernel
theorem d_MO_others_322 : decode c_MO_others 322 = .ok (.goto (-17), 3) := by decide +kernel
theorem d_MO_others_325 : decode c_MO_others 325 = .ok (.iload_n 3, 1) := by decide +kernel
theorem d_MO_others_326 : decode c_MO_others 326 = .ok (.bipush 87, 2) := by decide +kernel
theorem d_MO_others_328 : decode c_MO_others 328 = .ok (.if_icmp .ne 10, 3) := by decide +kernel
theorem d_MO_others_331 : decode c_MO_others 331 = .ok (.aload_n 0, 1) := by decide +kernel
theorem d_MO_others_332 : decode c_MO_others 332 = .ok (.iconst 0, 1) := by decide +kernel
theorem d_MO_others_333 : decode c_MO_others 333 = .ok (.invokevirtual 152, 3) := by decide +kernel
theorem d_MO_others_336 : decode c_MO_others 336 = .ok (.istore 6, 2) := by decide +kernel
theorem d_MO_others_338 : decode c_MO_others 338 = .ok (.iload_n 3, 1) := by decide +kernel
theorem d_MO_others_339 : decode c_MO_others 339 = .ok (.invokestatic 112, 3) := by decide +kernel
theorem d_MO_others_342 : decode c_MO_others 342 = .ok (.ifCond .ne 22, 3) := by decide +kernel
theorem d_MO_others_345 : decode c_MO_others 345 = .ok (.iload_n 3, 1) := by decide +kernel
theorem d_MO_others_346 : decode c_MO_others 346 = .ok (.bipush 116, 2) := by decide +kernel
theorem d_MO_others_348 : decode c_MO_others 348 = .ok (.if_icmp .eq 16, 3) := by decide +kernel
theorem d_MO_others_351 : decode c_MO_others 351 = .ok (.iload_n 3, 1) := by decide +kernel
theorem d_MO_others_352 : decode c_MO_others 352 = .ok (.bipush 46, 2) := by decide +kernel
theorem d_MO_others_354 : decode c_MO_others 354 = .ok (.if_icmp .eq 10, 3) := by decide +kernel
theorem d_MO_others_357 : decode c_MO_others 357 = .ok (.iload_n 3, 1) := by decide +kernel
theorem d_MO_others_358 : decode c_MO_others 358 = .ok (.sipush 190, 3) := by decide +kernel
theorem d_MO_others_361 : decode c_MO_others 361 = .ok (.if_icmp .ne 12, 3) := by decide +kernel
theorem d_MO_others_364 : decode c_MO_others 364 = .ok (.aload_n 0, 1) := by decide +kernel
theorem d_MO_others_365 : decode c_MO_others 365 = .ok (.iconst 1, 1) := by decide +kernel
theorem d_MO_others_366 : decode c_MO_others 366 = .ok (.iload_n 1, 1) := by decide +kernel
theorem d_MO_others_367 : decode c_MO_others 367 = .ok (.invokevirtual 148, 3) := by decide +kernel
theorem d_MO_others_370 : decode c_MO_others 370 = .ok (.goto 16, 3) := by decide +kernel
theorem d_MO_others_373 : decode c_MO_others 373 = .ok (.iload_n 3, 1) := by decide +kernel
theorem d_MO_others_374 : decode c_MO_others 374 = .ok (.sipush 188, 3) := by decide +kernel
theorem d_MO_others_377 : decode c_MO_others 377 = .ok (.if_icmp .ne 9, 3) := by decide +kernel
theorem d_MO_others_380 : decode c_MO_others 380 = .ok (.aload_n 0, 1) := by decide +kernel
theorem d_MO_others_381 : decode c_MO_others 381 = .ok (.iconst 2, 1) := by decide +kernel
theorem d_MO_others_382 : decode c_MO_others 382 = .ok (.iload_n 1, 1) := by decide +kernel
theorem d_MO_others_383 : decode c_MO_others 383 = .ok (.invokevirtual 148, 3) := by decide +kernel
theorem d_MO_others_386 : decode c_MO_others 386 = .ok (.aload_n 0, 1) := by decide +kernel
theorem d_MO_others_387 : decode c_MO_others 387 = .ok (.aload_n 0, 1) := by decide +kernel
theorem d_MO_others_388 : decode c_MO_others 388 = .ok (.getfield 138, 3) := by decide +kernel
theorem d_MO_others_391 : decode c_MO_others 391 = .ok (.ifCond .eq 39, 3) := by decide +kernel
theorem d_MO_others_394 : decode c_MO_others 394 = .ok (.iload_n 3, 1) := by decide +kernel
theorem d_MO_others_395 : decode c_MO_others 395 = .ok (.sipush 172, 3) := by decide +kernel
theorem d_MO_others_398 : decode c_MO_others 398 = .ok (.if_icmp .ne 12, 3) := by decide +kernel
theorem d_MO_others_401 : decode c_MO_others 401 = .ok (.aload_n 0, 1) := by decide +kernel
theorem d_MO_others_402 : decode c_MO_others 402 = .ok (.getfield 28, 3) := by decide +kernel
theorem d_MO_others_405 : decode c_MO_others 405 = .ok (.iload_n 1, 1) := by decide +kernel
theorem d_MO_others_406 : decode c_MO_others 406 = .ok (.baload, 1) := by decide +kernel
theorem d_MO_others_407 : decode c_MO_others 407 = .ok (.ifCond .eq 23, 3) := by decide +kernel
theorem d_MO_others_410 : decode c_MO_others 410 = .ok (.iload_n 3, 1) := by decide +kernel
theorem d_MO_others_411 : decode c_MO_others 411 = .ok (.sipush 177, 3) := by decide +kernel
theorem d_MO_others_414 : decode c_MO_others 414 = .ok (.if_icmp .ne 12, 3) := by decide +kernel
theorem d_MO_others_417 : decode c_MO_others 417 = .ok (.aload_n 0, 1) := by decide +kernel
theorem d_MO_others_418 : decode c_MO_others 418 = .ok (.getfield 28, 3) := by decide +kernel
theorem d_MO_others_421 : decode c_MO_others 421 = .ok (.iload_n 1, 1) := by decide +kernel
theorem d_MO_others_422 : decode c_MO_others 422 = .ok (.baload, 1) := by decide +kernel
theorem d_MO_others_423 : decode c_MO_others 423 = .ok (.ifCond .ne 7, 3) := by decide +kernel
theorem d_MO_others_426 : decode c_MO_others 426 = .ok (.iconst 1, 1) := by decide +kernel
theorem d_MO_others_427 : decode c_MO_others 427 = .ok (.goto 4, 3) := by decide +kernel
theorem d_MO_others_430 : decode c_MO_others 430 = .ok (.iconst 0, 1) := by decide +kernel
theorem d_MO_others_431 : decode c_MO_others 431 = .ok (.putfield 138, 3) := by decide +kernel
theorem d_MO_others_434 : decode c_MO_others 434 = .ok (.return_, 1) := by decide +kernel
theorem d_MO_flowFrom_0 : decode c_MO_flowFrom 0 = .ok (.aload_n 0, 1) := by decide +kernel
theorem d_MO_flowFrom_1 : decode c_MO_flowFrom 1 = .ok (.getfield 7, 3) := by decide +kernel
theorem d_MO_flowFrom_4 : decode c_MO_flowFrom 4 = .ok (.iload_n 2, 1) := by decide +kernel
theorem d_MO_flowFrom_5 : decode c_MO_flowFrom 5 = .ok (.iaload, 1) := by decide +kernel
theorem d_MO_flowFrom_6 : decode c_MO_flowFrom 6 = .ok (.istore_n 3, 1) := by decide +kernel
theorem d_MO_flowFrom_7 : decode c_MO_flowFrom 7 = .ok (.iconst 0, 1) := by decide +kernel
theorem d_MO_flowFrom_8 : decode c_MO_flowFrom 8 = .ok (.istore 4, 2) := by decide +kernel
theorem d_MO_flowFrom_10 : decode c_MO_flowFrom 10 = .ok (.iload 4, 2) := by decide +kernel
theorem d_MO_flowFrom_12 : decode c_MO_flowFrom 12 = .ok (.bipush 16, 2) := by decide +kernel
theorem d_MO_flowFrom_14 : decode c_MO_flowFrom 14 = .ok (.if_icmp .ge 28, 3) := by decide +kernel
theorem d_MO_flowFrom_17 : decode c_MO_flowFrom 17 = .ok (.aload_n 0, 1) := by decide +kernel
theorem d_MO_flowFrom_18 : decode c_MO_flowFrom 18 = .ok (.getfield 63, 3) := by decide +kernel
theorem d_MO_flowFrom_21 : decode c_MO_flowFrom 21 = .ok (.iload 4, 2) := by decide +kernel
theorem d_MO_flowFrom_23 : decode c_MO_flowFrom 23 = .ok (.aload_n 0, 1) := by decide +kernel
theorem d_MO_flowFrom_24 : decode c_MO_flowFrom 24 = .ok (.getfield 57, 3) := by decide +kernel
theorem d_MO_flowFrom_27 : decode c_MO_flowFrom 27 = .ok (.bipush 16, 2) := by decide +kernel
theorem d_MO_flowFrom_29 : decode c_MO_flowFrom 29 = .ok (.iload_n 2, 1) := by decide +kernel
theorem d_MO_flowFrom_30 : decode c_MO_flowFrom 30 = .ok (.imul, 1) := by decide +kernel
theorem d_MO_flowFrom_31 : decode c_MO_flowFrom 31 = .ok (.iload 4, 2) := by decide +kernel
theorem d_MO_flowFrom_33 : decode c_MO_flowFrom 33 = .ok (.iadd, 1) := by decide +kernel
theorem d_MO_flowFrom_34 : decode c_MO_flowFrom 34 = .ok (.iaload, 1) := by decide +kernel
theorem d_MO_flowFrom_35 : decode c_MO_flowFrom 35 = .ok (.iastore, 1) := by decide +kernel
theorem d_MO_flowFrom_36 : decode c_MO_flowFrom 36 = .ok (.iinc 4 1, 3) := by decide +kernel
theorem d_MO_flowFrom_39 : decode c_MO_flowFrom 39 = .ok (.goto (-29), 3) := by decide +kernel
theorem d_MO_flowFrom_42 : decode c_MO_flowFrom 42 = .ok (.aload_n 0, 1) := by decide +kernel
theorem d_MO_flowFrom_43 : decode c_MO_flowFrom 43 = .ok (.aload_n 0, 1) := by decide +kernel
theorem d_MO_flowFrom_44 : decode c_MO_flowFrom 44 = .ok (.getfield 60, 3) := by decide +kernel
theorem d_MO_flowFrom_47 : decode c_MO_flowFrom 47 = .ok (.iload_n 2, 1) := by decide +kernel
theorem d_MO_flowFrom_48 : decode c_MO_flowFrom 48 = .ok (.iaload, 1) := by decide +kernel
theorem d_MO_flowFrom_49 : decode c_MO_flowFrom 49 = .ok (.putfield 135, 3) := by decide +kernel
theorem d_MO_flowFrom_52 : decode c_MO_flowFrom 52 = .ok (.iload_n 2, 1) := by decide +kernel
theorem d_MO_flowFrom_53 : decode c_MO_flowFrom 53 = .ok (.aload_n 0, 1) := by decide +kernel
theorem d_MO_flowFrom_54 : decode c_MO_flowFrom 54 = .ok (.getfield 13, 3) := by decide +kernel
theorem d_MO_flowFrom_57 : decode c_MO_flowFrom 57 = .ok (.iload_n 1, 1) := by decide +kernel
theorem d_MO_flowFrom_58 : decode c_MO_flowFrom 58 = .ok (.iaload, 1) := by decide +kernel
theorem d_MO_flowFrom_59 : decode c_MO_flowFrom 59 = .ok (.isub, 1) := by decide +kernel
theorem d_MO_flowFrom_60 : decode c_MO_flowFrom 60 = .ok (.istore 4, 2) := by decide +kernel
theorem d_MO_flowFrom_62 : decode c_MO_flowFrom 62 = .ok (.aload_n 0, 1) := by decide +kernel
theorem d_MO_flowFrom_63 : decode c_MO_flowFrom 63 = .ok (.iload_n 1, 1) := by decide +kernel
theorem d_MO_flowFrom_64 : decode c_MO_flowFrom 64 = .ok (.iload 4, 2) := by decide +kernel
theorem d_MO_flowFrom_66 : decode c_MO_flowFrom 66 = .ok (.invokevirtual 155, 3) := by decide +kernel
theorem d_MO_flowFrom_69 : decode c_MO_flowFrom 69 = .ok (.aload_n 0, 1) := by decide +kernel
theorem d_MO_flowFrom_70 : decode c_MO_flowFrom 70 = .ok (.iload_n 1, 1) := by decide +kernel
theorem d_MO_flowFrom_71 : decode c_MO_flowFrom 71 = .ok (.iload_n 2, 1) := by decide +kernel
theorem d_MO_flowFrom_72 : decode c_MO_flowFrom 72 = .ok (.invokevirtual 158, 3) := by decide +kernel
theorem d_MO_flowFrom_75 : decode c_MO_flowFrom 75 = .ok (.ifCond .ne 9, 3) := by decide +kernel
theorem d_MO_flowFrom_78 : decode c_MO_flowFrom 78 = .ok (.aload_n 0, 1) := by decide +kernel
theorem d_MO_flowFrom_79 : decode c_MO_flowFrom 79 = .ok (.iload_n 1, 1) := by decide +kernel
theorem d_MO_flowFrom_80 : decode c_MO_flowFrom 80 = .ok (.iload_n 2, 1) := by decide +kernel
theorem d_MO_flowFrom_81 : decode c_MO_flowFrom 81 = .ok (.invokevirtual 161, 3) := by decide +kernel
theorem d_MO_flowFrom_84 : decode c_MO_flowFrom 84 = .ok (.aload_n 0, 1) := by decide +kernel
theorem d_MO_flowFrom_85 : decode c_MO_flowFrom 85 = .ok (.getfield 138, 3) := by decide +kernel
theorem d_MO_flowFrom_88 : decode c_MO_flowFrom 88 = .ok (.ifCond .ne 4, 3) := by decide +kernel
theorem d_MO_flowFrom_91 : decode c_MO_flowFrom 91 = .ok (.return_, 1) := by decide +kernel
theorem d_MO_flowFrom_92 : decode c_MO_flowFrom 92 = .ok (.aload_n 0, 1) := by decide +kernel
theorem d_MO_flowFrom_93 : decode c_MO_flowFrom 93 = .ok (.iload_n 1, 1) := by decide +kernel
theorem d_MO_flowFrom_94 : decode c_MO_flowFrom 94 = .ok (.iload 4, 2) := by decide +kernel
theorem d_MO_flowFrom_96 : decode c_MO_flowFrom 96 = .ok (.invokevirtual 155, 3) := by decide +kernel
theorem d_MO_flowFrom_99 : decode c_MO_flowFrom 99 = .ok (.iload_n 3, 1) := by decide +kernel
theorem d_MO_flowFrom_100 : decode c_MO_flowFrom 100 = .ok (.invokestatic 115, 3) := by decide +kernel
theorem d_MO_flowFrom_103 : decode c_MO_flowFrom 103 = .ok (.ifCond .eq 18, 3) := by decide +kernel
theorem d_MO_flowFrom_106 : decode c_MO_flowFrom 106 = .ok (.aload_n 0, 1) := by decide +kernel
theorem d_MO_flowFrom_107 : decode c_MO_flowFrom 107 = .ok (.iload_n 1, 1) := by decide +kernel
theorem d_MO_flowFrom_108 : decode c_MO_flowFrom 108 = .ok (.iload_n 2, 1) := by decide +kernel
theorem d_MO_flowFrom_109 : decode c_MO_flowFrom 109 = .ok (.aload_n 0, 1) := by decide +kernel
theorem d_MO_flowFrom_110 : decode c_MO_flowFrom 110 = .ok (.iload_n 2, 1) := by decide +kernel
theorem d_MO_flowFrom_111 : decode c_MO_flowFrom 111 = .ok (.iconst 1, 1) := by decide +kernel
theorem d_MO_flowFrom_112 : decode c_MO_flowFrom 112 = .ok (.iadd, 1) := by decide +kernel
theorem d_MO_flowFrom_113 : decode c_MO_flowFrom 113 = .ok (.invokevirtual 125, 3) := by decide +kernel
theorem d_MO_flowFrom_116 : decode c_MO_flowFrom 116 = .ok (.iadd, 1) := by decide +kernel
theorem d_MO_flowFrom_117 : decode c_MO_flowFrom 117 = .ok (.iconst 0, 1) := by decide +kernel
theorem d_MO_flowFrom_118 : decode c_MO_flowFrom 118 = .ok (.invokevirtual 144, 3) := by decide +kernel
theorem d_MO_flowFrom_121 : decode c_MO_flowFrom 121 = .ok (.iload_n 3, 1) := by decide +kernel
theorem d_MO_flowFrom_122 : decode c_MO_flowFrom 122 = .ok (.sipush 167, 3) := by decide +kernel
theorem d_MO_flowFrom_125 : decode c_MO_flowFrom 125 = .ok (.if_icmp .eq 29, 3) := by decide +kernel
theorem d_MO_flowFrom_128 : decode c_MO_flowFrom 128 = .ok (.iload_n 3, 1) := by decide +kernel
theorem d_MO_flowFrom_129 : decode c_MO_flowFrom 129 = .ok (.sipush 172, 3) := by decide +kernel
theorem d_MO_flowFrom_132 : decode c_MO_flowFrom 132 = .ok (.if_icmp .eq 22, 3) := by decide +kernel
theorem d_MO_flowFrom_135 : decode c_MO_flowFrom 135 = .ok (.iload_n 3, 1) := by decide +kernel
theorem d_MO_flowFrom_136 : decode c_MO_flowFrom 136 = .ok (.sipush 177, 3) := by decide +kernel
theorem d_MO_flowFrom_139 : decode c_MO_flowFrom 139 = .ok (.if_icmp .eq 15, 3) := by decide +kernel
theorem d_MO_flowFrom_142 : decode c_MO_flowFrom 142 = .ok (.aload_n 0, 1) := by decide +kernel
theorem d_MO_flowFrom_143 : decode c_MO_flowFrom 143 = .ok (.iload_n 1, 1) := by decide +kernel
theorem d_MO_flowFrom_144 : decode c_MO_flowFrom 144 = .ok (.iload_n 2, 1) := by decide +kernel
theorem d_MO_flowFrom_145 : decode c_MO_flowFrom 145 = .ok (.iload_n 3, 1) := by decide +kernel
theorem d_MO_flowFrom_146 : decode c_MO_flowFrom 146 = .ok (.invokestatic 118, 3) := by decide +kernel
theorem d_MO_flowFrom_149 : decode c_MO_flowFrom 149 = .ok (.iadd, 1) := by decide +kernel
theorem d_MO_flowFrom_150 : decode c_MO_flowFrom 150 = .ok (.iconst 0, 1) := by decide +kernel
theorem d_MO_flowFrom_151 : decode c_MO_flowFrom 151 = .ok (.invokevirtual 144, 3) := by decide +kernel
theorem d_MO_flowFrom_154 : decode c_MO_flowFrom 154 = .ok (.return_, 1) := by decide +kernel
theorem d_MO_flow_0 : decode c_MO_flow 0 = .ok (.iconst 0, 1) := by decide +kernel
theorem d_MO_flow_1 : decode c_MO_flow 1 = .ok (.istore_n 2, 1) := by decide +kernel
theorem d_MO_flow_2 : decode c_MO_flow 2 = .ok (.iload_n 2, 1) := by decide +kernel
theorem d_MO_flow_3 : decode c_MO_flow 3 = .ok (.bipush 16, 2) := by decide +kernel
theorem d_MO_flow_5 : decode c_MO_flow 5 = .ok (.if_icmp .ge 30, 3) := by decide +kernel
theorem d_MO_flow_8 : decode c_MO_flow 8 = .ok (.aload_n 0, 1) := by decide +kernel
theorem d_MO_flow_9 : decode c_MO_flow 9 = .ok (.getfield 63, 3) := by decide +kernel
theorem d_MO_flow_12 : decode c_MO_flow 12 = .ok (.iload_n 2, 1) := by decide +kernel
theorem d_MO_flow_13 : decode c_MO_flow 13 = .ok (.iload_n 2, 1) := by decide +kernel
theorem d_MO_flow_14 : decode c_MO_flow 14 = .ok (.aload_n 0, 1) := by decide +kernel
theorem d_MO_flow_15 : decode c_MO_flow 15 = .ok (.getfield 19, 3) := by decide +kernel
theorem d_MO_flow_18 : decode c_MO_flow 18 = .ok (.iload_n 1, 1) := by decide +kernel
theorem d_MO_flow_19 : decode c_MO_flow 19 = .ok (.iaload, 1) := by decide +kernel
theorem d_MO_flow_20 : decode c_MO_flow 20 = .ok (.if_icmp .ge 7, 3) := by decide +kernel
theorem d_MO_flow_23 : decode c_MO_flow 23 = .ok (.iconst 1, 1) := by decide +kernel
theorem d_MO_flow_24 : decode c_MO_flow 24 = .ok (.goto 4, 3) := by decide +kernel
theorem d_MO_flow_27 : decode c_MO_flow 27 = .ok (.iconst 0, 1) := by decide +kernel
theorem d_MO_flow_28 : decode c_MO_flow 28 = .ok (.iastore, 1) := by decide +kernel
theorem d_MO_flow_29 : decode c_MO_flow 29 = .ok (.iinc 2 1, 3) := by decide +kernel
theorem d_MO_flow_32 : decode c_MO_flow 32 = .ok (.goto (-30), 3) := by decide +kernel
theorem d_MO_flow_35 : decode c_MO_flow 35 = .ok (.aload_n 0, 1) := by decide +kernel
theorem d_MO_flow_36 : decode c_MO_flow 36 = .ok (.iconst 0, 1) := by decide +kernel
theorem d_MO_flow_37 : decode c_MO_flow 37 = .ok (.putfield 135, 3) := by decide +kernel
theorem d_MO_flow_40 : decode c_MO_flow 40 = .ok (.aload_n 0, 1) := by decide +kernel
theorem d_MO_flow_41 : decode c_MO_flow 41 = .ok (.iconst 1, 1) := by decide +kernel
theorem d_MO_flow_42 : decode c_MO_flow 42 = .ok (.putfield 138, 3) := by decide +kernel
theorem d_MO_flow_45 : decode c_MO_flow 45 = .ok (.aload_n 0, 1) := by decide +kernel
theorem d_MO_flow_46 : decode c_MO_flow 46 = .ok (.iload_n 1, 1) := by decide +kernel
theorem d_MO_flow_47 : decode c_MO_flow 47 = .ok (.aload_n 0, 1) := by decide +kernel
theorem d_MO_flow_48 : decode c_MO_flow 48 = .ok (.getfield 13, 3) := by decide +kernel
theorem d_MO_flow_51 : decode c_MO_flow 51 = .ok (.iload_n 1, 1) := by decide +kernel
theorem d_MO_flow_52 : decode c_MO_flow 52 = .ok (.iaload, 1) := by decide +kernel
theorem d_MO_flow_53 : decode c_MO_flow 53 = .ok (.iconst 0, 1) := by decide +kernel
theorem d_MO_flow_54 : decode c_MO_flow 54 = .ok (.invokevirtual 144, 3) := by decide +kernel
theorem d_MO_flow_57 : decode c_MO_flow 57 = .ok (.aload_n 0, 1) := by decide +kernel
theorem d_MO_flow_58 : decode c_MO_flow 58 = .ok (.iconst 1, 1) := by decide +kernel
theorem d_MO_flow_59 : decode c_MO_flow 59 = .ok (.putfield 141, 3) := by decide +kernel
theorem d_MO_flow_62 : decode c_MO_flow 62 = .ok (.iconst 0, 1) := by decide +kernel
theorem d_MO_flow_63 : decode c_MO_flow 63 = .ok (.istore_n 2, 1) := by decide +kernel
theorem d_MO_flow_64 : decode c_MO_flow 64 = .ok (.iload_n 2, 1) := by decide +kernel
theorem d_MO_flow_65 : decode c_MO_flow 65 = .ok (.sipush 2000, 3) := by decide +kernel
theorem d_MO_flow_68 : decode c_MO_flow 68 = .ok (.if_icmp .ge 80, 3) := by decide +kernel
theorem d_MO_flow_71 : decode c_MO_flow 71 = .ok (.aload_n 0, 1) := by decide +kernel
theorem d_MO_flow_72 : decode c_MO_flow 72 = .ok (.getfield 141, 3) := by decide +kernel
theorem d_MO_flow_75 : decode c_MO_flow 75 = .ok (.ifCond .eq 73, 3) := by decide +kernel
theorem d_MO_flow_78 : decode c_MO_flow 78 = .ok (.aload_n 0, 1) := by decide +kernel
theorem d_MO_flow_79 : decode c_MO_flow 79 = .ok (.getfield 138, 3) := by decide +kernel
theorem d_MO_flow_82 : decode c_MO_flow 82 = .ok (.ifCond .eq 66, 3) := by decide +kernel
theorem d_MO_flow_85 : decode c_MO_flow 85 = .ok (.aload_n 0, 1) := by decide +kernel
theorem d_MO_flow_86 : decode c_MO_flow 86 = .ok (.iconst 0, 1) := by decide +kernel
theorem d_MO_flow_87 : decode c_MO_flow 87 = .ok (.putfield 141, 3) := by decide +kernel
theorem d_MO_flow_90 : decode c_MO_flow 90 = .ok (.aload_n 0, 1) := by decide +kernel
theorem d_MO_flow_91 : decode c_MO_flow 91 = .ok (.getfield 13, 3) := by decide +kernel
theorem d_MO_flow_94 : decode c_MO_flow 94 = .ok (.iload_n 1, 1) := by decide +kernel
theorem d_MO_flow_95 : decode c_MO_flow 95 = .ok (.iaload, 1) := by decide +kernel
theorem d_MO_flow_96 : decode c_MO_flow 96 = .ok (.istore_n 3, 1) := by decide +kernel
theorem d_MO_flow_97 : decode c_MO_flow 97 = .ok (.iload_n 3, 1) := by decide +kernel
theorem d_MO_flow_98 : decode c_MO_flow 98 = .ok (.aload_n 0, 1) := by decide +kernel
theorem d_MO_flow_99 : decode c_MO_flow 99 = .ok (.getfield 13, 3) := by decide +kernel
theorem d_MO_flow_102 : decode c_MO_flow 102 = .ok (.iload_n 1, 1) := by decide +kernel
theorem d_MO_flow_103 : decode c_MO_flow 103 = .ok (.iaload, 1) := by decide +kernel
theorem d_MO_flow_104 : decode c_MO_flow 104 = .ok (.aload_n 0, 1) := by decide +kernel
theorem d_MO_flow_105 : decode c_MO_flow 105 = .ok (.getfield 16, 3) := by decide +kernel
theorem d_MO_flow_108 : decode c_MO_flow 108 = .ok (.iload_n 1, 1) := by decide +kernel
theorem d_MO_flow_109 : decode c_MO_flow 109 = .ok (.iaload, 1) := by decide +kernel
theorem d_MO_flow_110 : decode c_MO_flow 110 = .ok (.iadd, 1) := by decide +kernel
theorem d_MO_flow_111 : decode c_MO_flow 111 = .ok (.if_icmp .ge 31, 3) := by decide +kernel
theorem d_MO_flow_114 : decode c_MO_flow 114 = .ok (.aload_n 0, 1) := by decide +kernel
theorem d_MO_flow_115 : decode c_MO_flow 115 = .ok (.getfield 138, 3) := by decide +kernel
theorem d_MO_flow_118 : decode c_MO_flow 118 = .ok (.ifCond .eq 24, 3) := by decide +kernel
theorem d_MO_flow_121 : decode c_MO_flow 121 = .ok (.aload_n 0, 1) := by decide +kernel
theorem d_MO_flow_122 : decode c_MO_flow 122 = .ok (.getfield 54, 3) := by decide +kernel
theorem d_MO_flow_125 : decode c_MO_flow 125 = .ok (.iload_n 3, 1) := by decide +kernel
theorem d_MO_flow_126 : decode c_MO_flow 126 = .ok (.baload, 1) := by decide +kernel
theorem d_MO_flow_127 : decode c_MO_flow 127 = .ok (.ifCond .eq 9, 3) := by decide +kernel
theorem d_MO_flow_130 : decode c_MO_flow 130 = .ok (.aload_n 0, 1) := by decide +kernel
theorem d_MO_flow_131 : decode c_MO_flow 131 = .ok (.iload_n 1, 1) := by decide +kernel
theorem d_MO_flow_132 : decode c_MO_flow 132 = .ok (.iload_n 3, 1) := by decide +kernel
theorem d_MO_flow_133 : decode c_MO_flow 133 = .ok (.invokevirtual 164, 3) := by decide +kernel
theorem d_MO_flow_136 : decode c_MO_flow 136 = .ok (.iinc 3 1, 3) := by decide +kernel
theorem d_MO_flow_139 : decode c_MO_flow 139 = .ok (.goto (-42), 3) := by decide +kernel
theorem d_MO_flow_142 : decode c_MO_flow 142 = .ok (.iinc 2 1, 3) := by decide +kernel
theorem d_MO_flow_145 : decode c_MO_flow 145 = .ok (.goto (-81), 3) := by decide +kernel
theorem d_MO_flow_148 : decode c_MO_flow 148 = .ok (.aload_n 0, 1) := by decide +kernel
theorem d_MO_flow_149 : decode c_MO_flow 149 = .ok (.getfield 138, 3) := by decide +kernel
theorem d_MO_flow_152 : decode c_MO_flow 152 = .ok (.ireturn, 1) := by decide +kernel
theorem d_MO_verify_0 : decode c_MO_verify 0 = .ok (.aload_n 0, 1) := by decide +kernel
theorem d_MO_verify_1 : decode c_MO_verify 1 = .ok (.aload_n 0, 1) := by decide +kernel
theorem d_MO_verify_2 : decode c_MO_verify 2 = .ok (.getfield 96, 3) := by decide +kernel
theorem d_MO_verify_5 : decode c_MO_verify 5 = .ok (.ifCond .ne 10, 3) := by decide +kernel
theorem d_MO_verify_8 : decode c_MO_verify 8 = .ok (.aload_n 0, 1) := by decide +kernel
theorem d_MO_verify_9 : decode c_MO_verify 9 = .ok (.getfield 104, 3) := by decide +kernel
theorem d_MO_verify_12 : decode c_MO_verify 12 = .ok (.ifCond .ne 7, 3) := by decide +kernel
theorem d_MO_verify_15 : decode c_MO_verify 15 = .ok (.iconst 2, 1) := by decide +kernel
theorem d_MO_verify_16 : decode c_MO_verify 16 = .ok (.goto 4, 3) := by decide +kernel
theorem d_MO_verify_19 : decode c_MO_verify 19 = .ok (.iconst 0, 1) := by decide +kernel
theorem d_MO_verify_20 : decode c_MO_verify 20 = .ok (.putfield 90, 3) := by decide +kernel
theorem d_MO_verify_23 : decode c_MO_verify 23 = .ok (.aload_n 0, 1) := by decide +kernel
theorem d_MO_verify_24 : decode c_MO_verify 24 = .ok (.getfield 90, 3) := by decide +kernel
theorem d_MO_verify_27 : decode c_MO_verify 27 = .ok (.ifCond .le 5, 3) := by decide +kernel
theorem d_MO_verify_30 : decode c_MO_verify 30 = .ok (.iconst 0, 1) := by decide +kernel
theorem d_MO_verify_31 : decode c_MO_verify 31 = .ok (.ireturn, 1) := by decide +kernel
theorem d_MO_verify_32 : decode c_MO_verify 32 = .ok (.iconst 0, 1) := by decide +kernel
theorem d_MO_verify_33 : decode c_MO_verify 33 = .ok (.istore_n 1, 1) := by decide +kernel
theorem d_MO_verify_34 : decode c_MO_verify 34 = .ok (.iload_n 1, 1) := by decide +kernel
theorem d_MO_verify_35 : decode c_MO_verify 35 = .ok (.sipush 200, 3) := by decide +kernel
theorem d_MO_verify_38 : decode c_MO_verify 38 = .ok (.if_icmp .gt 23, 3) := by decide +kernel
theorem d_MO_verify_41 : decode c_MO_verify 41 = .ok (.aload_n 0, 1) := by decide +kernel
theorem d_MO_verify_42 : decode c_MO_verify 42 = .ok (.getfield 51, 3) := by decide +kernel
theorem d_MO_verify_45 : decode c_MO_verify 45 = .ok (.iload_n 1, 1) := by decide +kernel
theorem d_MO_verify_46 : decode c_MO_verify 46 = .ok (.iconst 0, 1) := by decide +kernel
theorem d_MO_verify_47 : decode c_MO_verify 47 = .ok (.bastore, 1) := by decide +kernel
theorem d_MO_verify_48 : decode c_MO_verify 48 = .ok (.aload_n 0, 1) := by decide +kernel
theorem d_MO_verify_49 : decode c_MO_verify 49 = .ok (.getfield 54, 3) := by decide +kernel
theorem d_MO_verify_52 : decode c_MO_verify 52 = .ok (.iload_n 1, 1) := by decide +kernel
theorem d_MO_verify_53 : decode c_MO_verify 53 = .ok (.iconst 0, 1) := by decide +kernel
theorem d_MO_verify_54 : decode c_MO_verify 54 = .ok (.bastore, 1) := by decide +kernel
theorem d_MO_verify_55 : decode c_MO_verify 55 = .ok (.iinc 1 1, 3) := by decide +kernel
theorem d_MO_verify_58 : decode c_MO_verify 58 = .ok (.goto (-24), 3) := by decide +kernel
theorem d_MO_verify_61 : decode c_MO_verify 61 = .ok (.aload_n 0, 1) := by decide +kernel
theorem d_MO_verify_62 : decode c_MO_verify 62 = .ok (.iconst (-1), 1) := by decide +kernel
theorem d_MO_verify_63 : decode c_MO_verify 63 = .ok (.putfield 47, 3) := by decide +kernel
theorem d_MO_verify_66 : decode c_MO_verify 66 = .ok (.iconst 0, 1) := by decide +kernel
theorem d_MO_verify_67 : decode c_MO_verify 67 = .ok (.istore_n 1, 1) := by decide +kernel
theorem d_MO_verify_68 : decode c_MO_verify 68 = .ok (.iload_n 1, 1) := by decide +kernel
theorem d_MO_verify_69 : decode c_MO_verify 69 = .ok (.aload_n 0, 1) := by decide +kernel
theorem d_MO_verify_70 : decode c_MO_verify 70 = .ok (.getfield 104, 3) := by decide +kernel
theorem d_MO_verify_73 : decode c_MO_verify 73 = .ok (.if_icmp .ge 51, 3) := by decide +kernel
theorem d_MO_verify_76 : decode c_MO_verify 76 = .ok (.aload_n 0, 1) := by decide +kernel
theorem d_MO_verify_77 : decode c_MO_verify 77 = .ok (.iload_n 1, 1) := by decide +kernel
theorem d_MO_verify_78 : decode c_MO_verify 78 = .ok (.invokevirtual 167, 3) := by decide +kernel
theorem d_MO_verify_81 : decode c_MO_verify 81 = .ok (.istore_n 2, 1) := by decide +kernel
theorem d_MO_verify_82 : decode c_MO_verify 82 = .ok (.iload_n 2, 1) := by decide +kernel
theorem d_MO_verify_83 : decode c_MO_verify 83 = .ok (.ifCond .eq 11, 3) := by decide +kernel
theorem d_MO_verify_86 : decode c_MO_verify 86 = .ok (.aload_n 0, 1) := by decide +kernel
theorem d_MO_verify_87 : decode c_MO_verify 87 = .ok (.iload_n 1, 1) := by decide +kernel
theorem d_MO_verify_88 : decode c_MO_verify 88 = .ok (.invokevirtual 170, 3) := by decide +kernel
theorem d_MO_verify_91 : decode c_MO_verify 91 = .ok (.ifCond .ne 27, 3) := by decide +kernel
theorem d_MO_verify_94 : decode c_MO_verify 94 = .ok (.aload_n 0, 1) := by decide +kernel
theorem d_MO_verify_95 : decode c_MO_verify 95 = .ok (.iconst 2, 1) := by decide +kernel
theorem d_MO_verify_96 : decode c_MO_verify 96 = .ok (.iload_n 1, 1) := by decide +kernel
theorem d_MO_verify_97 : decode c_MO_verify 97 = .ok (.imul, 1) := by decide +kernel
theorem d_MO_verify_98 : decode c_MO_verify 98 = .ok (.iload_n 2, 1) := by decide +kernel
theorem d_MO_verify_99 : decode c_MO_verify 99 = .ok (.ifCond .eq 7, 3) := by decide +kernel
theorem d_MO_verify_102 : decode c_MO_verify 102 = .ok (.iconst 1, 1) := by decide +kernel
theorem d_MO_verify_103 : decode c_MO_verify 103 = .ok (.goto 4, 3) := by decide +kernel
theorem d_MO_verify_106 : decode c_MO_verify 106 = .ok (.iconst 0, 1) := by decide +kernel
theorem d_MO_verify_107 : decode c_MO_verify 107 = .ok (.iadd, 1) := by decide +kernel
theorem d_MO_verify_108 : decode c_MO_verify 108 = .ok (.putfield 47, 3) := by decide +kernel
theorem d_MO_verify_111 : decode c_MO_verify 111 = .ok (.aload_n 0, 1) := by decide +kernel
theorem d_MO_verify_112 : decode c_MO_verify 112 = .ok (.iconst 1, 1) := by decide +kernel
theorem d_MO_verify_113 : decode c_MO_verify 113 = .ok (.putfield 90, 3) := by decide +kernel
theorem d_MO_verify_116 : decode c_MO_verify 116 = .ok (.iconst 0, 1) := by decide +kernel
theorem d_MO_verify_117 : decode c_MO_verify 117 = .ok (.ireturn, 1) := by decide +kernel
theorem d_MO_verify_118 : decode c_MO_verify 118 = .ok (.iinc 1 1, 3) := by decide +kernel
theorem d_MO_verify_121 : decode c_MO_verify 121 = .ok (.goto (-53), 3) := by decide +kernel
theorem d_MO_verify_124 : decode c_MO_verify 124 = .ok (.aload_n 0, 1) := by decide +kernel
theorem d_MO_verify_125 : decode c_MO_verify 125 = .ok (.iconst 1, 1) := by decide +kernel
theorem d_MO_verify_126 : decode c_MO_verify 126 = .ok (.putfield 96, 3) := by decide +kernel
theorem d_MO_verify_129 : decode c_MO_verify 129 = .ok (.iconst 0, 1) := by decide +kernel
theorem d_MO_verify_130 : decode c_MO_verify 130 = .ok (.istore_n 1, 1) := by decide +kernel
theorem d_MO_verify_131 : decode c_MO_verify 131 = .ok (.iconst 0, 1) := by decide +kernel
theorem d_MO_verify_132 : decode c_MO_verify 132 = .ok (.istore_n 2, 1) := by decide +kernel
theorem d_MO_verify_133 : decode c_MO_verify 133 = .ok (.iload_n 2, 1) := by decide +kernel
theorem d_MO_verify_134 : decode c_MO_verify 134 = .ok (.sipush 200, 3) := by decide +kernel
theorem d_MO_verify_137 : decode c_MO_verify 137 = .ok (.if_icmp .ge 26, 3) := by decide +kernel
theorem d_MO_verify_140 : decode c_MO_verify 140 = .ok (.aload_n 0, 1) := by decide +kernel
theorem d_MO_verify_141 : decode c_MO_verify 141 = .ok (.getfield 54, 3) := by decide +kernel
theorem d_MO_verify_144 : decode c_MO_verify 144 = .ok (.iload_n 2, 1) := by decide +kernel
theorem d_MO_verify_145 : decode c_MO_verify 145 = .ok (.baload, 1) := by decide +kernel
theorem d_MO_verify_146 : decode c_MO_verify 146 = .ok (.ifCond .eq 9, 3) := by decide +kernel
theorem d_MO_verify_149 : decode c_MO_verify 149 = .ok (.iload_n 1, 1) := by decide +kernel
theorem d_MO_verify_150 : decode c_MO_verify 150 = .ok (.iconst 1, 1) := by decide +kernel
theorem d_MO_verify_151 : decode c_MO_verify 151 = .ok (.iadd, 1) := by decide +kernel
theorem d_MO_verify_152 : decode c_MO_verify 152 = .ok (.goto 4, 3) := by decide +kernel
theorem d_MO_verify_155 : decode c_MO_verify 155 = .ok (.iload_n 1, 1) := by decide +kernel
theorem d_MO_verify_156 : decode c_MO_verify 156 = .ok (.istore_n 1, 1) := by decide +kernel
theorem d_MO_verify_157 : decode c_MO_verify 157 = .ok (.iinc 2 1, 3) := by decide +kernel
theorem d_MO_verify_160 : decode c_MO_verify 160 = .ok (.goto (-27), 3) := by decide +kernel
theorem d_MO_verify_163 : decode c_MO_verify 163 = .ok (.iload_n 1, 1) := by decide +kernel
theorem d_MO_verify_164 : decode c_MO_verify 164 = .ok (.ireturn, 1) := by decide +kernel
theorem d_MO_fault_0 : decode c_MO_fault 0 = .ok (.aload_n 0, 1) := by decide +kernel
theorem d_MO_fault_1 : decode c_MO_fault 1 = .ok (.iconst 0, 1) := by decide +kernel
theorem d_MO_fault_2 : decode c_MO_fault 2 = .ok (.putfield 90, 3) := by decide +kernel
theorem d_MO_fault_5 : decode c_MO_fault 5 = .ok (.aload_n 0, 1) := by decide +kernel
theorem d_MO_fault_6 : decode c_MO_fault 6 = .ok (.getfield 47, 3) := by decide +kernel
theorem d_MO_fault_9 : decode c_MO_fault 9 = .ok (.ireturn, 1) := by decide +kernel
theorem d_MO_clear_0 : decode c_MO_clear 0 = .ok (.aload_n 0, 1) := by decide +kernel
theorem d_MO_clear_1 : decode c_MO_clear 1 = .ok (.iconst 0, 1) := by decide +kernel
theorem d_MO_clear_2 : decode c_MO_clear 2 = .ok (.putfield 90, 3) := by decide +kernel
theorem d_MO_clear_5 : decode c_MO_clear 5 = .ok (.aload_n 0, 1) := by decide +kernel
theorem d_MO_clear_6 : decode c_MO_clear 6 = .ok (.iconst 0, 1) := by decide +kernel
theorem d_MO_clear_7 : decode c_MO_clear 7 = .ok (.putfield 93, 3) := by decide +kernel
theorem d_MO_clear_10 : decode c_MO_clear 10 = .ok (.aload_n 0, 1) := by decide +kernel
theorem d_MO_clear_11 : decode c_MO_clear 11 = .ok (.iconst 0, 1) := by decide +kernel
theorem d_MO_clear_12 : decode c_MO_clear 12 = .ok (.putfield 104, 3) := by decide +kernel
theorem d_MO_clear_15 : decode c_MO_clear 15 = .ok (.aload_n 0, 1) := by decide +kernel
theorem d_MO_clear_16 : decode c_MO_clear 16 = .ok (.iconst 0, 1) := by decide +kernel
theorem d_MO_clear_17 : decode c_MO_clear 17 = .ok (.putfield 96, 3) := by decide +kernel
theorem d_MO_clear_20 : decode c_MO_clear 20 = .ok (.aload_n 0, 1) := by decide +kernel
theorem d_MO_clear_21 : decode c_MO_clear 21 = .ok (.iconst (-1), 1) := by decide +kernel
theorem d_MO_clear_22 : decode c_MO_clear 22 = .ok (.putfield 47, 3) := by decide +kernel
theorem d_MO_clear_25 : decode c_MO_clear 25 = .ok (.aload_n 0, 1) := by decide +kernel
theorem d_MO_clear_26 : decode c_MO_clear 26 = .ok (.iconst 0, 1) := by decide +kernel
theorem d_MO_clear_27 : decode c_MO_clear 27 = .ok (.putfield 173, 3) := by decide +kernel
theorem d_MO_clear_30 : decode c_MO_clear 30 = .ok (.aload_n 0, 1) := by decide +kernel
theorem d_MO_clear_31 : decode c_MO_clear 31 = .ok (.iconst 0, 1) := by decide +kernel
theorem d_MO_clear_32 : decode c_MO_clear 32 = .ok (.putfield 176, 3) := by decide +kernel
theorem d_MO_clear_35 : decode c_MO_clear 35 = .ok (.aload_n 0, 1) := by decide +kernel
theorem d_MO_clear_36 : decode c_MO_clear 36 = .ok (.iconst 0, 1) := by decide +kernel
theorem d_MO_clear_37 : decode c_MO_clear 37 = .ok (.putfield 179, 3) := by decide +kernel
theorem d_MO_clear_40 : decode c_MO_clear 40 = .ok (.aload_n 0, 1) := by decide +kernel
theorem d_MO_clear_41 : decode c_MO_clear 41 = .ok (.iconst 0, 1) := by decide +kernel
theorem d_MO_clear_42 : decode c_MO_clear 42 = .ok (.putfield 182, 3) := by decide +kernel
theorem d_MO_clear_45 : decode c_MO_clear 45 = .ok (.aload_n 0, 1) := by decide +kernel
theorem d_MO_clear_46 : decode c_MO_clear 46 = .ok (.iconst 0, 1) := by decide +kernel
theorem d_MO_clear_47 : decode c_MO_clear 47 = .ok (.putfield 185, 3) := by decide +kernel
theorem d_MO_clear_50 : decode c_MO_clear 50 = .ok (.iconst 0, 1) := by decide +kernel
theorem d_MO_clear_51 : decode c_MO_clear 51 = .ok (.istore_n 1, 1) := by decide +kernel
theorem d_MO_clear_52 : decode c_MO_clear 52 = .ok (.iload_n 1, 1) := by decide +kernel
theorem d_MO_clear_53 : decode c_MO_clear 53 = .ok (.bipush 8, 2) := by decide +kernel
theorem d_MO_clear_55 : decode c_MO_clear 55 = .ok (.if_icmp .ge 16, 3) := by decide +kernel
theorem d_MO_clear_58 : decode c_MO_clear 58 = .ok (.aload_n 0, 1) := by decide +kernel
theorem d_MO_clear_59 : decode c_MO_clear 59 = .ok (.getfield 69, 3) := by decide +kernel
theorem d_MO_clear_62 : decode c_MO_clear 62 = .ok (.iload_n 1, 1) := by decide +kernel
theorem d_MO_clear_63 : decode c_MO_clear 63 = .ok (.iconst 0, 1) := by decide +kernel
theorem d_MO_clear_64 : decode c_MO_clear 64 = .ok (.iastore, 1) := by decide +kernel
theorem d_MO_clear_65 : decode c_MO_clear 65 = .ok (.iinc 1 1, 3) := by decide +kernel
theorem d_MO_clear_68 : decode c_MO_clear 68 = .ok (.goto (-16), 3) := by decide +kernel
theorem d_MO_clear_71 : decode c_MO_clear 71 = .ok (.return_, 1) := by decide +kernel
theorem d_MO_argument_0 : decode c_MO_argument 0 = .ok (.aload_n 0, 1) := by decide +kernel
theorem d_MO_argument_1 : decode c_MO_argument 1 = .ok (.iconst 0, 1) := by decide +kernel
theorem d_MO_argument_2 : decode c_MO_argument 2 = .ok (.putfield 90, 3) := by decide +kernel
theorem d_MO_argument_5 : decode c_MO_argument 5 = .ok (.aload_n 0, 1) := by decide +kernel
theorem d_MO_argument_6 : decode c_MO_argument 6 = .ok (.getfield 173, 3) := by decide +kernel
theorem d_MO_argument_9 : decode c_MO_argument 9 = .ok (.iconst 4, 1) := by decide +kernel
theorem d_MO_argument_10 : decode c_MO_argument 10 = .ok (.if_icmp .ne 5, 3) := by decide +kernel
theorem d_MO_argument_13 : decode c_MO_argument 13 = .ok (.iconst 0, 1) := by decide +kernel
theorem d_MO_argument_14 : decode c_MO_argument 14 = .ok (.ireturn, 1) := by decide +kernel
theorem d_MO_argument_15 : decode c_MO_argument 15 = .ok (.aload_n 0, 1) := by decide +kernel
theorem d_MO_argument_16 : decode c_MO_argument 16 = .ok (.getfield 66, 3) := by decide +kernel
theorem d_MO_argument_19 : decode c_MO_argument 19 = .ok (.aload_n 0, 1) := by decide +kernel
theorem d_MO_argument_20 : decode c_MO_argument 20 = .ok (.getfield 173, 3) := by decide +kernel
theorem d_MO_argument_23 : decode c_MO_argument 23 = .ok (.iload_n 1, 1) := by decide +kernel
theorem d_MO_argument_24 : decode c_MO_argument 24 = .ok (.iastore, 1) := by decide +kernel
theorem d_MO_argument_25 : decode c_MO_argument 25 = .ok (.aload_n 0, 1) := by decide +kernel
theorem d_MO_argument_26 : decode c_MO_argument 26 = .ok (.dup, 1) := by decide +kernel
theorem d_MO_argument_27 : decode c_MO_argument 27 = .ok (.getfield 173, 3) := by decide +kernel
theorem d_MO_argument_30 : decode c_MO_argument 30 = .ok (.iconst 1, 1) := by decide +kernel
theorem d_MO_argument_31 : decode c_MO_argument 31 = .ok (.iadd, 1) := by decide +kernel
theorem d_MO_argument_32 : decode c_MO_argument 32 = .ok (.putfield 173, 3) := by decide +kernel
theorem d_MO_argument_35 : decode c_MO_argument 35 = .ok (.iconst 1, 1) := by decide +kernel
theorem d_MO_argument_36 : decode c_MO_argument 36 = .ok (.ireturn, 1) := by decide +kernel
theorem d_MO_enter_0 : decode c_MO_enter 0 = .ok (.aload_n 0, 1) := by decide +kernel
theorem d_MO_enter_1 : decode c_MO_enter 1 = .ok (.getfield 22, 3) := by decide +kernel
theorem d_MO_enter_4 : decode c_MO_enter 4 = .ok (.iload_n 1, 1) := by decide +kernel
theorem d_MO_enter_5 : decode c_MO_enter 5 = .ok (.iaload, 1) := by decide +kernel
theorem d_MO_enter_6 : decode c_MO_enter 6 = .ok (.aload_n 0, 1) := by decide +kernel
theorem d_MO_enter_7 : decode c_MO_enter 7 = .ok (.getfield 25, 3) := by decide +kernel
theorem d_MO_enter_10 : decode c_MO_enter 10 = .ok (.iload_n 1, 1) := by decide +kernel
theorem d_MO_enter_11 : decode c_MO_enter 11 = .ok (.iaload, 1) := by decide +kernel
theorem d_MO_enter_12 : decode c_MO_enter 12 = .ok (.iadd, 1) := by decide +kernel
theorem d_MO_enter_13 : decode c_MO_enter 13 = .ok (.iconst 1, 1) := by decide +kernel
theorem d_MO_enter_14 : decode c_MO_enter 14 = .ok (.iadd, 1) := by decide +kernel
theorem d_MO_enter_15 : decode c_MO_enter 15 = .ok (.istore_n 2, 1) := by decide +kernel
theorem d_MO_enter_16 : decode c_MO_enter 16 = .ok (.aload_n 0, 1) := by decide +kernel
theorem d_MO_enter_17 : decode c_MO_enter 17 = .ok (.getfield 188, 3) := by decide +kernel
theorem d_MO_enter_20 : decode c_MO_enter 20 = .ok (.iload_n 2, 1) := by decide +kernel
theorem d_MO_enter_21 : decode c_MO_enter 21 = .ok (.iadd, 1) := by decide +kernel
theorem d_MO_enter_22 : decode c_MO_enter 22 = .ok (.bipush 80, 2) := by decide +kernel
theorem d_MO_enter_24 : decode c_MO_enter 24 = .ok (.if_icmp .le 5, 3) := by decide +kernel
theorem d_MO_enter_27 : decode c_MO_enter 27 = .ok (.iconst 0, 1) := by decide +kernel
theorem d_MO_enter_28 : decode c_MO_enter 28 = .ok (.ireturn, 1) := by decide +kernel
theorem d_MO_enter_29 : decode c_MO_enter 29 = .ok (.aload_n 0, 1) := by decide +kernel
theorem d_MO_enter_30 : decode c_MO_enter 30 = .ok (.getfield 78, 3) := by decide +kernel
theorem d_MO_enter_33 : decode c_MO_enter 33 = .ok (.aload_n 0, 1) := by decide +kernel
theorem d_MO_enter_34 : decode c_MO_enter 34 = .ok (.getfield 182, 3) := by decide +kernel
theorem d_MO_enter_37 : decode c_MO_enter 37 = .ok (.iload_n 1, 1) := by decide +kernel
theorem d_MO_enter_38 : decode c_MO_enter 38 = .ok (.iastore, 1) := by decide +kernel
theorem d_MO_enter_39 : decode c_MO_enter 39 = .ok (.aload_n 0, 1) := by decide +kernel
theorem d_MO_enter_40 : decode c_MO_enter 40 = .ok (.getfield 81, 3) := by decide +kernel
theorem d_MO_enter_43 : decode c_MO_enter 43 = .ok (.aload_n 0, 1) := by decide +kernel
theorem d_MO_enter_44 : decode c_MO_enter 44 = .ok (.getfield 182, 3) := by decide +kernel
theorem d_MO_enter_47 : decode c_MO_enter 47 = .ok (.iconst 0, 1) := by decide +kernel
theorem d_MO_enter_48 : decode c_MO_enter 48 = .ok (.iastore, 1) := by decide +kernel
theorem d_MO_enter_49 : decode c_MO_enter 49 = .ok (.aload_n 0, 1) := by decide +kernel
theorem d_MO_enter_50 : decode c_MO_enter 50 = .ok (.getfield 84, 3) := by decide +kernel
theorem d_MO_enter_53 : decode c_MO_enter 53 = .ok (.aload_n 0, 1) := by decide +kernel
theorem d_MO_enter_54 : decode c_MO_enter 54 = .ok (.getfield 182, 3) := by decide +kernel
theorem d_MO_enter_57 : decode c_MO_enter 57 = .ok (.iconst 0, 1) := by decide +kernel
theorem d_MO_enter_58 : decode c_MO_enter 58 = .ok (.iastore, 1) := by decide +kernel
theorem d_MO_enter_59 : decode c_MO_enter 59 = .ok (.aload_n 0, 1) := by decide +kernel
theorem d_MO_enter_60 : decode c_MO_enter 60 = .ok (.getfield 87, 3) := by decide +kernel
theorem d_MO_enter_63 : decode c_MO_enter 63 = .ok (.aload_n 0, 1) := by decide +kernel
theorem d_MO_enter_64 : decode c_MO_enter 64 = .ok (.getfield 182, 3) := by decide +kernel
theorem d_MO_enter_67 : decode c_MO_enter 67 = .ok (.aload_n 0, 1) := by decide +kernel
theorem d_MO_enter_68 : decode c_MO_enter 68 = .ok (.getfield 188, 3) := by decide +kernel
theorem d_MO_enter_71 : decode c_MO_enter 71 = .ok (.iastore, 1) := by decide +kernel
theorem d_MO_enter_72 : decode c_MO_enter 72 = .ok (.aload_n 0, 1) := by decide +kernel
theorem d_MO_enter_73 : decode c_MO_enter 73 = .ok (.getfield 188, 3) := by decide +kernel
theorem d_MO_enter_76 : decode c_MO_enter 76 = .ok (.istore_n 3, 1) := by decide +kernel
theorem d_MO_enter_77 : decode c_MO_enter 77 = .ok (.iload_n 3, 1) := by decide +kernel
theorem d_MO_enter_78 : decode c_MO_enter 78 = .ok (.aload_n 0, 1) := by decide +kernel
theorem d_MO_enter_79 : decode c_MO_enter 79 = .ok (.getfield 188, 3) := by decide +kernel
theorem d_MO_enter_82 : decode c_MO_enter 82 = .ok (.iload_n 2, 1) := by decide +kernel
theorem d_MO_enter_83 : decode c_MO_enter 83 = .ok (.iadd, 1) := by decide +kernel
theorem d_MO_enter_84 : decode c_MO_enter 84 = .ok (.if_icmp .ge 16, 3) := by decide +kernel
theorem d_MO_enter_87 : decode c_MO_enter 87 = .ok (.aload_n 0, 1) := by decide +kernel
theorem d_MO_enter_88 : decode c_MO_enter 88 = .ok (.getfield 75, 3) := by decide +kernel
theorem d_MO_enter_91 : decode c_MO_enter 91 = .ok (.iload_n 3, 1) := by decide +kernel
theorem d_MO_enter_92 : decode c_MO_enter 92 = .ok (.iconst 0, 1) := by decide +kernel
theorem d_MO_enter_93 : decode c_MO_enter 93 = .ok (.iastore, 1) := by decide +kernel
theorem d_MO_enter_94 : decode c_MO_enter 94 = .ok (.iinc 3 1, 3) := by decide +kernel
theorem d_MO_enter_97 : decode c_MO_enter 97 = .ok (.goto (-20), 3) := by decide +kernel
theorem d_MO_enter_100 : decode c_MO_enter 100 = .ok (.aload_n 0, 1) := by decide +kernel
theorem d_MO_enter_101 : decode c_MO_enter 101 = .ok (.dup, 1) := by decide +kernel
theorem d_MO_enter_102 : decode c_MO_enter 102 = .ok (.getfield 188, 3) := by decide +kernel
theorem d_MO_enter_105 : decode c_MO_enter 105 = .ok (.iload_n 2, 1) := by decide +kernel
theorem d_MO_enter_106 : decode c_MO_enter 106 = .ok (.iadd, 1) := by decide +kernel
theorem d_MO_enter_107 : decode c_MO_enter 107 = .ok (.putfield 188, 3) := by decide +kernel
theorem d_MO_enter_110 : decode c_MO_enter 110 = .ok (.aload_n 0, 1) := by decide +kernel
theorem d_MO_enter_111 : decode c_MO_enter 111 = .ok (.dup, 1) := by decide +kernel
theorem d_MO_enter_112 : decode c_MO_enter 112 = .ok (.getfield 182, 3) := by decide +kernel
theorem d_MO_enter_115 : decode c_MO_enter 115 = .ok (.iconst 1, 1) := by decide +kernel
theorem d_MO_enter_116 : decode c_MO_enter 116 = .ok (.iadd, 1) := by decide +kernel
theorem d_MO_enter_117 : decode c_MO_enter 117 = .ok (.putfield 182, 3) := by decide +kernel
theorem d_MO_enter_120 : decode c_MO_enter 120 = .ok (.iconst 1, 1) := by decide +kernel
theorem d_MO_enter_121 : decode c_MO_enter 121 = .ok (.ireturn, 1) := by decide +kernel
theorem d_MO_start_0 : decode c_MO_start 0 = .ok (.aload_n 0, 1) := by decide +kernel
theorem d_MO_start_1 : decode c_MO_start 1 = .ok (.iload_n 1, 1) := by decide +kernel
theorem d_MO_start_2 : decode c_MO_start 2 = .ok (.iconst 0, 1) := by decide +kernel
theorem d_MO_start_3 : decode c_MO_start 3 = .ok (.aload_n 0, 1) := by decide +kernel
theorem d_MO_start_4 : decode c_MO_start 4 = .ok (.getfield 104, 3) := by decide +kernel
theorem d_MO_start_7 : decode c_MO_start 7 = .ok (.iconst 1, 1) := by decide +kernel
theorem d_MO_start_8 : decode c_MO_start 8 = .ok (.isub, 1) := by decide +kernel
theorem d_MO_start_9 : decode c_MO_start 9 = .ok (.invokestatic 100, 3) := by decide +kernel
theorem d_MO_start_12 : decode c_MO_start 12 = .ok (.ifCond .eq 16, 3) := by decide +kernel
theorem d_MO_start_15 : decode c_MO_start 15 = .ok (.aload_n 0, 1) := by decide +kernel
theorem d_MO_start_16 : decode c_MO_start 16 = .ok (.getfield 19, 3) := by decide +kernel
theorem d_MO_start_19 : decode c_MO_start 19 = .ok (.iload_n 1, 1) := by decide +kernel
theorem d_MO_start_20 : decode c_MO_start 20 = .ok (.iaload, 1) := by decide +kernel
theorem d_MO_start_21 : decode c_MO_start 21 = .ok (.aload_n 0, 1) := by decide +kernel
theorem d_MO_start_22 : decode c_MO_start 22 = .ok (.getfield 173, 3) := by decide +kernel
theorem d_MO_start_25 : decode c_MO_start 25 = .ok (.if_icmp .eq 7, 3) := by decide +kernel
theorem d_MO_start_28 : decode c_MO_start 28 = .ok (.iconst 1, 1) := by decide +kernel
theorem d_MO_start_29 : decode c_MO_start 29 = .ok (.goto 15, 3) := by decide +kernel
theorem d_MO_start_32 : decode c_MO_start 32 = .ok (.aload_n 0, 1) := by decide +kernel
theorem d_MO_start_33 : decode c_MO_start 33 = .ok (.getfield 96, 3) := by decide +kernel
theorem d_MO_start_36 : decode c_MO_start 36 = .ok (.ifCond .ne 7, 3) := by decide +kernel
theorem d_MO_start_39 : decode c_MO_start 39 = .ok (.iconst 2, 1) := by decide +kernel
theorem d_MO_start_40 : decode c_MO_start 40 = .ok (.goto 4, 3) := by decide +kernel
theorem d_MO_start_43 : decode c_MO_start 43 = .ok (.iconst 0, 1) := by decide +kernel
theorem d_MO_start_44 : decode c_MO_start 44 = .ok (.putfield 90, 3) := by decide +kernel
theorem d_MO_start_47 : decode c_MO_start 47 = .ok (.aload_n 0, 1) := by decide +kernel
theorem d_MO_start_48 : decode c_MO_start 48 = .ok (.getfield 90, 3) := by decide +kernel
theorem d_MO_start_51 : decode c_MO_start 51 = .ok (.ifCond .le 5, 3) := by decide +kernel
theorem d_MO_start_54 : decode c_MO_start 54 = .ok (.iconst 0, 1) := by decide +kernel
theorem d_MO_start_55 : decode c_MO_start 55 = .ok (.ireturn, 1) := by decide +kernel
theorem d_MO_start_56 : decode c_MO_start 56 = .ok (.aload_n 0, 1) := by decide +kernel
theorem d_MO_start_57 : decode c_MO_start 57 = .ok (.iconst 0, 1) := by decide +kernel
theorem d_MO_start_58 : decode c_MO_start 58 = .ok (.putfield 182, 3) := by decide +kernel
theorem d_MO_start_61 : decode c_MO_start 61 = .ok (.aload_n 0, 1) := by decide +kernel
theorem d_MO_start_62 : decode c_MO_start 62 = .ok (.iconst 0, 1) := by decide +kernel
theorem d_MO_start_63 : decode c_MO_start 63 = .ok (.putfield 188, 3) := by decide +kernel
theorem d_MO_start_66 : decode c_MO_start 66 = .ok (.aload_n 0, 1) := by decide +kernel
theorem d_MO_start_67 : decode c_MO_start 67 = .ok (.iconst 0, 1) := by decide +kernel
theorem d_MO_start_68 : decode c_MO_start 68 = .ok (.putfield 185, 3) := by decide +kernel
theorem d_MO_start_71 : decode c_MO_start 71 = .ok (.aload_n 0, 1) := by decide +kernel
theorem d_MO_start_72 : decode c_MO_start 72 = .ok (.iconst 0, 1) := by decide +kernel
theorem d_MO_start_73 : decode c_MO_start 73 = .ok (.putfield 179, 3) := by decide +kernel
theorem d_MO_start_76 : decode c_MO_start 76 = .ok (.iconst 0, 1) := by decide +kernel
theorem d_MO_start_77 : decode c_MO_start 77 = .ok (.istore_n 2, 1) := by decide +kernel
theorem d_MO_start_78 : decode c_MO_start 78 = .ok (.iload_n 2, 1) := by decide +kernel
theorem d_MO_start_79 : decode c_MO_start 79 = .ok (.bipush 8, 2) := by decide +kernel
theorem d_MO_start_81 : decode c_MO_start 81 = .ok (.if_icmp .ge 16, 3) := by decide +kernel
theorem d_MO_start_84 : decode c_MO_start 84 = .ok (.aload_n 0, 1) := by decide +kernel
theorem d_MO_start_85 : decode c_MO_start 85 = .ok (.getfield 69, 3) := by decide +kernel
theorem d_MO_start_88 : decode c_MO_start 88 = .ok (.iload_n 2, 1) := by decide +kernel
theorem d_MO_start_89 : decode c_MO_start 89 = .ok (.iconst 0, 1) := by decide +kernel
theorem d_MO_start_90 : decode c_MO_start 90 = .ok (.iastore, 1) := by decide +kernel
theorem d_MO_start_91 : decode c_MO_start 91 = .ok (.iinc 2 1, 3) := by decide +kernel
theorem d_MO_start_94 : decode c_MO_start 94 = .ok (.goto (-16), 3) := by decide +kernel
theorem d_MO_start_97 : decode c_MO_start 97 = .ok (.aload_n 0, 1) := by decide +kernel
theorem d_MO_start_98 : decode c_MO_start 98 = .ok (.iload_n 1, 1) := by decide +kernel
theorem d_MO_start_99 : decode c_MO_start 99 = .ok (.invokevirtual 191, 3) := by decide +kernel
theorem d_MO_start_102 : decode c_MO_start 102 = .ok (.istore_n 2, 1) := by decide +kernel
theorem d_MO_start_103 : decode c_MO_start 103 = .ok (.iconst 0, 1) := by decide +kernel
theorem d_MO_start_104 : decode c_MO_start 104 = .ok (.istore_n 3, 1) := by decide +kernel
theorem d_MO_start_105 : decode c_MO_start 105 = .ok (.iload_n 3, 1) := by decide +kernel
theorem d_MO_start_106 : decode c_MO_start 106 = .ok (.aload_n 0, 1) := by decide +kernel
theorem d_MO_start_107 : decode c_MO_start 107 = .ok (.getfield 173, 3) := by decide +kernel
theorem d_MO_start_110 : decode c_MO_start 110 = .ok (.if_icmp .ge 21, 3) := by decide +kernel
theorem d_MO_start_113 : decode c_MO_start 113 = .ok (.aload_n 0, 1) := by decide +kernel
theorem d_MO_start_114 : decode c_MO_start 114 = .ok (.getfield 75, 3) := by decide +kernel
theorem d_MO_start_117 : decode c_MO_start 117 = .ok (.iload_n 3, 1) := by decide +kernel
theorem d_MO_start_118 : decode c_MO_start 118 = .ok (.aload_n 0, 1) := by decide +kernel
theorem d_MO_start_119 : decode c_MO_start 119 = .ok (.getfield 66, 3) := by decide +kernel
theorem d_MO_start_122 : decode c_MO_start 122 = .ok (.iload_n 3, 1) := by decide +kernel
theorem d_MO_start_123 : decode c_MO_start 123 = .ok (.iaload, 1) := by decide +kernel
theorem d_MO_start_124 : decode c_MO_start 124 = .ok (.iastore, 1) := by decide +kernel
theorem d_MO_start_125 : decode c_MO_start 125 = .ok (.iinc 3 1, 3) := by decide +kernel
theorem d_MO_start_128 : decode c_MO_start 128 = .ok (.goto (-23), 3) := by decide +kernel
theorem d_MO_start_131 : decode c_MO_start 131 = .ok (.aload_n 0, 1) := by decide +kernel
theorem d_MO_start_132 : decode c_MO_start 132 = .ok (.iconst 0, 1) := by decide +kernel
theorem d_MO_start_133 : decode c_MO_start 133 = .ok (.putfield 173, 3) := by decide +kernel
theorem d_MO_start_136 : decode c_MO_start 136 = .ok (.aload_n 0, 1) := by decide +kernel
theorem d_MO_start_137 : decode c_MO_start 137 = .ok (.iload_n 2, 1) := by decide +kernel
theorem d_MO_start_138 : decode c_MO_start 138 = .ok (.ifCond .eq 7, 3) := by decide +kernel
theorem d_MO_start_141 : decode c_MO_start 141 = .ok (.iconst 1, 1) := by decide +kernel
theorem d_MO_start_142 : decode c_MO_start 142 = .ok (.goto 5, 3) := by decide +kernel
theorem d_MO_start_145 : decode c_MO_start 145 = .ok (.bipush 7, 2) := by decide +kernel
theorem d_MO_start_147 : decode c_MO_start 147 = .ok (.putfield 176, 3) := by decide +kernel
theorem d_MO_start_150 : decode c_MO_start 150 = .ok (.iconst 1, 1) := by decide +kernel
theorem d_MO_start_151 : decode c_MO_start 151 = .ok (.ireturn, 1) := by decide +kernel
theorem d_MO_latest_0 : decode c_MO_latest 0 = .ok (.aload_n 0, 1) := by decide +kernel
theorem d_MO_latest_1 : decode c_MO_latest 1 = .ok (.getfield 182, 3) := by decide +kernel
theorem d_MO_latest_4 : decode c_MO_latest 4 = .ok (.iconst 1, 1) := by decide +kernel
theorem d_MO_latest_5 : decode c_MO_latest 5 = .ok (.isub, 1) := by decide +kernel
theorem d_MO_latest_6 : decode c_MO_latest 6 = .ok (.ireturn, 1) := by decide +kernel
theorem d_MO_stackAt_0 : decode c_MO_stackAt 0 = .ok (.aload_n 0, 1) := by decide +kernel
theorem d_MO_stackAt_1 : decode c_MO_stackAt 1 = .ok (.invokevirtual 194, 3) := by decide +kernel
theorem d_MO_stackAt_4 : decode c_MO_stackAt 4 = .ok (.istore_n 1, 1) := by decide +kernel
theorem d_MO_stackAt_5 : decode c_MO_stackAt 5 = .ok (.aload_n 0, 1) := by decide +kernel
theorem d_MO_stackAt_6 : decode c_MO_stackAt 6 = .ok (.getfield 87, 3) := by decide +kernel
theorem d_MO_stackAt_9 : decode c_MO_stackAt 9 = .ok (.iload_n 1, 1) := by decide +kernel
theorem d_MO_stackAt_10 : decode c_MO_stackAt 10 = .ok (.iaload, 1) := by decide +kernel
theorem d_MO_stackAt_11 : decode c_MO_stackAt 11 = .ok (.aload_n 0, 1) := by decide +kernel
theorem d_MO_stackAt_12 : decode c_MO_stackAt 12 = .ok (.getfield 22, 3) := by decide +kernel
theorem d_MO_stackAt_15 : decode c_MO_stackAt 15 = .ok (.aload_n 0, 1) := by decide +kernel
theorem d_MO_stackAt_16 : decode c_MO_stackAt 16 = .ok (.getfield 78, 3) := by decide +kernel
theorem d_MO_stackAt_19 : decode c_MO_stackAt 19 = .ok (.iload_n 1, 1) := by decide +kernel
theorem d_MO_stackAt_20 : decode c_MO_stackAt 20 = .ok (.iaload, 1) := by decide +kernel
theorem d_MO_stackAt_21 : decode c_MO_stackAt 21 = .ok (.iaload, 1) := by decide +kernel
theorem d_MO_stackAt_22 : decode c_MO_stackAt 22 = .ok (.iadd, 1) := by decide +kernel
theorem d_MO_stackAt_23 : decode c_MO_stackAt 23 = .ok (.aload_n 0, 1) := by decide +kernel
theorem d_MO_stackAt_24 : decode c_MO_stackAt 24 = .ok (.getfield 84, 3) := by decide +kernel
theorem d_MO_stackAt_27 : decode c_MO_stackAt 27 = .ok (.iload_n 1, 1) := by decide +kernel
theorem d_MO_stackAt_28 : decode c_MO_stackAt 28 = .ok (.iaload, 1) := by decide +kernel
theorem d_MO_stackAt_29 : decode c_MO_stackAt 29 = .ok (.iadd, 1) := by decide +kernel
theorem d_MO_stackAt_30 : decode c_MO_stackAt 30 = .ok (.ireturn, 1) := by decide +kernel
theorem d_MO_push_0 : decode c_MO_push 0 = .ok (.aload_n 0, 1) := by decide +kernel
theorem d_MO_push_1 : decode c_MO_push 1 = .ok (.getfield 75, 3) := by decide +kernel
theorem d_MO_push_4 : decode c_MO_push 4 = .ok (.aload_n 0, 1) := by decide +kernel
theorem d_MO_push_5 : decode c_MO_push 5 = .ok (.invokevirtual 198, 3) := by decide +kernel
theorem d_MO_push_8 : decode c_MO_push 8 = .ok (.iload_n 1, 1) := by decide +kernel
theorem d_MO_push_9 : decode c_MO_push 9 = .ok (.iastore, 1) := by decide +kernel
theorem d_MO_push_10 : decode c_MO_push 10 = .ok (.aload_n 0, 1) := by decide +kernel
theorem d_MO_push_11 : decode c_MO_push 11 = .ok (.getfield 84, 3) := by decide +kernel
theorem d_MO_push_14 : decode c_MO_push 14 = .ok (.aload_n 0, 1) := by decide +kernel
theorem d_MO_push_15 : decode c_MO_push 15 = .ok (.invokevirtual 194, 3) := by decide +kernel
theorem d_MO_push_18 : decode c_MO_push 18 = .ok (.dup2, 1) := by decide +kernel
theorem d_MO_push_19 : decode c_MO_push 19 = .ok (.iaload, 1) := by decide +kernel
theorem d_MO_push_20 : decode c_MO_push 20 = .ok (.iconst 1, 1) := by decide +kernel
theorem d_MO_push_21 : decode c_MO_push 21 = .ok (.iadd, 1) := by decide +kernel
theorem d_MO_push_22 : decode c_MO_push 22 = .ok (.iastore, 1) := by decide +kernel
theorem d_MO_push_23 : decode c_MO_push 23 = .ok (.return_, 1) := by decide +kernel
theorem d_MO_pop_0 : decode c_MO_pop 0 = .ok (.aload_n 0, 1) := by decide +kernel
theorem d_MO_pop_1 : decode c_MO_pop 1 = .ok (.getfield 84, 3) := by decide +kernel
theorem d_MO_pop_4 : decode c_MO_pop 4 = .ok (.aload_n 0, 1) := by decide +kernel
theorem d_MO_pop_5 : decode c_MO_pop 5 = .ok (.invokevirtual 194, 3) := by decide +kernel
theorem d_MO_pop_8 : decode c_MO_pop 8 = .ok (.dup2, 1) := by decide +kernel
theorem d_MO_pop_9 : decode c_MO_pop 9 = .ok (.iaload, 1) := by decide +kernel
theorem d_MO_pop_10 : decode c_MO_pop 10 = .ok (.iconst 1, 1) := by decide +kernel
theorem d_MO_pop_11 : decode c_MO_pop 11 = .ok (.isub, 1) := by decide +kernel
theorem d_MO_pop_12 : decode c_MO_pop 12 = .ok (.iastore, 1) := by decide +kernel
theorem d_MO_pop_13 : decode c_MO_pop 13 = .ok (.aload_n 0, 1) := by decide +kernel
theorem d_MO_pop_14 : decode c_MO_pop 14 = .ok (.getfield 75, 3) := by decide +kernel
theorem d_MO_pop_17 : decode c_MO_pop 17 = .ok (.aload_n 0, 1) := by decide +kernel
theorem d_MO_pop_18 : decode c_MO_pop 18 = .ok (.invokevirtual 198, 3) := by decide +kernel
theorem d_MO_pop_21 : decode c_MO_pop 21 = .ok (.iaload, 1) := by decide +kernel
theorem d_MO_pop_22 : decode c_MO_pop 22 = .ok (.ireturn, 1) := by decide +kernel
theorem d_MO_leave_0 : decode c_MO_leave 0 = .ok (.aload_n 0, 1) := by decide +kernel
theorem d_MO_leave_1 : decode c_MO_leave 1 = .ok (.dup, 1) := by decide +kernel
theorem d_MO_leave_2 : decode c_MO_leave 2 = .ok (.getfield 182, 3) := by decide +kernel
theorem d_MO_leave_5 : decode c_MO_leave 5 = .ok (.iconst 1, 1) := by decide +kernel
theorem d_MO_leave_6 : decode c_MO_leave 6 = .ok (.isub, 1) := by decide +kernel
theorem d_MO_leave_7 : decode c_MO_leave 7 = .ok (.putfield 182, 3) := by decide +kernel
theorem d_MO_leave_10 : decode c_MO_leave 10 = .ok (.aload_n 0, 1) := by decide +kernel
theorem d_MO_leave_11 : decode c_MO_leave 11 = .ok (.aload_n 0, 1) := by decide +kernel
theorem d_MO_leave_12 : decode c_MO_leave 12 = .ok (.getfield 87, 3) := by decide +kernel
theorem d_MO_leave_15 : decode c_MO_leave 15 = .ok (.aload_n 0, 1) := by decide +kernel
theorem d_MO_leave_16 : decode c_MO_leave 16 = .ok (.getfield 182, 3) := by decide +kernel
theorem d_MO_leave_19 : decode c_MO_leave 19 = .ok (.iaload, 1) := by decide +kernel
theorem d_MO_leave_20 : decode c_MO_leave 20 = .ok (.putfield 188, 3) := by decide +kernel
theorem d_MO_leave_23 : decode c_MO_leave 23 = .ok (.return_, 1) := by decide +kernel
theorem d_MO_stop_0 : decode c_MO_stop 0 = .ok (.aload_n 0, 1) := by decide +kernel
theorem d_MO_stop_1 : decode c_MO_stop 1 = .ok (.iload_n 1, 1) := by decide +kernel
theorem d_MO_stop_2 : decode c_MO_stop 2 = .ok (.putfield 176, 3) := by decide +kernel
theorem d_MO_stop_5 : decode c_MO_stop 5 = .ok (.aload_n 0, 1) := by decide +kernel
theorem d_MO_stop_6 : decode c_MO_stop 6 = .ok (.iconst 0, 1) := by decide +kernel
theorem d_MO_stop_7 : decode c_MO_stop 7 = .ok (.putfield 182, 3) := by decide +kernel
theorem d_MO_stop_10 : decode c_MO_stop 10 = .ok (.aload_n 0, 1) := by decide +kernel
theorem d_MO_stop_11 : decode c_MO_stop 11 = .ok (.iconst 0, 1) := by decide +kernel
theorem d_MO_stop_12 : decode c_MO_stop 12 = .ok (.putfield 188, 3) := by decide +kernel
theorem d_MO_stop_15 : decode c_MO_stop 15 = .ok (.return_, 1) := by decide +kernel
theorem d_MO_trap_0 : decode c_MO_trap 0 = .ok (.iload_n 1, 1) := by decide +kernel
theorem d_MO_trap_1 : decode c_MO_trap 1 = .ok (.iconst 2, 1) := by decide +kernel
theorem d_MO_trap_2 : decode c_MO_trap 2 = .ok (.isub, 1) := by decide +kernel
theorem d_MO_trap_3 : decode c_MO_trap 3 = .ok (.istore_n 2, 1) := by decide +kernel
theorem d_MO_trap_4 : decode c_MO_trap 4 = .ok (.aload_n 0, 1) := by decide +kernel
theorem d_MO_trap_5 : decode c_MO_trap 5 = .ok (.getfield 182, 3) := by decide +kernel
theorem d_MO_trap_8 : decode c_MO_trap 8 = .ok (.ifCond .le 134, 3) := by decide +kernel
theorem d_MO_trap_11 : decode c_MO_trap 11 = .ok (.aload_n 0, 1) := by decide +kernel
theorem d_MO_trap_12 : decode c_MO_trap 12 = .ok (.getfield 78, 3) := by decide +kernel
theorem d_MO_trap_15 : decode c_MO_trap 15 = .ok (.aload_n 0, 1) := by decide +kernel
theorem d_MO_trap_16 : decode c_MO_trap 16 = .ok (.invokevirtual 194, 3) := by decide +kernel
theorem d_MO_trap_19 : decode c_MO_trap 19 = .ok (.iaload, 1) := by decide +kernel
theorem d_MO_trap_20 : decode c_MO_trap 20 = .ok (.istore_n 3, 1) := by decide +kernel
theorem d_MO_trap_21 : decode c_MO_trap 21 = .ok (.aload_n 0, 1) := by decide +kernel
theorem d_MO_trap_22 : decode c_MO_trap 22 = .ok (.getfield 81, 3) := by decide +kernel
theorem d_MO_trap_25 : decode c_MO_trap 25 = .ok (.aload_n 0, 1) := by decide +kernel
theorem d_MO_trap_26 : decode c_MO_trap 26 = .ok (.invokevirtual 194, 3) := by decide +kernel
theorem d_MO_trap_29 : decode c_MO_trap 29 = .ok (.iaload, 1) := by decide +kernel
theorem d_MO_trap_30 : decode c_MO_trap 30 = .ok (.istore 4, 2) := by decide +kernel
theorem d_MO_trap_32 : decode c_MO_trap 32 = .ok (.iconst 4, 1) := by decide +kernel
theorem d_MO_trap_33 : decode c_MO_trap 33 = .ok (.iload_n 3, 1) := by decide +kernel
theorem d_MO_trap_34 : decode c_MO_trap 34 = .ok (.imul, 1) := by decide +kernel
theorem d_MO_trap_35 : decode c_MO_trap 35 = .ok (.istore 5, 2) := by decide +kernel
theorem d_MO_trap_37 : decode c_MO_trap 37 = .ok (.iload 5, 2) := by decide +kernel
theorem d_MO_trap_39 : decode c_MO_trap 39 = .ok (.iconst 4, 1) := by decide +kernel
theorem d_MO_trap_40 : decode c_MO_trap 40 = .ok (.iload_n 3, 1) := by decide +kernel
theorem d_MO_trap_41 : decode c_MO_trap 41 = .ok (.imul, 1) := by decide +kernel
theorem d_MO_trap_42 : decode c_MO_trap 42 = .ok (.aload_n 0, 1) := by decide +kernel
theorem d_MO_trap_43 : decode c_MO_trap 43 = .ok (.getfield 32, 3) := by decide +kernel
theorem d_MO_trap_46 : decode c_MO_trap 46 = .ok (.iload_n 3, 1) := by decide +kernel
theorem d_MO_trap_47 : decode c_MO_trap 47 = .ok (.iaload, 1) := by decide +kernel
theorem d_MO_trap_48 : decode c_MO_trap 48 = .ok (.iadd, 1) := by decide +kernel
theorem d_MO_trap_49 : decode c_MO_trap 49 = .ok (.if_icmp .ge 86, 3) := by decide +kernel
theorem d_MO_trap_52 : decode c_MO_trap 52 = .ok (.aload_n 0, 1) := by decide +kernel
theorem d_MO_trap_53 : decode c_MO_trap 53 = .ok (.getfield 35, 3) := by decide +kernel
theorem d_MO_trap_56 : decode c_MO_trap 56 = .ok (.iload 5, 2) := by decide +kernel
theorem d_MO_trap_58 : decode c_MO_trap 58 = .ok (.iaload, 1) := by decide +kernel
theorem d_MO_trap_59 : decode c_MO_trap 59 = .ok (.iload 4, 2) := by decide +kernel
theorem d_MO_trap_61 : decode c_MO_trap 61 = .ok (.if_icmp .gt 68, 3) := by decide +kernel
theorem d_MO_trap_64 : decode c_MO_trap 64 = .ok (.iload 4, 2) := by decide +kernel
theorem d_MO_trap_66 : decode c_MO_trap 66 = .ok (.aload_n 0, 1) := by decide +kernel
theorem d_MO_trap_67 : decode c_MO_trap 67 = .ok (.getfield 38, 3) := by decide +kernel
theorem d_MO_trap_70 : decode c_MO_trap 70 = .ok (.iload 5, 2) := by decide +kernel
theorem d_MO_trap_72 : decode c_MO_trap 72 = .ok (.iaload, 1) := by decide +kernel
theorem d_MO_trap_73 : decode c_MO_trap 73 = .ok (.if_icmp .ge 56, 3) := by decide +kernel
theorem d_MO_trap_76 : decode c_MO_trap 76 = .ok (.aload_n 0, 1) := by decide +kernel
theorem d_MO_trap_77 : decode c_MO_trap 77 = .ok (.getfield 44, 3) := by decide +kernel
theorem d_MO_trap_80 : decode c_MO_trap 80 = .ok (.iload 5, 2) := by decide +kernel
theorem d_MO_trap_82 : decode c_MO_trap 82 = .ok (.iaload, 1) := by decide +kernel
theorem d_MO_trap_83 : decode c_MO_trap 83 = .ok (.iload_n 2, 1) := by decide +kernel
theorem d_MO_trap_84 : decode c_MO_trap 84 = .ok (.if_icmp .eq 13, 3) := by decide +kernel
theorem d_MO_trap_87 : decode c_MO_trap 87 = .ok (.aload_n 0, 1) := by decide +kernel
theorem d_MO_trap_88 : decode c_MO_trap 88 = .ok (.getfield 44, 3) := by decide +kernel
theorem d_MO_trap_91 : decode c_MO_trap 91 = .ok (.iload 5, 2) := by decide +kernel
theorem d_MO_trap_93 : decode c_MO_trap 93 = .ok (.iaload, 1) := by decide +kernel
theorem d_MO_trap_94 : decode c_MO_trap 94 = .ok (.ifCond .ne 35, 3) := by decide +kernel
theorem d_MO_trap_97 : decode c_MO_trap 97 = .ok (.aload_n 0, 1) := by decide +kernel
theorem d_MO_trap_98 : decode c_MO_trap 98 = .ok (.getfield 81, 3) := by decide +kernel
theorem d_MO_trap_101 : decode c_MO_trap 101 = .ok (.aload_n 0, 1) := by decide +kernel
theorem d_MO_trap_102 : decode c_MO_trap 102 = .ok (.invokevirtual 194, 3) := by decide +kernel
theorem d_MO_trap_105 : decode c_MO_trap 105 = .ok (.aload_n 0, 1) := by decide +kernel
theorem d_MO_trap_106 : decode c_MO_trap 106 = .ok (.getfield 41, 3) := by decide +kernel
theorem d_MO_trap_109 : decode c_MO_trap 109 = .ok (.iload 5, 2) := by decide +kernel
theorem d_MO_trap_111 : decode c_MO_trap 111 = .ok (.iaload, 1) := by decide +kernel
theorem d_MO_trap_112 : decode c_MO_trap 112 = .ok (.iastore, 1) := by decide +kernel
theorem d_MO_trap_113 : decode c_MO_trap 113 = .ok (.aload_n 0, 1) := by decide +kernel
theorem d_MO_trap_114 : decode c_MO_trap 114 = .ok (.getfield 84, 3) := by decide +kernel
theorem d_MO_trap_117 : decode c_MO_trap 117 = .ok (.aload_n 0, 1) := by decide +kernel
theorem d_MO_trap_118 : decode c_MO_trap 118 = .ok (.invokevirtual 194, 3) := by decide +kernel
theorem d_MO_trap_121 : decode c_MO_trap 121 = .ok (.iconst 0, 1) := by decide +kernel
theorem d_MO_trap_122 : decode c_MO_trap 122 = .ok (.iastore, 1) := by decide +kernel
theorem d_MO_trap_123 : decode c_MO_trap 123 = .ok (.aload_n 0, 1) := by decide +kernel
theorem d_MO_trap_124 : decode c_MO_trap 124 = .ok (.iload_n 2, 1) := by decide +kernel
theorem d_MO_trap_125 : decode c_MO_trap 125 = .ok (.invokevirtual 201, 3) := by decide +kernel
theorem d_MO_trap_128 : decode c_MO_trap 128 = .ok (.return_, 1) := by decide +kernel
theorem d_MO_trap_129 : decode c_MO_trap 129 = .ok (.iinc 5 1, 3) := by decide +kernel
theorem d_MO_trap_132 : decode c_MO_trap 132 = .ok (.goto (-95), 3) := by decide +kernel
theorem d_MO_trap_135 : decode c_MO_trap 135 = .ok (.aload_n 0, 1) := by decide +kernel
theorem d_MO_trap_136 : decode c_MO_trap 136 = .ok (.invokevirtual 205, 3) := by decide +kernel
theorem d_MO_trap_139 : decode c_MO_trap 139 = .ok (.goto (-135), 3) := by decide +kernel
theorem d_MO_trap_142 : decode c_MO_trap 142 = .ok (.aload_n 0, 1) := by decide +kernel
theorem d_MO_trap_143 : decode c_MO_trap 143 = .ok (.iload_n 1, 1) := by decide +kernel
theorem d_MO_trap_144 : decode c_MO_trap 144 = .ok (.invokevirtual 208, 3) := by decide +kernel
theorem d_MO_trap_147 : decode c_MO_trap 147 = .ok (.return_, 1) := by decide +kernel
theorem d_MO_end_0 : decode c_MO_end 0 = .ok (.aload_n 0, 1) := by decide +kernel
theorem d_MO_end_1 : decode c_MO_end 1 = .ok (.invokevirtual 205, 3) := by decide +kernel
theorem d_MO_end_4 : decode c_MO_end 4 = .ok (.aload_n 0, 1) := by decide +kernel
theorem d_MO_end_5 : decode c_MO_end 5 = .ok (.getfield 182, 3) := by decide +kernel
theorem d_MO_end_8 : decode c_MO_end 8 = .ok (.ifCond .ne 22, 3) := by decide +kernel
theorem d_MO_end_11 : decode c_MO_end 11 = .ok (.aload_n 0, 1) := by decide +kernel
theorem d_MO_end_12 : decode c_MO_end 12 = .ok (.iload_n 1, 1) := by decide +kernel
theorem d_MO_end_13 : decode c_MO_end 13 = .ok (.ifCond .eq 7, 3) := by decide +kernel
theorem d_MO_end_16 : decode c_MO_end 16 = .ok (.iload_n 2, 1) := by decide +kernel
theorem d_MO_end_17 : decode c_MO_end 17 = .ok (.goto 4, 3) := by decide +kernel
theorem d_MO_end_20 : decode c_MO_end 20 = .ok (.iconst 0, 1) := by decide +kernel
theorem d_MO_end_21 : decode c_MO_end 21 = .ok (.putfield 179, 3) := by decide +kernel
theorem d_MO_end_24 : decode c_MO_end 24 = .ok (.aload_n 0, 1) := by decide +kernel
theorem d_MO_end_25 : decode c_MO_end 25 = .ok (.iconst 2, 1) := by decide +kernel
theorem d_MO_end_26 : decode c_MO_end 26 = .ok (.invokevirtual 208, 3) := by decide +kernel
theorem d_MO_end_29 : decode c_MO_end 29 = .ok (.return_, 1) := by decide +kernel
theorem d_MO_end_30 : decode c_MO_end 30 = .ok (.iload_n 1, 1) := by decide +kernel
theorem d_MO_end_31 : decode c_MO_end 31 = .ok (.ifCond .eq 8, 3) := by decide +kernel
theorem d_MO_end_34 : decode c_MO_end 34 = .ok (.aload_n 0, 1) := by decide +kernel
theorem d_MO_end_35 : decode c_MO_end 35 = .ok (.iload_n 2, 1) := by decide +kernel
theorem d_MO_end_36 : decode c_MO_end 36 = .ok (.invokevirtual 201, 3) := by decide +kernel
theorem d_MO_end_39 : decode c_MO_end 39 = .ok (.aload_n 0, 1) := by decide +kernel
theorem d_MO_end_40 : decode c_MO_end 40 = .ok (.getfield 81, 3) := by decide +kernel
theorem d_MO_end_43 : decode c_MO_end 43 = .ok (.aload_n 0, 1) := by decide +kernel
theorem d_MO_end_44 : decode c_MO_end 44 = .ok (.invokevirtual 194, 3) := by decide +kernel
theorem d_MO_end_47 : decode c_MO_end 47 = .ok (.dup2, 1) := by decide +kernel
theorem d_MO_end_48 : decode c_MO_end 48 = .ok (.iaload, 1) := by decide +kernel
theorem d_MO_end_49 : decode c_MO_end 49 = .ok (.iconst 3, 1) := by decide +kernel
theorem d_MO_end_50 : decode c_MO_end 50 = .ok (.iadd, 1) := by decide +kernel
theorem d_MO_end_51 : decode c_MO_end 51 = .ok (.iastore, 1) := by decide +kernel
theorem d_MO_end_52 : decode c_MO_end 52 = .ok (.return_, 1) := by decide +kernel
theorem d_MO_call_0 : decode c_MO_call 0 = .ok (.aload_n 0, 1) := by decide +kernel
theorem d_MO_call_1 : decode c_MO_call 1 = .ok (.invokevirtual 194, 3) := by decide +kernel
theorem d_MO_call_4 : decode c_MO_call 4 = .ok (.istore_n 2, 1) := by decide +kernel
theorem d_MO_call_5 : decode c_MO_call 5 = .ok (.aload_n 0, 1) := by decide +kernel
theorem d_MO_call_6 : decode c_MO_call 6 = .ok (.getfield 19, 3) := by decide +kernel
theorem d_MO_call_9 : decode c_MO_call 9 = .ok (.iload_n 1, 1) := by decide +kernel
theorem d_MO_call_10 : decode c_MO_call 10 = .ok (.iaload, 1) := by decide +kernel
theorem d_MO_call_11 : decode c_MO_call 11 = .ok (.istore_n 3, 1) := by decide +kernel
theorem d_MO_call_12 : decode c_MO_call 12 = .ok (.aload_n 0, 1) := by decide +kernel
theorem d_MO_call_13 : decode c_MO_call 13 = .ok (.iload_n 1, 1) := by decide +kernel
theorem d_MO_call_14 : decode c_MO_call 14 = .ok (.invokevirtual 191, 3) := by decide +kernel
theorem d_MO_call_17 : decode c_MO_call 17 = .ok (.ifCond .ne 10, 3) := by decide +kernel
theorem d_MO_call_20 : decode c_MO_call 20 = .ok (.aload_n 0, 1) := by decide +kernel
theorem d_MO_call_21 : decode c_MO_call 21 = .ok (.bipush 7, 2) := by decide +kernel
theorem d_MO_call_23 : decode c_MO_call 23 = .ok (.invokevirtual 208, 3) := by decide +kernel
theorem d_MO_call_26 : decode c_MO_call 26 = .ok (.return_, 1) := by decide +kernel
theorem d_MO_call_27 : decode c_MO_call 27 = .ok (.aload_n 0, 1) := by decide +kernel
theorem d_MO_call_28 : decode c_MO_call 28 = .ok (.getfield 84, 3) := by decide +kernel
theorem d_MO_call_31 : decode c_MO_call 31 = .ok (.iload_n 2, 1) := by decide +kernel
theorem d_MO_call_32 : decode c_MO_call 32 = .ok (.dup2, 1) := by decide +kernel
theorem d_MO_call_33 : decode c_MO_call 33 = .ok (.iaload, 1) := by decide +kernel
theorem d_MO_call_34 : decode c_MO_call 34 = .ok (.iload_n 3, 1) := by decide +kernel
theorem d_MO_call_35 : decode c_MO_call 35 = .ok (.isub, 1) := by decide +kernel
theorem d_MO_call_36 : decode c_MO_call 36 = .ok (.iastore, 1) := by decide +kernel
theorem d_MO_call_37 : decode c_MO_call 37 = .ok (.aload_n 0, 1) := by decide +kernel
theorem d_MO_call_38 : decode c_MO_call 38 = .ok (.getfield 87, 3) := by decide +kernel
theorem d_MO_call_41 : decode c_MO_call 41 = .ok (.iload_n 2, 1) := by decide +kernel
theorem d_MO_call_42 : decode c_MO_call 42 = .ok (.iaload, 1) := by decide +kernel
theorem d_MO_call_43 : decode c_MO_call 43 = .ok (.aload_n 0, 1) := by decide +kernel
theorem d_MO_call_44 : decode c_MO_call 44 = .ok (.getfield 22, 3) := by decide +kernel
theorem d_MO_call_47 : decode c_MO_call 47 = .ok (.aload_n 0, 1) := by decide +kernel
theorem d_MO_call_48 : decode c_MO_call 48 = .ok (.getfield 78, 3) := by decide +kernel
theorem d_MO_call_51 : decode c_MO_call 51 = .ok (.iload_n 2, 1) := by decide +kernel
theorem d_MO_call_52 : decode c_MO_call 52 = .ok (.iaload, 1) := by decide +kernel
theorem d_MO_call_53 : decode c_MO_call 53 = .ok (.iaload, 1) := by decide +kernel
theorem d_MO_call_54 : decode c_MO_call 54 = .ok (.iadd, 1) := by decide +kernel
theorem d_MO_call_55 : decode c_MO_call 55 = .ok (.aload_n 0, 1) := by decide +kernel
theorem d_MO_call_56 : decode c_MO_call 56 = .ok (.getfield 84, 3) := by decide +kernel
theorem d_MO_call_59 : decode c_MO_call 59 = .ok (.iload_n 2, 1) := by decide +kernel
theorem d_MO_call_60 : decode c_MO_call 60 = .ok (.iaload, 1) := by decide +kernel
theorem d_MO_call_61 : decode c_MO_call 61 = .ok (.iadd, 1) := by decide +kernel
theorem d_MO_call_62 : decode c_MO_call 62 = .ok (.istore 4, 2) := by decide +kernel
theorem d_MO_call_64 : decode c_MO_call 64 = .ok (.iconst 0, 1) := by decide +kernel
theorem d_MO_call_65 : decode c_MO_call 65 = .ok (.istore 5, 2) := by decide +kernel
theorem d_MO_call_67 : decode c_MO_call 67 = .ok (.iload 5, 2) := by decide +kernel
theorem d_MO_call_69 : decode c_MO_call 69 = .ok (.iload_n 3, 1) := by decide +kernel
theorem d_MO_call_70 : decode c_MO_call 70 = .ok (.if_icmp .ge 36, 3) := by decide +kernel
theorem d_MO_call_73 : decode c_MO_call 73 = .ok (.aload_n 0, 1) := by decide +kernel
theorem d_MO_call_74 : decode c_MO_call 74 = .ok (.getfield 75, 3) := by decide +kernel
theorem d_MO_call_77 : decode c_MO_call 77 = .ok (.aload_n 0, 1) := by decide +kernel
theorem d_MO_call_78 : decode c_MO_call 78 = .ok (.getfield 87, 3) := by decide +kernel
theorem d_MO_call_81 : decode c_MO_call 81 = .ok (.aload_n 0, 1) := by decide +kernel
theorem d_MO_call_82 : decode c_MO_call 82 = .ok (.invokevirtual 194, 3) := by decide +kernel
theorem d_MO_call_85 : decode c_MO_call 85 = .ok (.iaload, 1) := by decide +kernel
theorem d_MO_call_86 : decode c_MO_call 86 = .ok (.iload 5, 2) := by decide +kernel
theorem d_MO_call_88 : decode c_MO_call 88 = .ok (.iadd, 1) := by decide +kernel
theorem d_MO_call_89 : decode c_MO_call 89 = .ok (.aload_n 0, 1) := by decide +kernel
theorem d_MO_call_90 : decode c_MO_call 90 = .ok (.getfield 75, 3) := by decide +kernel
theorem d_MO_call_93 : decode c_MO_call 93 = .ok (.iload 4, 2) := by decide +kernel
theorem d_MO_call_95 : decode c_MO_call 95 = .ok (.iload 5, 2) := by decide +kernel
theorem d_MO_call_97 : decode c_MO_call 97 = .ok (.iadd, 1) := by decide +kernel
theorem d_MO_call_98 : decode c_MO_call 98 = .ok (.iaload, 1) := by decide +kernel
theorem d_MO_call_99 : decode c_MO_call 99 = .ok (.iastore, 1) := by decide +kernel
theorem d_MO_call_100 : decode c_MO_call 100 = .ok (.iinc 5 1, 3) := by decide +kernel
theorem d_MO_call_103 : decode c_MO_call 103 = .ok (.goto (-36), 3) := by decide +kernel
theorem d_MO_call_106 : decode c_MO_call 106 = .ok (.return_, 1) := by decide +kernel
theorem d_MO_sum_0 : decode c_MO_sum 0 = .ok (.iload_n 0, 1) := by decide +kernel
theorem d_MO_sum_1 : decode c_MO_sum 1 = .ok (.tableswitch 187 96 128 #[147, 187, 187, 187, 151, 187, 187, 187, 155, 187, 187, 187, 159, 187, 187, 187, 163, 187, 187, 187, 187, 187, 187, 187, 167, 187, 171, 187, 175, 187, 179, 187, 183], 147) := by decide +kernel
theorem d_MO_sum_148 : decode c_MO_sum 148 = .ok (.iload_n 1, 1) := by decide +kernel
theorem d_MO_sum_149 : decode c_MO_sum 149 = .ok (.iload_n 2, 1) := by decide +kernel
theorem d_MO_sum_150 : decode c_MO_sum 150 = .ok (.iadd, 1) := by decide +kernel
theorem d_MO_sum_151 : decode c_MO_sum 151 = .ok (.ireturn, 1) := by decide +kernel
theorem d_MO_sum_152 : decode c_MO_sum 152 = .ok (.iload_n 1, 1) := by decide +kernel
theorem d_MO_sum_153 : decode c_MO_sum 153 = .ok (.iload_n 2, 1) := by decide +kernel
theorem d_MO_sum_154 : decode c_MO_sum 154 = .ok (.isub, 1) := by decide +kernel
theorem d_MO_sum_155 : decode c_MO_sum 155 = .ok (.ireturn, 1) := by decide +kernel
theorem d_MO_sum_156 : decode c_MO_sum 156 = .ok (.iload_n 1, 1) := by decide +kernel
theorem d_MO_sum_157 : decode c_MO_sum 157 = .ok (.iload_n 2, 1) := by decide +kernel
theorem d_MO_sum_158 : decode c_MO_sum 158 = .ok (.imul, 1) := by decide +kernel
theorem d_MO_sum_159 : decode c_MO_sum 159 = .ok (.ireturn, 1) := by decide +kernel
theorem d_MO_sum_160 : decode c_MO_sum 160 = .ok (.iload_n 1, 1) := by decide +kernel
theorem d_MO_sum_161 : decode c_MO_sum 161 = .ok (.iload_n 2, 1) := by decide +kernel
theorem d_MO_sum_162 : decode c_MO_sum 162 = .ok (.idiv, 1) := by decide +kernel
theorem d_MO_sum_163 : decode c_MO_sum 163 = .ok (.ireturn, 1) := by decide +kernel
theorem d_MO_sum_164 : decode c_MO_sum 164 = .ok (.iload_n 1, 1) := by decide +kernel
theorem d_MO_sum_165 : decode c_MO_sum 165 = .ok (.iload_n 2, 1) := by decide +kernel
theorem d_MO_sum_166 : decode c_MO_sum 166 = .ok (.irem, 1) := by decide +kernel
theorem d_MO_sum_167 : decode c_MO_sum 167 = .ok (.ireturn, 1) := by decide +kernel
theorem d_MO_sum_168 : decode c_MO_sum 168 = .ok (.iload_n 1, 1) := by decide +kernel
theorem d_MO_sum_169 : decode c_MO_sum 169 = .ok (.iload_n 2, 1) := by decide +kernel
theorem d_MO_sum_170 : decode c_MO_sum 170 = .ok (.ishl, 1) := by decide +kernel
theorem d_MO_sum_171 : decode c_MO_sum 171 = .ok (.ireturn, 1) := by decide +kernel
theorem d_MO_sum_172 : decode c_MO_sum 172 = .ok (.iload_n 1, 1) := by decide +kernel
theorem d_MO_sum_173 : decode c_MO_sum 173 = .ok (.iload_n 2, 1) := by decide +kernel
theorem d_MO_sum_174 : decode c_MO_sum 174 = .ok (.ishr, 1) := by decide +kernel
theorem d_MO_sum_175 : decode c_MO_sum 175 = .ok (.ireturn, 1) := by decide +kernel
theorem d_MO_sum_176 : decode c_MO_sum 176 = .ok (.iload_n 1, 1) := by decide +kernel
theorem d_MO_sum_177 : decode c_MO_sum 177 = .ok (.iload_n 2, 1) := by decide +kernel
theorem d_MO_sum_178 : decode c_MO_sum 178 = .ok (.iushr, 1) := by decide +kernel
theorem d_MO_sum_179 : decode c_MO_sum 179 = .ok (.ireturn, 1) := by decide +kernel
theorem d_MO_sum_180 : decode c_MO_sum 180 = .ok (.iload_n 1, 1) := by decide +kernel
theorem d_MO_sum_181 : decode c_MO_sum 181 = .ok (.iload_n 2, 1) := by decide +kernel
theorem d_MO_sum_182 : decode c_MO_sum 182 = .ok (.iand, 1) := by decide +kernel
theorem d_MO_sum_183 : decode c_MO_sum 183 = .ok (.ireturn, 1) := by decide +kernel
theorem d_MO_sum_184 : decode c_MO_sum 184 = .ok (.iload_n 1, 1) := by decide +kernel
theorem d_MO_sum_185 : decode c_MO_sum 185 = .ok (.iload_n 2, 1) := by decide +kernel
theorem d_MO_sum_186 : decode c_MO_sum 186 = .ok (.ior, 1) := by decide +kernel
theorem d_MO_sum_187 : decode c_MO_sum 187 = .ok (.ireturn, 1) := by decide +kernel
theorem d_MO_sum_188 : decode c_MO_sum 188 = .ok (.iload_n 1, 1) := by decide +kernel
theorem d_MO_sum_189 : decode c_MO_sum 189 = .ok (.iload_n 2, 1) := by decide +kernel
theorem d_MO_sum_190 : decode c_MO_sum 190 = .ok (.ixor, 1) := by decide +kernel
theorem d_MO_sum_191 : decode c_MO_sum 191 = .ok (.ireturn, 1) := by decide +kernel
