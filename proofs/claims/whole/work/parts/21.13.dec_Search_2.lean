theorem d_Search_cornerWrong_68 : decode b_Search_cornerWrong 68 = .ok (.iload 6, 2) := by decide +kernel
theorem d_Search_cornerWrong_70 : decode b_Search_cornerWrong 70 = .ok (.aload_n 0, 1) := by decide +kernel
theorem d_Search_cornerWrong_71 : decode b_Search_cornerWrong 71 = .ok (.getfield 12, 3) := by decide +kernel
theorem d_Search_cornerWrong_74 : decode b_Search_cornerWrong 74 = .ok (.getfield 51, 3) := by decide +kernel
theorem d_Search_cornerWrong_77 : decode b_Search_cornerWrong 77 = .ok (.bipush 8, 2) := by decide +kernel
theorem d_Search_cornerWrong_79 : decode b_Search_cornerWrong 79 = .ok (.iload 4, 2) := by decide +kernel
theorem d_Search_cornerWrong_81 : decode b_Search_cornerWrong 81 = .ok (.imul, 1) := by decide +kernel
theorem d_Search_cornerWrong_82 : decode b_Search_cornerWrong 82 = .ok (.isub, 1) := by decide +kernel
theorem d_Search_cornerWrong_83 : decode b_Search_cornerWrong 83 = .ok (.if_icmp .le 7, 3) := by decide +kernel
theorem d_Search_cornerWrong_86 : decode b_Search_cornerWrong 86 = .ok (.sipush 501, 3) := by decide +kernel
theorem d_Search_cornerWrong_89 : decode b_Search_cornerWrong 89 = .ok (.ireturn, 1) := by decide +kernel
theorem d_Search_cornerWrong_90 : decode b_Search_cornerWrong 90 = .ok (.iload_n 3, 1) := by decide +kernel
theorem d_Search_cornerWrong_91 : decode b_Search_cornerWrong 91 = .ok (.sipush 512, 3) := by decide +kernel
theorem d_Search_cornerWrong_94 : decode b_Search_cornerWrong 94 = .ok (.imul, 1) := by decide +kernel
theorem d_Search_cornerWrong_95 : decode b_Search_cornerWrong 95 = .ok (.iload_n 2, 1) := by decide +kernel
theorem d_Search_cornerWrong_96 : decode b_Search_cornerWrong 96 = .ok (.iadd, 1) := by decide +kernel
theorem d_Search_cornerWrong_97 : decode b_Search_cornerWrong 97 = .ok (.istore 7, 2) := by decide +kernel
theorem d_Search_cornerWrong_99 : decode b_Search_cornerWrong 99 = .ok (.bipush 10, 2) := by decide +kernel
theorem d_Search_cornerWrong_101 : decode b_Search_cornerWrong 101 = .ok (.iload_n 1, 1) := by decide +kernel
theorem d_Search_cornerWrong_102 : decode b_Search_cornerWrong 102 = .ok (.imul, 1) := by decide +kernel
theorem d_Search_cornerWrong_103 : decode b_Search_cornerWrong 103 = .ok (.istore 8, 2) := by decide +kernel
theorem d_Search_cornerWrong_105 : decode b_Search_cornerWrong 105 = .ok (.aload_n 0, 1) := by decide +kernel
theorem d_Search_cornerWrong_106 : decode b_Search_cornerWrong 106 = .ok (.getfield 30, 3) := by decide +kernel
theorem d_Search_cornerWrong_109 : decode b_Search_cornerWrong 109 = .ok (.iload 7, 2) := by decide +kernel
theorem d_Search_cornerWrong_111 : decode b_Search_cornerWrong 111 = .ok (.laload, 1) := by decide +kernel
theorem d_Search_cornerWrong_112 : decode b_Search_cornerWrong 112 = .ok (.bipush 40, 2) := by decide +kernel
theorem d_Search_cornerWrong_114 : decode b_Search_cornerWrong 114 = .ok (.lushr, 1) := by decide +kernel
theorem d_Search_cornerWrong_115 : decode b_Search_cornerWrong 115 = .ok (.aload_n 0, 1) := by decide +kernel
theorem d_Search_cornerWrong_116 : decode b_Search_cornerWrong 116 = .ok (.getfield 69, 3) := by decide +kernel
theorem d_Search_cornerWrong_119 : decode b_Search_cornerWrong 119 = .ok (.i2l, 1) := by decide +kernel
theorem d_Search_cornerWrong_120 : decode b_Search_cornerWrong 120 = .ok (.lcmp, 1) := by decide +kernel
theorem d_Search_cornerWrong_121 : decode b_Search_cornerWrong 121 = .ok (.ifCond .eq 18, 3) := by decide +kernel
theorem d_Search_cornerWrong_124 : decode b_Search_cornerWrong 124 = .ok (.aload_n 0, 1) := by decide +kernel
theorem d_Search_cornerWrong_125 : decode b_Search_cornerWrong 125 = .ok (.getfield 30, 3) := by decide +kernel
theorem d_Search_cornerWrong_128 : decode b_Search_cornerWrong 128 = .ok (.iload 7, 2) := by decide +kernel
theorem d_Search_cornerWrong_130 : decode b_Search_cornerWrong 130 = .ok (.aload_n 0, 1) := by decide +kernel
theorem d_Search_cornerWrong_131 : decode b_Search_cornerWrong 131 = .ok (.getfield 69, 3) := by decide +kernel
theorem d_Search_cornerWrong_134 : decode b_Search_cornerWrong 134 = .ok (.i2l, 1) := by decide +kernel
theorem d_Search_cornerWrong_135 : decode b_Search_cornerWrong 135 = .ok (.bipush 40, 2) := by decide +kernel
theorem d_Search_cornerWrong_137 : decode b_Search_cornerWrong 137 = .ok (.lshl, 1) := by decide +kernel
theorem d_Search_cornerWrong_138 : decode b_Search_cornerWrong 138 = .ok (.lastore, 1) := by decide +kernel
theorem d_Search_cornerWrong_139 : decode b_Search_cornerWrong 139 = .ok (.aload_n 0, 1) := by decide +kernel
theorem d_Search_cornerWrong_140 : decode b_Search_cornerWrong 140 = .ok (.getfield 30, 3) := by decide +kernel
theorem d_Search_cornerWrong_143 : decode b_Search_cornerWrong 143 = .ok (.iload 7, 2) := by decide +kernel
theorem d_Search_cornerWrong_145 : decode b_Search_cornerWrong 145 = .ok (.laload, 1) := by decide +kernel
theorem d_Search_cornerWrong_146 : decode b_Search_cornerWrong 146 = .ok (.iload 8, 2) := by decide +kernel
theorem d_Search_cornerWrong_148 : decode b_Search_cornerWrong 148 = .ok (.lushr, 1) := by decide +kernel
theorem d_Search_cornerWrong_149 : decode b_Search_cornerWrong 149 = .ok (.l2i, 1) := by decide +kernel
theorem d_Search_cornerWrong_150 : decode b_Search_cornerWrong 150 = .ok (.sipush 1023, 3) := by decide +kernel
theorem d_Search_cornerWrong_153 : decode b_Search_cornerWrong 153 = .ok (.iand, 1) := by decide +kernel
theorem d_Search_cornerWrong_154 : decode b_Search_cornerWrong 154 = .ok (.istore 9, 2) := by decide +kernel
theorem d_Search_cornerWrong_156 : decode b_Search_cornerWrong 156 = .ok (.iload 9, 2) := by decide +kernel
theorem d_Search_cornerWrong_158 : decode b_Search_cornerWrong 158 = .ok (.ifCond .eq 8, 3) := by decide +kernel
theorem d_Search_cornerWrong_161 : decode b_Search_cornerWrong 161 = .ok (.iload 9, 2) := by decide +kernel
theorem d_Search_cornerWrong_163 : decode b_Search_cornerWrong 163 = .ok (.iconst 1, 1) := by decide +kernel
theorem d_Search_cornerWrong_164 : decode b_Search_cornerWrong 164 = .ok (.isub, 1) := by decide +kernel
theorem d_Search_cornerWrong_165 : decode b_Search_cornerWrong 165 = .ok (.ireturn, 1) := by decide +kernel
theorem d_Search_cornerWrong_166 : decode b_Search_cornerWrong 166 = .ok (.bipush 33, 2) := by decide +kernel
theorem d_Search_cornerWrong_168 : decode b_Search_cornerWrong 168 = .ok (.iload 4, 2) := by decide +kernel
theorem d_Search_cornerWrong_170 : decode b_Search_cornerWrong 170 = .ok (.imul, 1) := by decide +kernel
theorem d_Search_cornerWrong_171 : decode b_Search_cornerWrong 171 = .ok (.iload 4, 2) := by decide +kernel
theorem d_Search_cornerWrong_173 : decode b_Search_cornerWrong 173 = .ok (.imul, 1) := by decide +kernel
theorem d_Search_cornerWrong_174 : decode b_Search_cornerWrong 174 = .ok (.aload_n 0, 1) := by decide +kernel
theorem d_Search_cornerWrong_175 : decode b_Search_cornerWrong 175 = .ok (.getfield 12, 3) := by decide +kernel
theorem d_Search_cornerWrong_178 : decode b_Search_cornerWrong 178 = .ok (.iload 5, 2) := by decide +kernel
theorem d_Search_cornerWrong_180 : decode b_Search_cornerWrong 180 = .ok (.iload 6, 2) := by decide +kernel
theorem d_Search_cornerWrong_182 : decode b_Search_cornerWrong 182 = .ok (.bipush 8, 2) := by decide +kernel
theorem d_Search_cornerWrong_184 : decode b_Search_cornerWrong 184 = .ok (.iload 4, 2) := by decide +kernel
theorem d_Search_cornerWrong_186 : decode b_Search_cornerWrong 186 = .ok (.imul, 1) := by decide +kernel
theorem d_Search_cornerWrong_187 : decode b_Search_cornerWrong 187 = .ok (.bipush 8, 2) := by decide +kernel
theorem d_Search_cornerWrong_189 : decode b_Search_cornerWrong 189 = .ok (.iload 4, 2) := by decide +kernel
theorem d_Search_cornerWrong_191 : decode b_Search_cornerWrong 191 = .ok (.imul, 1) := by decide +kernel
theorem d_Search_cornerWrong_192 : decode b_Search_cornerWrong 192 = .ok (.invokevirtual 165, 3) := by decide +kernel
theorem d_Search_cornerWrong_195 : decode b_Search_cornerWrong 195 = .ok (.iadd, 1) := by decide +kernel
theorem d_Search_cornerWrong_196 : decode b_Search_cornerWrong 196 = .ok (.iconst 2, 1) := by decide +kernel
theorem d_Search_cornerWrong_197 : decode b_Search_cornerWrong 197 = .ok (.aload_n 0, 1) := by decide +kernel
theorem d_Search_cornerWrong_198 : decode b_Search_cornerWrong 198 = .ok (.getfield 12, 3) := by decide +kernel
theorem d_Search_cornerWrong_201 : decode b_Search_cornerWrong 201 = .ok (.iload_n 2, 1) := by decide +kernel
theorem d_Search_cornerWrong_202 : decode b_Search_cornerWrong 202 = .ok (.iload_n 3, 1) := by decide +kernel
theorem d_Search_cornerWrong_203 : decode b_Search_cornerWrong 203 = .ok (.bipush 7, 2) := by decide +kernel
theorem d_Search_cornerWrong_205 : decode b_Search_cornerWrong 205 = .ok (.iload 4, 2) := by decide +kernel
theorem d_Search_cornerWrong_207 : decode b_Search_cornerWrong 207 = .ok (.imul, 1) := by decide +kernel
theorem d_Search_cornerWrong_208 : decode b_Search_cornerWrong 208 = .ok (.bipush 7, 2) := by decide +kernel
theorem d_Search_cornerWrong_210 : decode b_Search_cornerWrong 210 = .ok (.iload 4, 2) := by decide +kernel
theorem d_Search_cornerWrong_212 : decode b_Search_cornerWrong 212 = .ok (.imul, 1) := by decide +kernel
theorem d_Search_cornerWrong_213 : decode b_Search_cornerWrong 213 = .ok (.invokevirtual 165, 3) := by decide +kernel
theorem d_Search_cornerWrong_216 : decode b_Search_cornerWrong 216 = .ok (.imul, 1) := by decide +kernel
theorem d_Search_cornerWrong_217 : decode b_Search_cornerWrong 217 = .ok (.isub, 1) := by decide +kernel
theorem d_Search_cornerWrong_218 : decode b_Search_cornerWrong 218 = .ok (.iconst 2, 1) := by decide +kernel
theorem d_Search_cornerWrong_219 : decode b_Search_cornerWrong 219 = .ok (.aload_n 0, 1) := by decide +kernel
theorem d_Search_cornerWrong_220 : decode b_Search_cornerWrong 220 = .ok (.getfield 12, 3) := by decide +kernel
theorem d_Search_cornerWrong_223 : decode b_Search_cornerWrong 223 = .ok (.iload_n 2, 1) := by decide +kernel
theorem d_Search_cornerWrong_224 : decode b_Search_cornerWrong 224 = .ok (.iload 4, 2) := by decide +kernel
theorem d_Search_cornerWrong_226 : decode b_Search_cornerWrong 226 = .ok (.iadd, 1) := by decide +kernel
theorem d_Search_cornerWrong_227 : decode b_Search_cornerWrong 227 = .ok (.iload_n 3, 1) := by decide +kernel
theorem d_Search_cornerWrong_228 : decode b_Search_cornerWrong 228 = .ok (.iload 4, 2) := by decide +kernel
theorem d_Search_cornerWrong_230 : decode b_Search_cornerWrong 230 = .ok (.iadd, 1) := by decide +kernel
theorem d_Search_cornerWrong_231 : decode b_Search_cornerWrong 231 = .ok (.iconst 5, 1) := by decide +kernel
theorem d_Search_cornerWrong_232 : decode b_Search_cornerWrong 232 = .ok (.iload 4, 2) := by decide +kernel
theorem d_Search_cornerWrong_234 : decode b_Search_cornerWrong 234 = .ok (.imul, 1) := by decide +kernel
theorem d_Search_cornerWrong_235 : decode b_Search_cornerWrong 235 = .ok (.iconst 5, 1) := by decide +kernel
theorem d_Search_cornerWrong_236 : decode b_Search_cornerWrong 236 = .ok (.iload 4, 2) := by decide +kernel
theorem d_Search_cornerWrong_238 : decode b_Search_cornerWrong 238 = .ok (.imul, 1) := by decide +kernel
theorem d_Search_cornerWrong_239 : decode b_Search_cornerWrong 239 = .ok (.invokevirtual 165, 3) := by decide +kernel
theorem d_Search_cornerWrong_242 : decode b_Search_cornerWrong 242 = .ok (.imul, 1) := by decide +kernel
theorem d_Search_cornerWrong_243 : decode b_Search_cornerWrong 243 = .ok (.iadd, 1) := by decide +kernel
theorem d_Search_cornerWrong_244 : decode b_Search_cornerWrong 244 = .ok (.iconst 2, 1) := by decide +kernel
theorem d_Search_cornerWrong_245 : decode b_Search_cornerWrong 245 = .ok (.aload_n 0, 1) := by decide +kernel
theorem d_Search_cornerWrong_246 : decode b_Search_cornerWrong 246 = .ok (.getfield 12, 3) := by decide +kernel
theorem d_Search_cornerWrong_249 : decode b_Search_cornerWrong 249 = .ok (.iload_n 2, 1) := by decide +kernel
theorem d_Search_cornerWrong_250 : decode b_Search_cornerWrong 250 = .ok (.iconst 2, 1) := by decide +kernel
theorem d_Search_cornerWrong_251 : decode b_Search_cornerWrong 251 = .ok (.iload 4, 2) := by decide +kernel
theorem d_Search_cornerWrong_253 : decode b_Search_cornerWrong 253 = .ok (.imul, 1) := by decide +kernel
theorem d_Search_cornerWrong_254 : decode b_Search_cornerWrong 254 = .ok (.iadd, 1) := by decide +kernel
theorem d_Search_cornerWrong_255 : decode b_Search_cornerWrong 255 = .ok (.iload_n 3, 1) := by decide +kernel
theorem d_Search_cornerWrong_256 : decode b_Search_cornerWrong 256 = .ok (.iconst 2, 1) := by decide +kernel
theorem d_Search_cornerWrong_257 : decode b_Search_cornerWrong 257 = .ok (.iload 4, 2) := by decide +kernel
theorem d_Search_cornerWrong_259 : decode b_Search_cornerWrong 259 = .ok (.imul, 1) := by decide +kernel
theorem d_Search_cornerWrong_260 : decode b_Search_cornerWrong 260 = .ok (.iadd, 1) := by decide +kernel
theorem d_Search_cornerWrong_261 : decode b_Search_cornerWrong 261 = .ok (.iconst 3, 1) := by decide +kernel
theorem d_Search_cornerWrong_262 : decode b_Search_cornerWrong 262 = .ok (.iload 4, 2) := by decide +kernel
theorem d_Search_cornerWrong_264 : decode b_Search_cornerWrong 264 = .ok (.imul, 1) := by decide +kernel
theorem d_Search_cornerWrong_265 : decode b_Search_cornerWrong 265 = .ok (.iconst 3, 1) := by decide +kernel
theorem d_Search_cornerWrong_266 : decode b_Search_cornerWrong 266 = .ok (.iload 4, 2) := by decide +kernel
theorem d_Search_cornerWrong_268 : decode b_Search_cornerWrong 268 = .ok (.imul, 1) := by decide +kernel
theorem d_Search_cornerWrong_269 : decode b_Search_cornerWrong 269 = .ok (.invokevirtual 165, 3) := by decide +kernel
theorem d_Search_cornerWrong_272 : decode b_Search_cornerWrong 272 = .ok (.imul, 1) := by decide +kernel
theorem d_Search_cornerWrong_273 : decode b_Search_cornerWrong 273 = .ok (.isub, 1) := by decide +kernel
theorem d_Search_cornerWrong_274 : decode b_Search_cornerWrong 274 = .ok (.istore 10, 2) := by decide +kernel
theorem d_Search_cornerWrong_276 : decode b_Search_cornerWrong 276 = .ok (.iload 10, 2) := by decide +kernel
theorem d_Search_cornerWrong_278 : decode b_Search_cornerWrong 278 = .ok (.sipush 501, 3) := by decide +kernel
theorem d_Search_cornerWrong_281 : decode b_Search_cornerWrong 281 = .ok (.invokestatic 54, 3) := by decide +kernel
theorem d_Search_cornerWrong_284 : decode b_Search_cornerWrong 284 = .ok (.istore 10, 2) := by decide +kernel
theorem d_Search_cornerWrong_286 : decode b_Search_cornerWrong 286 = .ok (.aload_n 0, 1) := by decide +kernel
theorem d_Search_cornerWrong_287 : decode b_Search_cornerWrong 287 = .ok (.getfield 30, 3) := by decide +kernel
theorem d_Search_cornerWrong_290 : decode b_Search_cornerWrong 290 = .ok (.iload 7, 2) := by decide +kernel
theorem d_Search_cornerWrong_292 : decode b_Search_cornerWrong 292 = .ok (.dup2, 1) := by decide +kernel
theorem d_Search_cornerWrong_293 : decode b_Search_cornerWrong 293 = .ok (.laload, 1) := by decide +kernel
theorem d_Search_cornerWrong_294 : decode b_Search_cornerWrong 294 = .ok (.iload 10, 2) := by decide +kernel
theorem d_Search_cornerWrong_296 : decode b_Search_cornerWrong 296 = .ok (.iconst 1, 1) := by decide +kernel
theorem d_Search_cornerWrong_297 : decode b_Search_cornerWrong 297 = .ok (.iadd, 1) := by decide +kernel
theorem d_Search_cornerWrong_298 : decode b_Search_cornerWrong 298 = .ok (.i2l, 1) := by decide +kernel
theorem d_Search_cornerWrong_299 : decode b_Search_cornerWrong 299 = .ok (.iload 8, 2) := by decide +kernel
theorem d_Search_cornerWrong_301 : decode b_Search_cornerWrong 301 = .ok (.lshl, 1) := by decide +kernel
theorem d_Search_cornerWrong_302 : decode b_Search_cornerWrong 302 = .ok (.lor, 1) := by decide +kernel
theorem d_Search_cornerWrong_303 : decode b_Search_cornerWrong 303 = .ok (.lastore, 1) := by decide +kernel
theorem d_Search_cornerWrong_304 : decode b_Search_cornerWrong 304 = .ok (.iload 10, 2) := by decide +kernel
theorem d_Search_cornerWrong_306 : decode b_Search_cornerWrong 306 = .ok (.ireturn, 1) := by decide +kernel
theorem d_Search_finderFloor_0 : decode b_Search_finderFloor 0 = .ok (.aload_n 0, 1) := by decide +kernel
theorem d_Search_finderFloor_1 : decode b_Search_finderFloor 1 = .ok (.getfield 66, 3) := by decide +kernel
theorem d_Search_finderFloor_4 : decode b_Search_finderFloor 4 = .ok (.istore_n 3, 1) := by decide +kernel
theorem d_Search_finderFloor_5 : decode b_Search_finderFloor 5 = .ok (.aload_n 0, 1) := by decide +kernel
theorem d_Search_finderFloor_6 : decode b_Search_finderFloor 6 = .ok (.iload_n 1, 1) := by decide +kernel
theorem d_Search_finderFloor_7 : decode b_Search_finderFloor 7 = .ok (.iconst 2, 1) := by decide +kernel
theorem d_Search_finderFloor_8 : decode b_Search_finderFloor 8 = .ok (.iload_n 3, 1) := by decide +kernel
theorem d_Search_finderFloor_9 : decode b_Search_finderFloor 9 = .ok (.imul, 1) := by decide +kernel
theorem d_Search_finderFloor_10 : decode b_Search_finderFloor 10 = .ok (.iadd, 1) := by decide +kernel
theorem d_Search_finderFloor_11 : decode b_Search_finderFloor 11 = .ok (.iload_n 2, 1) := by decide +kernel
theorem d_Search_finderFloor_12 : decode b_Search_finderFloor 12 = .ok (.iconst 2, 1) := by decide +kernel
theorem d_Search_finderFloor_13 : decode b_Search_finderFloor 13 = .ok (.iload_n 3, 1) := by decide +kernel
theorem d_Search_finderFloor_14 : decode b_Search_finderFloor 14 = .ok (.imul, 1) := by decide +kernel
theorem d_Search_finderFloor_15 : decode b_Search_finderFloor 15 = .ok (.iadd, 1) := by decide +kernel
theorem d_Search_finderFloor_16 : decode b_Search_finderFloor 16 = .ok (.iconst 3, 1) := by decide +kernel
theorem d_Search_finderFloor_17 : decode b_Search_finderFloor 17 = .ok (.iload_n 3, 1) := by decide +kernel
theorem d_Search_finderFloor_18 : decode b_Search_finderFloor 18 = .ok (.imul, 1) := by decide +kernel
theorem d_Search_finderFloor_19 : decode b_Search_finderFloor 19 = .ok (.iconst 3, 1) := by decide +kernel
theorem d_Search_finderFloor_20 : decode b_Search_finderFloor 20 = .ok (.iload_n 3, 1) := by decide +kernel
theorem d_Search_finderFloor_21 : decode b_Search_finderFloor 21 = .ok (.imul, 1) := by decide +kernel
theorem d_Search_finderFloor_22 : decode b_Search_finderFloor 22 = .ok (.invokevirtual 169, 3) := by decide +kernel
theorem d_Search_finderFloor_25 : decode b_Search_finderFloor 25 = .ok (.istore 4, 2) := by decide +kernel
theorem d_Search_finderFloor_27 : decode b_Search_finderFloor 27 = .ok (.aload_n 0, 1) := by decide +kernel
theorem d_Search_finderFloor_28 : decode b_Search_finderFloor 28 = .ok (.iload_n 1, 1) := by decide +kernel
theorem d_Search_finderFloor_29 : decode b_Search_finderFloor 29 = .ok (.iload_n 3, 1) := by decide +kernel
theorem d_Search_finderFloor_30 : decode b_Search_finderFloor 30 = .ok (.iadd, 1) := by decide +kernel
theorem d_Search_finderFloor_31 : decode b_Search_finderFloor 31 = .ok (.iload_n 2, 1) := by decide +kernel
theorem d_Search_finderFloor_32 : decode b_Search_finderFloor 32 = .ok (.iload_n 3, 1) := by decide +kernel
theorem d_Search_finderFloor_33 : decode b_Search_finderFloor 33 = .ok (.iadd, 1) := by decide +kernel
theorem d_Search_finderFloor_34 : decode b_Search_finderFloor 34 = .ok (.iconst 5, 1) := by decide +kernel
theorem d_Search_finderFloor_35 : decode b_Search_finderFloor 35 = .ok (.iload_n 3, 1) := by decide +kernel
theorem d_Search_finderFloor_36 : decode b_Search_finderFloor 36 = .ok (.imul, 1) := by decide +kernel
theorem d_Search_finderFloor_37 : decode b_Search_finderFloor 37 = .ok (.iconst 5, 1) := by decide +kernel
theorem d_Search_finderFloor_38 : decode b_Search_finderFloor 38 = .ok (.iload_n 3, 1) := by decide +kernel
theorem d_Search_finderFloor_39 : decode b_Search_finderFloor 39 = .ok (.imul, 1) := by decide +kernel
theorem d_Search_finderFloor_40 : decode b_Search_finderFloor 40 = .ok (.invokevirtual 172, 3) := by decide +kernel
theorem d_Search_finderFloor_43 : decode b_Search_finderFloor 43 = .ok (.istore 5, 2) := by decide +kernel
theorem d_Search_finderFloor_45 : decode b_Search_finderFloor 45 = .ok (.aload_n 0, 1) := by decide +kernel
theorem d_Search_finderFloor_46 : decode b_Search_finderFloor 46 = .ok (.iload_n 1, 1) := by decide +kernel
theorem d_Search_finderFloor_47 : decode b_Search_finderFloor 47 = .ok (.iload_n 2, 1) := by decide +kernel
theorem d_Search_finderFloor_48 : decode b_Search_finderFloor 48 = .ok (.bipush 7, 2) := by decide +kernel
theorem d_Search_finderFloor_50 : decode b_Search_finderFloor 50 = .ok (.iload_n 3, 1) := by decide +kernel
theorem d_Search_finderFloor_51 : decode b_Search_finderFloor 51 = .ok (.imul, 1) := by decide +kernel
theorem d_Search_finderFloor_52 : decode b_Search_finderFloor 52 = .ok (.bipush 7, 2) := by decide +kernel
theorem d_Search_finderFloor_54 : decode b_Search_finderFloor 54 = .ok (.iload_n 3, 1) := by decide +kernel
theorem d_Search_finderFloor_55 : decode b_Search_finderFloor 55 = .ok (.imul, 1) := by decide +kernel
theorem d_Search_finderFloor_56 : decode b_Search_finderFloor 56 = .ok (.invokevirtual 169, 3) := by decide +kernel
theorem d_Search_finderFloor_59 : decode b_Search_finderFloor 59 = .ok (.iload 5, 2) := by decide +kernel
theorem d_Search_finderFloor_61 : decode b_Search_finderFloor 61 = .ok (.isub, 1) := by decide +kernel
theorem d_Search_finderFloor_62 : decode b_Search_finderFloor 62 = .ok (.istore 6, 2) := by decide +kernel
theorem d_Search_finderFloor_64 : decode b_Search_finderFloor 64 = .ok (.bipush 9, 2) := by decide +kernel
theorem d_Search_finderFloor_66 : decode b_Search_finderFloor 66 = .ok (.iload_n 3, 1) := by decide +kernel
theorem d_Search_finderFloor_67 : decode b_Search_finderFloor 67 = .ok (.imul, 1) := by decide +kernel
theorem d_Search_finderFloor_68 : decode b_Search_finderFloor 68 = .ok (.iload_n 3, 1) := by decide +kernel
theorem d_Search_finderFloor_69 : decode b_Search_finderFloor 69 = .ok (.imul, 1) := by decide +kernel
theorem d_Search_finderFloor_70 : decode b_Search_finderFloor 70 = .ok (.iload 4, 2) := by decide +kernel
theorem d_Search_finderFloor_72 : decode b_Search_finderFloor 72 = .ok (.isub, 1) := by decide +kernel
theorem d_Search_finderFloor_73 : decode b_Search_finderFloor 73 = .ok (.iload 5, 2) := by decide +kernel
theorem d_Search_finderFloor_75 : decode b_Search_finderFloor 75 = .ok (.iload 4, 2) := by decide +kernel
theorem d_Search_finderFloor_77 : decode b_Search_finderFloor 77 = .ok (.isub, 1) := by decide +kernel
theorem d_Search_finderFloor_78 : decode b_Search_finderFloor 78 = .ok (.iconst 0, 1) := by decide +kernel
theorem d_Search_finderFloor_79 : decode b_Search_finderFloor 79 = .ok (.invokestatic 108, 3) := by decide +kernel
theorem d_Search_finderFloor_82 : decode b_Search_finderFloor 82 = .ok (.iadd, 1) := by decide +kernel
theorem d_Search_finderFloor_83 : decode b_Search_finderFloor 83 = .ok (.bipush 24, 2) := by decide +kernel
theorem d_Search_finderFloor_85 : decode b_Search_finderFloor 85 = .ok (.iload_n 3, 1) := by decide +kernel
theorem d_Search_finderFloor_86 : decode b_Search_finderFloor 86 = .ok (.imul, 1) := by decide +kernel
theorem d_Search_finderFloor_87 : decode b_Search_finderFloor 87 = .ok (.iload_n 3, 1) := by decide +kernel
theorem d_Search_finderFloor_88 : decode b_Search_finderFloor 88 = .ok (.imul, 1) := by decide +kernel
theorem d_Search_finderFloor_89 : decode b_Search_finderFloor 89 = .ok (.iload 6, 2) := by decide +kernel
theorem d_Search_finderFloor_91 : decode b_Search_finderFloor 91 = .ok (.isub, 1) := by decide +kernel
theorem d_Search_finderFloor_92 : decode b_Search_finderFloor 92 = .ok (.iconst 0, 1) := by decide +kernel
theorem d_Search_finderFloor_93 : decode b_Search_finderFloor 93 = .ok (.invokestatic 108, 3) := by decide +kernel
theorem d_Search_finderFloor_96 : decode b_Search_finderFloor 96 = .ok (.iadd, 1) := by decide +kernel
theorem d_Search_finderFloor_97 : decode b_Search_finderFloor 97 = .ok (.ireturn, 1) := by decide +kernel
theorem d_Search_borderFloor_0 : decode b_Search_borderFloor 0 = .ok (.aload_n 0, 1) := by decide +kernel
theorem d_Search_borderFloor_1 : decode b_Search_borderFloor 1 = .ok (.getfield 66, 3) := by decide +kernel
theorem d_Search_borderFloor_4 : decode b_Search_borderFloor 4 = .ok (.istore 4, 2) := by decide +kernel
theorem d_Search_borderFloor_6 : decode b_Search_borderFloor 6 = .ok (.iload_n 1, 1) := by decide +kernel
theorem d_Search_borderFloor_7 : decode b_Search_borderFloor 7 = .ok (.invokestatic 101, 3) := by decide +kernel
theorem d_Search_borderFloor_10 : decode b_Search_borderFloor 10 = .ok (.ifCond .eq 10, 3) := by decide +kernel
theorem d_Search_borderFloor_13 : decode b_Search_borderFloor 13 = .ok (.iload_n 2, 1) := by decide +kernel
theorem d_Search_borderFloor_14 : decode b_Search_borderFloor 14 = .ok (.iload 4, 2) := by decide +kernel
theorem d_Search_borderFloor_16 : decode b_Search_borderFloor 16 = .ok (.isub, 1) := by decide +kernel
theorem d_Search_borderFloor_17 : decode b_Search_borderFloor 17 = .ok (.goto 10, 3) := by decide +kernel
theorem d_Search_borderFloor_20 : decode b_Search_borderFloor 20 = .ok (.iload_n 2, 1) := by decide +kernel
theorem d_Search_borderFloor_21 : decode b_Search_borderFloor 21 = .ok (.bipush 7, 2) := by decide +kernel
theorem d_Search_borderFloor_23 : decode b_Search_borderFloor 23 = .ok (.iload 4, 2) := by decide +kernel
theorem d_Search_borderFloor_25 : decode b_Search_borderFloor 25 = .ok (.imul, 1) := by decide +kernel
theorem d_Search_borderFloor_26 : decode b_Search_borderFloor 26 = .ok (.iadd, 1) := by decide +kernel
theorem d_Search_borderFloor_27 : decode b_Search_borderFloor 27 = .ok (.istore 5, 2) := by decide +kernel
theorem d_Search_borderFloor_29 : decode b_Search_borderFloor 29 = .ok (.iload_n 1, 1) := by decide +kernel
theorem d_Search_borderFloor_30 : decode b_Search_borderFloor 30 = .ok (.invokestatic 105, 3) := by decide +kernel
theorem d_Search_borderFloor_33 : decode b_Search_borderFloor 33 = .ok (.ifCond .eq 10, 3) := by decide +kernel
theorem d_Search_borderFloor_36 : decode b_Search_borderFloor 36 = .ok (.iload_n 3, 1) := by decide +kernel
theorem d_Search_borderFloor_37 : decode b_Search_borderFloor 37 = .ok (.iload 4, 2) := by decide +kernel
theorem d_Search_borderFloor_39 : decode b_Search_borderFloor 39 = .ok (.isub, 1) := by decide +kernel
theorem d_Search_borderFloor_40 : decode b_Search_borderFloor 40 = .ok (.goto 10, 3) := by decide +kernel
theorem d_Search_borderFloor_43 : decode b_Search_borderFloor 43 = .ok (.iload_n 3, 1) := by decide +kernel
theorem d_Search_borderFloor_44 : decode b_Search_borderFloor 44 = .ok (.bipush 7, 2) := by decide +kernel
theorem d_Search_borderFloor_46 : decode b_Search_borderFloor 46 = .ok (.iload 4, 2) := by decide +kernel
theorem d_Search_borderFloor_48 : decode b_Search_borderFloor 48 = .ok (.imul, 1) := by decide +kernel
theorem d_Search_borderFloor_49 : decode b_Search_borderFloor 49 = .ok (.iadd, 1) := by decide +kernel
theorem d_Search_borderFloor_50 : decode b_Search_borderFloor 50 = .ok (.istore 6, 2) := by decide +kernel
theorem d_Search_borderFloor_52 : decode b_Search_borderFloor 52 = .ok (.aload_n 0, 1) := by decide +kernel
theorem d_Search_borderFloor_53 : decode b_Search_borderFloor 53 = .ok (.iload 5, 2) := by decide +kernel
theorem d_Search_borderFloor_55 : decode b_Search_borderFloor 55 = .ok (.iload_n 3, 1) := by decide +kernel
theorem d_Search_borderFloor_56 : decode b_Search_borderFloor 56 = .ok (.iload 4, 2) := by decide +kernel
theorem d_Search_borderFloor_58 : decode b_Search_borderFloor 58 = .ok (.bipush 7, 2) := by decide +kernel
theorem d_Search_borderFloor_60 : decode b_Search_borderFloor 60 = .ok (.iload 4, 2) := by decide +kernel
theorem d_Search_borderFloor_62 : decode b_Search_borderFloor 62 = .ok (.imul, 1) := by decide +kernel
theorem d_Search_borderFloor_63 : decode b_Search_borderFloor 63 = .ok (.invokevirtual 172, 3) := by decide +kernel
theorem d_Search_borderFloor_66 : decode b_Search_borderFloor 66 = .ok (.aload_n 0, 1) := by decide +kernel
theorem d_Search_borderFloor_67 : decode b_Search_borderFloor 67 = .ok (.iload_n 2, 1) := by decide +kernel
theorem d_Search_borderFloor_68 : decode b_Search_borderFloor 68 = .ok (.iload 5, 2) := by decide +kernel
theorem d_Search_borderFloor_70 : decode b_Search_borderFloor 70 = .ok (.invokestatic 54, 3) := by decide +kernel
theorem d_Search_borderFloor_73 : decode b_Search_borderFloor 73 = .ok (.iload 6, 2) := by decide +kernel
theorem d_Search_borderFloor_75 : decode b_Search_borderFloor 75 = .ok (.bipush 8, 2) := by decide +kernel
theorem d_Search_borderFloor_77 : decode b_Search_borderFloor 77 = .ok (.iload 4, 2) := by decide +kernel
theorem d_Search_borderFloor_79 : decode b_Search_borderFloor 79 = .ok (.imul, 1) := by decide +kernel
theorem d_Search_borderFloor_80 : decode b_Search_borderFloor 80 = .ok (.iload 4, 2) := by decide +kernel
theorem d_Search_borderFloor_82 : decode b_Search_borderFloor 82 = .ok (.invokevirtual 172, 3) := by decide +kernel
theorem d_Search_borderFloor_85 : decode b_Search_borderFloor 85 = .ok (.iadd, 1) := by decide +kernel
theorem d_Search_borderFloor_86 : decode b_Search_borderFloor 86 = .ok (.ireturn, 1) := by decide +kernel
theorem d_Search_lineFloor_0 : decode b_Search_lineFloor 0 = .ok (.aload_n 0, 1) := by decide +kernel
theorem d_Search_lineFloor_1 : decode b_Search_lineFloor 1 = .ok (.getfield 98, 3) := by decide +kernel
theorem d_Search_lineFloor_4 : decode b_Search_lineFloor 4 = .ok (.bipush 16, 2) := by decide +kernel
theorem d_Search_lineFloor_6 : decode b_Search_lineFloor 6 = .ok (.isub, 1) := by decide +kernel
theorem d_Search_lineFloor_7 : decode b_Search_lineFloor 7 = .ok (.aload_n 0, 1) := by decide +kernel
theorem d_Search_lineFloor_8 : decode b_Search_lineFloor 8 = .ok (.getfield 66, 3) := by decide +kernel
theorem d_Search_lineFloor_11 : decode b_Search_lineFloor 11 = .ok (.imul, 1) := by decide +kernel
theorem d_Search_lineFloor_12 : decode b_Search_lineFloor 12 = .ok (.istore_n 2, 1) := by decide +kernel
theorem d_Search_lineFloor_13 : decode b_Search_lineFloor 13 = .ok (.iload_n 1, 1) := by decide +kernel
theorem d_Search_lineFloor_14 : decode b_Search_lineFloor 14 = .ok (.iconst 2, 1) := by decide +kernel
theorem d_Search_lineFloor_15 : decode b_Search_lineFloor 15 = .ok (.irem, 1) := by decide +kernel
theorem d_Search_lineFloor_16 : decode b_Search_lineFloor 16 = .ok (.ifCond .ne 7, 3) := by decide +kernel
theorem d_Search_lineFloor_19 : decode b_Search_lineFloor 19 = .ok (.iload_n 2, 1) := by decide +kernel
theorem d_Search_lineFloor_20 : decode b_Search_lineFloor 20 = .ok (.goto 7, 3) := by decide +kernel
theorem d_Search_lineFloor_23 : decode b_Search_lineFloor 23 = .ok (.aload_n 0, 1) := by decide +kernel
theorem d_Search_lineFloor_24 : decode b_Search_lineFloor 24 = .ok (.getfield 66, 3) := by decide +kernel
theorem d_Search_lineFloor_27 : decode b_Search_lineFloor 27 = .ok (.istore_n 3, 1) := by decide +kernel
theorem d_Search_lineFloor_28 : decode b_Search_lineFloor 28 = .ok (.iload_n 1, 1) := by decide +kernel
theorem d_Search_lineFloor_29 : decode b_Search_lineFloor 29 = .ok (.iconst 2, 1) := by decide +kernel
theorem d_Search_lineFloor_30 : decode b_Search_lineFloor 30 = .ok (.irem, 1) := by decide +kernel
theorem d_Search_lineFloor_31 : decode b_Search_lineFloor 31 = .ok (.ifCond .ne 10, 3) := by decide +kernel
theorem d_Search_lineFloor_34 : decode b_Search_lineFloor 34 = .ok (.aload_n 0, 1) := by decide +kernel
theorem d_Search_lineFloor_35 : decode b_Search_lineFloor 35 = .ok (.getfield 66, 3) := by decide +kernel
theorem d_Search_lineFloor_38 : decode b_Search_lineFloor 38 = .ok (.goto 4, 3) := by decide +kernel
theorem d_Search_lineFloor_41 : decode b_Search_lineFloor 41 = .ok (.iload_n 2, 1) := by decide +kernel
theorem d_Search_lineFloor_42 : decode b_Search_lineFloor 42 = .ok (.istore 4, 2) := by decide +kernel
theorem d_Search_lineFloor_44 : decode b_Search_lineFloor 44 = .ok (.aload_n 0, 1) := by decide +kernel
theorem d_Search_lineFloor_45 : decode b_Search_lineFloor 45 = .ok (.getfield 98, 3) := by decide +kernel
theorem d_Search_lineFloor_48 : decode b_Search_lineFloor 48 = .ok (.bipush 15, 2) := by decide +kernel
theorem d_Search_lineFloor_50 : decode b_Search_lineFloor 50 = .ok (.isub, 1) := by decide +kernel
theorem d_Search_lineFloor_51 : decode b_Search_lineFloor 51 = .ok (.iconst 2, 1) := by decide +kernel
theorem d_Search_lineFloor_52 : decode b_Search_lineFloor 52 = .ok (.idiv, 1) := by decide +kernel
theorem d_Search_lineFloor_53 : decode b_Search_lineFloor 53 = .ok (.aload_n 0, 1) := by decide +kernel
theorem d_Search_lineFloor_54 : decode b_Search_lineFloor 54 = .ok (.getfield 66, 3) := by decide +kernel
theorem d_Search_lineFloor_57 : decode b_Search_lineFloor 57 = .ok (.imul, 1) := by decide +kernel
theorem d_Search_lineFloor_58 : decode b_Search_lineFloor 58 = .ok (.aload_n 0, 1) := by decide +kernel
theorem d_Search_lineFloor_59 : decode b_Search_lineFloor 59 = .ok (.getfield 66, 3) := by decide +kernel
theorem d_Search_lineFloor_62 : decode b_Search_lineFloor 62 = .ok (.imul, 1) := by decide +kernel
theorem d_Search_lineFloor_63 : decode b_Search_lineFloor 63 = .ok (.istore 5, 2) := by decide +kernel
theorem d_Search_lineFloor_65 : decode b_Search_lineFloor 65 = .ok (.aload_n 0, 1) := by decide +kernel
theorem d_Search_lineFloor_66 : decode b_Search_lineFloor 66 = .ok (.iload_n 1, 1) := by decide +kernel
theorem d_Search_lineFloor_67 : decode b_Search_lineFloor 67 = .ok (.invokevirtual 175, 3) := by decide +kernel
theorem d_Search_lineFloor_70 : decode b_Search_lineFloor 70 = .ok (.istore 6, 2) := by decide +kernel
theorem d_Search_lineFloor_72 : decode b_Search_lineFloor 72 = .ok (.aload_n 0, 1) := by decide +kernel
theorem d_Search_lineFloor_73 : decode b_Search_lineFloor 73 = .ok (.iload_n 1, 1) := by decide +kernel
theorem d_Search_lineFloor_74 : decode b_Search_lineFloor 74 = .ok (.invokevirtual 178, 3) := by decide +kernel
theorem d_Search_lineFloor_77 : decode b_Search_lineFloor 77 = .ok (.istore 7, 2) := by decide +kernel
theorem d_Search_lineFloor_79 : decode b_Search_lineFloor 79 = .ok (.iload 5, 2) := by decide +kernel
theorem d_Search_lineFloor_81 : decode b_Search_lineFloor 81 = .ok (.aload_n 0, 1) := by decide +kernel
theorem d_Search_lineFloor_82 : decode b_Search_lineFloor 82 = .ok (.iload 6, 2) := by decide +kernel
theorem d_Search_lineFloor_84 : decode b_Search_lineFloor 84 = .ok (.iload 7, 2) := by decide +kernel
theorem d_Search_lineFloor_86 : decode b_Search_lineFloor 86 = .ok (.iload_n 3, 1) := by decide +kernel
theorem d_Search_lineFloor_87 : decode b_Search_lineFloor 87 = .ok (.iload 4, 2) := by decide +kernel
theorem d_Search_lineFloor_89 : decode b_Search_lineFloor 89 = .ok (.invokevirtual 169, 3) := by decide +kernel
theorem d_Search_lineFloor_92 : decode b_Search_lineFloor 92 = .ok (.isub, 1) := by decide +kernel
theorem d_Search_lineFloor_93 : decode b_Search_lineFloor 93 = .ok (.istore 8, 2) := by decide +kernel
theorem d_Search_lineFloor_95 : decode b_Search_lineFloor 95 = .ok (.iload 8, 2) := by decide +kernel
theorem d_Search_lineFloor_97 : decode b_Search_lineFloor 97 = .ok (.ifCond .le 8, 3) := by decide +kernel
theorem d_Search_lineFloor_100 : decode b_Search_lineFloor 100 = .ok (.iload 8, 2) := by decide +kernel
theorem d_Search_lineFloor_102 : decode b_Search_lineFloor 102 = .ok (.goto 21, 3) := by decide +kernel
theorem d_Search_lineFloor_105 : decode b_Search_lineFloor 105 = .ok (.aload_n 0, 1) := by decide +kernel
theorem d_Search_lineFloor_106 : decode b_Search_lineFloor 106 = .ok (.iload 6, 2) := by decide +kernel
theorem d_Search_lineFloor_108 : decode b_Search_lineFloor 108 = .ok (.iload 7, 2) := by decide +kernel
theorem d_Search_lineFloor_110 : decode b_Search_lineFloor 110 = .ok (.iload_n 3, 1) := by decide +kernel
theorem d_Search_lineFloor_111 : decode b_Search_lineFloor 111 = .ok (.iload 4, 2) := by decide +kernel
theorem d_Search_lineFloor_113 : decode b_Search_lineFloor 113 = .ok (.invokevirtual 172, 3) := by decide +kernel
theorem d_Search_lineFloor_116 : decode b_Search_lineFloor 116 = .ok (.iload 5, 2) := by decide +kernel
theorem d_Search_lineFloor_118 : decode b_Search_lineFloor 118 = .ok (.isub, 1) := by decide +kernel
theorem d_Search_lineFloor_119 : decode b_Search_lineFloor 119 = .ok (.iconst 0, 1) := by decide +kernel
theorem d_Search_lineFloor_120 : decode b_Search_lineFloor 120 = .ok (.invokestatic 108, 3) := by decide +kernel
theorem d_Search_lineFloor_123 : decode b_Search_lineFloor 123 = .ok (.ireturn, 1) := by decide +kernel
theorem d_Search_withLine_0 : decode b_Search_withLine 0 = .ok (.aload_n 0, 1) := by decide +kernel
theorem d_Search_withLine_1 : decode b_Search_withLine 1 = .ok (.getfield 66, 3) := by decide +kernel
theorem d_Search_withLine_4 : decode b_Search_withLine 4 = .ok (.istore_n 3, 1) := by decide +kernel
theorem d_Search_withLine_5 : decode b_Search_withLine 5 = .ok (.iload_n 1, 1) := by decide +kernel
theorem d_Search_withLine_6 : decode b_Search_withLine 6 = .ok (.iconst 2, 1) := by decide +kernel
theorem d_Search_withLine_7 : decode b_Search_withLine 7 = .ok (.irem, 1) := by decide +kernel
theorem d_Search_withLine_8 : decode b_Search_withLine 8 = .ok (.ifCond .ne 7, 3) := by decide +kernel
theorem d_Search_withLine_11 : decode b_Search_withLine 11 = .ok (.iload_n 3, 1) := by decide +kernel
theorem d_Search_withLine_12 : decode b_Search_withLine 12 = .ok (.goto 4, 3) := by decide +kernel
theorem d_Search_withLine_15 : decode b_Search_withLine 15 = .ok (.iconst 0, 1) := by decide +kernel
theorem d_Search_withLine_16 : decode b_Search_withLine 16 = .ok (.istore 4, 2) := by decide +kernel
theorem d_Search_withLine_18 : decode b_Search_withLine 18 = .ok (.iload_n 3, 1) := by decide +kernel
theorem d_Search_withLine_19 : decode b_Search_withLine 19 = .ok (.iload 4, 2) := by decide +kernel
theorem d_Search_withLine_21 : decode b_Search_withLine 21 = .ok (.isub, 1) := by decide +kernel
theorem d_Search_withLine_22 : decode b_Search_withLine 22 = .ok (.istore 5, 2) := by decide +kernel
theorem d_Search_withLine_24 : decode b_Search_withLine 24 = .ok (.aload_n 0, 1) := by decide +kernel
theorem d_Search_withLine_25 : decode b_Search_withLine 25 = .ok (.iload_n 1, 1) := by decide +kernel
theorem d_Search_withLine_26 : decode b_Search_withLine 26 = .ok (.invokevirtual 175, 3) := by decide +kernel
theorem d_Search_withLine_29 : decode b_Search_withLine 29 = .ok (.istore 6, 2) := by decide +kernel
theorem d_Search_withLine_31 : decode b_Search_withLine 31 = .ok (.aload_n 0, 1) := by decide +kernel
theorem d_Search_withLine_32 : decode b_Search_withLine 32 = .ok (.iload_n 1, 1) := by decide +kernel
theorem d_Search_withLine_33 : decode b_Search_withLine 33 = .ok (.invokevirtual 178, 3) := by decide +kernel
theorem d_Search_withLine_36 : decode b_Search_withLine 36 = .ok (.istore 7, 2) := by decide +kernel
theorem d_Search_withLine_38 : decode b_Search_withLine 38 = .ok (.iload_n 2, 1) := by decide +kernel
theorem d_Search_withLine_39 : decode b_Search_withLine 39 = .ok (.istore 8, 2) := by decide +kernel
theorem d_Search_withLine_41 : decode b_Search_withLine 41 = .ok (.iconst 0, 1) := by decide +kernel
theorem d_Search_withLine_42 : decode b_Search_withLine 42 = .ok (.istore 9, 2) := by decide +kernel
theorem d_Search_withLine_44 : decode b_Search_withLine 44 = .ok (.iload 9, 2) := by decide +kernel
theorem d_Search_withLine_46 : decode b_Search_withLine 46 = .ok (.aload_n 0, 1) := by decide +kernel
theorem d_Search_withLine_47 : decode b_Search_withLine 47 = .ok (.getfield 98, 3) := by decide +kernel
theorem d_Search_withLine_50 : decode b_Search_withLine 50 = .ok (.bipush 16, 2) := by decide +kernel
theorem d_Search_withLine_52 : decode b_Search_withLine 52 = .ok (.isub, 1) := by decide +kernel
theorem d_Search_withLine_53 : decode b_Search_withLine 53 = .ok (.if_icmp .ge 68, 3) := by decide +kernel
theorem d_Search_withLine_56 : decode b_Search_withLine 56 = .ok (.iload 8, 2) := by decide +kernel
theorem d_Search_withLine_58 : decode b_Search_withLine 58 = .ok (.aload_n 0, 1) := by decide +kernel
theorem d_Search_withLine_59 : decode b_Search_withLine 59 = .ok (.getfield 37, 3) := by decide +kernel
theorem d_Search_withLine_62 : decode b_Search_withLine 62 = .ok (.if_icmp .gt 59, 3) := by decide +kernel
theorem d_Search_withLine_65 : decode b_Search_withLine 65 = .ok (.aload_n 0, 1) := by decide +kernel
theorem d_Search_withLine_66 : decode b_Search_withLine 66 = .ok (.getfield 12, 3) := by decide +kernel
theorem d_Search_withLine_69 : decode b_Search_withLine 69 = .ok (.iload 6, 2) := by decide +kernel
theorem d_Search_withLine_71 : decode b_Search_withLine 71 = .ok (.iload 9, 2) := by decide +kernel
theorem d_Search_withLine_73 : decode b_Search_withLine 73 = .ok (.iload 4, 2) := by decide +kernel
theorem d_Search_withLine_75 : decode b_Search_withLine 75 = .ok (.imul, 1) := by decide +kernel
theorem d_Search_withLine_76 : decode b_Search_withLine 76 = .ok (.iadd, 1) := by decide +kernel
theorem d_Search_withLine_77 : decode b_Search_withLine 77 = .ok (.iload 7, 2) := by decide +kernel
theorem d_Search_withLine_79 : decode b_Search_withLine 79 = .ok (.iload 9, 2) := by decide +kernel
theorem d_Search_withLine_81 : decode b_Search_withLine 81 = .ok (.iload 5, 2) := by decide +kernel
theorem d_Search_withLine_83 : decode b_Search_withLine 83 = .ok (.imul, 1) := by decide +kernel
theorem d_Search_withLine_84 : decode b_Search_withLine 84 = .ok (.iadd, 1) := by decide +kernel
theorem d_Search_withLine_85 : decode b_Search_withLine 85 = .ok (.iload_n 3, 1) := by decide +kernel
theorem d_Search_withLine_86 : decode b_Search_withLine 86 = .ok (.iload_n 3, 1) := by decide +kernel
theorem d_Search_withLine_87 : decode b_Search_withLine 87 = .ok (.invokevirtual 165, 3) := by decide +kernel
theorem d_Search_withLine_90 : decode b_Search_withLine 90 = .ok (.istore 10, 2) := by decide +kernel
theorem d_Search_withLine_92 : decode b_Search_withLine 92 = .ok (.iload 8, 2) := by decide +kernel
theorem d_Search_withLine_94 : decode b_Search_withLine 94 = .ok (.iload 9, 2) := by decide +kernel
theorem d_Search_withLine_96 : decode b_Search_withLine 96 = .ok (.iconst 2, 1) := by decide +kernel
theorem d_Search_withLine_97 : decode b_Search_withLine 97 = .ok (.irem, 1) := by decide +kernel
theorem d_Search_withLine_98 : decode b_Search_withLine 98 = .ok (.ifCond .ne 12, 3) := by decide +kernel
