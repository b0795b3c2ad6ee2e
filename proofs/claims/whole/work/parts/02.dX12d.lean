theorem dX12_keep_270 : decode cX12_keep 270 = .ok (.aload_n 1, 1) := by decide +kernel
theorem dX12_keep_271 : decode cX12_keep 271 = .ok (.bipush 119, 2) := by decide +kernel
theorem dX12_keep_273 : decode cX12_keep 273 = .ok (.aload_n 0, 1) := by decide +kernel
theorem dX12_keep_274 : decode cX12_keep 274 = .ok (.getfield 114, 3) := by decide +kernel
theorem dX12_keep_277 : decode cX12_keep 277 = .ok (.iastore, 1) := by decide +kernel
theorem dX12_keep_278 : decode cX12_keep 278 = .ok (.aload_n 1, 1) := by decide +kernel
theorem dX12_keep_279 : decode cX12_keep 279 = .ok (.bipush 120, 2) := by decide +kernel
theorem dX12_keep_281 : decode cX12_keep 281 = .ok (.aload_n 0, 1) := by decide +kernel
theorem dX12_keep_282 : decode cX12_keep 282 = .ok (.getfield 224, 3) := by decide +kernel
theorem dX12_keep_285 : decode cX12_keep 285 = .ok (.iastore, 1) := by decide +kernel
theorem dX12_keep_286 : decode cX12_keep 286 = .ok (.aload_n 1, 1) := by decide +kernel
theorem dX12_keep_287 : decode cX12_keep 287 = .ok (.bipush 121, 2) := by decide +kernel
theorem dX12_keep_289 : decode cX12_keep 289 = .ok (.aload_n 0, 1) := by decide +kernel
theorem dX12_keep_290 : decode cX12_keep 290 = .ok (.getfield 291, 3) := by decide +kernel
theorem dX12_keep_293 : decode cX12_keep 293 = .ok (.iastore, 1) := by decide +kernel
theorem dX12_keep_294 : decode cX12_keep 294 = .ok (.aload_n 1, 1) := by decide +kernel
theorem dX12_keep_295 : decode cX12_keep 295 = .ok (.bipush 122, 2) := by decide +kernel
theorem dX12_keep_297 : decode cX12_keep 297 = .ok (.aload_n 0, 1) := by decide +kernel
theorem dX12_keep_298 : decode cX12_keep 298 = .ok (.getfield 308, 3) := by decide +kernel
theorem dX12_keep_301 : decode cX12_keep 301 = .ok (.iastore, 1) := by decide +kernel
theorem dX12_keep_302 : decode cX12_keep 302 = .ok (.aload_n 1, 1) := by decide +kernel
theorem dX12_keep_303 : decode cX12_keep 303 = .ok (.bipush 123, 2) := by decide +kernel
theorem dX12_keep_305 : decode cX12_keep 305 = .ok (.aload_n 0, 1) := by decide +kernel
theorem dX12_keep_306 : decode cX12_keep 306 = .ok (.getfield 311, 3) := by decide +kernel
theorem dX12_keep_309 : decode cX12_keep 309 = .ok (.iastore, 1) := by decide +kernel
theorem dX12_keep_310 : decode cX12_keep 310 = .ok (.aload_n 1, 1) := by decide +kernel
theorem dX12_keep_311 : decode cX12_keep 311 = .ok (.bipush 124, 2) := by decide +kernel
theorem dX12_keep_313 : decode cX12_keep 313 = .ok (.aload_n 0, 1) := by decide +kernel
theorem dX12_keep_314 : decode cX12_keep 314 = .ok (.getfield 110, 3) := by decide +kernel
theorem dX12_keep_317 : decode cX12_keep 317 = .ok (.iastore, 1) := by decide +kernel
theorem dX12_keep_318 : decode cX12_keep 318 = .ok (.return_, 1) := by decide +kernel
theorem dX12_again_0 : decode cX12_again 0 = .ok (.iconst 0, 1) := by decide +kernel
theorem dX12_again_1 : decode cX12_again 1 = .ok (.istore_n 2, 1) := by decide +kernel
theorem dX12_again_2 : decode cX12_again 2 = .ok (.iload_n 2, 1) := by decide +kernel
theorem dX12_again_3 : decode cX12_again 3 = .ok (.iconst 4, 1) := by decide +kernel
theorem dX12_again_4 : decode cX12_again 4 = .ok (.if_icmp .ge 29, 3) := by decide +kernel
theorem dX12_again_7 : decode cX12_again 7 = .ok (.aload_n 0, 1) := by decide +kernel
theorem dX12_again_8 : decode cX12_again 8 = .ok (.getfield 9, 3) := by decide +kernel
theorem dX12_again_11 : decode cX12_again 11 = .ok (.iload_n 2, 1) := by decide +kernel
theorem dX12_again_12 : decode cX12_again 12 = .ok (.aload_n 1, 1) := by decide +kernel
theorem dX12_again_13 : decode cX12_again 13 = .ok (.iload_n 2, 1) := by decide +kernel
theorem dX12_again_14 : decode cX12_again 14 = .ok (.iaload, 1) := by decide +kernel
theorem dX12_again_15 : decode cX12_again 15 = .ok (.iastore, 1) := by decide +kernel
theorem dX12_again_16 : decode cX12_again 16 = .ok (.aload_n 0, 1) := by decide +kernel
theorem dX12_again_17 : decode cX12_again 17 = .ok (.getfield 15, 3) := by decide +kernel
theorem dX12_again_20 : decode cX12_again 20 = .ok (.iload_n 2, 1) := by decide +kernel
theorem dX12_again_21 : decode cX12_again 21 = .ok (.aload_n 1, 1) := by decide +kernel
theorem dX12_again_22 : decode cX12_again 22 = .ok (.iconst 4, 1) := by decide +kernel
theorem dX12_again_23 : decode cX12_again 23 = .ok (.iload_n 2, 1) := by decide +kernel
theorem dX12_again_24 : decode cX12_again 24 = .ok (.iadd, 1) := by decide +kernel
theorem dX12_again_25 : decode cX12_again 25 = .ok (.iaload, 1) := by decide +kernel
theorem dX12_again_26 : decode cX12_again 26 = .ok (.iastore, 1) := by decide +kernel
theorem dX12_again_27 : decode cX12_again 27 = .ok (.iinc 2 1, 3) := by decide +kernel
theorem dX12_again_30 : decode cX12_again 30 = .ok (.goto (-28), 3) := by decide +kernel
theorem dX12_again_33 : decode cX12_again 33 = .ok (.iconst 0, 1) := by decide +kernel
theorem dX12_again_34 : decode cX12_again 34 = .ok (.istore_n 2, 1) := by decide +kernel
theorem dX12_again_35 : decode cX12_again 35 = .ok (.iload_n 2, 1) := by decide +kernel
theorem dX12_again_36 : decode cX12_again 36 = .ok (.bipush 6, 2) := by decide +kernel
theorem dX12_again_38 : decode cX12_again 38 = .ok (.if_icmp .ge 81, 3) := by decide +kernel
theorem dX12_again_41 : decode cX12_again 41 = .ok (.aload_n 0, 1) := by decide +kernel
theorem dX12_again_42 : decode cX12_again 42 = .ok (.getfield 18, 3) := by decide +kernel
theorem dX12_again_45 : decode cX12_again 45 = .ok (.iload_n 2, 1) := by decide +kernel
theorem dX12_again_46 : decode cX12_again 46 = .ok (.aload_n 1, 1) := by decide +kernel
theorem dX12_again_47 : decode cX12_again 47 = .ok (.bipush 8, 2) := by decide +kernel
theorem dX12_again_49 : decode cX12_again 49 = .ok (.iload_n 2, 1) := by decide +kernel
theorem dX12_again_50 : decode cX12_again 50 = .ok (.iadd, 1) := by decide +kernel
theorem dX12_again_51 : decode cX12_again 51 = .ok (.iaload, 1) := by decide +kernel
theorem dX12_again_52 : decode cX12_again 52 = .ok (.iastore, 1) := by decide +kernel
theorem dX12_again_53 : decode cX12_again 53 = .ok (.aload_n 0, 1) := by decide +kernel
theorem dX12_again_54 : decode cX12_again 54 = .ok (.getfield 21, 3) := by decide +kernel
theorem dX12_again_57 : decode cX12_again 57 = .ok (.iload_n 2, 1) := by decide +kernel
theorem dX12_again_58 : decode cX12_again 58 = .ok (.aload_n 1, 1) := by decide +kernel
theorem dX12_again_59 : decode cX12_again 59 = .ok (.bipush 14, 2) := by decide +kernel
theorem dX12_again_61 : decode cX12_again 61 = .ok (.iload_n 2, 1) := by decide +kernel
theorem dX12_again_62 : decode cX12_again 62 = .ok (.iadd, 1) := by decide +kernel
theorem dX12_again_63 : decode cX12_again 63 = .ok (.iaload, 1) := by decide +kernel
theorem dX12_again_64 : decode cX12_again 64 = .ok (.iastore, 1) := by decide +kernel
theorem dX12_again_65 : decode cX12_again 65 = .ok (.aload_n 0, 1) := by decide +kernel
theorem dX12_again_66 : decode cX12_again 66 = .ok (.getfield 24, 3) := by decide +kernel
theorem dX12_again_69 : decode cX12_again 69 = .ok (.iload_n 2, 1) := by decide +kernel
theorem dX12_again_70 : decode cX12_again 70 = .ok (.aload_n 1, 1) := by decide +kernel
theorem dX12_again_71 : decode cX12_again 71 = .ok (.bipush 20, 2) := by decide +kernel
theorem dX12_again_73 : decode cX12_again 73 = .ok (.iload_n 2, 1) := by decide +kernel
theorem dX12_again_74 : decode cX12_again 74 = .ok (.iadd, 1) := by decide +kernel
theorem dX12_again_75 : decode cX12_again 75 = .ok (.iaload, 1) := by decide +kernel
theorem dX12_again_76 : decode cX12_again 76 = .ok (.iastore, 1) := by decide +kernel
theorem dX12_again_77 : decode cX12_again 77 = .ok (.aload_n 0, 1) := by decide +kernel
theorem dX12_again_78 : decode cX12_again 78 = .ok (.getfield 27, 3) := by decide +kernel
theorem dX12_again_81 : decode cX12_again 81 = .ok (.iload_n 2, 1) := by decide +kernel
theorem dX12_again_82 : decode cX12_again 82 = .ok (.aload_n 1, 1) := by decide +kernel
theorem dX12_again_83 : decode cX12_again 83 = .ok (.bipush 26, 2) := by decide +kernel
theorem dX12_again_85 : decode cX12_again 85 = .ok (.iload_n 2, 1) := by decide +kernel
theorem dX12_again_86 : decode cX12_again 86 = .ok (.iadd, 1) := by decide +kernel
theorem dX12_again_87 : decode cX12_again 87 = .ok (.iaload, 1) := by decide +kernel
theorem dX12_again_88 : decode cX12_again 88 = .ok (.iastore, 1) := by decide +kernel
theorem dX12_again_89 : decode cX12_again 89 = .ok (.aload_n 0, 1) := by decide +kernel
theorem dX12_again_90 : decode cX12_again 90 = .ok (.getfield 30, 3) := by decide +kernel
theorem dX12_again_93 : decode cX12_again 93 = .ok (.iload_n 2, 1) := by decide +kernel
theorem dX12_again_94 : decode cX12_again 94 = .ok (.aload_n 1, 1) := by decide +kernel
theorem dX12_again_95 : decode cX12_again 95 = .ok (.bipush 32, 2) := by decide +kernel
theorem dX12_again_97 : decode cX12_again 97 = .ok (.iload_n 2, 1) := by decide +kernel
theorem dX12_again_98 : decode cX12_again 98 = .ok (.iadd, 1) := by decide +kernel
theorem dX12_again_99 : decode cX12_again 99 = .ok (.iaload, 1) := by decide +kernel
theorem dX12_again_100 : decode cX12_again 100 = .ok (.iastore, 1) := by decide +kernel
theorem dX12_again_101 : decode cX12_again 101 = .ok (.aload_n 0, 1) := by decide +kernel
theorem dX12_again_102 : decode cX12_again 102 = .ok (.getfield 33, 3) := by decide +kernel
theorem dX12_again_105 : decode cX12_again 105 = .ok (.iload_n 2, 1) := by decide +kernel
theorem dX12_again_106 : decode cX12_again 106 = .ok (.aload_n 1, 1) := by decide +kernel
theorem dX12_again_107 : decode cX12_again 107 = .ok (.bipush 38, 2) := by decide +kernel
theorem dX12_again_109 : decode cX12_again 109 = .ok (.iload_n 2, 1) := by decide +kernel
theorem dX12_again_110 : decode cX12_again 110 = .ok (.iadd, 1) := by decide +kernel
theorem dX12_again_111 : decode cX12_again 111 = .ok (.iaload, 1) := by decide +kernel
theorem dX12_again_112 : decode cX12_again 112 = .ok (.iastore, 1) := by decide +kernel
theorem dX12_again_113 : decode cX12_again 113 = .ok (.iinc 2 1, 3) := by decide +kernel
theorem dX12_again_116 : decode cX12_again 116 = .ok (.goto (-81), 3) := by decide +kernel
theorem dX12_again_119 : decode cX12_again 119 = .ok (.iconst 0, 1) := by decide +kernel
theorem dX12_again_120 : decode cX12_again 120 = .ok (.istore_n 2, 1) := by decide +kernel
theorem dX12_again_121 : decode cX12_again 121 = .ok (.iload_n 2, 1) := by decide +kernel
theorem dX12_again_122 : decode cX12_again 122 = .ok (.bipush 24, 2) := by decide +kernel
theorem dX12_again_124 : decode cX12_again 124 = .ok (.if_icmp .ge 21, 3) := by decide +kernel
theorem dX12_again_127 : decode cX12_again 127 = .ok (.aload_n 0, 1) := by decide +kernel
theorem dX12_again_128 : decode cX12_again 128 = .ok (.getfield 36, 3) := by decide +kernel
theorem dX12_again_131 : decode cX12_again 131 = .ok (.iload_n 2, 1) := by decide +kernel
theorem dX12_again_132 : decode cX12_again 132 = .ok (.aload_n 1, 1) := by decide +kernel
theorem dX12_again_133 : decode cX12_again 133 = .ok (.bipush 44, 2) := by decide +kernel
theorem dX12_again_135 : decode cX12_again 135 = .ok (.iload_n 2, 1) := by decide +kernel
theorem dX12_again_136 : decode cX12_again 136 = .ok (.iadd, 1) := by decide +kernel
theorem dX12_again_137 : decode cX12_again 137 = .ok (.iaload, 1) := by decide +kernel
theorem dX12_again_138 : decode cX12_again 138 = .ok (.iastore, 1) := by decide +kernel
theorem dX12_again_139 : decode cX12_again 139 = .ok (.iinc 2 1, 3) := by decide +kernel
theorem dX12_again_142 : decode cX12_again 142 = .ok (.goto (-21), 3) := by decide +kernel
theorem dX12_again_145 : decode cX12_again 145 = .ok (.iconst 0, 1) := by decide +kernel
theorem dX12_again_146 : decode cX12_again 146 = .ok (.istore_n 2, 1) := by decide +kernel
theorem dX12_again_147 : decode cX12_again 147 = .ok (.iload_n 2, 1) := by decide +kernel
theorem dX12_again_148 : decode cX12_again 148 = .ok (.iconst 5, 1) := by decide +kernel
theorem dX12_again_149 : decode cX12_again 149 = .ok (.if_icmp .ge 45, 3) := by decide +kernel
theorem dX12_again_152 : decode cX12_again 152 = .ok (.aload_n 0, 1) := by decide +kernel
theorem dX12_again_153 : decode cX12_again 153 = .ok (.getfield 64, 3) := by decide +kernel
theorem dX12_again_156 : decode cX12_again 156 = .ok (.iload_n 2, 1) := by decide +kernel
theorem dX12_again_157 : decode cX12_again 157 = .ok (.aload_n 1, 1) := by decide +kernel
theorem dX12_again_158 : decode cX12_again 158 = .ok (.bipush 68, 2) := by decide +kernel
theorem dX12_again_160 : decode cX12_again 160 = .ok (.iload_n 2, 1) := by decide +kernel
theorem dX12_again_161 : decode cX12_again 161 = .ok (.iadd, 1) := by decide +kernel
theorem dX12_again_162 : decode cX12_again 162 = .ok (.iaload, 1) := by decide +kernel
theorem dX12_again_163 : decode cX12_again 163 = .ok (.iastore, 1) := by decide +kernel
theorem dX12_again_164 : decode cX12_again 164 = .ok (.aload_n 0, 1) := by decide +kernel
theorem dX12_again_165 : decode cX12_again 165 = .ok (.getfield 67, 3) := by decide +kernel
theorem dX12_again_168 : decode cX12_again 168 = .ok (.iload_n 2, 1) := by decide +kernel
theorem dX12_again_169 : decode cX12_again 169 = .ok (.aload_n 1, 1) := by decide +kernel
theorem dX12_again_170 : decode cX12_again 170 = .ok (.bipush 73, 2) := by decide +kernel
theorem dX12_again_172 : decode cX12_again 172 = .ok (.iload_n 2, 1) := by decide +kernel
theorem dX12_again_173 : decode cX12_again 173 = .ok (.iadd, 1) := by decide +kernel
theorem dX12_again_174 : decode cX12_again 174 = .ok (.iaload, 1) := by decide +kernel
theorem dX12_again_175 : decode cX12_again 175 = .ok (.iastore, 1) := by decide +kernel
theorem dX12_again_176 : decode cX12_again 176 = .ok (.aload_n 0, 1) := by decide +kernel
theorem dX12_again_177 : decode cX12_again 177 = .ok (.getfield 70, 3) := by decide +kernel
theorem dX12_again_180 : decode cX12_again 180 = .ok (.iload_n 2, 1) := by decide +kernel
theorem dX12_again_181 : decode cX12_again 181 = .ok (.aload_n 1, 1) := by decide +kernel
theorem dX12_again_182 : decode cX12_again 182 = .ok (.bipush 78, 2) := by decide +kernel
theorem dX12_again_184 : decode cX12_again 184 = .ok (.iload_n 2, 1) := by decide +kernel
theorem dX12_again_185 : decode cX12_again 185 = .ok (.iadd, 1) := by decide +kernel
theorem dX12_again_186 : decode cX12_again 186 = .ok (.iaload, 1) := by decide +kernel
theorem dX12_again_187 : decode cX12_again 187 = .ok (.iastore, 1) := by decide +kernel
theorem dX12_again_188 : decode cX12_again 188 = .ok (.iinc 2 1, 3) := by decide +kernel
theorem dX12_again_191 : decode cX12_again 191 = .ok (.goto (-44), 3) := by decide +kernel
theorem dX12_again_194 : decode cX12_again 194 = .ok (.iconst 0, 1) := by decide +kernel
theorem dX12_again_195 : decode cX12_again 195 = .ok (.istore_n 2, 1) := by decide +kernel
theorem dX12_again_196 : decode cX12_again 196 = .ok (.iload_n 2, 1) := by decide +kernel
theorem dX12_again_197 : decode cX12_again 197 = .ok (.bipush 10, 2) := by decide +kernel
theorem dX12_again_199 : decode cX12_again 199 = .ok (.if_icmp .ge 33, 3) := by decide +kernel
theorem dX12_again_202 : decode cX12_again 202 = .ok (.aload_n 0, 1) := by decide +kernel
theorem dX12_again_203 : decode cX12_again 203 = .ok (.getfield 73, 3) := by decide +kernel
theorem dX12_again_206 : decode cX12_again 206 = .ok (.iload_n 2, 1) := by decide +kernel
theorem dX12_again_207 : decode cX12_again 207 = .ok (.aload_n 1, 1) := by decide +kernel
theorem dX12_again_208 : decode cX12_again 208 = .ok (.bipush 83, 2) := by decide +kernel
theorem dX12_again_210 : decode cX12_again 210 = .ok (.iload_n 2, 1) := by decide +kernel
theorem dX12_again_211 : decode cX12_again 211 = .ok (.iadd, 1) := by decide +kernel
theorem dX12_again_212 : decode cX12_again 212 = .ok (.iaload, 1) := by decide +kernel
theorem dX12_again_213 : decode cX12_again 213 = .ok (.iastore, 1) := by decide +kernel
theorem dX12_again_214 : decode cX12_again 214 = .ok (.aload_n 0, 1) := by decide +kernel
theorem dX12_again_215 : decode cX12_again 215 = .ok (.getfield 76, 3) := by decide +kernel
theorem dX12_again_218 : decode cX12_again 218 = .ok (.iload_n 2, 1) := by decide +kernel
theorem dX12_again_219 : decode cX12_again 219 = .ok (.aload_n 1, 1) := by decide +kernel
theorem dX12_again_220 : decode cX12_again 220 = .ok (.bipush 93, 2) := by decide +kernel
theorem dX12_again_222 : decode cX12_again 222 = .ok (.iload_n 2, 1) := by decide +kernel
theorem dX12_again_223 : decode cX12_again 223 = .ok (.iadd, 1) := by decide +kernel
theorem dX12_again_224 : decode cX12_again 224 = .ok (.iaload, 1) := by decide +kernel
theorem dX12_again_225 : decode cX12_again 225 = .ok (.iastore, 1) := by decide +kernel
theorem dX12_again_226 : decode cX12_again 226 = .ok (.iinc 2 1, 3) := by decide +kernel
theorem dX12_again_229 : decode cX12_again 229 = .ok (.goto (-33), 3) := by decide +kernel
theorem dX12_again_232 : decode cX12_again 232 = .ok (.iconst 0, 1) := by decide +kernel
theorem dX12_again_233 : decode cX12_again 233 = .ok (.istore_n 2, 1) := by decide +kernel
theorem dX12_again_234 : decode cX12_again 234 = .ok (.iload_n 2, 1) := by decide +kernel
theorem dX12_again_235 : decode cX12_again 235 = .ok (.bipush 8, 2) := by decide +kernel
theorem dX12_again_237 : decode cX12_again 237 = .ok (.if_icmp .ge 33, 3) := by decide +kernel
theorem dX12_again_240 : decode cX12_again 240 = .ok (.aload_n 0, 1) := by decide +kernel
theorem dX12_again_241 : decode cX12_again 241 = .ok (.getfield 79, 3) := by decide +kernel
theorem dX12_again_244 : decode cX12_again 244 = .ok (.iload_n 2, 1) := by decide +kernel
theorem dX12_again_245 : decode cX12_again 245 = .ok (.aload_n 1, 1) := by decide +kernel
theorem dX12_again_246 : decode cX12_again 246 = .ok (.bipush 103, 2) := by decide +kernel
theorem dX12_again_248 : decode cX12_again 248 = .ok (.iload_n 2, 1) := by decide +kernel
theorem dX12_again_249 : decode cX12_again 249 = .ok (.iadd, 1) := by decide +kernel
theorem dX12_again_250 : decode cX12_again 250 = .ok (.iaload, 1) := by decide +kernel
theorem dX12_again_251 : decode cX12_again 251 = .ok (.iastore, 1) := by decide +kernel
theorem dX12_again_252 : decode cX12_again 252 = .ok (.aload_n 0, 1) := by decide +kernel
theorem dX12_again_253 : decode cX12_again 253 = .ok (.getfield 82, 3) := by decide +kernel
theorem dX12_again_256 : decode cX12_again 256 = .ok (.iload_n 2, 1) := by decide +kernel
theorem dX12_again_257 : decode cX12_again 257 = .ok (.aload_n 1, 1) := by decide +kernel
theorem dX12_again_258 : decode cX12_again 258 = .ok (.bipush 111, 2) := by decide +kernel
theorem dX12_again_260 : decode cX12_again 260 = .ok (.iload_n 2, 1) := by decide +kernel
theorem dX12_again_261 : decode cX12_again 261 = .ok (.iadd, 1) := by decide +kernel
theorem dX12_again_262 : decode cX12_again 262 = .ok (.iaload, 1) := by decide +kernel
theorem dX12_again_263 : decode cX12_again 263 = .ok (.iastore, 1) := by decide +kernel
theorem dX12_again_264 : decode cX12_again 264 = .ok (.iinc 2 1, 3) := by decide +kernel
theorem dX12_again_267 : decode cX12_again 267 = .ok (.goto (-33), 3) := by decide +kernel
theorem dX12_again_270 : decode cX12_again 270 = .ok (.aload_n 0, 1) := by decide +kernel
theorem dX12_again_271 : decode cX12_again 271 = .ok (.aload_n 1, 1) := by decide +kernel
theorem dX12_again_272 : decode cX12_again 272 = .ok (.bipush 119, 2) := by decide +kernel
theorem dX12_again_274 : decode cX12_again 274 = .ok (.iaload, 1) := by decide +kernel
theorem dX12_again_275 : decode cX12_again 275 = .ok (.putfield 114, 3) := by decide +kernel
theorem dX12_again_278 : decode cX12_again 278 = .ok (.aload_n 0, 1) := by decide +kernel
theorem dX12_again_279 : decode cX12_again 279 = .ok (.aload_n 1, 1) := by decide +kernel
theorem dX12_again_280 : decode cX12_again 280 = .ok (.bipush 120, 2) := by decide +kernel
theorem dX12_again_282 : decode cX12_again 282 = .ok (.iaload, 1) := by decide +kernel
theorem dX12_again_283 : decode cX12_again 283 = .ok (.putfield 224, 3) := by decide +kernel
theorem dX12_again_286 : decode cX12_again 286 = .ok (.aload_n 0, 1) := by decide +kernel
theorem dX12_again_287 : decode cX12_again 287 = .ok (.aload_n 1, 1) := by decide +kernel
theorem dX12_again_288 : decode cX12_again 288 = .ok (.bipush 121, 2) := by decide +kernel
theorem dX12_again_290 : decode cX12_again 290 = .ok (.iaload, 1) := by decide +kernel
theorem dX12_again_291 : decode cX12_again 291 = .ok (.putfield 291, 3) := by decide +kernel
theorem dX12_again_294 : decode cX12_again 294 = .ok (.aload_n 0, 1) := by decide +kernel
theorem dX12_again_295 : decode cX12_again 295 = .ok (.aload_n 1, 1) := by decide +kernel
theorem dX12_again_296 : decode cX12_again 296 = .ok (.bipush 122, 2) := by decide +kernel
theorem dX12_again_298 : decode cX12_again 298 = .ok (.iaload, 1) := by decide +kernel
theorem dX12_again_299 : decode cX12_again 299 = .ok (.putfield 308, 3) := by decide +kernel
theorem dX12_again_302 : decode cX12_again 302 = .ok (.aload_n 0, 1) := by decide +kernel
theorem dX12_again_303 : decode cX12_again 303 = .ok (.aload_n 1, 1) := by decide +kernel
theorem dX12_again_304 : decode cX12_again 304 = .ok (.bipush 123, 2) := by decide +kernel
theorem dX12_again_306 : decode cX12_again 306 = .ok (.iaload, 1) := by decide +kernel
theorem dX12_again_307 : decode cX12_again 307 = .ok (.putfield 311, 3) := by decide +kernel
theorem dX12_again_310 : decode cX12_again 310 = .ok (.aload_n 0, 1) := by decide +kernel
theorem dX12_again_311 : decode cX12_again 311 = .ok (.aload_n 1, 1) := by decide +kernel
theorem dX12_again_312 : decode cX12_again 312 = .ok (.bipush 124, 2) := by decide +kernel
theorem dX12_again_314 : decode cX12_again 314 = .ok (.iaload, 1) := by decide +kernel
theorem dX12_again_315 : decode cX12_again 315 = .ok (.putfield 110, 3) := by decide +kernel
theorem dX12_again_318 : decode cX12_again 318 = .ok (.return_, 1) := by decide +kernel
theorem dX12_image_0 : decode cX12_image 0 = .ok (.aload_n 0, 1) := by decide +kernel
theorem dX12_image_1 : decode cX12_image 1 = .ok (.iconst 1, 1) := by decide +kernel
theorem dX12_image_2 : decode cX12_image 2 = .ok (.putfield 314, 3) := by decide +kernel
theorem dX12_image_5 : decode cX12_image 5 = .ok (.aload_n 0, 1) := by decide +kernel
theorem dX12_image_6 : decode cX12_image 6 = .ok (.aload_n 0, 1) := by decide +kernel
theorem dX12_image_7 : decode cX12_image 7 = .ok (.getfield 88, 3) := by decide +kernel
theorem dX12_image_10 : decode cX12_image 10 = .ok (.invokevirtual 271, 3) := by decide +kernel
theorem dX12_image_13 : decode cX12_image 13 = .ok (.aload_n 0, 1) := by decide +kernel
theorem dX12_image_14 : decode cX12_image 14 = .ok (.getfield 114, 3) := by decide +kernel
theorem dX12_image_17 : decode cX12_image 17 = .ok (.ireturn, 1) := by decide +kernel
theorem dX12_undo_0 : decode cX12_undo 0 = .ok (.aload_n 0, 1) := by decide +kernel
theorem dX12_undo_1 : decode cX12_undo 1 = .ok (.getfield 314, 3) := by decide +kernel
theorem dX12_undo_4 : decode cX12_undo 4 = .ok (.ifCond .ne 6, 3) := by decide +kernel
theorem dX12_undo_7 : decode cX12_undo 7 = .ok (.bipush (-3), 2) := by decide +kernel
theorem dX12_undo_9 : decode cX12_undo 9 = .ok (.ireturn, 1) := by decide +kernel
theorem dX12_undo_10 : decode cX12_undo 10 = .ok (.aload_n 0, 1) := by decide +kernel
theorem dX12_undo_11 : decode cX12_undo 11 = .ok (.aload_n 0, 1) := by decide +kernel
theorem dX12_undo_12 : decode cX12_undo 12 = .ok (.getfield 88, 3) := by decide +kernel
theorem dX12_undo_15 : decode cX12_undo 15 = .ok (.invokevirtual 275, 3) := by decide +kernel
theorem dX12_undo_18 : decode cX12_undo 18 = .ok (.aload_n 0, 1) := by decide +kernel
theorem dX12_undo_19 : decode cX12_undo 19 = .ok (.getfield 114, 3) := by decide +kernel
theorem dX12_undo_22 : decode cX12_undo 22 = .ok (.ireturn, 1) := by decide +kernel
theorem dX12_ran_0 : decode cX12_ran 0 = .ok (.aload_n 0, 1) := by decide +kernel
theorem dX12_ran_1 : decode cX12_ran 1 = .ok (.getfield 318, 3) := by decide +kernel
theorem dX12_ran_4 : decode cX12_ran 4 = .ok (.bipush 20, 2) := by decide +kernel
theorem dX12_ran_6 : decode cX12_ran 6 = .ok (.if_icmp .ge 13, 3) := by decide +kernel
theorem dX12_ran_9 : decode cX12_ran 9 = .ok (.aload_n 0, 1) := by decide +kernel
theorem dX12_ran_10 : decode cX12_ran 10 = .ok (.getfield 85, 3) := by decide +kernel
theorem dX12_ran_13 : decode cX12_ran 13 = .ok (.aload_n 0, 1) := by decide +kernel
theorem dX12_ran_14 : decode cX12_ran 14 = .ok (.getfield 318, 3) := by decide +kernel
theorem dX12_ran_17 : decode cX12_ran 17 = .ok (.iload_n 1, 1) := by decide +kernel
theorem dX12_ran_18 : decode cX12_ran 18 = .ok (.iastore, 1) := by decide +kernel
theorem dX12_ran_19 : decode cX12_ran 19 = .ok (.aload_n 0, 1) := by decide +kernel
theorem dX12_ran_20 : decode cX12_ran 20 = .ok (.dup, 1) := by decide +kernel
theorem dX12_ran_21 : decode cX12_ran 21 = .ok (.getfield 318, 3) := by decide +kernel
theorem dX12_ran_24 : decode cX12_ran 24 = .ok (.iconst 1, 1) := by decide +kernel
theorem dX12_ran_25 : decode cX12_ran 25 = .ok (.iadd, 1) := by decide +kernel
theorem dX12_ran_26 : decode cX12_ran 26 = .ok (.putfield 318, 3) := by decide +kernel
theorem dX12_ran_29 : decode cX12_ran 29 = .ok (.return_, 1) := by decide +kernel
theorem dX12_above_0 : decode cX12_above 0 = .ok (.iload_n 0, 1) := by decide +kernel
theorem dX12_above_1 : decode cX12_above 1 = .ok (.iconst 4, 1) := by decide +kernel
theorem dX12_above_2 : decode cX12_above 2 = .ok (.if_icmp .ne 7, 3) := by decide +kernel
theorem dX12_above_5 : decode cX12_above 5 = .ok (.iconst 1, 1) := by decide +kernel
theorem dX12_above_6 : decode cX12_above 6 = .ok (.goto 23, 3) := by decide +kernel
theorem dX12_above_9 : decode cX12_above 9 = .ok (.iload_n 0, 1) := by decide +kernel
theorem dX12_above_10 : decode cX12_above 10 = .ok (.iconst 5, 1) := by decide +kernel
theorem dX12_above_11 : decode cX12_above 11 = .ok (.if_icmp .ne 7, 3) := by decide +kernel
theorem dX12_above_14 : decode cX12_above 14 = .ok (.iconst 2, 1) := by decide +kernel
theorem dX12_above_15 : decode cX12_above 15 = .ok (.goto 14, 3) := by decide +kernel
theorem dX12_above_18 : decode cX12_above 18 = .ok (.iload_n 0, 1) := by decide +kernel
theorem dX12_above_19 : decode cX12_above 19 = .ok (.bipush 6, 2) := by decide +kernel
theorem dX12_above_21 : decode cX12_above 21 = .ok (.if_icmp .ne 7, 3) := by decide +kernel
theorem dX12_above_24 : decode cX12_above 24 = .ok (.iconst 3, 1) := by decide +kernel
theorem dX12_above_25 : decode cX12_above 25 = .ok (.goto 4, 3) := by decide +kernel
theorem dX12_above_28 : decode cX12_above 28 = .ok (.iconst 0, 1) := by decide +kernel
theorem dX12_above_29 : decode cX12_above 29 = .ok (.ireturn, 1) := by decide +kernel
theorem dX12_hisses_0 : decode cX12_hisses 0 = .ok (.iload_n 2, 1) := by decide +kernel
theorem dX12_hisses_1 : decode cX12_hisses 1 = .ok (.tableswitch 105 0 6 #[95, 105, 43, 105, 59, 105, 74], 43) := by decide +kernel
theorem dX12_hisses_44 : decode cX12_hisses 44 = .ok (.aload_n 0, 1) := by decide +kernel
theorem dX12_hisses_45 : decode cX12_hisses 45 = .ok (.bipush 30, 2) := by decide +kernel
theorem dX12_hisses_47 : decode cX12_hisses 47 = .ok (.invokevirtual 321, 3) := by decide +kernel
theorem dX12_hisses_50 : decode cX12_hisses 50 = .ok (.aload_n 0, 1) := by decide +kernel
theorem dX12_hisses_51 : decode cX12_hisses 51 = .ok (.iload_n 1, 1) := by decide +kernel
theorem dX12_hisses_52 : decode cX12_hisses 52 = .ok (.iconst 0, 1) := by decide +kernel
theorem dX12_hisses_53 : decode cX12_hisses 53 = .ok (.iload_n 3, 1) := by decide +kernel
theorem dX12_hisses_54 : decode cX12_hisses 54 = .ok (.iconst 3, 1) := by decide +kernel
theorem dX12_hisses_55 : decode cX12_hisses 55 = .ok (.imul, 1) := by decide +kernel
theorem dX12_hisses_56 : decode cX12_hisses 56 = .ok (.invokevirtual 324, 3) := by decide +kernel
theorem dX12_hisses_59 : decode cX12_hisses 59 = .ok (.ireturn, 1) := by decide +kernel
theorem dX12_hisses_60 : decode cX12_hisses 60 = .ok (.aload_n 0, 1) := by decide +kernel
theorem dX12_hisses_61 : decode cX12_hisses 61 = .ok (.bipush 50, 2) := by decide +kernel
theorem dX12_hisses_63 : decode cX12_hisses 63 = .ok (.invokevirtual 321, 3) := by decide +kernel
theorem dX12_hisses_66 : decode cX12_hisses 66 = .ok (.aload_n 0, 1) := by decide +kernel
theorem dX12_hisses_67 : decode cX12_hisses 67 = .ok (.iload_n 1, 1) := by decide +kernel
theorem dX12_hisses_68 : decode cX12_hisses 68 = .ok (.iconst 1, 1) := by decide +kernel
theorem dX12_hisses_69 : decode cX12_hisses 69 = .ok (.iload_n 3, 1) := by decide +kernel
theorem dX12_hisses_70 : decode cX12_hisses 70 = .ok (.invokevirtual 324, 3) := by decide +kernel
theorem dX12_hisses_73 : decode cX12_hisses 73 = .ok (.ineg, 1) := by decide +kernel
theorem dX12_hisses_74 : decode cX12_hisses 74 = .ok (.ireturn, 1) := by decide +kernel
theorem dX12_hisses_75 : decode cX12_hisses 75 = .ok (.aload_n 0, 1) := by decide +kernel
theorem dX12_hisses_76 : decode cX12_hisses 76 = .ok (.bipush 71, 2) := by decide +kernel
theorem dX12_hisses_78 : decode cX12_hisses 78 = .ok (.invokevirtual 321, 3) := by decide +kernel
theorem dX12_hisses_81 : decode cX12_hisses 81 = .ok (.aload_n 0, 1) := by decide +kernel
theorem dX12_hisses_82 : decode cX12_hisses 82 = .ok (.iload_n 1, 1) := by decide +kernel
theorem dX12_hisses_83 : decode cX12_hisses 83 = .ok (.iconst 3, 1) := by decide +kernel
theorem dX12_hisses_84 : decode cX12_hisses 84 = .ok (.iload_n 3, 1) := by decide +kernel
theorem dX12_hisses_85 : decode cX12_hisses 85 = .ok (.invokevirtual 324, 3) := by decide +kernel
theorem dX12_hisses_88 : decode cX12_hisses 88 = .ok (.aload_n 0, 1) := by decide +kernel
theorem dX12_hisses_89 : decode cX12_hisses 89 = .ok (.getfield 21, 3) := by decide +kernel
theorem dX12_hisses_92 : decode cX12_hisses 92 = .ok (.iload_n 1, 1) := by decide +kernel
theorem dX12_hisses_93 : decode cX12_hisses 93 = .ok (.iaload, 1) := by decide +kernel
theorem dX12_hisses_94 : decode cX12_hisses 94 = .ok (.ixor, 1) := by decide +kernel
theorem dX12_hisses_95 : decode cX12_hisses 95 = .ok (.ireturn, 1) := by decide +kernel
theorem dX12_hisses_96 : decode cX12_hisses 96 = .ok (.aload_n 0, 1) := by decide +kernel
theorem dX12_hisses_97 : decode cX12_hisses 97 = .ok (.bipush 10, 2) := by decide +kernel
theorem dX12_hisses_99 : decode cX12_hisses 99 = .ok (.invokevirtual 321, 3) := by decide +kernel
theorem dX12_hisses_102 : decode cX12_hisses 102 = .ok (.iload_n 3, 1) := by decide +kernel
theorem dX12_hisses_103 : decode cX12_hisses 103 = .ok (.iload_n 1, 1) := by decide +kernel
theorem dX12_hisses_104 : decode cX12_hisses 104 = .ok (.iadd, 1) := by decide +kernel
theorem dX12_hisses_105 : decode cX12_hisses 105 = .ok (.ireturn, 1) := by decide +kernel
theorem dX12_hisses_106 : decode cX12_hisses 106 = .ok (.aload_n 0, 1) := by decide +kernel
theorem dX12_hisses_107 : decode cX12_hisses 107 = .ok (.iload_n 1, 1) := by decide +kernel
theorem dX12_hisses_108 : decode cX12_hisses 108 = .ok (.iload_n 2, 1) := by decide +kernel
theorem dX12_hisses_109 : decode cX12_hisses 109 = .ok (.invokestatic 328, 3) := by decide +kernel
theorem dX12_hisses_112 : decode cX12_hisses 112 = .ok (.iload_n 3, 1) := by decide +kernel
theorem dX12_hisses_113 : decode cX12_hisses 113 = .ok (.invokevirtual 324, 3) := by decide +kernel
theorem dX12_hisses_116 : decode cX12_hisses 116 = .ok (.ireturn, 1) := by decide +kernel
theorem dX12_climbs_0 : decode cX12_climbs 0 = .ok (.iload_n 2, 1) := by decide +kernel
theorem dX12_climbs_1 : decode cX12_climbs 1 = .ok (.tableswitch 128 0 6 #[102, 43, 128, 128, 60, 128, 76], 43) := by decide +kernel
theorem dX12_climbs_44 : decode cX12_climbs 44 = .ok (.aload_n 0, 1) := by decide +kernel
theorem dX12_climbs_45 : decode cX12_climbs 45 = .ok (.bipush 20, 2) := by decide +kernel
theorem dX12_climbs_47 : decode cX12_climbs 47 = .ok (.invokevirtual 321, 3) := by decide +kernel
theorem dX12_climbs_50 : decode cX12_climbs 50 = .ok (.aload_n 0, 1) := by decide +kernel
theorem dX12_climbs_51 : decode cX12_climbs 51 = .ok (.iload_n 1, 1) := by decide +kernel
theorem dX12_climbs_52 : decode cX12_climbs 52 = .ok (.iconst 0, 1) := by decide +kernel
theorem dX12_climbs_53 : decode cX12_climbs 53 = .ok (.iload_n 3, 1) := by decide +kernel
theorem dX12_climbs_54 : decode cX12_climbs 54 = .ok (.invokevirtual 331, 3) := by decide +kernel
theorem dX12_climbs_57 : decode cX12_climbs 57 = .ok (.bipush 6, 2) := by decide +kernel
theorem dX12_climbs_59 : decode cX12_climbs 59 = .ok (.ixor, 1) := by decide +kernel
theorem dX12_climbs_60 : decode cX12_climbs 60 = .ok (.ireturn, 1) := by decide +kernel
theorem dX12_climbs_61 : decode cX12_climbs 61 = .ok (.aload_n 0, 1) := by decide +kernel
theorem dX12_climbs_62 : decode cX12_climbs 62 = .ok (.bipush 51, 2) := by decide +kernel
theorem dX12_climbs_64 : decode cX12_climbs 64 = .ok (.invokevirtual 321, 3) := by decide +kernel
theorem dX12_climbs_67 : decode cX12_climbs 67 = .ok (.aload_n 0, 1) := by decide +kernel
theorem dX12_climbs_68 : decode cX12_climbs 68 = .ok (.iload_n 1, 1) := by decide +kernel
theorem dX12_climbs_69 : decode cX12_climbs 69 = .ok (.iconst 1, 1) := by decide +kernel
theorem dX12_climbs_70 : decode cX12_climbs 70 = .ok (.iload_n 3, 1) := by decide +kernel
theorem dX12_climbs_71 : decode cX12_climbs 71 = .ok (.iconst 1, 1) := by decide +kernel
theorem dX12_climbs_72 : decode cX12_climbs 72 = .ok (.iadd, 1) := by decide +kernel
theorem dX12_climbs_73 : decode cX12_climbs 73 = .ok (.invokevirtual 331, 3) := by decide +kernel
theorem dX12_climbs_76 : decode cX12_climbs 76 = .ok (.ireturn, 1) := by decide +kernel
theorem dX12_climbs_77 : decode cX12_climbs 77 = .ok (.aload_n 0, 1) := by decide +kernel
theorem dX12_climbs_78 : decode cX12_climbs 78 = .ok (.bipush 70, 2) := by decide +kernel
theorem dX12_climbs_80 : decode cX12_climbs 80 = .ok (.invokevirtual 321, 3) := by decide +kernel
theorem dX12_climbs_83 : decode cX12_climbs 83 = .ok (.aload_n 0, 1) := by decide +kernel
theorem dX12_climbs_84 : decode cX12_climbs 84 = .ok (.iload_n 1, 1) := by decide +kernel
theorem dX12_climbs_85 : decode cX12_climbs 85 = .ok (.iconst 3, 1) := by decide +kernel
theorem dX12_climbs_86 : decode cX12_climbs 86 = .ok (.iload_n 3, 1) := by decide +kernel
theorem dX12_climbs_87 : decode cX12_climbs 87 = .ok (.invokevirtual 331, 3) := by decide +kernel
theorem dX12_climbs_90 : decode cX12_climbs 90 = .ok (.istore 4, 2) := by decide +kernel
theorem dX12_climbs_92 : decode cX12_climbs 92 = .ok (.iload 4, 2) := by decide +kernel
theorem dX12_climbs_94 : decode cX12_climbs 94 = .ok (.aload_n 0, 1) := by decide +kernel
theorem dX12_climbs_95 : decode cX12_climbs 95 = .ok (.iload_n 1, 1) := by decide +kernel
theorem dX12_climbs_96 : decode cX12_climbs 96 = .ok (.iconst 3, 1) := by decide +kernel
theorem dX12_climbs_97 : decode cX12_climbs 97 = .ok (.iconst 2, 1) := by decide +kernel
theorem dX12_climbs_98 : decode cX12_climbs 98 = .ok (.invokevirtual 324, 3) := by decide +kernel
theorem dX12_climbs_101 : decode cX12_climbs 101 = .ok (.iadd, 1) := by decide +kernel
theorem dX12_climbs_102 : decode cX12_climbs 102 = .ok (.ireturn, 1) := by decide +kernel
theorem dX12_climbs_103 : decode cX12_climbs 103 = .ok (.aload_n 0, 1) := by decide +kernel
theorem dX12_climbs_104 : decode cX12_climbs 104 = .ok (.bipush 11, 2) := by decide +kernel
theorem dX12_climbs_106 : decode cX12_climbs 106 = .ok (.invokevirtual 321, 3) := by decide +kernel
theorem dX12_climbs_109 : decode cX12_climbs 109 = .ok (.aload_n 0, 1) := by decide +kernel
theorem dX12_climbs_110 : decode cX12_climbs 110 = .ok (.iload_n 1, 1) := by decide +kernel
theorem dX12_climbs_111 : decode cX12_climbs 111 = .ok (.aload_n 0, 1) := by decide +kernel
theorem dX12_climbs_112 : decode cX12_climbs 112 = .ok (.getfield 18, 3) := by decide +kernel
theorem dX12_climbs_115 : decode cX12_climbs 115 = .ok (.iload_n 1, 1) := by decide +kernel
theorem dX12_climbs_116 : decode cX12_climbs 116 = .ok (.iaload, 1) := by decide +kernel
theorem dX12_climbs_117 : decode cX12_climbs 117 = .ok (.iload_n 3, 1) := by decide +kernel
theorem dX12_climbs_118 : decode cX12_climbs 118 = .ok (.invokevirtual 324, 3) := by decide +kernel
theorem dX12_climbs_121 : decode cX12_climbs 121 = .ok (.aload_n 0, 1) := by decide +kernel
theorem dX12_climbs_122 : decode cX12_climbs 122 = .ok (.getfield 21, 3) := by decide +kernel
theorem dX12_climbs_125 : decode cX12_climbs 125 = .ok (.iload_n 1, 1) := by decide +kernel
theorem dX12_climbs_126 : decode cX12_climbs 126 = .ok (.iaload, 1) := by decide +kernel
theorem dX12_climbs_127 : decode cX12_climbs 127 = .ok (.isub, 1) := by decide +kernel
theorem dX12_climbs_128 : decode cX12_climbs 128 = .ok (.ireturn, 1) := by decide +kernel
theorem dX12_climbs_129 : decode cX12_climbs 129 = .ok (.aload_n 0, 1) := by decide +kernel
theorem dX12_climbs_130 : decode cX12_climbs 130 = .ok (.iload_n 1, 1) := by decide +kernel
theorem dX12_climbs_131 : decode cX12_climbs 131 = .ok (.iload_n 2, 1) := by decide +kernel
theorem dX12_climbs_132 : decode cX12_climbs 132 = .ok (.invokestatic 328, 3) := by decide +kernel
theorem dX12_climbs_135 : decode cX12_climbs 135 = .ok (.iload_n 3, 1) := by decide +kernel
theorem dX12_climbs_136 : decode cX12_climbs 136 = .ok (.invokevirtual 331, 3) := by decide +kernel
theorem dX12_climbs_139 : decode cX12_climbs 139 = .ok (.ireturn, 1) := by decide +kernel
theorem dX12_tells_0 : decode cX12_tells 0 = .ok (.iload_n 2, 1) := by decide +kernel
theorem dX12_tells_1 : decode cX12_tells 1 = .ok (.lookupswitch 103 #[(0, 82), (3, 35), (5, 66)], 35) := by decide +kernel
theorem dX12_tells_36 : decode cX12_tells 36 = .ok (.aload_n 0, 1) := by decide +kernel
theorem dX12_tells_37 : decode cX12_tells 37 = .ok (.bipush 40, 2) := by decide +kernel
theorem dX12_tells_39 : decode cX12_tells 39 = .ok (.invokevirtual 321, 3) := by decide +kernel
theorem dX12_tells_42 : decode cX12_tells 42 = .ok (.aload_n 0, 1) := by decide +kernel
theorem dX12_tells_43 : decode cX12_tells 43 = .ok (.iload_n 1, 1) := by decide +kernel
theorem dX12_tells_44 : decode cX12_tells 44 = .ok (.iconst 0, 1) := by decide +kernel
theorem dX12_tells_45 : decode cX12_tells 45 = .ok (.iload_n 3, 1) := by decide +kernel
theorem dX12_tells_46 : decode cX12_tells 46 = .ok (.invokevirtual 334, 3) := by decide +kernel
theorem dX12_tells_49 : decode cX12_tells 49 = .ok (.istore 4, 2) := by decide +kernel
theorem dX12_tells_51 : decode cX12_tells 51 = .ok (.iload 4, 2) := by decide +kernel
theorem dX12_tells_53 : decode cX12_tells 53 = .ok (.aload_n 0, 1) := by decide +kernel
theorem dX12_tells_54 : decode cX12_tells 54 = .ok (.iload_n 1, 1) := by decide +kernel
theorem dX12_tells_55 : decode cX12_tells 55 = .ok (.aload_n 0, 1) := by decide +kernel
theorem dX12_tells_56 : decode cX12_tells 56 = .ok (.getfield 18, 3) := by decide +kernel
theorem dX12_tells_59 : decode cX12_tells 59 = .ok (.iload_n 1, 1) := by decide +kernel
theorem dX12_tells_60 : decode cX12_tells 60 = .ok (.iaload, 1) := by decide +kernel
theorem dX12_tells_61 : decode cX12_tells 61 = .ok (.iconst 1, 1) := by decide +kernel
theorem dX12_tells_62 : decode cX12_tells 62 = .ok (.invokevirtual 331, 3) := by decide +kernel
theorem dX12_tells_65 : decode cX12_tells 65 = .ok (.iadd, 1) := by decide +kernel
theorem dX12_tells_66 : decode cX12_tells 66 = .ok (.ireturn, 1) := by decide +kernel
theorem dX12_tells_67 : decode cX12_tells 67 = .ok (.aload_n 0, 1) := by decide +kernel
theorem dX12_tells_68 : decode cX12_tells 68 = .ok (.bipush 60, 2) := by decide +kernel
theorem dX12_tells_70 : decode cX12_tells 70 = .ok (.invokevirtual 321, 3) := by decide +kernel
theorem dX12_tells_73 : decode cX12_tells 73 = .ok (.aload_n 0, 1) := by decide +kernel
theorem dX12_tells_74 : decode cX12_tells 74 = .ok (.iload_n 1, 1) := by decide +kernel
theorem dX12_tells_75 : decode cX12_tells 75 = .ok (.iconst 2, 1) := by decide +kernel
theorem dX12_tells_76 : decode cX12_tells 76 = .ok (.iload_n 3, 1) := by decide +kernel
theorem dX12_tells_77 : decode cX12_tells 77 = .ok (.iload_n 1, 1) := by decide +kernel
theorem dX12_tells_78 : decode cX12_tells 78 = .ok (.isub, 1) := by decide +kernel
theorem dX12_tells_79 : decode cX12_tells 79 = .ok (.invokevirtual 334, 3) := by decide +kernel
theorem dX12_tells_82 : decode cX12_tells 82 = .ok (.ireturn, 1) := by decide +kernel
theorem dX12_tells_83 : decode cX12_tells 83 = .ok (.aload_n 0, 1) := by decide +kernel
theorem dX12_tells_84 : decode cX12_tells 84 = .ok (.bipush 12, 2) := by decide +kernel
theorem dX12_tells_86 : decode cX12_tells 86 = .ok (.invokevirtual 321, 3) := by decide +kernel
theorem dX12_tells_89 : decode cX12_tells 89 = .ok (.aload_n 0, 1) := by decide +kernel
theorem dX12_tells_90 : decode cX12_tells 90 = .ok (.iload_n 1, 1) := by decide +kernel
theorem dX12_tells_91 : decode cX12_tells 91 = .ok (.aload_n 0, 1) := by decide +kernel
theorem dX12_tells_92 : decode cX12_tells 92 = .ok (.getfield 18, 3) := by decide +kernel
theorem dX12_tells_95 : decode cX12_tells 95 = .ok (.iload_n 1, 1) := by decide +kernel
theorem dX12_tells_96 : decode cX12_tells 96 = .ok (.iaload, 1) := by decide +kernel
theorem dX12_tells_97 : decode cX12_tells 97 = .ok (.iload_n 3, 1) := by decide +kernel
theorem dX12_tells_98 : decode cX12_tells 98 = .ok (.invokevirtual 331, 3) := by decide +kernel
theorem dX12_tells_101 : decode cX12_tells 101 = .ok (.iconst 2, 1) := by decide +kernel
theorem dX12_tells_102 : decode cX12_tells 102 = .ok (.imul, 1) := by decide +kernel
theorem dX12_tells_103 : decode cX12_tells 103 = .ok (.ireturn, 1) := by decide +kernel
theorem dX12_tells_104 : decode cX12_tells 104 = .ok (.aload_n 0, 1) := by decide +kernel
theorem dX12_tells_105 : decode cX12_tells 105 = .ok (.iload_n 1, 1) := by decide +kernel
theorem dX12_tells_106 : decode cX12_tells 106 = .ok (.iload_n 2, 1) := by decide +kernel
theorem dX12_tells_107 : decode cX12_tells 107 = .ok (.invokestatic 328, 3) := by decide +kernel
theorem dX12_tells_110 : decode cX12_tells 110 = .ok (.iload_n 3, 1) := by decide +kernel
theorem dX12_tells_111 : decode cX12_tells 111 = .ok (.invokevirtual 334, 3) := by decide +kernel
theorem dX12_tells_114 : decode cX12_tells 114 = .ok (.ireturn, 1) := by decide +kernel
theorem dX12_act_0 : decode cX12_act 0 = .ok (.aload_n 0, 1) := by decide +kernel
theorem dX12_act_1 : decode cX12_act 1 = .ok (.iconst 0, 1) := by decide +kernel
theorem dX12_act_2 : decode cX12_act 2 = .ok (.putfield 318, 3) := by decide +kernel
theorem dX12_act_5 : decode cX12_act 5 = .ok (.aload_n 0, 1) := by decide +kernel
theorem dX12_act_6 : decode cX12_act 6 = .ok (.iload_n 1, 1) := by decide +kernel
theorem dX12_act_7 : decode cX12_act 7 = .ok (.invokevirtual 125, 3) := by decide +kernel
theorem dX12_act_10 : decode cX12_act 10 = .ok (.ifCond .eq 12, 3) := by decide +kernel
theorem dX12_act_13 : decode cX12_act 13 = .ok (.iload_n 2, 1) := by decide +kernel
theorem dX12_act_14 : decode cX12_act 14 = .ok (.iconst 0, 1) := by decide +kernel
theorem dX12_act_15 : decode cX12_act 15 = .ok (.iconst 2, 1) := by decide +kernel
theorem dX12_act_16 : decode cX12_act 16 = .ok (.invokestatic 117, 3) := by decide +kernel
theorem dX12_act_19 : decode cX12_act 19 = .ok (.ifCond .ne 5, 3) := by decide +kernel
theorem dX12_act_22 : decode cX12_act 22 = .ok (.iconst 0, 1) := by decide +kernel
theorem dX12_act_23 : decode cX12_act 23 = .ok (.ireturn, 1) := by decide +kernel
theorem dX12_act_24 : decode cX12_act 24 = .ok (.aload_n 0, 1) := by decide +kernel
theorem dX12_act_25 : decode cX12_act 25 = .ok (.getfield 18, 3) := by decide +kernel
theorem dX12_act_28 : decode cX12_act 28 = .ok (.iload_n 1, 1) := by decide +kernel
theorem dX12_act_29 : decode cX12_act 29 = .ok (.iaload, 1) := by decide +kernel
theorem dX12_act_30 : decode cX12_act 30 = .ok (.istore 4, 2) := by decide +kernel
theorem dX12_act_32 : decode cX12_act 32 = .ok (.iload_n 2, 1) := by decide +kernel
theorem dX12_act_33 : decode cX12_act 33 = .ok (.ifCond .ne 14, 3) := by decide +kernel
theorem dX12_act_36 : decode cX12_act 36 = .ok (.aload_n 0, 1) := by decide +kernel
theorem dX12_act_37 : decode cX12_act 37 = .ok (.iload_n 1, 1) := by decide +kernel
theorem dX12_act_38 : decode cX12_act 38 = .ok (.iload 4, 2) := by decide +kernel
theorem dX12_act_40 : decode cX12_act 40 = .ok (.iload_n 3, 1) := by decide +kernel
theorem dX12_act_41 : decode cX12_act 41 = .ok (.invokevirtual 324, 3) := by decide +kernel
theorem dX12_act_44 : decode cX12_act 44 = .ok (.goto 27, 3) := by decide +kernel
theorem dX12_act_47 : decode cX12_act 47 = .ok (.iload_n 2, 1) := by decide +kernel
theorem dX12_act_48 : decode cX12_act 48 = .ok (.iconst 1, 1) := by decide +kernel
theorem dX12_act_49 : decode cX12_act 49 = .ok (.if_icmp .ne 14, 3) := by decide +kernel
theorem dX12_act_52 : decode cX12_act 52 = .ok (.aload_n 0, 1) := by decide +kernel
theorem dX12_act_53 : decode cX12_act 53 = .ok (.iload_n 1, 1) := by decide +kernel
theorem dX12_act_54 : decode cX12_act 54 = .ok (.iload 4, 2) := by decide +kernel
theorem dX12_act_56 : decode cX12_act 56 = .ok (.iload_n 3, 1) := by decide +kernel
theorem dX12_act_57 : decode cX12_act 57 = .ok (.invokevirtual 331, 3) := by decide +kernel
theorem dX12_act_60 : decode cX12_act 60 = .ok (.goto 11, 3) := by decide +kernel
theorem dX12_act_63 : decode cX12_act 63 = .ok (.aload_n 0, 1) := by decide +kernel
theorem dX12_act_64 : decode cX12_act 64 = .ok (.iload_n 1, 1) := by decide +kernel
theorem dX12_act_65 : decode cX12_act 65 = .ok (.iload 4, 2) := by decide +kernel
theorem dX12_act_67 : decode cX12_act 67 = .ok (.iload_n 3, 1) := by decide +kernel
theorem dX12_act_68 : decode cX12_act 68 = .ok (.invokevirtual 334, 3) := by decide +kernel
theorem dX12_act_71 : decode cX12_act 71 = .ok (.ireturn, 1) := by decide +kernel
theorem dX12_trace_0 : decode cX12_trace 0 = .ok (.iload_n 1, 1) := by decide +kernel
theorem dX12_trace_1 : decode cX12_trace 1 = .ok (.iconst 0, 1) := by decide +kernel
theorem dX12_trace_2 : decode cX12_trace 2 = .ok (.bipush 20, 2) := by decide +kernel
theorem dX12_trace_4 : decode cX12_trace 4 = .ok (.aload_n 0, 1) := by decide +kernel
theorem dX12_trace_5 : decode cX12_trace 5 = .ok (.getfield 318, 3) := by decide +kernel
theorem dX12_trace_8 : decode cX12_trace 8 = .ok (.invokestatic 256, 3) := by decide +kernel
theorem dX12_trace_11 : decode cX12_trace 11 = .ok (.iconst 1, 1) := by decide +kernel
theorem dX12_trace_12 : decode cX12_trace 12 = .ok (.isub, 1) := by decide +kernel
theorem dX12_trace_13 : decode cX12_trace 13 = .ok (.invokestatic 117, 3) := by decide +kernel
theorem dX12_trace_16 : decode cX12_trace 16 = .ok (.ifCond .eq 12, 3) := by decide +kernel
theorem dX12_trace_19 : decode cX12_trace 19 = .ok (.aload_n 0, 1) := by decide +kernel
theorem dX12_trace_20 : decode cX12_trace 20 = .ok (.getfield 85, 3) := by decide +kernel
theorem dX12_trace_23 : decode cX12_trace 23 = .ok (.iload_n 1, 1) := by decide +kernel
theorem dX12_trace_24 : decode cX12_trace 24 = .ok (.iaload, 1) := by decide +kernel
theorem dX12_trace_25 : decode cX12_trace 25 = .ok (.goto 4, 3) := by decide +kernel
theorem dX12_trace_28 : decode cX12_trace 28 = .ok (.iconst (-1), 1) := by decide +kernel
theorem dX12_trace_29 : decode cX12_trace 29 = .ok (.ireturn, 1) := by decide +kernel
theorem dX12_taken_0 : decode cX12_taken 0 = .ok (.iload_n 2, 1) := by decide +kernel
theorem dX12_taken_1 : decode cX12_taken 1 = .ok (.iconst 0, 1) := by decide +kernel
theorem dX12_taken_2 : decode cX12_taken 2 = .ok (.bipush 6, 2) := by decide +kernel
theorem dX12_taken_4 : decode cX12_taken 4 = .ok (.invokestatic 117, 3) := by decide +kernel
theorem dX12_taken_7 : decode cX12_taken 7 = .ok (.ifCond .ne 6, 3) := by decide +kernel
theorem dX12_taken_10 : decode cX12_taken 10 = .ok (.bipush (-2), 2) := by decide +kernel
theorem dX12_taken_12 : decode cX12_taken 12 = .ok (.ireturn, 1) := by decide +kernel
theorem dX12_taken_13 : decode cX12_taken 13 = .ok (.aload_n 0, 1) := by decide +kernel
theorem dX12_taken_14 : decode cX12_taken 14 = .ok (.iload_n 1, 1) := by decide +kernel
theorem dX12_taken_15 : decode cX12_taken 15 = .ok (.invokevirtual 125, 3) := by decide +kernel
theorem dX12_taken_18 : decode cX12_taken 18 = .ok (.ifCond .ne 6, 3) := by decide +kernel
theorem dX12_taken_21 : decode cX12_taken 21 = .ok (.bipush (-11), 2) := by decide +kernel
theorem dX12_taken_23 : decode cX12_taken 23 = .ok (.ireturn, 1) := by decide +kernel
theorem dX12_taken_24 : decode cX12_taken 24 = .ok (.aload_n 0, 1) := by decide +kernel
theorem dX12_taken_25 : decode cX12_taken 25 = .ok (.getfield 18, 3) := by decide +kernel
theorem dX12_taken_28 : decode cX12_taken 28 = .ok (.iload_n 1, 1) := by decide +kernel
theorem dX12_taken_29 : decode cX12_taken 29 = .ok (.iaload, 1) := by decide +kernel
theorem dX12_taken_30 : decode cX12_taken 30 = .ok (.istore_n 3, 1) := by decide +kernel
theorem dX12_taken_31 : decode cX12_taken 31 = .ok (.iload_n 3, 1) := by decide +kernel
theorem dX12_taken_32 : decode cX12_taken 32 = .ok (.iload_n 2, 1) := by decide +kernel
theorem dX12_taken_33 : decode cX12_taken 33 = .ok (.if_icmp .eq 15, 3) := by decide +kernel
theorem dX12_taken_36 : decode cX12_taken 36 = .ok (.iload_n 3, 1) := by decide +kernel
theorem dX12_taken_37 : decode cX12_taken 37 = .ok (.ifCond .le 11, 3) := by decide +kernel
theorem dX12_taken_40 : decode cX12_taken 40 = .ok (.iload_n 3, 1) := by decide +kernel
theorem dX12_taken_41 : decode cX12_taken 41 = .ok (.invokestatic 328, 3) := by decide +kernel
theorem dX12_taken_44 : decode cX12_taken 44 = .ok (.istore_n 3, 1) := by decide +kernel
theorem dX12_taken_45 : decode cX12_taken 45 = .ok (.goto (-14), 3) := by decide +kernel
theorem dX12_taken_48 : decode cX12_taken 48 = .ok (.iload_n 3, 1) := by decide +kernel
theorem dX12_taken_49 : decode cX12_taken 49 = .ok (.iload_n 2, 1) := by decide +kernel
theorem dX12_taken_50 : decode cX12_taken 50 = .ok (.if_icmp .ne 12, 3) := by decide +kernel
theorem dX12_taken_53 : decode cX12_taken 53 = .ok (.aload_n 0, 1) := by decide +kernel
theorem dX12_taken_54 : decode cX12_taken 54 = .ok (.getfield 18, 3) := by decide +kernel
theorem dX12_taken_57 : decode cX12_taken 57 = .ok (.iload_n 1, 1) := by decide +kernel
theorem dX12_taken_58 : decode cX12_taken 58 = .ok (.iaload, 1) := by decide +kernel
theorem dX12_taken_59 : decode cX12_taken 59 = .ok (.goto 5, 3) := by decide +kernel
theorem dX12_taken_62 : decode cX12_taken 62 = .ok (.bipush (-12), 2) := by decide +kernel
theorem dX12_taken_64 : decode cX12_taken 64 = .ok (.ireturn, 1) := by decide +kernel
theorem dX12_count_0 : decode cX12_count 0 = .ok (.iload_n 1, 1) := by decide +kernel
theorem dX12_count_1 : decode cX12_count 1 = .ok (.tableswitch 78 0 6 #[43, 48, 53, 58, 63, 68, 73], 43) := by decide +kernel
theorem dX12_count_44 : decode cX12_count 44 = .ok (.aload_n 0, 1) := by decide +kernel
theorem dX12_count_45 : decode cX12_count 45 = .ok (.getfield 114, 3) := by decide +kernel
theorem dX12_count_48 : decode cX12_count 48 = .ok (.ireturn, 1) := by decide +kernel
theorem dX12_count_49 : decode cX12_count 49 = .ok (.aload_n 0, 1) := by decide +kernel
theorem dX12_count_50 : decode cX12_count 50 = .ok (.getfield 218, 3) := by decide +kernel
theorem dX12_count_53 : decode cX12_count 53 = .ok (.ireturn, 1) := by decide +kernel
theorem dX12_count_54 : decode cX12_count 54 = .ok (.aload_n 0, 1) := by decide +kernel
theorem dX12_count_55 : decode cX12_count 55 = .ok (.getfield 291, 3) := by decide +kernel
theorem dX12_count_58 : decode cX12_count 58 = .ok (.ireturn, 1) := by decide +kernel
theorem dX12_count_59 : decode cX12_count 59 = .ok (.aload_n 0, 1) := by decide +kernel
theorem dX12_count_60 : decode cX12_count 60 = .ok (.getfield 308, 3) := by decide +kernel
theorem dX12_count_63 : decode cX12_count 63 = .ok (.ireturn, 1) := by decide +kernel
theorem dX12_count_64 : decode cX12_count 64 = .ok (.aload_n 0, 1) := by decide +kernel
theorem dX12_count_65 : decode cX12_count 65 = .ok (.getfield 311, 3) := by decide +kernel
theorem dX12_count_68 : decode cX12_count 68 = .ok (.ireturn, 1) := by decide +kernel
theorem dX12_count_69 : decode cX12_count 69 = .ok (.aload_n 0, 1) := by decide +kernel
theorem dX12_count_70 : decode cX12_count 70 = .ok (.getfield 146, 3) := by decide +kernel
theorem dX12_count_73 : decode cX12_count 73 = .ok (.ireturn, 1) := by decide +kernel
theorem dX12_count_74 : decode cX12_count 74 = .ok (.aload_n 0, 1) := by decide +kernel
theorem dX12_count_75 : decode cX12_count 75 = .ok (.getfield 318, 3) := by decide +kernel
theorem dX12_count_78 : decode cX12_count 78 = .ok (.ireturn, 1) := by decide +kernel
theorem dX12_count_79 : decode cX12_count 79 = .ok (.bipush (-2), 2) := by decide +kernel
theorem dX12_count_81 : decode cX12_count 81 = .ok (.ireturn, 1) := by decide +kernel
theorem dX12_isTape_0 : decode cX12_isTape 0 = .ok (.iload_n 0, 1) := by decide +kernel
theorem dX12_isTape_1 : decode cX12_isTape 1 = .ok (.iconst 0, 1) := by decide +kernel
theorem dX12_isTape_2 : decode cX12_isTape 2 = .ok (.iconst 5, 1) := by decide +kernel
theorem dX12_isTape_3 : decode cX12_isTape 3 = .ok (.invokestatic 117, 3) := by decide +kernel
theorem dX12_isTape_6 : decode cX12_isTape 6 = .ok (.ireturn, 1) := by decide +kernel
theorem dX12_tape_0 : decode cX12_tape 0 = .ok (.iload_n 1, 1) := by decide +kernel
theorem dX12_tape_1 : decode cX12_tape 1 = .ok (.invokestatic 337, 3) := by decide +kernel
theorem dX12_tape_4 : decode cX12_tape 4 = .ok (.ifCond .ne 5, 3) := by decide +kernel
theorem dX12_tape_7 : decode cX12_tape 7 = .ok (.iconst (-1), 1) := by decide +kernel
theorem dX12_tape_8 : decode cX12_tape 8 = .ok (.ireturn, 1) := by decide +kernel
theorem dX12_tape_9 : decode cX12_tape 9 = .ok (.iload_n 2, 1) := by decide +kernel
theorem dX12_tape_10 : decode cX12_tape 10 = .ok (.iconst (-1), 1) := by decide +kernel
theorem dX12_tape_11 : decode cX12_tape 11 = .ok (.iconst 4, 1) := by decide +kernel
theorem dX12_tape_12 : decode cX12_tape 12 = .ok (.invokestatic 117, 3) := by decide +kernel
theorem dX12_tape_15 : decode cX12_tape 15 = .ok (.ifCond .eq 13, 3) := by decide +kernel
theorem dX12_tape_18 : decode cX12_tape 18 = .ok (.iload_n 2, 1) := by decide +kernel
theorem dX12_tape_19 : decode cX12_tape 19 = .ok (.ifCond .lt 12, 3) := by decide +kernel
theorem dX12_tape_22 : decode cX12_tape 22 = .ok (.iload_n 3, 1) := by decide +kernel
theorem dX12_tape_23 : decode cX12_tape 23 = .ok (.bipush 60, 2) := by decide +kernel
theorem dX12_tape_25 : decode cX12_tape 25 = .ok (.if_icmp .le 6, 3) := by decide +kernel
theorem dX12_tape_28 : decode cX12_tape 28 = .ok (.bipush (-2), 2) := by decide +kernel
theorem dX12_tape_30 : decode cX12_tape 30 = .ok (.ireturn, 1) := by decide +kernel
theorem dX12_tape_31 : decode cX12_tape 31 = .ok (.iload_n 2, 1) := by decide +kernel
theorem dX12_tape_32 : decode cX12_tape 32 = .ok (.ifCond .lt 10, 3) := by decide +kernel
theorem dX12_tape_35 : decode cX12_tape 35 = .ok (.iload_n 3, 1) := by decide +kernel
theorem dX12_tape_36 : decode cX12_tape 36 = .ok (.ifCond .ge 6, 3) := by decide +kernel
theorem dX12_tape_39 : decode cX12_tape 39 = .ok (.bipush (-14), 2) := by decide +kernel
theorem dX12_tape_41 : decode cX12_tape 41 = .ok (.ireturn, 1) := by decide +kernel
theorem dX12_tape_42 : decode cX12_tape 42 = .ok (.aload_n 0, 1) := by decide +kernel
theorem dX12_tape_43 : decode cX12_tape 43 = .ok (.getfield 100, 3) := by decide +kernel
theorem dX12_tape_46 : decode cX12_tape 46 = .ok (.iload_n 1, 1) := by decide +kernel
theorem dX12_tape_47 : decode cX12_tape 47 = .ok (.iload_n 2, 1) := by decide +kernel
theorem dX12_tape_48 : decode cX12_tape 48 = .ok (.iastore, 1) := by decide +kernel
theorem dX12_tape_49 : decode cX12_tape 49 = .ok (.aload_n 0, 1) := by decide +kernel
theorem dX12_tape_50 : decode cX12_tape 50 = .ok (.getfield 103, 3) := by decide +kernel
theorem dX12_tape_53 : decode cX12_tape 53 = .ok (.iload_n 1, 1) := by decide +kernel
theorem dX12_tape_54 : decode cX12_tape 54 = .ok (.iload_n 2, 1) := by decide +kernel
theorem dX12_tape_55 : decode cX12_tape 55 = .ok (.ifCond .ge 7, 3) := by decide +kernel
theorem dX12_tape_58 : decode cX12_tape 58 = .ok (.iconst 0, 1) := by decide +kernel
theorem dX12_tape_59 : decode cX12_tape 59 = .ok (.goto 4, 3) := by decide +kernel
theorem dX12_tape_62 : decode cX12_tape 62 = .ok (.iload_n 3, 1) := by decide +kernel
theorem dX12_tape_63 : decode cX12_tape 63 = .ok (.iastore, 1) := by decide +kernel
theorem dX12_tape_64 : decode cX12_tape 64 = .ok (.iconst 0, 1) := by decide +kernel
theorem dX12_tape_65 : decode cX12_tape 65 = .ok (.istore 4, 2) := by decide +kernel
theorem dX12_tape_67 : decode cX12_tape 67 = .ok (.iload 4, 2) := by decide +kernel
theorem dX12_tape_69 : decode cX12_tape 69 = .ok (.bipush 60, 2) := by decide +kernel
theorem dX12_tape_71 : decode cX12_tape 71 = .ok (.if_icmp .ge 22, 3) := by decide +kernel
theorem dX12_tape_74 : decode cX12_tape 74 = .ok (.aload_n 0, 1) := by decide +kernel
theorem dX12_tape_75 : decode cX12_tape 75 = .ok (.getfield 106, 3) := by decide +kernel
theorem dX12_tape_78 : decode cX12_tape 78 = .ok (.bipush 60, 2) := by decide +kernel
theorem dX12_tape_80 : decode cX12_tape 80 = .ok (.iload_n 1, 1) := by decide +kernel
theorem dX12_tape_81 : decode cX12_tape 81 = .ok (.imul, 1) := by decide +kernel
theorem dX12_tape_82 : decode cX12_tape 82 = .ok (.iload 4, 2) := by decide +kernel
theorem dX12_tape_84 : decode cX12_tape 84 = .ok (.iadd, 1) := by decide +kernel
theorem dX12_tape_85 : decode cX12_tape 85 = .ok (.lconst 0, 1) := by decide +kernel
theorem dX12_tape_86 : decode cX12_tape 86 = .ok (.lastore, 1) := by decide +kernel
theorem dX12_tape_87 : decode cX12_tape 87 = .ok (.iinc 4 1, 3) := by decide +kernel
theorem dX12_tape_90 : decode cX12_tape 90 = .ok (.goto (-23), 3) := by decide +kernel
theorem dX12_tape_93 : decode cX12_tape 93 = .ok (.iconst 1, 1) := by decide +kernel
theorem dX12_tape_94 : decode cX12_tape 94 = .ok (.ireturn, 1) := by decide +kernel
theorem dX12_kept_0 : decode cX12_kept 0 = .ok (.iload_n 0, 1) := by decide +kernel
theorem dX12_kept_1 : decode cX12_kept 1 = .ok (.tableswitch 47 0 3 #[31, 36, 41, 45], 31) := by decide +kernel
theorem dX12_kept_32 : decode cX12_kept 32 = .ok (.lload_n 1, 1) := by decide +kernel
theorem dX12_kept_33 : decode cX12_kept 33 = .ok (.l2i, 1) := by decide +kernel
theorem dX12_kept_34 : decode cX12_kept 34 = .ok (.i2b, 1) := by decide +kernel
theorem dX12_kept_35 : decode cX12_kept 35 = .ok (.i2l, 1) := by decide +kernel
theorem dX12_kept_36 : decode cX12_kept 36 = .ok (.lreturn, 1) := by decide +kernel
theorem dX12_kept_37 : decode cX12_kept 37 = .ok (.lload_n 1, 1) := by decide +kernel
theorem dX12_kept_38 : decode cX12_kept 38 = .ok (.l2i, 1) := by decide +kernel
theorem dX12_kept_39 : decode cX12_kept 39 = .ok (.i2s, 1) := by decide +kernel
theorem dX12_kept_40 : decode cX12_kept 40 = .ok (.i2l, 1) := by decide +kernel
theorem dX12_kept_41 : decode cX12_kept 41 = .ok (.lreturn, 1) := by decide +kernel
theorem dX12_kept_42 : decode cX12_kept 42 = .ok (.lload_n 1, 1) := by decide +kernel
theorem dX12_kept_43 : decode cX12_kept 43 = .ok (.l2i, 1) := by decide +kernel
theorem dX12_kept_44 : decode cX12_kept 44 = .ok (.i2l, 1) := by decide +kernel
theorem dX12_kept_45 : decode cX12_kept 45 = .ok (.lreturn, 1) := by decide +kernel
theorem dX12_kept_46 : decode cX12_kept 46 = .ok (.lload_n 1, 1) := by decide +kernel
theorem dX12_kept_47 : decode cX12_kept 47 = .ok (.lreturn, 1) := by decide +kernel
theorem dX12_kept_48 : decode cX12_kept 48 = .ok (.lload_n 1, 1) := by decide +kernel
theorem dX12_kept_49 : decode cX12_kept 49 = .ok (.lconst 0, 1) := by decide +kernel
theorem dX12_kept_50 : decode cX12_kept 50 = .ok (.lcmp, 1) := by decide +kernel
theorem dX12_kept_51 : decode cX12_kept 51 = .ok (.ifCond .eq 7, 3) := by decide +kernel
theorem dX12_kept_54 : decode cX12_kept 54 = .ok (.lconst 1, 1) := by decide +kernel
theorem dX12_kept_55 : decode cX12_kept 55 = .ok (.goto 4, 3) := by decide +kernel
theorem dX12_kept_58 : decode cX12_kept 58 = .ok (.lconst 0, 1) := by decide +kernel
theorem dX12_kept_59 : decode cX12_kept 59 = .ok (.lreturn, 1) := by decide +kernel
theorem dX12_item_0 : decode cX12_item 0 = .ok (.iload_n 1, 1) := by decide +kernel
theorem dX12_item_1 : decode cX12_item 1 = .ok (.invokestatic 337, 3) := by decide +kernel
theorem dX12_item_4 : decode cX12_item 4 = .ok (.ifCond .ne 5, 3) := by decide +kernel
theorem dX12_item_7 : decode cX12_item 7 = .ok (.iconst (-1), 1) := by decide +kernel
theorem dX12_item_8 : decode cX12_item 8 = .ok (.ireturn, 1) := by decide +kernel
theorem dX12_item_9 : decode cX12_item 9 = .ok (.aload_n 0, 1) := by decide +kernel
theorem dX12_item_10 : decode cX12_item 10 = .ok (.getfield 100, 3) := by decide +kernel
theorem dX12_item_13 : decode cX12_item 13 = .ok (.iload_n 1, 1) := by decide +kernel
theorem dX12_item_14 : decode cX12_item 14 = .ok (.iaload, 1) := by decide +kernel
theorem dX12_item_15 : decode cX12_item 15 = .ok (.ifCond .ge 6, 3) := by decide +kernel
theorem dX12_item_18 : decode cX12_item 18 = .ok (.bipush (-11), 2) := by decide +kernel
theorem dX12_item_20 : decode cX12_item 20 = .ok (.ireturn, 1) := by decide +kernel
theorem dX12_item_21 : decode cX12_item 21 = .ok (.iload_n 2, 1) := by decide +kernel
theorem dX12_item_22 : decode cX12_item 22 = .ok (.iconst 0, 1) := by decide +kernel
theorem dX12_item_23 : decode cX12_item 23 = .ok (.aload_n 0, 1) := by decide +kernel
theorem dX12_item_24 : decode cX12_item 24 = .ok (.getfield 103, 3) := by decide +kernel
theorem dX12_item_27 : decode cX12_item 27 = .ok (.iload_n 1, 1) := by decide +kernel
theorem dX12_item_28 : decode cX12_item 28 = .ok (.iaload, 1) := by decide +kernel
theorem dX12_item_29 : decode cX12_item 29 = .ok (.iconst 1, 1) := by decide +kernel
theorem dX12_item_30 : decode cX12_item 30 = .ok (.isub, 1) := by decide +kernel
theorem dX12_item_31 : decode cX12_item 31 = .ok (.invokestatic 117, 3) := by decide +kernel
theorem dX12_item_34 : decode cX12_item 34 = .ok (.ifCond .ne 6, 3) := by decide +kernel
theorem dX12_item_37 : decode cX12_item 37 = .ok (.bipush (-13), 2) := by decide +kernel
theorem dX12_item_39 : decode cX12_item 39 = .ok (.ireturn, 1) := by decide +kernel
theorem dX12_item_40 : decode cX12_item 40 = .ok (.aload_n 0, 1) := by decide +kernel
theorem dX12_item_41 : decode cX12_item 41 = .ok (.getfield 106, 3) := by decide +kernel
theorem dX12_item_44 : decode cX12_item 44 = .ok (.bipush 60, 2) := by decide +kernel
theorem dX12_item_46 : decode cX12_item 46 = .ok (.iload_n 1, 1) := by decide +kernel
theorem dX12_item_47 : decode cX12_item 47 = .ok (.imul, 1) := by decide +kernel
theorem dX12_item_48 : decode cX12_item 48 = .ok (.iload_n 2, 1) := by decide +kernel
theorem dX12_item_49 : decode cX12_item 49 = .ok (.iadd, 1) := by decide +kernel
theorem dX12_item_50 : decode cX12_item 50 = .ok (.aload_n 0, 1) := by decide +kernel
theorem dX12_item_51 : decode cX12_item 51 = .ok (.getfield 100, 3) := by decide +kernel
theorem dX12_item_54 : decode cX12_item 54 = .ok (.iload_n 1, 1) := by decide +kernel
theorem dX12_item_55 : decode cX12_item 55 = .ok (.iaload, 1) := by decide +kernel
theorem dX12_item_56 : decode cX12_item 56 = .ok (.lload_n 3, 1) := by decide +kernel
theorem dX12_item_57 : decode cX12_item 57 = .ok (.invokestatic 340, 3) := by decide +kernel
theorem dX12_item_60 : decode cX12_item 60 = .ok (.lastore, 1) := by decide +kernel
theorem dX12_item_61 : decode cX12_item 61 = .ok (.iconst 1, 1) := by decide +kernel
theorem dX12_item_62 : decode cX12_item 62 = .ok (.ireturn, 1) := by decide +kernel
theorem dX12_read_0 : decode cX12_read 0 = .ok (.iload_n 1, 1) := by decide +kernel
theorem dX12_read_1 : decode cX12_read 1 = .ok (.invokestatic 337, 3) := by decide +kernel
theorem dX12_read_4 : decode cX12_read 4 = .ok (.ifCond .eq 42, 3) := by decide +kernel
theorem dX12_read_7 : decode cX12_read 7 = .ok (.aload_n 0, 1) := by decide +kernel
theorem dX12_read_8 : decode cX12_read 8 = .ok (.getfield 100, 3) := by decide +kernel
theorem dX12_read_11 : decode cX12_read 11 = .ok (.iload_n 1, 1) := by decide +kernel
theorem dX12_read_12 : decode cX12_read 12 = .ok (.iaload, 1) := by decide +kernel
theorem dX12_read_13 : decode cX12_read 13 = .ok (.ifCond .lt 33, 3) := by decide +kernel
theorem dX12_read_16 : decode cX12_read 16 = .ok (.iload_n 2, 1) := by decide +kernel
theorem dX12_read_17 : decode cX12_read 17 = .ok (.iconst 0, 1) := by decide +kernel
theorem dX12_read_18 : decode cX12_read 18 = .ok (.aload_n 0, 1) := by decide +kernel
theorem dX12_read_19 : decode cX12_read 19 = .ok (.getfield 103, 3) := by decide +kernel
theorem dX12_read_22 : decode cX12_read 22 = .ok (.iload_n 1, 1) := by decide +kernel
theorem dX12_read_23 : decode cX12_read 23 = .ok (.iaload, 1) := by decide +kernel
theorem dX12_read_24 : decode cX12_read 24 = .ok (.iconst 1, 1) := by decide +kernel
theorem dX12_read_25 : decode cX12_read 25 = .ok (.isub, 1) := by decide +kernel
theorem dX12_read_26 : decode cX12_read 26 = .ok (.invokestatic 117, 3) := by decide +kernel
theorem dX12_read_29 : decode cX12_read 29 = .ok (.ifCond .eq 17, 3) := by decide +kernel
theorem dX12_read_32 : decode cX12_read 32 = .ok (.aload_n 0, 1) := by decide +kernel
theorem dX12_read_33 : decode cX12_read 33 = .ok (.getfield 106, 3) := by decide +kernel
theorem dX12_read_36 : decode cX12_read 36 = .ok (.bipush 60, 2) := by decide +kernel
theorem dX12_read_38 : decode cX12_read 38 = .ok (.iload_n 1, 1) := by decide +kernel
theorem dX12_read_39 : decode cX12_read 39 = .ok (.imul, 1) := by decide +kernel
theorem dX12_read_40 : decode cX12_read 40 = .ok (.iload_n 2, 1) := by decide +kernel
theorem dX12_read_41 : decode cX12_read 41 = .ok (.iadd, 1) := by decide +kernel
theorem dX12_read_42 : decode cX12_read 42 = .ok (.laload, 1) := by decide +kernel
theorem dX12_read_43 : decode cX12_read 43 = .ok (.goto 6, 3) := by decide +kernel
theorem dX12_read_46 : decode cX12_read 46 = .ok (.ldc2_w 300, 3) := by decide +kernel
theorem dX12_read_49 : decode cX12_read 49 = .ok (.lreturn, 1) := by decide +kernel
theorem dX12_shift_0 : decode cX12_shift 0 = .ok (.iload_n 1, 1) := by decide +kernel
theorem dX12_shift_1 : decode cX12_shift 1 = .ok (.invokestatic 337, 3) := by decide +kernel
theorem dX12_shift_4 : decode cX12_shift 4 = .ok (.ifCond .eq 10, 3) := by decide +kernel
theorem dX12_shift_7 : decode cX12_shift 7 = .ok (.iload_n 3, 1) := by decide +kernel
theorem dX12_shift_8 : decode cX12_shift 8 = .ok (.invokestatic 337, 3) := by decide +kernel
theorem dX12_shift_11 : decode cX12_shift 11 = .ok (.ifCond .ne 5, 3) := by decide +kernel
theorem dX12_shift_14 : decode cX12_shift 14 = .ok (.iconst (-1), 1) := by decide +kernel
theorem dX12_shift_15 : decode cX12_shift 15 = .ok (.ireturn, 1) := by decide +kernel
theorem dX12_shift_16 : decode cX12_shift 16 = .ok (.aload_n 0, 1) := by decide +kernel
theorem dX12_shift_17 : decode cX12_shift 17 = .ok (.getfield 100, 3) := by decide +kernel
theorem dX12_shift_20 : decode cX12_shift 20 = .ok (.iload_n 1, 1) := by decide +kernel
theorem dX12_shift_21 : decode cX12_shift 21 = .ok (.iaload, 1) := by decide +kernel
theorem dX12_shift_22 : decode cX12_shift 22 = .ok (.ifCond .lt 12, 3) := by decide +kernel
theorem dX12_shift_25 : decode cX12_shift 25 = .ok (.aload_n 0, 1) := by decide +kernel
theorem dX12_shift_26 : decode cX12_shift 26 = .ok (.getfield 100, 3) := by decide +kernel
theorem dX12_shift_29 : decode cX12_shift 29 = .ok (.iload_n 3, 1) := by decide +kernel
theorem dX12_shift_30 : decode cX12_shift 30 = .ok (.iaload, 1) := by decide +kernel
theorem dX12_shift_31 : decode cX12_shift 31 = .ok (.ifCond .ge 6, 3) := by decide +kernel
theorem dX12_shift_34 : decode cX12_shift 34 = .ok (.bipush (-11), 2) := by decide +kernel
theorem dX12_shift_36 : decode cX12_shift 36 = .ok (.ireturn, 1) := by decide +kernel
theorem dX12_shift_37 : decode cX12_shift 37 = .ok (.aload_n 0, 1) := by decide +kernel
theorem dX12_shift_38 : decode cX12_shift 38 = .ok (.getfield 100, 3) := by decide +kernel
theorem dX12_shift_41 : decode cX12_shift 41 = .ok (.iload_n 1, 1) := by decide +kernel
theorem dX12_shift_42 : decode cX12_shift 42 = .ok (.iaload, 1) := by decide +kernel
theorem dX12_shift_43 : decode cX12_shift 43 = .ok (.aload_n 0, 1) := by decide +kernel
theorem dX12_shift_44 : decode cX12_shift 44 = .ok (.getfield 100, 3) := by decide +kernel
theorem dX12_shift_47 : decode cX12_shift 47 = .ok (.iload_n 3, 1) := by decide +kernel
theorem dX12_shift_48 : decode cX12_shift 48 = .ok (.iaload, 1) := by decide +kernel
theorem dX12_shift_49 : decode cX12_shift 49 = .ok (.if_icmp .eq 6, 3) := by decide +kernel
theorem dX12_shift_52 : decode cX12_shift 52 = .ok (.bipush (-12), 2) := by decide +kernel
theorem dX12_shift_54 : decode cX12_shift 54 = .ok (.ireturn, 1) := by decide +kernel
theorem dX12_shift_55 : decode cX12_shift 55 = .ok (.iload 5, 2) := by decide +kernel
theorem dX12_shift_57 : decode cX12_shift 57 = .ok (.ifCond .lt 47, 3) := by decide +kernel
theorem dX12_shift_60 : decode cX12_shift 60 = .ok (.iload_n 2, 1) := by decide +kernel
theorem dX12_shift_61 : decode cX12_shift 61 = .ok (.ifCond .lt 43, 3) := by decide +kernel
theorem dX12_shift_64 : decode cX12_shift 64 = .ok (.iload 4, 2) := by decide +kernel
theorem dX12_shift_66 : decode cX12_shift 66 = .ok (.ifCond .lt 38, 3) := by decide +kernel
theorem dX12_shift_69 : decode cX12_shift 69 = .ok (.iload_n 2, 1) := by decide +kernel
theorem dX12_shift_70 : decode cX12_shift 70 = .ok (.i2l, 1) := by decide +kernel
theorem dX12_shift_71 : decode cX12_shift 71 = .ok (.iload 5, 2) := by decide +kernel
theorem dX12_shift_73 : decode cX12_shift 73 = .ok (.i2l, 1) := by decide +kernel
theorem dX12_shift_74 : decode cX12_shift 74 = .ok (.ladd, 1) := by decide +kernel
theorem dX12_shift_75 : decode cX12_shift 75 = .ok (.aload_n 0, 1) := by decide +kernel
theorem dX12_shift_76 : decode cX12_shift 76 = .ok (.getfield 103, 3) := by decide +kernel
theorem dX12_shift_79 : decode cX12_shift 79 = .ok (.iload_n 1, 1) := by decide +kernel
theorem dX12_shift_80 : decode cX12_shift 80 = .ok (.iaload, 1) := by decide +kernel
theorem dX12_shift_81 : decode cX12_shift 81 = .ok (.i2l, 1) := by decide +kernel
theorem dX12_shift_82 : decode cX12_shift 82 = .ok (.lcmp, 1) := by decide +kernel
theorem dX12_shift_83 : decode cX12_shift 83 = .ok (.ifCond .gt 21, 3) := by decide +kernel
theorem dX12_shift_86 : decode cX12_shift 86 = .ok (.iload 4, 2) := by decide +kernel
theorem dX12_shift_88 : decode cX12_shift 88 = .ok (.i2l, 1) := by decide +kernel
theorem dX12_shift_89 : decode cX12_shift 89 = .ok (.iload 5, 2) := by decide +kernel
theorem dX12_shift_91 : decode cX12_shift 91 = .ok (.i2l, 1) := by decide +kernel
theorem dX12_shift_92 : decode cX12_shift 92 = .ok (.ladd, 1) := by decide +kernel
theorem dX12_shift_93 : decode cX12_shift 93 = .ok (.aload_n 0, 1) := by decide +kernel
theorem dX12_shift_94 : decode cX12_shift 94 = .ok (.getfield 103, 3) := by decide +kernel
theorem dX12_shift_97 : decode cX12_shift 97 = .ok (.iload_n 3, 1) := by decide +kernel
theorem dX12_shift_98 : decode cX12_shift 98 = .ok (.iaload, 1) := by decide +kernel
theorem dX12_shift_99 : decode cX12_shift 99 = .ok (.i2l, 1) := by decide +kernel
theorem dX12_shift_100 : decode cX12_shift 100 = .ok (.lcmp, 1) := by decide +kernel
theorem dX12_shift_101 : decode cX12_shift 101 = .ok (.ifCond .le 6, 3) := by decide +kernel
theorem dX12_shift_104 : decode cX12_shift 104 = .ok (.bipush (-13), 2) := by decide +kernel
theorem dX12_shift_106 : decode cX12_shift 106 = .ok (.ireturn, 1) := by decide +kernel
theorem dX12_shift_107 : decode cX12_shift 107 = .ok (.iload_n 1, 1) := by decide +kernel
theorem dX12_shift_108 : decode cX12_shift 108 = .ok (.iload_n 3, 1) := by decide +kernel
theorem dX12_shift_109 : decode cX12_shift 109 = .ok (.if_icmp .ne 58, 3) := by decide +kernel
theorem dX12_shift_112 : decode cX12_shift 112 = .ok (.iload_n 2, 1) := by decide +kernel
theorem dX12_shift_113 : decode cX12_shift 113 = .ok (.iload 4, 2) := by decide +kernel
theorem dX12_shift_115 : decode cX12_shift 115 = .ok (.if_icmp .ge 52, 3) := by decide +kernel
theorem dX12_shift_118 : decode cX12_shift 118 = .ok (.iload 5, 2) := by decide +kernel
theorem dX12_shift_120 : decode cX12_shift 120 = .ok (.iconst 1, 1) := by decide +kernel
theorem dX12_shift_121 : decode cX12_shift 121 = .ok (.isub, 1) := by decide +kernel
theorem dX12_shift_122 : decode cX12_shift 122 = .ok (.istore 6, 2) := by decide +kernel
theorem dX12_shift_124 : decode cX12_shift 124 = .ok (.iload 6, 2) := by decide +kernel
theorem dX12_shift_126 : decode cX12_shift 126 = .ok (.ifCond .lt 38, 3) := by decide +kernel
theorem dX12_shift_129 : decode cX12_shift 129 = .ok (.aload_n 0, 1) := by decide +kernel
theorem dX12_shift_130 : decode cX12_shift 130 = .ok (.getfield 106, 3) := by decide +kernel
theorem dX12_shift_133 : decode cX12_shift 133 = .ok (.bipush 60, 2) := by decide +kernel
theorem dX12_shift_135 : decode cX12_shift 135 = .ok (.iload_n 3, 1) := by decide +kernel
theorem dX12_shift_136 : decode cX12_shift 136 = .ok (.imul, 1) := by decide +kernel
theorem dX12_shift_137 : decode cX12_shift 137 = .ok (.iload 4, 2) := by decide +kernel
theorem dX12_shift_139 : decode cX12_shift 139 = .ok (.iadd, 1) := by decide +kernel
theorem dX12_shift_140 : decode cX12_shift 140 = .ok (.iload 6, 2) := by decide +kernel
theorem dX12_shift_142 : decode cX12_shift 142 = .ok (.iadd, 1) := by decide +kernel
theorem dX12_shift_143 : decode cX12_shift 143 = .ok (.aload_n 0, 1) := by decide +kernel
theorem dX12_shift_144 : decode cX12_shift 144 = .ok (.getfield 106, 3) := by decide +kernel
theorem dX12_shift_147 : decode cX12_shift 147 = .ok (.bipush 60, 2) := by decide +kernel
theorem dX12_shift_149 : decode cX12_shift 149 = .ok (.iload_n 1, 1) := by decide +kernel
theorem dX12_shift_150 : decode cX12_shift 150 = .ok (.imul, 1) := by decide +kernel
theorem dX12_shift_151 : decode cX12_shift 151 = .ok (.iload_n 2, 1) := by decide +kernel
theorem dX12_shift_152 : decode cX12_shift 152 = .ok (.iadd, 1) := by decide +kernel
theorem dX12_shift_153 : decode cX12_shift 153 = .ok (.iload 6, 2) := by decide +kernel
theorem dX12_shift_155 : decode cX12_shift 155 = .ok (.iadd, 1) := by decide +kernel
theorem dX12_shift_156 : decode cX12_shift 156 = .ok (.laload, 1) := by decide +kernel
theorem dX12_shift_157 : decode cX12_shift 157 = .ok (.lastore, 1) := by decide +kernel
theorem dX12_shift_158 : decode cX12_shift 158 = .ok (.iinc 6 (-1), 3) := by decide +kernel
theorem dX12_shift_161 : decode cX12_shift 161 = .ok (.goto (-37), 3) := by decide +kernel
theorem dX12_shift_164 : decode cX12_shift 164 = .ok (.goto 48, 3) := by decide +kernel
theorem dX12_shift_167 : decode cX12_shift 167 = .ok (.iconst 0, 1) := by decide +kernel
theorem dX12_shift_168 : decode cX12_shift 168 = .ok (.istore 6, 2) := by decide +kernel
theorem dX12_shift_170 : decode cX12_shift 170 = .ok (.iload 6, 2) := by decide +kernel
theorem dX12_shift_172 : decode cX12_shift 172 = .ok (.iload 5, 2) := by decide +kernel
theorem dX12_shift_174 : decode cX12_shift 174 = .ok (.if_icmp .ge 38, 3) := by decide +kernel
theorem dX12_shift_177 : decode cX12_shift 177 = .ok (.aload_n 0, 1) := by decide +kernel
theorem dX12_shift_178 : decode cX12_shift 178 = .ok (.getfield 106, 3) := by decide +kernel
theorem dX12_shift_181 : decode cX12_shift 181 = .ok (.bipush 60, 2) := by decide +kernel
theorem dX12_shift_183 : decode cX12_shift 183 = .ok (.iload_n 3, 1) := by decide +kernel
theorem dX12_shift_184 : decode cX12_shift 184 = .ok (.imul, 1) := by decide +kernel
theorem dX12_shift_185 : decode cX12_shift 185 = .ok (.iload 4, 2) := by decide +kernel
theorem dX12_shift_187 : decode cX12_shift 187 = .ok (.iadd, 1) := by decide +kernel
theorem dX12_shift_188 : decode cX12_shift 188 = .ok (.iload 6, 2) := by decide +kernel
theorem dX12_shift_190 : decode cX12_shift 190 = .ok (.iadd, 1) := by decide +kernel
theorem dX12_shift_191 : decode cX12_shift 191 = .ok (.aload_n 0, 1) := by decide +kernel
theorem dX12_shift_192 : decode cX12_shift 192 = .ok (.getfield 106, 3) := by decide +kernel
theorem dX12_shift_195 : decode cX12_shift 195 = .ok (.bipush 60, 2) := by decide +kernel
theorem dX12_shift_197 : decode cX12_shift 197 = .ok (.iload_n 1, 1) := by decide +kernel
theorem dX12_shift_198 : decode cX12_shift 198 = .ok (.imul, 1) := by decide +kernel
theorem dX12_shift_199 : decode cX12_shift 199 = .ok (.iload_n 2, 1) := by decide +kernel
theorem dX12_shift_200 : decode cX12_shift 200 = .ok (.iadd, 1) := by decide +kernel
theorem dX12_shift_201 : decode cX12_shift 201 = .ok (.iload 6, 2) := by decide +kernel
theorem dX12_shift_203 : decode cX12_shift 203 = .ok (.iadd, 1) := by decide +kernel
theorem dX12_shift_204 : decode cX12_shift 204 = .ok (.laload, 1) := by decide +kernel
theorem dX12_shift_205 : decode cX12_shift 205 = .ok (.lastore, 1) := by decide +kernel
theorem dX12_shift_206 : decode cX12_shift 206 = .ok (.iinc 6 1, 3) := by decide +kernel
theorem dX12_shift_209 : decode cX12_shift 209 = .ok (.goto (-39), 3) := by decide +kernel
theorem dX12_shift_212 : decode cX12_shift 212 = .ok (.iload 5, 2) := by decide +kernel
theorem dX12_shift_214 : decode cX12_shift 214 = .ok (.ireturn, 1) := by decide +kernel
