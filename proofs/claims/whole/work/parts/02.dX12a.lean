theorem dX12_init_0 : decode cX12_init 0 = .ok (.aload_n 0, 1) := by decide +kernel
theorem dX12_init_1 : decode cX12_init 1 = .ok (.invokespecial 3, 3) := by decide +kernel
theorem dX12_init_4 : decode cX12_init 4 = .ok (.aload_n 0, 1) := by decide +kernel
theorem dX12_init_5 : decode cX12_init 5 = .ok (.iconst 4, 1) := by decide +kernel
theorem dX12_init_6 : decode cX12_init 6 = .ok (.newarray .int, 2) := by decide +kernel
theorem dX12_init_8 : decode cX12_init 8 = .ok (.putfield 9, 3) := by decide +kernel
theorem dX12_init_11 : decode cX12_init 11 = .ok (.aload_n 0, 1) := by decide +kernel
theorem dX12_init_12 : decode cX12_init 12 = .ok (.iconst 4, 1) := by decide +kernel
theorem dX12_init_13 : decode cX12_init 13 = .ok (.newarray .int, 2) := by decide +kernel
theorem dX12_init_15 : decode cX12_init 15 = .ok (.putfield 15, 3) := by decide +kernel
theorem dX12_init_18 : decode cX12_init 18 = .ok (.aload_n 0, 1) := by decide +kernel
theorem dX12_init_19 : decode cX12_init 19 = .ok (.bipush 6, 2) := by decide +kernel
theorem dX12_init_21 : decode cX12_init 21 = .ok (.newarray .int, 2) := by decide +kernel
theorem dX12_init_23 : decode cX12_init 23 = .ok (.putfield 18, 3) := by decide +kernel
theorem dX12_init_26 : decode cX12_init 26 = .ok (.aload_n 0, 1) := by decide +kernel
theorem dX12_init_27 : decode cX12_init 27 = .ok (.bipush 6, 2) := by decide +kernel
theorem dX12_init_29 : decode cX12_init 29 = .ok (.newarray .int, 2) := by decide +kernel
theorem dX12_init_31 : decode cX12_init 31 = .ok (.putfield 21, 3) := by decide +kernel
theorem dX12_init_34 : decode cX12_init 34 = .ok (.aload_n 0, 1) := by decide +kernel
theorem dX12_init_35 : decode cX12_init 35 = .ok (.bipush 6, 2) := by decide +kernel
theorem dX12_init_37 : decode cX12_init 37 = .ok (.newarray .int, 2) := by decide +kernel
theorem dX12_init_39 : decode cX12_init 39 = .ok (.putfield 24, 3) := by decide +kernel
theorem dX12_init_42 : decode cX12_init 42 = .ok (.aload_n 0, 1) := by decide +kernel
theorem dX12_init_43 : decode cX12_init 43 = .ok (.bipush 6, 2) := by decide +kernel
theorem dX12_init_45 : decode cX12_init 45 = .ok (.newarray .int, 2) := by decide +kernel
theorem dX12_init_47 : decode cX12_init 47 = .ok (.putfield 27, 3) := by decide +kernel
theorem dX12_init_50 : decode cX12_init 50 = .ok (.aload_n 0, 1) := by decide +kernel
theorem dX12_init_51 : decode cX12_init 51 = .ok (.bipush 6, 2) := by decide +kernel
theorem dX12_init_53 : decode cX12_init 53 = .ok (.newarray .int, 2) := by decide +kernel
theorem dX12_init_55 : decode cX12_init 55 = .ok (.putfield 30, 3) := by decide +kernel
theorem dX12_init_58 : decode cX12_init 58 = .ok (.aload_n 0, 1) := by decide +kernel
theorem dX12_init_59 : decode cX12_init 59 = .ok (.bipush 6, 2) := by decide +kernel
theorem dX12_init_61 : decode cX12_init 61 = .ok (.newarray .int, 2) := by decide +kernel
theorem dX12_init_63 : decode cX12_init 63 = .ok (.putfield 33, 3) := by decide +kernel
theorem dX12_init_66 : decode cX12_init 66 = .ok (.aload_n 0, 1) := by decide +kernel
theorem dX12_init_67 : decode cX12_init 67 = .ok (.bipush 24, 2) := by decide +kernel
theorem dX12_init_69 : decode cX12_init 69 = .ok (.newarray .int, 2) := by decide +kernel
theorem dX12_init_71 : decode cX12_init 71 = .ok (.putfield 36, 3) := by decide +kernel
theorem dX12_init_74 : decode cX12_init 74 = .ok (.aload_n 0, 1) := by decide +kernel
theorem dX12_init_75 : decode cX12_init 75 = .ok (.bipush 100, 2) := by decide +kernel
theorem dX12_init_77 : decode cX12_init 77 = .ok (.newarray .int, 2) := by decide +kernel
theorem dX12_init_79 : decode cX12_init 79 = .ok (.putfield 39, 3) := by decide +kernel
theorem dX12_init_82 : decode cX12_init 82 = .ok (.aload_n 0, 1) := by decide +kernel
theorem dX12_init_83 : decode cX12_init 83 = .ok (.bipush 6, 2) := by decide +kernel
theorem dX12_init_85 : decode cX12_init 85 = .ok (.newarray .int, 2) := by decide +kernel
theorem dX12_init_87 : decode cX12_init 87 = .ok (.putfield 42, 3) := by decide +kernel
theorem dX12_init_90 : decode cX12_init 90 = .ok (.aload_n 0, 1) := by decide +kernel
theorem dX12_init_91 : decode cX12_init 91 = .ok (.bipush 61, 2) := by decide +kernel
theorem dX12_init_93 : decode cX12_init 93 = .ok (.newarray .int, 2) := by decide +kernel
theorem dX12_init_95 : decode cX12_init 95 = .ok (.putfield 45, 3) := by decide +kernel
theorem dX12_init_98 : decode cX12_init 98 = .ok (.aload_n 0, 1) := by decide +kernel
theorem dX12_init_99 : decode cX12_init 99 = .ok (.bipush 61, 2) := by decide +kernel
theorem dX12_init_101 : decode cX12_init 101 = .ok (.newarray .int, 2) := by decide +kernel
theorem dX12_init_103 : decode cX12_init 103 = .ok (.putfield 48, 3) := by decide +kernel
theorem dX12_init_106 : decode cX12_init 106 = .ok (.aload_n 0, 1) := by decide +kernel
theorem dX12_init_107 : decode cX12_init 107 = .ok (.bipush 61, 2) := by decide +kernel
theorem dX12_init_109 : decode cX12_init 109 = .ok (.newarray .int, 2) := by decide +kernel
theorem dX12_init_111 : decode cX12_init 111 = .ok (.putfield 51, 3) := by decide +kernel
theorem dX12_init_114 : decode cX12_init 114 = .ok (.aload_n 0, 1) := by decide +kernel
theorem dX12_init_115 : decode cX12_init 115 = .ok (.bipush 61, 2) := by decide +kernel
theorem dX12_init_117 : decode cX12_init 117 = .ok (.newarray .int, 2) := by decide +kernel
theorem dX12_init_119 : decode cX12_init 119 = .ok (.putfield 54, 3) := by decide +kernel
theorem dX12_init_122 : decode cX12_init 122 = .ok (.aload_n 0, 1) := by decide +kernel
theorem dX12_init_123 : decode cX12_init 123 = .ok (.sipush 800, 3) := by decide +kernel
theorem dX12_init_126 : decode cX12_init 126 = .ok (.newarray .int, 2) := by decide +kernel
theorem dX12_init_128 : decode cX12_init 128 = .ok (.putfield 57, 3) := by decide +kernel
theorem dX12_init_131 : decode cX12_init 131 = .ok (.aload_n 0, 1) := by decide +kernel
theorem dX12_init_132 : decode cX12_init 132 = .ok (.bipush 110, 2) := by decide +kernel
theorem dX12_init_134 : decode cX12_init 134 = .ok (.newarray .boolean, 2) := by decide +kernel
theorem dX12_init_136 : decode cX12_init 136 = .ok (.putfield 60, 3) := by decide +kernel
theorem dX12_init_139 : decode cX12_init 139 = .ok (.aload_n 0, 1) := by decide +kernel
theorem dX12_init_140 : decode cX12_init 140 = .ok (.iconst 5, 1) := by decide +kernel
theorem dX12_init_141 : decode cX12_init 141 = .ok (.newarray .int, 2) := by decide +kernel
theorem dX12_init_143 : decode cX12_init 143 = .ok (.putfield 64, 3) := by decide +kernel
theorem dX12_init_146 : decode cX12_init 146 = .ok (.aload_n 0, 1) := by decide +kernel
theorem dX12_init_147 : decode cX12_init 147 = .ok (.iconst 5, 1) := by decide +kernel
theorem dX12_init_148 : decode cX12_init 148 = .ok (.newarray .int, 2) := by decide +kernel
theorem dX12_init_150 : decode cX12_init 150 = .ok (.putfield 67, 3) := by decide +kernel
theorem dX12_init_153 : decode cX12_init 153 = .ok (.aload_n 0, 1) := by decide +kernel
theorem dX12_init_154 : decode cX12_init 154 = .ok (.iconst 5, 1) := by decide +kernel
theorem dX12_init_155 : decode cX12_init 155 = .ok (.newarray .int, 2) := by decide +kernel
theorem dX12_init_157 : decode cX12_init 157 = .ok (.putfield 70, 3) := by decide +kernel
theorem dX12_init_160 : decode cX12_init 160 = .ok (.aload_n 0, 1) := by decide +kernel
theorem dX12_init_161 : decode cX12_init 161 = .ok (.bipush 10, 2) := by decide +kernel
theorem dX12_init_163 : decode cX12_init 163 = .ok (.newarray .int, 2) := by decide +kernel
theorem dX12_init_165 : decode cX12_init 165 = .ok (.putfield 73, 3) := by decide +kernel
theorem dX12_init_168 : decode cX12_init 168 = .ok (.aload_n 0, 1) := by decide +kernel
theorem dX12_init_169 : decode cX12_init 169 = .ok (.bipush 10, 2) := by decide +kernel
theorem dX12_init_171 : decode cX12_init 171 = .ok (.newarray .int, 2) := by decide +kernel
theorem dX12_init_173 : decode cX12_init 173 = .ok (.putfield 76, 3) := by decide +kernel
theorem dX12_init_176 : decode cX12_init 176 = .ok (.aload_n 0, 1) := by decide +kernel
theorem dX12_init_177 : decode cX12_init 177 = .ok (.bipush 8, 2) := by decide +kernel
theorem dX12_init_179 : decode cX12_init 179 = .ok (.newarray .int, 2) := by decide +kernel
theorem dX12_init_181 : decode cX12_init 181 = .ok (.putfield 79, 3) := by decide +kernel
theorem dX12_init_184 : decode cX12_init 184 = .ok (.aload_n 0, 1) := by decide +kernel
theorem dX12_init_185 : decode cX12_init 185 = .ok (.bipush 8, 2) := by decide +kernel
theorem dX12_init_187 : decode cX12_init 187 = .ok (.newarray .int, 2) := by decide +kernel
theorem dX12_init_189 : decode cX12_init 189 = .ok (.putfield 82, 3) := by decide +kernel
theorem dX12_init_192 : decode cX12_init 192 = .ok (.aload_n 0, 1) := by decide +kernel
theorem dX12_init_193 : decode cX12_init 193 = .ok (.bipush 20, 2) := by decide +kernel
theorem dX12_init_195 : decode cX12_init 195 = .ok (.newarray .int, 2) := by decide +kernel
theorem dX12_init_197 : decode cX12_init 197 = .ok (.putfield 85, 3) := by decide +kernel
theorem dX12_init_200 : decode cX12_init 200 = .ok (.aload_n 0, 1) := by decide +kernel
theorem dX12_init_201 : decode cX12_init 201 = .ok (.bipush 125, 2) := by decide +kernel
theorem dX12_init_203 : decode cX12_init 203 = .ok (.newarray .int, 2) := by decide +kernel
theorem dX12_init_205 : decode cX12_init 205 = .ok (.putfield 88, 3) := by decide +kernel
theorem dX12_init_208 : decode cX12_init 208 = .ok (.aload_n 0, 1) := by decide +kernel
theorem dX12_init_209 : decode cX12_init 209 = .ok (.bipush 125, 2) := by decide +kernel
theorem dX12_init_211 : decode cX12_init 211 = .ok (.newarray .int, 2) := by decide +kernel
theorem dX12_init_213 : decode cX12_init 213 = .ok (.putfield 91, 3) := by decide +kernel
theorem dX12_init_216 : decode cX12_init 216 = .ok (.aload_n 0, 1) := by decide +kernel
theorem dX12_init_217 : decode cX12_init 217 = .ok (.iconst 3, 1) := by decide +kernel
theorem dX12_init_218 : decode cX12_init 218 = .ok (.newarray .int, 2) := by decide +kernel
theorem dX12_init_220 : decode cX12_init 220 = .ok (.putfield 94, 3) := by decide +kernel
theorem dX12_init_223 : decode cX12_init 223 = .ok (.aload_n 0, 1) := by decide +kernel
theorem dX12_init_224 : decode cX12_init 224 = .ok (.iconst 3, 1) := by decide +kernel
theorem dX12_init_225 : decode cX12_init 225 = .ok (.newarray .int, 2) := by decide +kernel
theorem dX12_init_227 : decode cX12_init 227 = .ok (.putfield 97, 3) := by decide +kernel
theorem dX12_init_230 : decode cX12_init 230 = .ok (.aload_n 0, 1) := by decide +kernel
theorem dX12_init_231 : decode cX12_init 231 = .ok (.bipush 6, 2) := by decide +kernel
theorem dX12_init_233 : decode cX12_init 233 = .ok (.newarray .int, 2) := by decide +kernel
theorem dX12_init_235 : decode cX12_init 235 = .ok (.putfield 100, 3) := by decide +kernel
theorem dX12_init_238 : decode cX12_init 238 = .ok (.aload_n 0, 1) := by decide +kernel
theorem dX12_init_239 : decode cX12_init 239 = .ok (.bipush 6, 2) := by decide +kernel
theorem dX12_init_241 : decode cX12_init 241 = .ok (.newarray .int, 2) := by decide +kernel
theorem dX12_init_243 : decode cX12_init 243 = .ok (.putfield 103, 3) := by decide +kernel
theorem dX12_init_246 : decode cX12_init 246 = .ok (.aload_n 0, 1) := by decide +kernel
theorem dX12_init_247 : decode cX12_init 247 = .ok (.sipush 360, 3) := by decide +kernel
theorem dX12_init_250 : decode cX12_init 250 = .ok (.newarray .long, 2) := by decide +kernel
theorem dX12_init_252 : decode cX12_init 252 = .ok (.putfield 106, 3) := by decide +kernel
theorem dX12_init_255 : decode cX12_init 255 = .ok (.aload_n 0, 1) := by decide +kernel
theorem dX12_init_256 : decode cX12_init 256 = .ok (.iconst (-1), 1) := by decide +kernel
theorem dX12_init_257 : decode cX12_init 257 = .ok (.putfield 110, 3) := by decide +kernel
theorem dX12_init_260 : decode cX12_init 260 = .ok (.iconst 0, 1) := by decide +kernel
theorem dX12_init_261 : decode cX12_init 261 = .ok (.istore_n 1, 1) := by decide +kernel
theorem dX12_init_262 : decode cX12_init 262 = .ok (.iload_n 1, 1) := by decide +kernel
theorem dX12_init_263 : decode cX12_init 263 = .ok (.bipush 6, 2) := by decide +kernel
theorem dX12_init_265 : decode cX12_init 265 = .ok (.if_icmp .ge 16, 3) := by decide +kernel
theorem dX12_init_268 : decode cX12_init 268 = .ok (.aload_n 0, 1) := by decide +kernel
theorem dX12_init_269 : decode cX12_init 269 = .ok (.getfield 100, 3) := by decide +kernel
theorem dX12_init_272 : decode cX12_init 272 = .ok (.iload_n 1, 1) := by decide +kernel
theorem dX12_init_273 : decode cX12_init 273 = .ok (.iconst (-1), 1) := by decide +kernel
theorem dX12_init_274 : decode cX12_init 274 = .ok (.iastore, 1) := by decide +kernel
theorem dX12_init_275 : decode cX12_init 275 = .ok (.iinc 1 1, 3) := by decide +kernel
theorem dX12_init_278 : decode cX12_init 278 = .ok (.goto (-16), 3) := by decide +kernel
theorem dX12_init_281 : decode cX12_init 281 = .ok (.return_, 1) := by decide +kernel
theorem dX12_within_0 : decode cX12_within 0 = .ok (.iload_n 0, 1) := by decide +kernel
theorem dX12_within_1 : decode cX12_within 1 = .ok (.iload_n 1, 1) := by decide +kernel
theorem dX12_within_2 : decode cX12_within 2 = .ok (.if_icmp .lt 12, 3) := by decide +kernel
theorem dX12_within_5 : decode cX12_within 5 = .ok (.iload_n 0, 1) := by decide +kernel
theorem dX12_within_6 : decode cX12_within 6 = .ok (.iload_n 2, 1) := by decide +kernel
theorem dX12_within_7 : decode cX12_within 7 = .ok (.if_icmp .gt 7, 3) := by decide +kernel
theorem dX12_within_10 : decode cX12_within 10 = .ok (.iconst 1, 1) := by decide +kernel
theorem dX12_within_11 : decode cX12_within 11 = .ok (.goto 4, 3) := by decide +kernel
theorem dX12_within_14 : decode cX12_within 14 = .ok (.iconst 0, 1) := by decide +kernel
theorem dX12_within_15 : decode cX12_within 15 = .ok (.ireturn, 1) := by decide +kernel
theorem dX12_isOne_0 : decode cX12_isOne 0 = .ok (.iload_n 1, 1) := by decide +kernel
theorem dX12_isOne_1 : decode cX12_isOne 1 = .ok (.iconst 0, 1) := by decide +kernel
theorem dX12_isOne_2 : decode cX12_isOne 2 = .ok (.aload_n 0, 1) := by decide +kernel
theorem dX12_isOne_3 : decode cX12_isOne 3 = .ok (.getfield 114, 3) := by decide +kernel
theorem dX12_isOne_6 : decode cX12_isOne 6 = .ok (.iconst 1, 1) := by decide +kernel
theorem dX12_isOne_7 : decode cX12_isOne 7 = .ok (.isub, 1) := by decide +kernel
theorem dX12_isOne_8 : decode cX12_isOne 8 = .ok (.invokestatic 117, 3) := by decide +kernel
theorem dX12_isOne_11 : decode cX12_isOne 11 = .ok (.ireturn, 1) := by decide +kernel
theorem dX12_isPerson_0 : decode cX12_isPerson 0 = .ok (.iload_n 0, 1) := by decide +kernel
theorem dX12_isPerson_1 : decode cX12_isPerson 1 = .ok (.iconst 0, 1) := by decide +kernel
theorem dX12_isPerson_2 : decode cX12_isPerson 2 = .ok (.iconst 3, 1) := by decide +kernel
theorem dX12_isPerson_3 : decode cX12_isPerson 3 = .ok (.invokestatic 117, 3) := by decide +kernel
theorem dX12_isPerson_6 : decode cX12_isPerson 6 = .ok (.ireturn, 1) := by decide +kernel
theorem dX12_has_0 : decode cX12_has 0 = .ok (.iload_n 0, 1) := by decide +kernel
theorem dX12_has_1 : decode cX12_has 1 = .ok (.iload_n 1, 1) := by decide +kernel
theorem dX12_has_2 : decode cX12_has 2 = .ok (.ishr, 1) := by decide +kernel
theorem dX12_has_3 : decode cX12_has 3 = .ok (.iconst 1, 1) := by decide +kernel
theorem dX12_has_4 : decode cX12_has 4 = .ok (.iand, 1) := by decide +kernel
theorem dX12_has_5 : decode cX12_has 5 = .ok (.iconst 1, 1) := by decide +kernel
theorem dX12_has_6 : decode cX12_has 6 = .ok (.if_icmp .ne 7, 3) := by decide +kernel
theorem dX12_has_9 : decode cX12_has 9 = .ok (.iconst 1, 1) := by decide +kernel
theorem dX12_has_10 : decode cX12_has 10 = .ok (.goto 4, 3) := by decide +kernel
theorem dX12_has_13 : decode cX12_has 13 = .ok (.iconst 0, 1) := by decide +kernel
theorem dX12_has_14 : decode cX12_has 14 = .ok (.ireturn, 1) := by decide +kernel
theorem dX12_rocket_0 : decode cX12_rocket 0 = .ok (.iload_n 1, 1) := by decide +kernel
theorem dX12_rocket_1 : decode cX12_rocket 1 = .ok (.iconst 0, 1) := by decide +kernel
theorem dX12_rocket_2 : decode cX12_rocket 2 = .ok (.bipush 6, 2) := by decide +kernel
theorem dX12_rocket_4 : decode cX12_rocket 4 = .ok (.invokestatic 117, 3) := by decide +kernel
theorem dX12_rocket_7 : decode cX12_rocket 7 = .ok (.ifCond .eq 11, 3) := by decide +kernel
theorem dX12_rocket_10 : decode cX12_rocket 10 = .ok (.iload 4, 2) := by decide +kernel
theorem dX12_rocket_12 : decode cX12_rocket 12 = .ok (.invokestatic 121, 3) := by decide +kernel
theorem dX12_rocket_15 : decode cX12_rocket 15 = .ok (.ifCond .ne 5, 3) := by decide +kernel
theorem dX12_rocket_18 : decode cX12_rocket 18 = .ok (.iconst (-1), 1) := by decide +kernel
theorem dX12_rocket_19 : decode cX12_rocket 19 = .ok (.ireturn, 1) := by decide +kernel
theorem dX12_rocket_20 : decode cX12_rocket 20 = .ok (.iload_n 2, 1) := by decide +kernel
theorem dX12_rocket_21 : decode cX12_rocket 21 = .ok (.iconst 0, 1) := by decide +kernel
theorem dX12_rocket_22 : decode cX12_rocket 22 = .ok (.bipush 9, 2) := by decide +kernel
theorem dX12_rocket_24 : decode cX12_rocket 24 = .ok (.invokestatic 117, 3) := by decide +kernel
theorem dX12_rocket_27 : decode cX12_rocket 27 = .ok (.ifCond .eq 13, 3) := by decide +kernel
theorem dX12_rocket_30 : decode cX12_rocket 30 = .ok (.iload_n 3, 1) := by decide +kernel
theorem dX12_rocket_31 : decode cX12_rocket 31 = .ok (.iconst 0, 1) := by decide +kernel
theorem dX12_rocket_32 : decode cX12_rocket 32 = .ok (.bipush 20, 2) := by decide +kernel
theorem dX12_rocket_34 : decode cX12_rocket 34 = .ok (.invokestatic 117, 3) := by decide +kernel
theorem dX12_rocket_37 : decode cX12_rocket 37 = .ok (.ifCond .ne 6, 3) := by decide +kernel
theorem dX12_rocket_40 : decode cX12_rocket 40 = .ok (.bipush (-2), 2) := by decide +kernel
theorem dX12_rocket_42 : decode cX12_rocket 42 = .ok (.ireturn, 1) := by decide +kernel
theorem dX12_rocket_43 : decode cX12_rocket 43 = .ok (.aload_n 0, 1) := by decide +kernel
theorem dX12_rocket_44 : decode cX12_rocket 44 = .ok (.getfield 114, 3) := by decide +kernel
theorem dX12_rocket_47 : decode cX12_rocket 47 = .ok (.bipush 6, 2) := by decide +kernel
theorem dX12_rocket_49 : decode cX12_rocket 49 = .ok (.if_icmp .ne 6, 3) := by decide +kernel
theorem dX12_rocket_52 : decode cX12_rocket 52 = .ok (.bipush (-4), 2) := by decide +kernel
theorem dX12_rocket_54 : decode cX12_rocket 54 = .ok (.ireturn, 1) := by decide +kernel
theorem dX12_rocket_55 : decode cX12_rocket 55 = .ok (.aload_n 0, 1) := by decide +kernel
theorem dX12_rocket_56 : decode cX12_rocket 56 = .ok (.getfield 18, 3) := by decide +kernel
theorem dX12_rocket_59 : decode cX12_rocket 59 = .ok (.aload_n 0, 1) := by decide +kernel
theorem dX12_rocket_60 : decode cX12_rocket 60 = .ok (.getfield 114, 3) := by decide +kernel
theorem dX12_rocket_63 : decode cX12_rocket 63 = .ok (.iload_n 1, 1) := by decide +kernel
theorem dX12_rocket_64 : decode cX12_rocket 64 = .ok (.iastore, 1) := by decide +kernel
theorem dX12_rocket_65 : decode cX12_rocket 65 = .ok (.aload_n 0, 1) := by decide +kernel
theorem dX12_rocket_66 : decode cX12_rocket 66 = .ok (.getfield 21, 3) := by decide +kernel
theorem dX12_rocket_69 : decode cX12_rocket 69 = .ok (.aload_n 0, 1) := by decide +kernel
theorem dX12_rocket_70 : decode cX12_rocket 70 = .ok (.getfield 114, 3) := by decide +kernel
theorem dX12_rocket_73 : decode cX12_rocket 73 = .ok (.iload_n 2, 1) := by decide +kernel
theorem dX12_rocket_74 : decode cX12_rocket 74 = .ok (.iastore, 1) := by decide +kernel
theorem dX12_rocket_75 : decode cX12_rocket 75 = .ok (.aload_n 0, 1) := by decide +kernel
theorem dX12_rocket_76 : decode cX12_rocket 76 = .ok (.getfield 24, 3) := by decide +kernel
theorem dX12_rocket_79 : decode cX12_rocket 79 = .ok (.aload_n 0, 1) := by decide +kernel
theorem dX12_rocket_80 : decode cX12_rocket 80 = .ok (.getfield 114, 3) := by decide +kernel
theorem dX12_rocket_83 : decode cX12_rocket 83 = .ok (.iload_n 3, 1) := by decide +kernel
theorem dX12_rocket_84 : decode cX12_rocket 84 = .ok (.iastore, 1) := by decide +kernel
theorem dX12_rocket_85 : decode cX12_rocket 85 = .ok (.aload_n 0, 1) := by decide +kernel
theorem dX12_rocket_86 : decode cX12_rocket 86 = .ok (.getfield 27, 3) := by decide +kernel
theorem dX12_rocket_89 : decode cX12_rocket 89 = .ok (.aload_n 0, 1) := by decide +kernel
theorem dX12_rocket_90 : decode cX12_rocket 90 = .ok (.getfield 114, 3) := by decide +kernel
theorem dX12_rocket_93 : decode cX12_rocket 93 = .ok (.iload 4, 2) := by decide +kernel
theorem dX12_rocket_95 : decode cX12_rocket 95 = .ok (.iastore, 1) := by decide +kernel
theorem dX12_rocket_96 : decode cX12_rocket 96 = .ok (.aload_n 0, 1) := by decide +kernel
theorem dX12_rocket_97 : decode cX12_rocket 97 = .ok (.getfield 30, 3) := by decide +kernel
theorem dX12_rocket_100 : decode cX12_rocket 100 = .ok (.aload_n 0, 1) := by decide +kernel
theorem dX12_rocket_101 : decode cX12_rocket 101 = .ok (.getfield 114, 3) := by decide +kernel
theorem dX12_rocket_104 : decode cX12_rocket 104 = .ok (.iconst 0, 1) := by decide +kernel
theorem dX12_rocket_105 : decode cX12_rocket 105 = .ok (.iastore, 1) := by decide +kernel
theorem dX12_rocket_106 : decode cX12_rocket 106 = .ok (.aload_n 0, 1) := by decide +kernel
theorem dX12_rocket_107 : decode cX12_rocket 107 = .ok (.getfield 33, 3) := by decide +kernel
theorem dX12_rocket_110 : decode cX12_rocket 110 = .ok (.aload_n 0, 1) := by decide +kernel
theorem dX12_rocket_111 : decode cX12_rocket 111 = .ok (.getfield 114, 3) := by decide +kernel
theorem dX12_rocket_114 : decode cX12_rocket 114 = .ok (.iconst 0, 1) := by decide +kernel
theorem dX12_rocket_115 : decode cX12_rocket 115 = .ok (.iastore, 1) := by decide +kernel
theorem dX12_rocket_116 : decode cX12_rocket 116 = .ok (.iconst 0, 1) := by decide +kernel
theorem dX12_rocket_117 : decode cX12_rocket 117 = .ok (.istore 5, 2) := by decide +kernel
theorem dX12_rocket_119 : decode cX12_rocket 119 = .ok (.iload 5, 2) := by decide +kernel
theorem dX12_rocket_121 : decode cX12_rocket 121 = .ok (.iconst 4, 1) := by decide +kernel
theorem dX12_rocket_122 : decode cX12_rocket 122 = .ok (.if_icmp .ge 24, 3) := by decide +kernel
theorem dX12_rocket_125 : decode cX12_rocket 125 = .ok (.aload_n 0, 1) := by decide +kernel
theorem dX12_rocket_126 : decode cX12_rocket 126 = .ok (.getfield 36, 3) := by decide +kernel
theorem dX12_rocket_129 : decode cX12_rocket 129 = .ok (.iconst 4, 1) := by decide +kernel
theorem dX12_rocket_130 : decode cX12_rocket 130 = .ok (.aload_n 0, 1) := by decide +kernel
theorem dX12_rocket_131 : decode cX12_rocket 131 = .ok (.getfield 114, 3) := by decide +kernel
theorem dX12_rocket_134 : decode cX12_rocket 134 = .ok (.imul, 1) := by decide +kernel
theorem dX12_rocket_135 : decode cX12_rocket 135 = .ok (.iload 5, 2) := by decide +kernel
theorem dX12_rocket_137 : decode cX12_rocket 137 = .ok (.iadd, 1) := by decide +kernel
theorem dX12_rocket_138 : decode cX12_rocket 138 = .ok (.iconst 0, 1) := by decide +kernel
theorem dX12_rocket_139 : decode cX12_rocket 139 = .ok (.iastore, 1) := by decide +kernel
theorem dX12_rocket_140 : decode cX12_rocket 140 = .ok (.iinc 5 1, 3) := by decide +kernel
theorem dX12_rocket_143 : decode cX12_rocket 143 = .ok (.goto (-24), 3) := by decide +kernel
theorem dX12_rocket_146 : decode cX12_rocket 146 = .ok (.aload_n 0, 1) := by decide +kernel
theorem dX12_rocket_147 : decode cX12_rocket 147 = .ok (.dup, 1) := by decide +kernel
theorem dX12_rocket_148 : decode cX12_rocket 148 = .ok (.getfield 114, 3) := by decide +kernel
theorem dX12_rocket_151 : decode cX12_rocket 151 = .ok (.dup_x1, 1) := by decide +kernel
theorem dX12_rocket_152 : decode cX12_rocket 152 = .ok (.iconst 1, 1) := by decide +kernel
theorem dX12_rocket_153 : decode cX12_rocket 153 = .ok (.iadd, 1) := by decide +kernel
theorem dX12_rocket_154 : decode cX12_rocket 154 = .ok (.putfield 114, 3) := by decide +kernel
theorem dX12_rocket_157 : decode cX12_rocket 157 = .ok (.ireturn, 1) := by decide +kernel
theorem dX12_of_0 : decode cX12_of 0 = .ok (.aload_n 0, 1) := by decide +kernel
theorem dX12_of_1 : decode cX12_of 1 = .ok (.iload_n 1, 1) := by decide +kernel
theorem dX12_of_2 : decode cX12_of 2 = .ok (.invokevirtual 125, 3) := by decide +kernel
theorem dX12_of_5 : decode cX12_of 5 = .ok (.ifCond .ne 7, 3) := by decide +kernel
theorem dX12_of_8 : decode cX12_of 8 = .ok (.sipush (-10001), 3) := by decide +kernel
theorem dX12_of_11 : decode cX12_of 11 = .ok (.ireturn, 1) := by decide +kernel
theorem dX12_of_12 : decode cX12_of 12 = .ok (.iload_n 2, 1) := by decide +kernel
theorem dX12_of_13 : decode cX12_of 13 = .ok (.tableswitch 133 0 10 #[59, 66, 73, 80, 87, 94, 101, 107, 114, 121, 127], 59) := by decide +kernel
theorem dX12_of_72 : decode cX12_of 72 = .ok (.aload_n 0, 1) := by decide +kernel
theorem dX12_of_73 : decode cX12_of 73 = .ok (.getfield 18, 3) := by decide +kernel
theorem dX12_of_76 : decode cX12_of 76 = .ok (.iload_n 1, 1) := by decide +kernel
theorem dX12_of_77 : decode cX12_of 77 = .ok (.iaload, 1) := by decide +kernel
theorem dX12_of_78 : decode cX12_of 78 = .ok (.ireturn, 1) := by decide +kernel
theorem dX12_of_79 : decode cX12_of 79 = .ok (.aload_n 0, 1) := by decide +kernel
theorem dX12_of_80 : decode cX12_of 80 = .ok (.getfield 21, 3) := by decide +kernel
theorem dX12_of_83 : decode cX12_of 83 = .ok (.iload_n 1, 1) := by decide +kernel
theorem dX12_of_84 : decode cX12_of 84 = .ok (.iaload, 1) := by decide +kernel
theorem dX12_of_85 : decode cX12_of 85 = .ok (.ireturn, 1) := by decide +kernel
theorem dX12_of_86 : decode cX12_of 86 = .ok (.aload_n 0, 1) := by decide +kernel
theorem dX12_of_87 : decode cX12_of 87 = .ok (.getfield 24, 3) := by decide +kernel
theorem dX12_of_90 : decode cX12_of 90 = .ok (.iload_n 1, 1) := by decide +kernel
theorem dX12_of_91 : decode cX12_of 91 = .ok (.iaload, 1) := by decide +kernel
theorem dX12_of_92 : decode cX12_of 92 = .ok (.ireturn, 1) := by decide +kernel
theorem dX12_of_93 : decode cX12_of 93 = .ok (.aload_n 0, 1) := by decide +kernel
theorem dX12_of_94 : decode cX12_of 94 = .ok (.getfield 27, 3) := by decide +kernel
theorem dX12_of_97 : decode cX12_of 97 = .ok (.iload_n 1, 1) := by decide +kernel
theorem dX12_of_98 : decode cX12_of 98 = .ok (.iaload, 1) := by decide +kernel
theorem dX12_of_99 : decode cX12_of 99 = .ok (.ireturn, 1) := by decide +kernel
theorem dX12_of_100 : decode cX12_of 100 = .ok (.aload_n 0, 1) := by decide +kernel
theorem dX12_of_101 : decode cX12_of 101 = .ok (.getfield 30, 3) := by decide +kernel
theorem dX12_of_104 : decode cX12_of 104 = .ok (.iload_n 1, 1) := by decide +kernel
theorem dX12_of_105 : decode cX12_of 105 = .ok (.iaload, 1) := by decide +kernel
theorem dX12_of_106 : decode cX12_of 106 = .ok (.ireturn, 1) := by decide +kernel
theorem dX12_of_107 : decode cX12_of 107 = .ok (.aload_n 0, 1) := by decide +kernel
theorem dX12_of_108 : decode cX12_of 108 = .ok (.getfield 33, 3) := by decide +kernel
theorem dX12_of_111 : decode cX12_of 111 = .ok (.iload_n 1, 1) := by decide +kernel
theorem dX12_of_112 : decode cX12_of 112 = .ok (.iaload, 1) := by decide +kernel
theorem dX12_of_113 : decode cX12_of 113 = .ok (.ireturn, 1) := by decide +kernel
theorem dX12_of_114 : decode cX12_of 114 = .ok (.aload_n 0, 1) := by decide +kernel
theorem dX12_of_115 : decode cX12_of 115 = .ok (.iload_n 1, 1) := by decide +kernel
theorem dX12_of_116 : decode cX12_of 116 = .ok (.invokevirtual 128, 3) := by decide +kernel
theorem dX12_of_119 : decode cX12_of 119 = .ok (.ireturn, 1) := by decide +kernel
theorem dX12_of_120 : decode cX12_of 120 = .ok (.aload_n 0, 1) := by decide +kernel
theorem dX12_of_121 : decode cX12_of 121 = .ok (.iload_n 1, 1) := by decide +kernel
theorem dX12_of_122 : decode cX12_of 122 = .ok (.iconst 0, 1) := by decide +kernel
theorem dX12_of_123 : decode cX12_of 123 = .ok (.invokevirtual 132, 3) := by decide +kernel
theorem dX12_of_126 : decode cX12_of 126 = .ok (.ireturn, 1) := by decide +kernel
theorem dX12_of_127 : decode cX12_of 127 = .ok (.aload_n 0, 1) := by decide +kernel
theorem dX12_of_128 : decode cX12_of 128 = .ok (.iload_n 1, 1) := by decide +kernel
theorem dX12_of_129 : decode cX12_of 129 = .ok (.iconst 1, 1) := by decide +kernel
theorem dX12_of_130 : decode cX12_of 130 = .ok (.invokevirtual 132, 3) := by decide +kernel
theorem dX12_of_133 : decode cX12_of 133 = .ok (.ireturn, 1) := by decide +kernel
theorem dX12_of_134 : decode cX12_of 134 = .ok (.aload_n 0, 1) := by decide +kernel
theorem dX12_of_135 : decode cX12_of 135 = .ok (.iload_n 1, 1) := by decide +kernel
theorem dX12_of_136 : decode cX12_of 136 = .ok (.invokevirtual 136, 3) := by decide +kernel
theorem dX12_of_139 : decode cX12_of 139 = .ok (.ireturn, 1) := by decide +kernel
theorem dX12_of_140 : decode cX12_of 140 = .ok (.aload_n 0, 1) := by decide +kernel
theorem dX12_of_141 : decode cX12_of 141 = .ok (.iload_n 1, 1) := by decide +kernel
theorem dX12_of_142 : decode cX12_of 142 = .ok (.invokevirtual 139, 3) := by decide +kernel
theorem dX12_of_145 : decode cX12_of 145 = .ok (.ireturn, 1) := by decide +kernel
theorem dX12_of_146 : decode cX12_of 146 = .ok (.sipush (-10001), 3) := by decide +kernel
theorem dX12_of_149 : decode cX12_of 149 = .ok (.ireturn, 1) := by decide +kernel
theorem dX12_set_0 : decode cX12_set 0 = .ok (.aload_n 0, 1) := by decide +kernel
theorem dX12_set_1 : decode cX12_set 1 = .ok (.iload_n 1, 1) := by decide +kernel
theorem dX12_set_2 : decode cX12_set 2 = .ok (.invokevirtual 125, 3) := by decide +kernel
theorem dX12_set_5 : decode cX12_set 5 = .ok (.ifCond .eq 12, 3) := by decide +kernel
theorem dX12_set_8 : decode cX12_set 8 = .ok (.iload_n 2, 1) := by decide +kernel
theorem dX12_set_9 : decode cX12_set 9 = .ok (.iconst 0, 1) := by decide +kernel
theorem dX12_set_10 : decode cX12_set 10 = .ok (.iconst 2, 1) := by decide +kernel
theorem dX12_set_11 : decode cX12_set 11 = .ok (.invokestatic 117, 3) := by decide +kernel
theorem dX12_set_14 : decode cX12_set 14 = .ok (.ifCond .ne 5, 3) := by decide +kernel
theorem dX12_set_17 : decode cX12_set 17 = .ok (.iconst (-1), 1) := by decide +kernel
theorem dX12_set_18 : decode cX12_set 18 = .ok (.ireturn, 1) := by decide +kernel
theorem dX12_set_19 : decode cX12_set 19 = .ok (.iload_n 3, 1) := by decide +kernel
theorem dX12_set_20 : decode cX12_set 20 = .ok (.iconst 0, 1) := by decide +kernel
theorem dX12_set_21 : decode cX12_set 21 = .ok (.iload_n 2, 1) := by decide +kernel
theorem dX12_set_22 : decode cX12_set 22 = .ok (.ifCond .ne 8, 3) := by decide +kernel
theorem dX12_set_25 : decode cX12_set 25 = .ok (.bipush 20, 2) := by decide +kernel
theorem dX12_set_27 : decode cX12_set 27 = .ok (.goto 14, 3) := by decide +kernel
theorem dX12_set_30 : decode cX12_set 30 = .ok (.iload_n 2, 1) := by decide +kernel
theorem dX12_set_31 : decode cX12_set 31 = .ok (.iconst 1, 1) := by decide +kernel
theorem dX12_set_32 : decode cX12_set 32 = .ok (.if_icmp .ne 8, 3) := by decide +kernel
theorem dX12_set_35 : decode cX12_set 35 = .ok (.bipush 99, 2) := by decide +kernel
theorem dX12_set_37 : decode cX12_set 37 = .ok (.goto 4, 3) := by decide +kernel
theorem dX12_set_40 : decode cX12_set 40 = .ok (.iconst 3, 1) := by decide +kernel
theorem dX12_set_41 : decode cX12_set 41 = .ok (.invokestatic 117, 3) := by decide +kernel
theorem dX12_set_44 : decode cX12_set 44 = .ok (.ifCond .ne 6, 3) := by decide +kernel
theorem dX12_set_47 : decode cX12_set 47 = .ok (.bipush (-2), 2) := by decide +kernel
theorem dX12_set_49 : decode cX12_set 49 = .ok (.ireturn, 1) := by decide +kernel
theorem dX12_set_50 : decode cX12_set 50 = .ok (.iload_n 2, 1) := by decide +kernel
theorem dX12_set_51 : decode cX12_set 51 = .ok (.ifCond .ne 12, 3) := by decide +kernel
theorem dX12_set_54 : decode cX12_set 54 = .ok (.aload_n 0, 1) := by decide +kernel
theorem dX12_set_55 : decode cX12_set 55 = .ok (.getfield 24, 3) := by decide +kernel
theorem dX12_set_58 : decode cX12_set 58 = .ok (.iload_n 1, 1) := by decide +kernel
theorem dX12_set_59 : decode cX12_set 59 = .ok (.iaload, 1) := by decide +kernel
theorem dX12_set_60 : decode cX12_set 60 = .ok (.goto 23, 3) := by decide +kernel
theorem dX12_set_63 : decode cX12_set 63 = .ok (.iload_n 2, 1) := by decide +kernel
theorem dX12_set_64 : decode cX12_set 64 = .ok (.iconst 1, 1) := by decide +kernel
theorem dX12_set_65 : decode cX12_set 65 = .ok (.if_icmp .ne 12, 3) := by decide +kernel
theorem dX12_set_68 : decode cX12_set 68 = .ok (.aload_n 0, 1) := by decide +kernel
theorem dX12_set_69 : decode cX12_set 69 = .ok (.getfield 30, 3) := by decide +kernel
theorem dX12_set_72 : decode cX12_set 72 = .ok (.iload_n 1, 1) := by decide +kernel
theorem dX12_set_73 : decode cX12_set 73 = .ok (.iaload, 1) := by decide +kernel
theorem dX12_set_74 : decode cX12_set 74 = .ok (.goto 9, 3) := by decide +kernel
theorem dX12_set_77 : decode cX12_set 77 = .ok (.aload_n 0, 1) := by decide +kernel
theorem dX12_set_78 : decode cX12_set 78 = .ok (.getfield 27, 3) := by decide +kernel
theorem dX12_set_81 : decode cX12_set 81 = .ok (.iload_n 1, 1) := by decide +kernel
theorem dX12_set_82 : decode cX12_set 82 = .ok (.iaload, 1) := by decide +kernel
theorem dX12_set_83 : decode cX12_set 83 = .ok (.istore 4, 2) := by decide +kernel
theorem dX12_set_85 : decode cX12_set 85 = .ok (.iload_n 2, 1) := by decide +kernel
theorem dX12_set_86 : decode cX12_set 86 = .ok (.ifCond .ne 13, 3) := by decide +kernel
theorem dX12_set_89 : decode cX12_set 89 = .ok (.aload_n 0, 1) := by decide +kernel
theorem dX12_set_90 : decode cX12_set 90 = .ok (.getfield 24, 3) := by decide +kernel
theorem dX12_set_93 : decode cX12_set 93 = .ok (.iload_n 1, 1) := by decide +kernel
theorem dX12_set_94 : decode cX12_set 94 = .ok (.iload_n 3, 1) := by decide +kernel
theorem dX12_set_95 : decode cX12_set 95 = .ok (.iastore, 1) := by decide +kernel
theorem dX12_set_96 : decode cX12_set 96 = .ok (.goto 25, 3) := by decide +kernel
theorem dX12_set_99 : decode cX12_set 99 = .ok (.iload_n 2, 1) := by decide +kernel
theorem dX12_set_100 : decode cX12_set 100 = .ok (.iconst 1, 1) := by decide +kernel
theorem dX12_set_101 : decode cX12_set 101 = .ok (.if_icmp .ne 13, 3) := by decide +kernel
theorem dX12_set_104 : decode cX12_set 104 = .ok (.aload_n 0, 1) := by decide +kernel
theorem dX12_set_105 : decode cX12_set 105 = .ok (.getfield 30, 3) := by decide +kernel
theorem dX12_set_108 : decode cX12_set 108 = .ok (.iload_n 1, 1) := by decide +kernel
theorem dX12_set_109 : decode cX12_set 109 = .ok (.iload_n 3, 1) := by decide +kernel
theorem dX12_set_110 : decode cX12_set 110 = .ok (.iastore, 1) := by decide +kernel
theorem dX12_set_111 : decode cX12_set 111 = .ok (.goto 10, 3) := by decide +kernel
theorem dX12_set_114 : decode cX12_set 114 = .ok (.aload_n 0, 1) := by decide +kernel
theorem dX12_set_115 : decode cX12_set 115 = .ok (.getfield 27, 3) := by decide +kernel
theorem dX12_set_118 : decode cX12_set 118 = .ok (.iload_n 1, 1) := by decide +kernel
theorem dX12_set_119 : decode cX12_set 119 = .ok (.iload_n 3, 1) := by decide +kernel
theorem dX12_set_120 : decode cX12_set 120 = .ok (.iastore, 1) := by decide +kernel
theorem dX12_set_121 : decode cX12_set 121 = .ok (.iload 4, 2) := by decide +kernel
theorem dX12_set_123 : decode cX12_set 123 = .ok (.ireturn, 1) := by decide +kernel
theorem dX12_light_0 : decode cX12_light 0 = .ok (.aload_n 0, 1) := by decide +kernel
theorem dX12_light_1 : decode cX12_light 1 = .ok (.iload_n 1, 1) := by decide +kernel
theorem dX12_light_2 : decode cX12_light 2 = .ok (.invokevirtual 125, 3) := by decide +kernel
theorem dX12_light_5 : decode cX12_light 5 = .ok (.ifCond .ne 5, 3) := by decide +kernel
theorem dX12_light_8 : decode cX12_light 8 = .ok (.iconst (-1), 1) := by decide +kernel
theorem dX12_light_9 : decode cX12_light 9 = .ok (.ireturn, 1) := by decide +kernel
theorem dX12_light_10 : decode cX12_light 10 = .ok (.aload_n 0, 1) := by decide +kernel
theorem dX12_light_11 : decode cX12_light 11 = .ok (.getfield 33, 3) := by decide +kernel
theorem dX12_light_14 : decode cX12_light 14 = .ok (.iload_n 1, 1) := by decide +kernel
theorem dX12_light_15 : decode cX12_light 15 = .ok (.iaload, 1) := by decide +kernel
theorem dX12_light_16 : decode cX12_light 16 = .ok (.ifCond .eq 6, 3) := by decide +kernel
theorem dX12_light_19 : decode cX12_light 19 = .ok (.bipush (-3), 2) := by decide +kernel
theorem dX12_light_21 : decode cX12_light 21 = .ok (.ireturn, 1) := by decide +kernel
theorem dX12_light_22 : decode cX12_light 22 = .ok (.aload_n 0, 1) := by decide +kernel
theorem dX12_light_23 : decode cX12_light 23 = .ok (.iload_n 1, 1) := by decide +kernel
theorem dX12_light_24 : decode cX12_light 24 = .ok (.invokevirtual 142, 3) := by decide +kernel
theorem dX12_light_27 : decode cX12_light 27 = .ok (.aload_n 0, 1) := by decide +kernel
theorem dX12_light_28 : decode cX12_light 28 = .ok (.getfield 33, 3) := by decide +kernel
theorem dX12_light_31 : decode cX12_light 31 = .ok (.iload_n 1, 1) := by decide +kernel
theorem dX12_light_32 : decode cX12_light 32 = .ok (.iaload, 1) := by decide +kernel
theorem dX12_light_33 : decode cX12_light 33 = .ok (.ireturn, 1) := by decide +kernel
theorem dX12_grieve_0 : decode cX12_grieve 0 = .ok (.iload_n 1, 1) := by decide +kernel
theorem dX12_grieve_1 : decode cX12_grieve 1 = .ok (.invokestatic 121, 3) := by decide +kernel
theorem dX12_grieve_4 : decode cX12_grieve 4 = .ok (.ifCond .ne 5, 3) := by decide +kernel
theorem dX12_grieve_7 : decode cX12_grieve 7 = .ok (.iconst (-1), 1) := by decide +kernel
theorem dX12_grieve_8 : decode cX12_grieve 8 = .ok (.ireturn, 1) := by decide +kernel
theorem dX12_grieve_9 : decode cX12_grieve 9 = .ok (.iload_n 2, 1) := by decide +kernel
theorem dX12_grieve_10 : decode cX12_grieve 10 = .ok (.iconst 0, 1) := by decide +kernel
theorem dX12_grieve_11 : decode cX12_grieve 11 = .ok (.sipush 999, 3) := by decide +kernel
theorem dX12_grieve_14 : decode cX12_grieve 14 = .ok (.invokestatic 117, 3) := by decide +kernel
theorem dX12_grieve_17 : decode cX12_grieve 17 = .ok (.ifCond .ne 6, 3) := by decide +kernel
theorem dX12_grieve_20 : decode cX12_grieve 20 = .ok (.bipush (-2), 2) := by decide +kernel
theorem dX12_grieve_22 : decode cX12_grieve 22 = .ok (.ireturn, 1) := by decide +kernel
theorem dX12_grieve_23 : decode cX12_grieve 23 = .ok (.aload_n 0, 1) := by decide +kernel
theorem dX12_grieve_24 : decode cX12_grieve 24 = .ok (.getfield 9, 3) := by decide +kernel
theorem dX12_grieve_27 : decode cX12_grieve 27 = .ok (.iload_n 1, 1) := by decide +kernel
theorem dX12_grieve_28 : decode cX12_grieve 28 = .ok (.iaload, 1) := by decide +kernel
theorem dX12_grieve_29 : decode cX12_grieve 29 = .ok (.istore_n 3, 1) := by decide +kernel
theorem dX12_grieve_30 : decode cX12_grieve 30 = .ok (.aload_n 0, 1) := by decide +kernel
theorem dX12_grieve_31 : decode cX12_grieve 31 = .ok (.getfield 9, 3) := by decide +kernel
theorem dX12_grieve_34 : decode cX12_grieve 34 = .ok (.iload_n 1, 1) := by decide +kernel
theorem dX12_grieve_35 : decode cX12_grieve 35 = .ok (.iload_n 2, 1) := by decide +kernel
theorem dX12_grieve_36 : decode cX12_grieve 36 = .ok (.iastore, 1) := by decide +kernel
theorem dX12_grieve_37 : decode cX12_grieve 37 = .ok (.iload_n 3, 1) := by decide +kernel
theorem dX12_grieve_38 : decode cX12_grieve 38 = .ok (.ireturn, 1) := by decide +kernel
theorem dX12_rain_0 : decode cX12_rain 0 = .ok (.iload_n 1, 1) := by decide +kernel
theorem dX12_rain_1 : decode cX12_rain 1 = .ok (.iconst 0, 1) := by decide +kernel
theorem dX12_rain_2 : decode cX12_rain 2 = .ok (.iconst 3, 1) := by decide +kernel
theorem dX12_rain_3 : decode cX12_rain 3 = .ok (.invokestatic 117, 3) := by decide +kernel
theorem dX12_rain_6 : decode cX12_rain 6 = .ok (.ifCond .ne 5, 3) := by decide +kernel
theorem dX12_rain_9 : decode cX12_rain 9 = .ok (.iconst (-1), 1) := by decide +kernel
theorem dX12_rain_10 : decode cX12_rain 10 = .ok (.ireturn, 1) := by decide +kernel
theorem dX12_rain_11 : decode cX12_rain 11 = .ok (.iload_n 2, 1) := by decide +kernel
theorem dX12_rain_12 : decode cX12_rain 12 = .ok (.iconst 0, 1) := by decide +kernel
theorem dX12_rain_13 : decode cX12_rain 13 = .ok (.bipush 9, 2) := by decide +kernel
theorem dX12_rain_15 : decode cX12_rain 15 = .ok (.invokestatic 117, 3) := by decide +kernel
theorem dX12_rain_18 : decode cX12_rain 18 = .ok (.ifCond .ne 6, 3) := by decide +kernel
theorem dX12_rain_21 : decode cX12_rain 21 = .ok (.bipush (-2), 2) := by decide +kernel
theorem dX12_rain_23 : decode cX12_rain 23 = .ok (.ireturn, 1) := by decide +kernel
theorem dX12_rain_24 : decode cX12_rain 24 = .ok (.aload_n 0, 1) := by decide +kernel
theorem dX12_rain_25 : decode cX12_rain 25 = .ok (.getfield 15, 3) := by decide +kernel
theorem dX12_rain_28 : decode cX12_rain 28 = .ok (.iload_n 1, 1) := by decide +kernel
theorem dX12_rain_29 : decode cX12_rain 29 = .ok (.iaload, 1) := by decide +kernel
theorem dX12_rain_30 : decode cX12_rain 30 = .ok (.istore_n 3, 1) := by decide +kernel
theorem dX12_rain_31 : decode cX12_rain 31 = .ok (.aload_n 0, 1) := by decide +kernel
theorem dX12_rain_32 : decode cX12_rain 32 = .ok (.getfield 15, 3) := by decide +kernel
theorem dX12_rain_35 : decode cX12_rain 35 = .ok (.iload_n 1, 1) := by decide +kernel
theorem dX12_rain_36 : decode cX12_rain 36 = .ok (.iload_n 2, 1) := by decide +kernel
theorem dX12_rain_37 : decode cX12_rain 37 = .ok (.iastore, 1) := by decide +kernel
theorem dX12_rain_38 : decode cX12_rain 38 = .ok (.iload_n 3, 1) := by decide +kernel
theorem dX12_rain_39 : decode cX12_rain 39 = .ok (.ireturn, 1) := by decide +kernel
theorem dX12_row_0 : decode cX12_row 0 = .ok (.aload_n 0, 1) := by decide +kernel
theorem dX12_row_1 : decode cX12_row 1 = .ok (.iload_n 1, 1) := by decide +kernel
theorem dX12_row_2 : decode cX12_row 2 = .ok (.invokevirtual 125, 3) := by decide +kernel
theorem dX12_row_5 : decode cX12_row 5 = .ok (.ifCond .eq 12, 3) := by decide +kernel
theorem dX12_row_8 : decode cX12_row 8 = .ok (.iload_n 2, 1) := by decide +kernel
theorem dX12_row_9 : decode cX12_row 9 = .ok (.iconst 0, 1) := by decide +kernel
theorem dX12_row_10 : decode cX12_row 10 = .ok (.iconst 3, 1) := by decide +kernel
theorem dX12_row_11 : decode cX12_row 11 = .ok (.invokestatic 117, 3) := by decide +kernel
theorem dX12_row_14 : decode cX12_row 14 = .ok (.ifCond .ne 5, 3) := by decide +kernel
theorem dX12_row_17 : decode cX12_row 17 = .ok (.iconst (-1), 1) := by decide +kernel
theorem dX12_row_18 : decode cX12_row 18 = .ok (.ireturn, 1) := by decide +kernel
theorem dX12_row_19 : decode cX12_row 19 = .ok (.iload_n 3, 1) := by decide +kernel
theorem dX12_row_20 : decode cX12_row 20 = .ok (.iconst 0, 1) := by decide +kernel
theorem dX12_row_21 : decode cX12_row 21 = .ok (.bipush 9, 2) := by decide +kernel
theorem dX12_row_23 : decode cX12_row 23 = .ok (.invokestatic 117, 3) := by decide +kernel
theorem dX12_row_26 : decode cX12_row 26 = .ok (.ifCond .ne 6, 3) := by decide +kernel
theorem dX12_row_29 : decode cX12_row 29 = .ok (.bipush (-2), 2) := by decide +kernel
theorem dX12_row_31 : decode cX12_row 31 = .ok (.ireturn, 1) := by decide +kernel
theorem dX12_row_32 : decode cX12_row 32 = .ok (.aload_n 0, 1) := by decide +kernel
theorem dX12_row_33 : decode cX12_row 33 = .ok (.getfield 18, 3) := by decide +kernel
theorem dX12_row_36 : decode cX12_row 36 = .ok (.iload_n 1, 1) := by decide +kernel
theorem dX12_row_37 : decode cX12_row 37 = .ok (.iaload, 1) := by decide +kernel
theorem dX12_row_38 : decode cX12_row 38 = .ok (.bipush 6, 2) := by decide +kernel
theorem dX12_row_40 : decode cX12_row 40 = .ok (.if_icmp .eq 6, 3) := by decide +kernel
theorem dX12_row_43 : decode cX12_row 43 = .ok (.bipush (-3), 2) := by decide +kernel
theorem dX12_row_45 : decode cX12_row 45 = .ok (.ireturn, 1) := by decide +kernel
theorem dX12_row_46 : decode cX12_row 46 = .ok (.aload_n 0, 1) := by decide +kernel
theorem dX12_row_47 : decode cX12_row 47 = .ok (.getfield 36, 3) := by decide +kernel
theorem dX12_row_50 : decode cX12_row 50 = .ok (.iconst 4, 1) := by decide +kernel
theorem dX12_row_51 : decode cX12_row 51 = .ok (.iload_n 1, 1) := by decide +kernel
theorem dX12_row_52 : decode cX12_row 52 = .ok (.imul, 1) := by decide +kernel
theorem dX12_row_53 : decode cX12_row 53 = .ok (.iload_n 2, 1) := by decide +kernel
theorem dX12_row_54 : decode cX12_row 54 = .ok (.iadd, 1) := by decide +kernel
theorem dX12_row_55 : decode cX12_row 55 = .ok (.iaload, 1) := by decide +kernel
theorem dX12_row_56 : decode cX12_row 56 = .ok (.istore 4, 2) := by decide +kernel
theorem dX12_row_58 : decode cX12_row 58 = .ok (.aload_n 0, 1) := by decide +kernel
theorem dX12_row_59 : decode cX12_row 59 = .ok (.getfield 36, 3) := by decide +kernel
theorem dX12_row_62 : decode cX12_row 62 = .ok (.iconst 4, 1) := by decide +kernel
theorem dX12_row_63 : decode cX12_row 63 = .ok (.iload_n 1, 1) := by decide +kernel
theorem dX12_row_64 : decode cX12_row 64 = .ok (.imul, 1) := by decide +kernel
theorem dX12_row_65 : decode cX12_row 65 = .ok (.iload_n 2, 1) := by decide +kernel
theorem dX12_row_66 : decode cX12_row 66 = .ok (.iadd, 1) := by decide +kernel
theorem dX12_row_67 : decode cX12_row 67 = .ok (.iload_n 3, 1) := by decide +kernel
theorem dX12_row_68 : decode cX12_row 68 = .ok (.iastore, 1) := by decide +kernel
theorem dX12_row_69 : decode cX12_row 69 = .ok (.iload 4, 2) := by decide +kernel
theorem dX12_row_71 : decode cX12_row 71 = .ok (.ireturn, 1) := by decide +kernel
theorem dX12_feed_0 : decode cX12_feed 0 = .ok (.iload_n 1, 1) := by decide +kernel
theorem dX12_feed_1 : decode cX12_feed 1 = .ok (.iconst 0, 1) := by decide +kernel
theorem dX12_feed_2 : decode cX12_feed 2 = .ok (.bipush 127, 2) := by decide +kernel
theorem dX12_feed_4 : decode cX12_feed 4 = .ok (.invokestatic 117, 3) := by decide +kernel
theorem dX12_feed_7 : decode cX12_feed 7 = .ok (.ifCond .ne 6, 3) := by decide +kernel
theorem dX12_feed_10 : decode cX12_feed 10 = .ok (.bipush (-2), 2) := by decide +kernel
theorem dX12_feed_12 : decode cX12_feed 12 = .ok (.ireturn, 1) := by decide +kernel
theorem dX12_feed_13 : decode cX12_feed 13 = .ok (.aload_n 0, 1) := by decide +kernel
theorem dX12_feed_14 : decode cX12_feed 14 = .ok (.getfield 146, 3) := by decide +kernel
theorem dX12_feed_17 : decode cX12_feed 17 = .ok (.bipush 100, 2) := by decide +kernel
theorem dX12_feed_19 : decode cX12_feed 19 = .ok (.if_icmp .ne 6, 3) := by decide +kernel
theorem dX12_feed_22 : decode cX12_feed 22 = .ok (.bipush (-4), 2) := by decide +kernel
theorem dX12_feed_24 : decode cX12_feed 24 = .ok (.ireturn, 1) := by decide +kernel
theorem dX12_feed_25 : decode cX12_feed 25 = .ok (.aload_n 0, 1) := by decide +kernel
theorem dX12_feed_26 : decode cX12_feed 26 = .ok (.getfield 39, 3) := by decide +kernel
theorem dX12_feed_29 : decode cX12_feed 29 = .ok (.aload_n 0, 1) := by decide +kernel
theorem dX12_feed_30 : decode cX12_feed 30 = .ok (.dup, 1) := by decide +kernel
theorem dX12_feed_31 : decode cX12_feed 31 = .ok (.getfield 146, 3) := by decide +kernel
theorem dX12_feed_34 : decode cX12_feed 34 = .ok (.dup_x1, 1) := by decide +kernel
theorem dX12_feed_35 : decode cX12_feed 35 = .ok (.iconst 1, 1) := by decide +kernel
theorem dX12_feed_36 : decode cX12_feed 36 = .ok (.iadd, 1) := by decide +kernel
theorem dX12_feed_37 : decode cX12_feed 37 = .ok (.putfield 146, 3) := by decide +kernel
theorem dX12_feed_40 : decode cX12_feed 40 = .ok (.iload_n 1, 1) := by decide +kernel
theorem dX12_feed_41 : decode cX12_feed 41 = .ok (.iastore, 1) := by decide +kernel
theorem dX12_feed_42 : decode cX12_feed 42 = .ok (.aload_n 0, 1) := by decide +kernel
theorem dX12_feed_43 : decode cX12_feed 43 = .ok (.getfield 146, 3) := by decide +kernel
theorem dX12_feed_46 : decode cX12_feed 46 = .ok (.ireturn, 1) := by decide +kernel
theorem dX12_is_0 : decode cX12_is 0 = .ok (.aload_n 0, 1) := by decide +kernel
theorem dX12_is_1 : decode cX12_is 1 = .ok (.getfield 149, 3) := by decide +kernel
theorem dX12_is_4 : decode cX12_is 4 = .ok (.aload_n 0, 1) := by decide +kernel
theorem dX12_is_5 : decode cX12_is 5 = .ok (.getfield 146, 3) := by decide +kernel
theorem dX12_is_8 : decode cX12_is 8 = .ok (.if_icmp .eq 16, 3) := by decide +kernel
theorem dX12_is_11 : decode cX12_is 11 = .ok (.aload_n 0, 1) := by decide +kernel
theorem dX12_is_12 : decode cX12_is 12 = .ok (.getfield 39, 3) := by decide +kernel
theorem dX12_is_15 : decode cX12_is 15 = .ok (.aload_n 0, 1) := by decide +kernel
theorem dX12_is_16 : decode cX12_is 16 = .ok (.getfield 149, 3) := by decide +kernel
theorem dX12_is_19 : decode cX12_is 19 = .ok (.iaload, 1) := by decide +kernel
theorem dX12_is_20 : decode cX12_is 20 = .ok (.iload_n 1, 1) := by decide +kernel
theorem dX12_is_21 : decode cX12_is 21 = .ok (.if_icmp .eq 5, 3) := by decide +kernel
theorem dX12_is_24 : decode cX12_is 24 = .ok (.iconst 0, 1) := by decide +kernel
theorem dX12_is_25 : decode cX12_is 25 = .ok (.ireturn, 1) := by decide +kernel
theorem dX12_is_26 : decode cX12_is 26 = .ok (.aload_n 0, 1) := by decide +kernel
theorem dX12_is_27 : decode cX12_is 27 = .ok (.dup, 1) := by decide +kernel
theorem dX12_is_28 : decode cX12_is 28 = .ok (.getfield 149, 3) := by decide +kernel
theorem dX12_is_31 : decode cX12_is 31 = .ok (.iconst 1, 1) := by decide +kernel
theorem dX12_is_32 : decode cX12_is 32 = .ok (.iadd, 1) := by decide +kernel
theorem dX12_is_33 : decode cX12_is 33 = .ok (.putfield 149, 3) := by decide +kernel
theorem dX12_is_36 : decode cX12_is 36 = .ok (.iconst 1, 1) := by decide +kernel
theorem dX12_is_37 : decode cX12_is 37 = .ok (.ireturn, 1) := by decide +kernel
theorem dX12_isDigit_0 : decode cX12_isDigit 0 = .ok (.aload_n 0, 1) := by decide +kernel
theorem dX12_isDigit_1 : decode cX12_isDigit 1 = .ok (.getfield 149, 3) := by decide +kernel
theorem dX12_isDigit_4 : decode cX12_isDigit 4 = .ok (.aload_n 0, 1) := by decide +kernel
theorem dX12_isDigit_5 : decode cX12_isDigit 5 = .ok (.getfield 146, 3) := by decide +kernel
theorem dX12_isDigit_8 : decode cX12_isDigit 8 = .ok (.if_icmp .ge 35, 3) := by decide +kernel
theorem dX12_isDigit_11 : decode cX12_isDigit 11 = .ok (.aload_n 0, 1) := by decide +kernel
theorem dX12_isDigit_12 : decode cX12_isDigit 12 = .ok (.getfield 39, 3) := by decide +kernel
theorem dX12_isDigit_15 : decode cX12_isDigit 15 = .ok (.aload_n 0, 1) := by decide +kernel
theorem dX12_isDigit_16 : decode cX12_isDigit 16 = .ok (.getfield 149, 3) := by decide +kernel
theorem dX12_isDigit_19 : decode cX12_isDigit 19 = .ok (.iaload, 1) := by decide +kernel
theorem dX12_isDigit_20 : decode cX12_isDigit 20 = .ok (.bipush 48, 2) := by decide +kernel
theorem dX12_isDigit_22 : decode cX12_isDigit 22 = .ok (.if_icmp .lt 21, 3) := by decide +kernel
theorem dX12_isDigit_25 : decode cX12_isDigit 25 = .ok (.aload_n 0, 1) := by decide +kernel
theorem dX12_isDigit_26 : decode cX12_isDigit 26 = .ok (.getfield 39, 3) := by decide +kernel
theorem dX12_isDigit_29 : decode cX12_isDigit 29 = .ok (.aload_n 0, 1) := by decide +kernel
theorem dX12_isDigit_30 : decode cX12_isDigit 30 = .ok (.getfield 149, 3) := by decide +kernel
theorem dX12_isDigit_33 : decode cX12_isDigit 33 = .ok (.iaload, 1) := by decide +kernel
theorem dX12_isDigit_34 : decode cX12_isDigit 34 = .ok (.bipush 57, 2) := by decide +kernel
theorem dX12_isDigit_36 : decode cX12_isDigit 36 = .ok (.if_icmp .gt 7, 3) := by decide +kernel
theorem dX12_isDigit_39 : decode cX12_isDigit 39 = .ok (.iconst 1, 1) := by decide +kernel
theorem dX12_isDigit_40 : decode cX12_isDigit 40 = .ok (.goto 4, 3) := by decide +kernel
theorem dX12_isDigit_43 : decode cX12_isDigit 43 = .ok (.iconst 0, 1) := by decide +kernel
theorem dX12_isDigit_44 : decode cX12_isDigit 44 = .ok (.ireturn, 1) := by decide +kernel
theorem dX12_isNumber_0 : decode cX12_isNumber 0 = .ok (.aload_n 0, 1) := by decide +kernel
theorem dX12_isNumber_1 : decode cX12_isNumber 1 = .ok (.iconst 0, 1) := by decide +kernel
theorem dX12_isNumber_2 : decode cX12_isNumber 2 = .ok (.putfield 152, 3) := by decide +kernel
theorem dX12_isNumber_5 : decode cX12_isNumber 5 = .ok (.aload_n 0, 1) := by decide +kernel
theorem dX12_isNumber_6 : decode cX12_isNumber 6 = .ok (.iconst 0, 1) := by decide +kernel
theorem dX12_isNumber_7 : decode cX12_isNumber 7 = .ok (.putfield 155, 3) := by decide +kernel
theorem dX12_isNumber_10 : decode cX12_isNumber 10 = .ok (.aload_n 0, 1) := by decide +kernel
theorem dX12_isNumber_11 : decode cX12_isNumber 11 = .ok (.getfield 155, 3) := by decide +kernel
theorem dX12_isNumber_14 : decode cX12_isNumber 14 = .ok (.iconst 2, 1) := by decide +kernel
theorem dX12_isNumber_15 : decode cX12_isNumber 15 = .ok (.if_icmp .ge 57, 3) := by decide +kernel
theorem dX12_isNumber_18 : decode cX12_isNumber 18 = .ok (.aload_n 0, 1) := by decide +kernel
theorem dX12_isNumber_19 : decode cX12_isNumber 19 = .ok (.invokevirtual 158, 3) := by decide +kernel
theorem dX12_isNumber_22 : decode cX12_isNumber 22 = .ok (.ifCond .eq 50, 3) := by decide +kernel
theorem dX12_isNumber_25 : decode cX12_isNumber 25 = .ok (.aload_n 0, 1) := by decide +kernel
theorem dX12_isNumber_26 : decode cX12_isNumber 26 = .ok (.bipush 10, 2) := by decide +kernel
theorem dX12_isNumber_28 : decode cX12_isNumber 28 = .ok (.aload_n 0, 1) := by decide +kernel
theorem dX12_isNumber_29 : decode cX12_isNumber 29 = .ok (.getfield 152, 3) := by decide +kernel
theorem dX12_isNumber_32 : decode cX12_isNumber 32 = .ok (.imul, 1) := by decide +kernel
theorem dX12_isNumber_33 : decode cX12_isNumber 33 = .ok (.aload_n 0, 1) := by decide +kernel
theorem dX12_isNumber_34 : decode cX12_isNumber 34 = .ok (.getfield 39, 3) := by decide +kernel
theorem dX12_isNumber_37 : decode cX12_isNumber 37 = .ok (.aload_n 0, 1) := by decide +kernel
theorem dX12_isNumber_38 : decode cX12_isNumber 38 = .ok (.getfield 149, 3) := by decide +kernel
theorem dX12_isNumber_41 : decode cX12_isNumber 41 = .ok (.iaload, 1) := by decide +kernel
theorem dX12_isNumber_42 : decode cX12_isNumber 42 = .ok (.iadd, 1) := by decide +kernel
theorem dX12_isNumber_43 : decode cX12_isNumber 43 = .ok (.bipush 48, 2) := by decide +kernel
theorem dX12_isNumber_45 : decode cX12_isNumber 45 = .ok (.isub, 1) := by decide +kernel
theorem dX12_isNumber_46 : decode cX12_isNumber 46 = .ok (.putfield 152, 3) := by decide +kernel
theorem dX12_isNumber_49 : decode cX12_isNumber 49 = .ok (.aload_n 0, 1) := by decide +kernel
theorem dX12_isNumber_50 : decode cX12_isNumber 50 = .ok (.dup, 1) := by decide +kernel
theorem dX12_isNumber_51 : decode cX12_isNumber 51 = .ok (.getfield 149, 3) := by decide +kernel
theorem dX12_isNumber_54 : decode cX12_isNumber 54 = .ok (.iconst 1, 1) := by decide +kernel
theorem dX12_isNumber_55 : decode cX12_isNumber 55 = .ok (.iadd, 1) := by decide +kernel
theorem dX12_isNumber_56 : decode cX12_isNumber 56 = .ok (.putfield 149, 3) := by decide +kernel
theorem dX12_isNumber_59 : decode cX12_isNumber 59 = .ok (.aload_n 0, 1) := by decide +kernel
theorem dX12_isNumber_60 : decode cX12_isNumber 60 = .ok (.dup, 1) := by decide +kernel
theorem dX12_isNumber_61 : decode cX12_isNumber 61 = .ok (.getfield 155, 3) := by decide +kernel
theorem dX12_isNumber_64 : decode cX12_isNumber 64 = .ok (.iconst 1, 1) := by decide +kernel
theorem dX12_isNumber_65 : decode cX12_isNumber 65 = .ok (.iadd, 1) := by decide +kernel
theorem dX12_isNumber_66 : decode cX12_isNumber 66 = .ok (.putfield 155, 3) := by decide +kernel
theorem dX12_isNumber_69 : decode cX12_isNumber 69 = .ok (.goto (-59), 3) := by decide +kernel
theorem dX12_isNumber_72 : decode cX12_isNumber 72 = .ok (.aload_n 0, 1) := by decide +kernel
theorem dX12_isNumber_73 : decode cX12_isNumber 73 = .ok (.getfield 155, 3) := by decide +kernel
theorem dX12_isNumber_76 : decode cX12_isNumber 76 = .ok (.ifCond .le 7, 3) := by decide +kernel
theorem dX12_isNumber_79 : decode cX12_isNumber 79 = .ok (.iconst 1, 1) := by decide +kernel
theorem dX12_isNumber_80 : decode cX12_isNumber 80 = .ok (.goto 4, 3) := by decide +kernel
theorem dX12_isNumber_83 : decode cX12_isNumber 83 = .ok (.iconst 0, 1) := by decide +kernel
theorem dX12_isNumber_84 : decode cX12_isNumber 84 = .ok (.ireturn, 1) := by decide +kernel
theorem dX12_isAll_0 : decode cX12_isAll 0 = .ok (.iconst 0, 1) := by decide +kernel
theorem dX12_isAll_1 : decode cX12_isAll 1 = .ok (.istore_n 2, 1) := by decide +kernel
theorem dX12_isAll_2 : decode cX12_isAll 2 = .ok (.iload_n 2, 1) := by decide +kernel
theorem dX12_isAll_3 : decode cX12_isAll 3 = .ok (.aload_n 1, 1) := by decide +kernel
theorem dX12_isAll_4 : decode cX12_isAll 4 = .ok (.invokevirtual 162, 3) := by decide +kernel
theorem dX12_isAll_7 : decode cX12_isAll 7 = .ok (.if_icmp .ge 23, 3) := by decide +kernel
theorem dX12_isAll_10 : decode cX12_isAll 10 = .ok (.aload_n 0, 1) := by decide +kernel
theorem dX12_isAll_11 : decode cX12_isAll 11 = .ok (.aload_n 1, 1) := by decide +kernel
theorem dX12_isAll_12 : decode cX12_isAll 12 = .ok (.iload_n 2, 1) := by decide +kernel
theorem dX12_isAll_13 : decode cX12_isAll 13 = .ok (.invokevirtual 167, 3) := by decide +kernel
theorem dX12_isAll_16 : decode cX12_isAll 16 = .ok (.invokevirtual 171, 3) := by decide +kernel
theorem dX12_isAll_19 : decode cX12_isAll 19 = .ok (.ifCond .ne 5, 3) := by decide +kernel
theorem dX12_isAll_22 : decode cX12_isAll 22 = .ok (.iconst 0, 1) := by decide +kernel
theorem dX12_isAll_23 : decode cX12_isAll 23 = .ok (.ireturn, 1) := by decide +kernel
theorem dX12_isAll_24 : decode cX12_isAll 24 = .ok (.iinc 2 1, 3) := by decide +kernel
theorem dX12_isAll_27 : decode cX12_isAll 27 = .ok (.goto (-25), 3) := by decide +kernel
theorem dX12_isAll_30 : decode cX12_isAll 30 = .ok (.iconst 1, 1) := by decide +kernel
theorem dX12_isAll_31 : decode cX12_isAll 31 = .ok (.ireturn, 1) := by decide +kernel
theorem dX12_codes_0 : decode cX12_codes 0 = .ok (.aload_n 0, 1) := by decide +kernel
theorem dX12_codes_1 : decode cX12_codes 1 = .ok (.getfield 57, 3) := by decide +kernel
theorem dX12_codes_4 : decode cX12_codes 4 = .ok (.aload_n 0, 1) := by decide +kernel
theorem dX12_codes_5 : decode cX12_codes 5 = .ok (.dup, 1) := by decide +kernel
theorem dX12_codes_6 : decode cX12_codes 6 = .ok (.getfield 174, 3) := by decide +kernel
theorem dX12_codes_9 : decode cX12_codes 9 = .ok (.dup_x1, 1) := by decide +kernel
theorem dX12_codes_10 : decode cX12_codes 10 = .ok (.iconst 1, 1) := by decide +kernel
theorem dX12_codes_11 : decode cX12_codes 11 = .ok (.iadd, 1) := by decide +kernel
theorem dX12_codes_12 : decode cX12_codes 12 = .ok (.putfield 174, 3) := by decide +kernel
theorem dX12_codes_15 : decode cX12_codes 15 = .ok (.iload_n 1, 1) := by decide +kernel
theorem dX12_codes_16 : decode cX12_codes 16 = .ok (.iastore, 1) := by decide +kernel
theorem dX12_codes_17 : decode cX12_codes 17 = .ok (.iconst 1, 1) := by decide +kernel
theorem dX12_codes_18 : decode cX12_codes 18 = .ok (.ireturn, 1) := by decide +kernel
theorem dX12_isTest_0 : decode cX12_isTest 0 = .ok (.aload_n 0, 1) := by decide +kernel
theorem dX12_isTest_1 : decode cX12_isTest 1 = .ok (.getfield 149, 3) := by decide +kernel
theorem dX12_isTest_4 : decode cX12_isTest 4 = .ok (.aload_n 0, 1) := by decide +kernel
theorem dX12_isTest_5 : decode cX12_isTest 5 = .ok (.getfield 146, 3) := by decide +kernel
theorem dX12_isTest_8 : decode cX12_isTest 8 = .ok (.if_icmp .ge 32, 3) := by decide +kernel
theorem dX12_isTest_11 : decode cX12_isTest 11 = .ok (.aload_n 0, 1) := by decide +kernel
theorem dX12_isTest_12 : decode cX12_isTest 12 = .ok (.getfield 39, 3) := by decide +kernel
theorem dX12_isTest_15 : decode cX12_isTest 15 = .ok (.aload_n 0, 1) := by decide +kernel
theorem dX12_isTest_16 : decode cX12_isTest 16 = .ok (.getfield 149, 3) := by decide +kernel
theorem dX12_isTest_19 : decode cX12_isTest 19 = .ok (.iaload, 1) := by decide +kernel
theorem dX12_isTest_20 : decode cX12_isTest 20 = .ok (.ifCond .le 20, 3) := by decide +kernel
theorem dX12_isTest_23 : decode cX12_isTest 23 = .ok (.ldc 177, 2) := by decide +kernel
theorem dX12_isTest_25 : decode cX12_isTest 25 = .ok (.aload_n 0, 1) := by decide +kernel
theorem dX12_isTest_26 : decode cX12_isTest 26 = .ok (.getfield 39, 3) := by decide +kernel
theorem dX12_isTest_29 : decode cX12_isTest 29 = .ok (.aload_n 0, 1) := by decide +kernel
theorem dX12_isTest_30 : decode cX12_isTest 30 = .ok (.getfield 149, 3) := by decide +kernel
theorem dX12_isTest_33 : decode cX12_isTest 33 = .ok (.iaload, 1) := by decide +kernel
theorem dX12_isTest_34 : decode cX12_isTest 34 = .ok (.invokevirtual 179, 3) := by decide +kernel
theorem dX12_isTest_37 : decode cX12_isTest 37 = .ok (.goto 4, 3) := by decide +kernel
theorem dX12_isTest_40 : decode cX12_isTest 40 = .ok (.iconst (-1), 1) := by decide +kernel
theorem dX12_isTest_41 : decode cX12_isTest 41 = .ok (.istore_n 1, 1) := by decide +kernel
theorem dX12_isTest_42 : decode cX12_isTest 42 = .ok (.iload_n 1, 1) := by decide +kernel
theorem dX12_isTest_43 : decode cX12_isTest 43 = .ok (.ifCond .ge 5, 3) := by decide +kernel
theorem dX12_isTest_46 : decode cX12_isTest 46 = .ok (.iconst 0, 1) := by decide +kernel
theorem dX12_isTest_47 : decode cX12_isTest 47 = .ok (.ireturn, 1) := by decide +kernel
theorem dX12_isTest_48 : decode cX12_isTest 48 = .ok (.aload_n 0, 1) := by decide +kernel
theorem dX12_isTest_49 : decode cX12_isTest 49 = .ok (.dup, 1) := by decide +kernel
theorem dX12_isTest_50 : decode cX12_isTest 50 = .ok (.getfield 149, 3) := by decide +kernel
theorem dX12_isTest_53 : decode cX12_isTest 53 = .ok (.iconst 1, 1) := by decide +kernel
theorem dX12_isTest_54 : decode cX12_isTest 54 = .ok (.iadd, 1) := by decide +kernel
theorem dX12_isTest_55 : decode cX12_isTest 55 = .ok (.putfield 149, 3) := by decide +kernel
theorem dX12_isTest_58 : decode cX12_isTest 58 = .ok (.aload_n 0, 1) := by decide +kernel
theorem dX12_isTest_59 : decode cX12_isTest 59 = .ok (.getfield 149, 3) := by decide +kernel
theorem dX12_isTest_62 : decode cX12_isTest 62 = .ok (.aload_n 0, 1) := by decide +kernel
theorem dX12_isTest_63 : decode cX12_isTest 63 = .ok (.getfield 146, 3) := by decide +kernel
theorem dX12_isTest_66 : decode cX12_isTest 66 = .ok (.if_icmp .ge 32, 3) := by decide +kernel
theorem dX12_isTest_69 : decode cX12_isTest 69 = .ok (.aload_n 0, 1) := by decide +kernel
theorem dX12_isTest_70 : decode cX12_isTest 70 = .ok (.getfield 39, 3) := by decide +kernel
theorem dX12_isTest_73 : decode cX12_isTest 73 = .ok (.aload_n 0, 1) := by decide +kernel
theorem dX12_isTest_74 : decode cX12_isTest 74 = .ok (.getfield 149, 3) := by decide +kernel
theorem dX12_isTest_77 : decode cX12_isTest 77 = .ok (.iaload, 1) := by decide +kernel
theorem dX12_isTest_78 : decode cX12_isTest 78 = .ok (.ifCond .le 20, 3) := by decide +kernel
theorem dX12_isTest_81 : decode cX12_isTest 81 = .ok (.ldc 182, 2) := by decide +kernel
theorem dX12_isTest_83 : decode cX12_isTest 83 = .ok (.aload_n 0, 1) := by decide +kernel
theorem dX12_isTest_84 : decode cX12_isTest 84 = .ok (.getfield 39, 3) := by decide +kernel
theorem dX12_isTest_87 : decode cX12_isTest 87 = .ok (.aload_n 0, 1) := by decide +kernel
theorem dX12_isTest_88 : decode cX12_isTest 88 = .ok (.getfield 149, 3) := by decide +kernel
theorem dX12_isTest_91 : decode cX12_isTest 91 = .ok (.iaload, 1) := by decide +kernel
theorem dX12_isTest_92 : decode cX12_isTest 92 = .ok (.invokevirtual 179, 3) := by decide +kernel
theorem dX12_isTest_95 : decode cX12_isTest 95 = .ok (.goto 4, 3) := by decide +kernel
theorem dX12_isTest_98 : decode cX12_isTest 98 = .ok (.iconst (-1), 1) := by decide +kernel
theorem dX12_isTest_99 : decode cX12_isTest 99 = .ok (.istore_n 2, 1) := by decide +kernel
theorem dX12_isTest_100 : decode cX12_isTest 100 = .ok (.iload_n 2, 1) := by decide +kernel
theorem dX12_isTest_101 : decode cX12_isTest 101 = .ok (.ifCond .ge 5, 3) := by decide +kernel
theorem dX12_isTest_104 : decode cX12_isTest 104 = .ok (.iconst 0, 1) := by decide +kernel
theorem dX12_isTest_105 : decode cX12_isTest 105 = .ok (.ireturn, 1) := by decide +kernel
theorem dX12_isTest_106 : decode cX12_isTest 106 = .ok (.aload_n 0, 1) := by decide +kernel
theorem dX12_isTest_107 : decode cX12_isTest 107 = .ok (.dup, 1) := by decide +kernel
theorem dX12_isTest_108 : decode cX12_isTest 108 = .ok (.getfield 149, 3) := by decide +kernel
theorem dX12_isTest_111 : decode cX12_isTest 111 = .ok (.iconst 1, 1) := by decide +kernel
theorem dX12_isTest_112 : decode cX12_isTest 112 = .ok (.iadd, 1) := by decide +kernel
theorem dX12_isTest_113 : decode cX12_isTest 113 = .ok (.putfield 149, 3) := by decide +kernel
theorem dX12_isTest_116 : decode cX12_isTest 116 = .ok (.aload_n 0, 1) := by decide +kernel
theorem dX12_isTest_117 : decode cX12_isTest 117 = .ok (.invokevirtual 184, 3) := by decide +kernel
theorem dX12_isTest_120 : decode cX12_isTest 120 = .ok (.ifCond .eq 31, 3) := by decide +kernel
theorem dX12_isTest_123 : decode cX12_isTest 123 = .ok (.aload_n 0, 1) := by decide +kernel
theorem dX12_isTest_124 : decode cX12_isTest 124 = .ok (.iconst 3, 1) := by decide +kernel
theorem dX12_isTest_125 : decode cX12_isTest 125 = .ok (.sipush 300, 3) := by decide +kernel
theorem dX12_isTest_128 : decode cX12_isTest 128 = .ok (.iload_n 1, 1) := by decide +kernel
theorem dX12_isTest_129 : decode cX12_isTest 129 = .ok (.imul, 1) := by decide +kernel
theorem dX12_isTest_130 : decode cX12_isTest 130 = .ok (.iadd, 1) := by decide +kernel
theorem dX12_isTest_131 : decode cX12_isTest 131 = .ok (.bipush 100, 2) := by decide +kernel
theorem dX12_isTest_133 : decode cX12_isTest 133 = .ok (.iload_n 2, 1) := by decide +kernel
theorem dX12_isTest_134 : decode cX12_isTest 134 = .ok (.imul, 1) := by decide +kernel
theorem dX12_isTest_135 : decode cX12_isTest 135 = .ok (.iadd, 1) := by decide +kernel
theorem dX12_isTest_136 : decode cX12_isTest 136 = .ok (.aload_n 0, 1) := by decide +kernel
theorem dX12_isTest_137 : decode cX12_isTest 137 = .ok (.getfield 152, 3) := by decide +kernel
theorem dX12_isTest_140 : decode cX12_isTest 140 = .ok (.iadd, 1) := by decide +kernel
theorem dX12_isTest_141 : decode cX12_isTest 141 = .ok (.invokevirtual 187, 3) := by decide +kernel
theorem dX12_isTest_144 : decode cX12_isTest 144 = .ok (.ifCond .eq 7, 3) := by decide +kernel
theorem dX12_isTest_147 : decode cX12_isTest 147 = .ok (.iconst 1, 1) := by decide +kernel
theorem dX12_isTest_148 : decode cX12_isTest 148 = .ok (.goto 4, 3) := by decide +kernel
theorem dX12_isTest_151 : decode cX12_isTest 151 = .ok (.iconst 0, 1) := by decide +kernel
theorem dX12_isTest_152 : decode cX12_isTest 152 = .ok (.ireturn, 1) := by decide +kernel
theorem dX12_isOpened_0 : decode cX12_isOpened 0 = .ok (.aload_n 0, 1) := by decide +kernel
theorem dX12_isOpened_1 : decode cX12_isOpened 1 = .ok (.getfield 190, 3) := by decide +kernel
theorem dX12_isOpened_4 : decode cX12_isOpened 4 = .ok (.iconst 4, 1) := by decide +kernel
theorem dX12_isOpened_5 : decode cX12_isOpened 5 = .ok (.if_icmp .eq 11, 3) := by decide +kernel
theorem dX12_isOpened_8 : decode cX12_isOpened 8 = .ok (.aload_n 0, 1) := by decide +kernel
theorem dX12_isOpened_9 : decode cX12_isOpened 9 = .ok (.iload_n 1, 1) := by decide +kernel
theorem dX12_isOpened_10 : decode cX12_isOpened 10 = .ok (.invokevirtual 171, 3) := by decide +kernel
theorem dX12_isOpened_13 : decode cX12_isOpened 13 = .ok (.ifCond .ne 5, 3) := by decide +kernel
theorem dX12_isOpened_16 : decode cX12_isOpened 16 = .ok (.iconst 0, 1) := by decide +kernel
theorem dX12_isOpened_17 : decode cX12_isOpened 17 = .ok (.ireturn, 1) := by decide +kernel
theorem dX12_isOpened_18 : decode cX12_isOpened 18 = .ok (.aload_n 0, 1) := by decide +kernel
theorem dX12_isOpened_19 : decode cX12_isOpened 19 = .ok (.dup, 1) := by decide +kernel
theorem dX12_isOpened_20 : decode cX12_isOpened 20 = .ok (.getfield 190, 3) := by decide +kernel
theorem dX12_isOpened_23 : decode cX12_isOpened 23 = .ok (.iconst 1, 1) := by decide +kernel
theorem dX12_isOpened_24 : decode cX12_isOpened 24 = .ok (.iadd, 1) := by decide +kernel
theorem dX12_isOpened_25 : decode cX12_isOpened 25 = .ok (.putfield 190, 3) := by decide +kernel
theorem dX12_isOpened_28 : decode cX12_isOpened 28 = .ok (.iconst 1, 1) := by decide +kernel
theorem dX12_isOpened_29 : decode cX12_isOpened 29 = .ok (.ireturn, 1) := by decide +kernel
theorem dX12_isF_0 : decode cX12_isF 0 = .ok (.aload_n 0, 1) := by decide +kernel
theorem dX12_isF_1 : decode cX12_isF 1 = .ok (.bipush 33, 2) := by decide +kernel
theorem dX12_isF_3 : decode cX12_isF 3 = .ok (.invokevirtual 193, 3) := by decide +kernel
theorem dX12_isF_6 : decode cX12_isF 6 = .ok (.ifCond .eq 27, 3) := by decide +kernel
theorem dX12_isF_9 : decode cX12_isF 9 = .ok (.aload_n 0, 1) := by decide +kernel
theorem dX12_isF_10 : decode cX12_isF 10 = .ok (.invokevirtual 196, 3) := by decide +kernel
theorem dX12_isF_13 : decode cX12_isF 13 = .ok (.ifCond .eq 15, 3) := by decide +kernel
theorem dX12_isF_16 : decode cX12_isF 16 = .ok (.aload_n 0, 1) := by decide +kernel
theorem dX12_isF_17 : decode cX12_isF 17 = .ok (.iconst 0, 1) := by decide +kernel
theorem dX12_isF_18 : decode cX12_isF 18 = .ok (.invokevirtual 187, 3) := by decide +kernel
theorem dX12_isF_21 : decode cX12_isF 21 = .ok (.ifCond .eq 7, 3) := by decide +kernel
theorem dX12_isF_24 : decode cX12_isF 24 = .ok (.iconst 1, 1) := by decide +kernel
theorem dX12_isF_25 : decode cX12_isF 25 = .ok (.goto 4, 3) := by decide +kernel
theorem dX12_isF_28 : decode cX12_isF 28 = .ok (.iconst 0, 1) := by decide +kernel
theorem dX12_isF_29 : decode cX12_isF 29 = .ok (.istore_n 1, 1) := by decide +kernel
theorem dX12_isF_30 : decode cX12_isF 30 = .ok (.goto 42, 3) := by decide +kernel
theorem dX12_isF_33 : decode cX12_isF 33 = .ok (.aload_n 0, 1) := by decide +kernel
theorem dX12_isF_34 : decode cX12_isF 34 = .ok (.bipush 40, 2) := by decide +kernel
theorem dX12_isF_36 : decode cX12_isF 36 = .ok (.invokevirtual 193, 3) := by decide +kernel
theorem dX12_isF_39 : decode cX12_isF 39 = .ok (.ifCond .eq 28, 3) := by decide +kernel
theorem dX12_isF_42 : decode cX12_isF 42 = .ok (.aload_n 0, 1) := by decide +kernel
theorem dX12_isF_43 : decode cX12_isF 43 = .ok (.invokevirtual 199, 3) := by decide +kernel
theorem dX12_isF_46 : decode cX12_isF 46 = .ok (.ifCond .eq 16, 3) := by decide +kernel
theorem dX12_isF_49 : decode cX12_isF 49 = .ok (.aload_n 0, 1) := by decide +kernel
theorem dX12_isF_50 : decode cX12_isF 50 = .ok (.bipush 41, 2) := by decide +kernel
theorem dX12_isF_52 : decode cX12_isF 52 = .ok (.invokevirtual 171, 3) := by decide +kernel
theorem dX12_isF_55 : decode cX12_isF 55 = .ok (.ifCond .eq 7, 3) := by decide +kernel
theorem dX12_isF_58 : decode cX12_isF 58 = .ok (.iconst 1, 1) := by decide +kernel
theorem dX12_isF_59 : decode cX12_isF 59 = .ok (.goto 4, 3) := by decide +kernel
theorem dX12_isF_62 : decode cX12_isF 62 = .ok (.iconst 0, 1) := by decide +kernel
theorem dX12_isF_63 : decode cX12_isF 63 = .ok (.istore_n 1, 1) := by decide +kernel
theorem dX12_isF_64 : decode cX12_isF 64 = .ok (.goto 8, 3) := by decide +kernel
theorem dX12_isF_67 : decode cX12_isF 67 = .ok (.aload_n 0, 1) := by decide +kernel
theorem dX12_isF_68 : decode cX12_isF 68 = .ok (.invokevirtual 202, 3) := by decide +kernel
theorem dX12_isF_71 : decode cX12_isF 71 = .ok (.ireturn, 1) := by decide +kernel
theorem dX12_isF_72 : decode cX12_isF 72 = .ok (.aload_n 0, 1) := by decide +kernel
theorem dX12_isF_73 : decode cX12_isF 73 = .ok (.dup, 1) := by decide +kernel
theorem dX12_isF_74 : decode cX12_isF 74 = .ok (.getfield 190, 3) := by decide +kernel
theorem dX12_isF_77 : decode cX12_isF 77 = .ok (.iconst 1, 1) := by decide +kernel
theorem dX12_isF_78 : decode cX12_isF 78 = .ok (.isub, 1) := by decide +kernel
theorem dX12_isF_79 : decode cX12_isF 79 = .ok (.putfield 190, 3) := by decide +kernel
theorem dX12_isF_82 : decode cX12_isF 82 = .ok (.iload_n 1, 1) := by decide +kernel
theorem dX12_isF_83 : decode cX12_isF 83 = .ok (.ireturn, 1) := by decide +kernel
theorem dX12_isT_0 : decode cX12_isT 0 = .ok (.aload_n 0, 1) := by decide +kernel
theorem dX12_isT_1 : decode cX12_isT 1 = .ok (.invokevirtual 196, 3) := by decide +kernel
theorem dX12_isT_4 : decode cX12_isT 4 = .ok (.ifCond .ne 5, 3) := by decide +kernel
theorem dX12_isT_7 : decode cX12_isT 7 = .ok (.iconst 0, 1) := by decide +kernel
theorem dX12_isT_8 : decode cX12_isT 8 = .ok (.ireturn, 1) := by decide +kernel
theorem dX12_isT_9 : decode cX12_isT 9 = .ok (.aload_n 0, 1) := by decide +kernel
theorem dX12_isT_10 : decode cX12_isT 10 = .ok (.bipush 38, 2) := by decide +kernel
theorem dX12_isT_12 : decode cX12_isT 12 = .ok (.invokevirtual 171, 3) := by decide +kernel
theorem dX12_isT_15 : decode cX12_isT 15 = .ok (.ifCond .eq 20, 3) := by decide +kernel
theorem dX12_isT_18 : decode cX12_isT 18 = .ok (.aload_n 0, 1) := by decide +kernel
theorem dX12_isT_19 : decode cX12_isT 19 = .ok (.invokevirtual 196, 3) := by decide +kernel
theorem dX12_isT_22 : decode cX12_isT 22 = .ok (.ifCond .eq 11, 3) := by decide +kernel
theorem dX12_isT_25 : decode cX12_isT 25 = .ok (.aload_n 0, 1) := by decide +kernel
theorem dX12_isT_26 : decode cX12_isT 26 = .ok (.iconst 1, 1) := by decide +kernel
theorem dX12_isT_27 : decode cX12_isT 27 = .ok (.invokevirtual 187, 3) := by decide +kernel
theorem dX12_isT_30 : decode cX12_isT 30 = .ok (.ifCond .ne (-21), 3) := by decide +kernel
theorem dX12_isT_33 : decode cX12_isT 33 = .ok (.iconst 0, 1) := by decide +kernel
theorem dX12_isT_34 : decode cX12_isT 34 = .ok (.ireturn, 1) := by decide +kernel
theorem dX12_isT_35 : decode cX12_isT 35 = .ok (.iconst 1, 1) := by decide +kernel
theorem dX12_isT_36 : decode cX12_isT 36 = .ok (.ireturn, 1) := by decide +kernel
theorem dX12_isE_0 : decode cX12_isE 0 = .ok (.aload_n 0, 1) := by decide +kernel
theorem dX12_isE_1 : decode cX12_isE 1 = .ok (.invokevirtual 205, 3) := by decide +kernel
theorem dX12_isE_4 : decode cX12_isE 4 = .ok (.ifCond .ne 5, 3) := by decide +kernel
theorem dX12_isE_7 : decode cX12_isE 7 = .ok (.iconst 0, 1) := by decide +kernel
theorem dX12_isE_8 : decode cX12_isE 8 = .ok (.ireturn, 1) := by decide +kernel
theorem dX12_isE_9 : decode cX12_isE 9 = .ok (.aload_n 0, 1) := by decide +kernel
theorem dX12_isE_10 : decode cX12_isE 10 = .ok (.bipush 124, 2) := by decide +kernel
theorem dX12_isE_12 : decode cX12_isE 12 = .ok (.invokevirtual 171, 3) := by decide +kernel
theorem dX12_isE_15 : decode cX12_isE 15 = .ok (.ifCond .eq 20, 3) := by decide +kernel
theorem dX12_isE_18 : decode cX12_isE 18 = .ok (.aload_n 0, 1) := by decide +kernel
theorem dX12_isE_19 : decode cX12_isE 19 = .ok (.invokevirtual 205, 3) := by decide +kernel
theorem dX12_isE_22 : decode cX12_isE 22 = .ok (.ifCond .eq 11, 3) := by decide +kernel
theorem dX12_isE_25 : decode cX12_isE 25 = .ok (.aload_n 0, 1) := by decide +kernel
theorem dX12_isE_26 : decode cX12_isE 26 = .ok (.iconst 2, 1) := by decide +kernel
theorem dX12_isE_27 : decode cX12_isE 27 = .ok (.invokevirtual 187, 3) := by decide +kernel
theorem dX12_isE_30 : decode cX12_isE 30 = .ok (.ifCond .ne (-21), 3) := by decide +kernel
theorem dX12_isE_33 : decode cX12_isE 33 = .ok (.iconst 0, 1) := by decide +kernel
theorem dX12_isE_34 : decode cX12_isE 34 = .ok (.ireturn, 1) := by decide +kernel
theorem dX12_isE_35 : decode cX12_isE 35 = .ok (.iconst 1, 1) := by decide +kernel
theorem dX12_isE_36 : decode cX12_isE 36 = .ok (.ireturn, 1) := by decide +kernel
theorem dX12_isClause_0 : decode cX12_isClause 0 = .ok (.iconst (-1), 1) := by decide +kernel
theorem dX12_isClause_1 : decode cX12_isClause 1 = .ok (.istore_n 2, 1) := by decide +kernel
theorem dX12_isClause_2 : decode cX12_isClause 2 = .ok (.aload_n 0, 1) := by decide +kernel
theorem dX12_isClause_3 : decode cX12_isClause 3 = .ok (.getfield 149, 3) := by decide +kernel
theorem dX12_isClause_6 : decode cX12_isClause 6 = .ok (.aload_n 0, 1) := by decide +kernel
theorem dX12_isClause_7 : decode cX12_isClause 7 = .ok (.getfield 146, 3) := by decide +kernel
theorem dX12_isClause_10 : decode cX12_isClause 10 = .ok (.if_icmp .ge 41, 3) := by decide +kernel
theorem dX12_isClause_13 : decode cX12_isClause 13 = .ok (.aload_n 0, 1) := by decide +kernel
theorem dX12_isClause_14 : decode cX12_isClause 14 = .ok (.getfield 39, 3) := by decide +kernel
theorem dX12_isClause_17 : decode cX12_isClause 17 = .ok (.aload_n 0, 1) := by decide +kernel
theorem dX12_isClause_18 : decode cX12_isClause 18 = .ok (.getfield 149, 3) := by decide +kernel
theorem dX12_isClause_21 : decode cX12_isClause 21 = .ok (.iaload, 1) := by decide +kernel
theorem dX12_isClause_22 : decode cX12_isClause 22 = .ok (.bipush 98, 2) := by decide +kernel
theorem dX12_isClause_24 : decode cX12_isClause 24 = .ok (.if_icmp .ne 7, 3) := by decide +kernel
theorem dX12_isClause_27 : decode cX12_isClause 27 = .ok (.iconst 0, 1) := by decide +kernel
theorem dX12_isClause_28 : decode cX12_isClause 28 = .ok (.goto 22, 3) := by decide +kernel
theorem dX12_isClause_31 : decode cX12_isClause 31 = .ok (.aload_n 0, 1) := by decide +kernel
theorem dX12_isClause_32 : decode cX12_isClause 32 = .ok (.getfield 39, 3) := by decide +kernel
theorem dX12_isClause_35 : decode cX12_isClause 35 = .ok (.aload_n 0, 1) := by decide +kernel
theorem dX12_isClause_36 : decode cX12_isClause 36 = .ok (.getfield 149, 3) := by decide +kernel
theorem dX12_isClause_39 : decode cX12_isClause 39 = .ok (.iaload, 1) := by decide +kernel
theorem dX12_isClause_40 : decode cX12_isClause 40 = .ok (.bipush 100, 2) := by decide +kernel
theorem dX12_isClause_42 : decode cX12_isClause 42 = .ok (.if_icmp .ne 7, 3) := by decide +kernel
theorem dX12_isClause_45 : decode cX12_isClause 45 = .ok (.iconst 1, 1) := by decide +kernel
theorem dX12_isClause_46 : decode cX12_isClause 46 = .ok (.goto 4, 3) := by decide +kernel
theorem dX12_isClause_49 : decode cX12_isClause 49 = .ok (.iconst (-1), 1) := by decide +kernel
theorem dX12_isClause_50 : decode cX12_isClause 50 = .ok (.istore_n 2, 1) := by decide +kernel
theorem dX12_isClause_51 : decode cX12_isClause 51 = .ok (.iload_n 2, 1) := by decide +kernel
theorem dX12_isClause_52 : decode cX12_isClause 52 = .ok (.iconst 1, 1) := by decide +kernel
theorem dX12_isClause_53 : decode cX12_isClause 53 = .ok (.if_icmp .ne 34, 3) := by decide +kernel
theorem dX12_isClause_56 : decode cX12_isClause 56 = .ok (.aload_n 0, 1) := by decide +kernel
theorem dX12_isClause_57 : decode cX12_isClause 57 = .ok (.getfield 149, 3) := by decide +kernel
theorem dX12_isClause_60 : decode cX12_isClause 60 = .ok (.iconst 1, 1) := by decide +kernel
theorem dX12_isClause_61 : decode cX12_isClause 61 = .ok (.iadd, 1) := by decide +kernel
theorem dX12_isClause_62 : decode cX12_isClause 62 = .ok (.aload_n 0, 1) := by decide +kernel
theorem dX12_isClause_63 : decode cX12_isClause 63 = .ok (.getfield 146, 3) := by decide +kernel
theorem dX12_isClause_66 : decode cX12_isClause 66 = .ok (.if_icmp .ge 21, 3) := by decide +kernel
theorem dX12_isClause_69 : decode cX12_isClause 69 = .ok (.aload_n 0, 1) := by decide +kernel
theorem dX12_isClause_70 : decode cX12_isClause 70 = .ok (.getfield 39, 3) := by decide +kernel
theorem dX12_isClause_73 : decode cX12_isClause 73 = .ok (.aload_n 0, 1) := by decide +kernel
theorem dX12_isClause_74 : decode cX12_isClause 74 = .ok (.getfield 149, 3) := by decide +kernel
theorem dX12_isClause_77 : decode cX12_isClause 77 = .ok (.iconst 1, 1) := by decide +kernel
theorem dX12_isClause_78 : decode cX12_isClause 78 = .ok (.iadd, 1) := by decide +kernel
theorem dX12_isClause_79 : decode cX12_isClause 79 = .ok (.iaload, 1) := by decide +kernel
theorem dX12_isClause_80 : decode cX12_isClause 80 = .ok (.bipush 114, 2) := by decide +kernel
theorem dX12_isClause_82 : decode cX12_isClause 82 = .ok (.if_icmp .ne 5, 3) := by decide +kernel
theorem dX12_isClause_85 : decode cX12_isClause 85 = .ok (.iconst 2, 1) := by decide +kernel
theorem dX12_isClause_86 : decode cX12_isClause 86 = .ok (.istore_n 2, 1) := by decide +kernel
theorem dX12_isClause_87 : decode cX12_isClause 87 = .ok (.iload_n 2, 1) := by decide +kernel
theorem dX12_isClause_88 : decode cX12_isClause 88 = .ok (.ifCond .ne 12, 3) := by decide +kernel
theorem dX12_isClause_91 : decode cX12_isClause 91 = .ok (.aload_n 0, 1) := by decide +kernel
theorem dX12_isClause_92 : decode cX12_isClause 92 = .ok (.ldc 208, 2) := by decide +kernel
theorem dX12_isClause_94 : decode cX12_isClause 94 = .ok (.invokevirtual 210, 3) := by decide +kernel
theorem dX12_isClause_97 : decode cX12_isClause 97 = .ok (.goto 36, 3) := by decide +kernel
theorem dX12_isClause_100 : decode cX12_isClause 100 = .ok (.iload_n 2, 1) := by decide +kernel
theorem dX12_isClause_101 : decode cX12_isClause 101 = .ok (.iconst 1, 1) := by decide +kernel
theorem dX12_isClause_102 : decode cX12_isClause 102 = .ok (.if_icmp .ne 12, 3) := by decide +kernel
theorem dX12_isClause_105 : decode cX12_isClause 105 = .ok (.aload_n 0, 1) := by decide +kernel
theorem dX12_isClause_106 : decode cX12_isClause 106 = .ok (.ldc 214, 2) := by decide +kernel
theorem dX12_isClause_108 : decode cX12_isClause 108 = .ok (.invokevirtual 210, 3) := by decide +kernel
theorem dX12_isClause_111 : decode cX12_isClause 111 = .ok (.goto 22, 3) := by decide +kernel
theorem dX12_isClause_114 : decode cX12_isClause 114 = .ok (.iload_n 2, 1) := by decide +kernel
theorem dX12_isClause_115 : decode cX12_isClause 115 = .ok (.iconst 2, 1) := by decide +kernel
theorem dX12_isClause_116 : decode cX12_isClause 116 = .ok (.if_icmp .ne 16, 3) := by decide +kernel
theorem dX12_isClause_119 : decode cX12_isClause 119 = .ok (.aload_n 0, 1) := by decide +kernel
theorem dX12_isClause_120 : decode cX12_isClause 120 = .ok (.ldc 216, 2) := by decide +kernel
theorem dX12_isClause_122 : decode cX12_isClause 122 = .ok (.invokevirtual 210, 3) := by decide +kernel
theorem dX12_isClause_125 : decode cX12_isClause 125 = .ok (.ifCond .eq 7, 3) := by decide +kernel
theorem dX12_isClause_128 : decode cX12_isClause 128 = .ok (.iconst 1, 1) := by decide +kernel
theorem dX12_isClause_129 : decode cX12_isClause 129 = .ok (.goto 4, 3) := by decide +kernel
theorem dX12_isClause_132 : decode cX12_isClause 132 = .ok (.iconst 0, 1) := by decide +kernel
theorem dX12_isClause_133 : decode cX12_isClause 133 = .ok (.istore_n 3, 1) := by decide +kernel
theorem dX12_isClause_134 : decode cX12_isClause 134 = .ok (.iload_n 3, 1) := by decide +kernel
theorem dX12_isClause_135 : decode cX12_isClause 135 = .ok (.ifCond .eq 10, 3) := by decide +kernel
theorem dX12_isClause_138 : decode cX12_isClause 138 = .ok (.aload_n 0, 1) := by decide +kernel
theorem dX12_isClause_139 : decode cX12_isClause 139 = .ok (.invokevirtual 184, 3) := by decide +kernel
theorem dX12_isClause_142 : decode cX12_isClause 142 = .ok (.ifCond .ne 5, 3) := by decide +kernel
theorem dX12_isClause_145 : decode cX12_isClause 145 = .ok (.iconst 0, 1) := by decide +kernel
theorem dX12_isClause_146 : decode cX12_isClause 146 = .ok (.ireturn, 1) := by decide +kernel
theorem dX12_isClause_147 : decode cX12_isClause 147 = .ok (.aload_n 0, 1) := by decide +kernel
theorem dX12_isClause_148 : decode cX12_isClause 148 = .ok (.getfield 45, 3) := by decide +kernel
theorem dX12_isClause_151 : decode cX12_isClause 151 = .ok (.iload_n 1, 1) := by decide +kernel
theorem dX12_isClause_152 : decode cX12_isClause 152 = .ok (.iload_n 2, 1) := by decide +kernel
theorem dX12_isClause_153 : decode cX12_isClause 153 = .ok (.iastore, 1) := by decide +kernel
theorem dX12_isClause_154 : decode cX12_isClause 154 = .ok (.aload_n 0, 1) := by decide +kernel
theorem dX12_isClause_155 : decode cX12_isClause 155 = .ok (.getfield 48, 3) := by decide +kernel
theorem dX12_isClause_158 : decode cX12_isClause 158 = .ok (.iload_n 1, 1) := by decide +kernel
theorem dX12_isClause_159 : decode cX12_isClause 159 = .ok (.aload_n 0, 1) := by decide +kernel
theorem dX12_isClause_160 : decode cX12_isClause 160 = .ok (.getfield 152, 3) := by decide +kernel
theorem dX12_isClause_163 : decode cX12_isClause 163 = .ok (.iastore, 1) := by decide +kernel
theorem dX12_isClause_164 : decode cX12_isClause 164 = .ok (.aload_n 0, 1) := by decide +kernel
theorem dX12_isClause_165 : decode cX12_isClause 165 = .ok (.getfield 51, 3) := by decide +kernel
theorem dX12_isClause_168 : decode cX12_isClause 168 = .ok (.iload_n 1, 1) := by decide +kernel
theorem dX12_isClause_169 : decode cX12_isClause 169 = .ok (.aload_n 0, 1) := by decide +kernel
theorem dX12_isClause_170 : decode cX12_isClause 170 = .ok (.getfield 174, 3) := by decide +kernel
theorem dX12_isClause_173 : decode cX12_isClause 173 = .ok (.iastore, 1) := by decide +kernel
