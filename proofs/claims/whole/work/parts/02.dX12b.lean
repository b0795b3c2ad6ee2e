theorem dX12_isClause_174 : decode cX12_isClause 174 = .ok (.aload_n 0, 1) := by decide +kernel
theorem dX12_isClause_175 : decode cX12_isClause 175 = .ok (.iconst 0, 1) := by decide +kernel
theorem dX12_isClause_176 : decode cX12_isClause 176 = .ok (.putfield 190, 3) := by decide +kernel
theorem dX12_isClause_179 : decode cX12_isClause 179 = .ok (.iload_n 2, 1) := by decide +kernel
theorem dX12_isClause_180 : decode cX12_isClause 180 = .ok (.iconst 2, 1) := by decide +kernel
theorem dX12_isClause_181 : decode cX12_isClause 181 = .ok (.if_icmp .ge 21, 3) := by decide +kernel
theorem dX12_isClause_184 : decode cX12_isClause 184 = .ok (.aload_n 0, 1) := by decide +kernel
theorem dX12_isClause_185 : decode cX12_isClause 185 = .ok (.bipush 32, 2) := by decide +kernel
theorem dX12_isClause_187 : decode cX12_isClause 187 = .ok (.invokevirtual 171, 3) := by decide +kernel
theorem dX12_isClause_190 : decode cX12_isClause 190 = .ok (.ifCond .eq 10, 3) := by decide +kernel
theorem dX12_isClause_193 : decode cX12_isClause 193 = .ok (.aload_n 0, 1) := by decide +kernel
theorem dX12_isClause_194 : decode cX12_isClause 194 = .ok (.invokevirtual 199, 3) := by decide +kernel
theorem dX12_isClause_197 : decode cX12_isClause 197 = .ok (.ifCond .ne 5, 3) := by decide +kernel
theorem dX12_isClause_200 : decode cX12_isClause 200 = .ok (.iconst 0, 1) := by decide +kernel
theorem dX12_isClause_201 : decode cX12_isClause 201 = .ok (.ireturn, 1) := by decide +kernel
theorem dX12_isClause_202 : decode cX12_isClause 202 = .ok (.aload_n 0, 1) := by decide +kernel
theorem dX12_isClause_203 : decode cX12_isClause 203 = .ok (.getfield 54, 3) := by decide +kernel
theorem dX12_isClause_206 : decode cX12_isClause 206 = .ok (.iload_n 1, 1) := by decide +kernel
theorem dX12_isClause_207 : decode cX12_isClause 207 = .ok (.aload_n 0, 1) := by decide +kernel
theorem dX12_isClause_208 : decode cX12_isClause 208 = .ok (.getfield 174, 3) := by decide +kernel
theorem dX12_isClause_211 : decode cX12_isClause 211 = .ok (.aload_n 0, 1) := by decide +kernel
theorem dX12_isClause_212 : decode cX12_isClause 212 = .ok (.getfield 51, 3) := by decide +kernel
theorem dX12_isClause_215 : decode cX12_isClause 215 = .ok (.iload_n 1, 1) := by decide +kernel
theorem dX12_isClause_216 : decode cX12_isClause 216 = .ok (.iaload, 1) := by decide +kernel
theorem dX12_isClause_217 : decode cX12_isClause 217 = .ok (.isub, 1) := by decide +kernel
theorem dX12_isClause_218 : decode cX12_isClause 218 = .ok (.iastore, 1) := by decide +kernel
theorem dX12_isClause_219 : decode cX12_isClause 219 = .ok (.iconst 1, 1) := by decide +kernel
theorem dX12_isClause_220 : decode cX12_isClause 220 = .ok (.ireturn, 1) := by decide +kernel
theorem dX12_show_0 : decode cX12_show 0 = .ok (.aload_n 0, 1) := by decide +kernel
theorem dX12_show_1 : decode cX12_show 1 = .ok (.getfield 218, 3) := by decide +kernel
theorem dX12_show_4 : decode cX12_show 4 = .ok (.bipush 6, 2) := by decide +kernel
theorem dX12_show_6 : decode cX12_show 6 = .ok (.if_icmp .ne 6, 3) := by decide +kernel
theorem dX12_show_9 : decode cX12_show 9 = .ok (.bipush (-4), 2) := by decide +kernel
theorem dX12_show_11 : decode cX12_show 11 = .ok (.ireturn, 1) := by decide +kernel
theorem dX12_show_12 : decode cX12_show 12 = .ok (.aload_n 0, 1) := by decide +kernel
theorem dX12_show_13 : decode cX12_show 13 = .ok (.getfield 174, 3) := by decide +kernel
theorem dX12_show_16 : decode cX12_show 16 = .ok (.istore_n 1, 1) := by decide +kernel
theorem dX12_show_17 : decode cX12_show 17 = .ok (.aload_n 0, 1) := by decide +kernel
theorem dX12_show_18 : decode cX12_show 18 = .ok (.iconst 0, 1) := by decide +kernel
theorem dX12_show_19 : decode cX12_show 19 = .ok (.putfield 149, 3) := by decide +kernel
theorem dX12_show_22 : decode cX12_show 22 = .ok (.iconst 0, 1) := by decide +kernel
theorem dX12_show_23 : decode cX12_show 23 = .ok (.istore_n 2, 1) := by decide +kernel
theorem dX12_show_24 : decode cX12_show 24 = .ok (.iconst 1, 1) := by decide +kernel
theorem dX12_show_25 : decode cX12_show 25 = .ok (.istore_n 3, 1) := by decide +kernel
theorem dX12_show_26 : decode cX12_show 26 = .ok (.iconst 0, 1) := by decide +kernel
theorem dX12_show_27 : decode cX12_show 27 = .ok (.istore 4, 2) := by decide +kernel
theorem dX12_show_29 : decode cX12_show 29 = .ok (.iload_n 3, 1) := by decide +kernel
theorem dX12_show_30 : decode cX12_show 30 = .ok (.ifCond .eq 93, 3) := by decide +kernel
theorem dX12_show_33 : decode cX12_show 33 = .ok (.iload 4, 2) := by decide +kernel
theorem dX12_show_35 : decode cX12_show 35 = .ok (.ifCond .ne 88, 3) := by decide +kernel
theorem dX12_show_38 : decode cX12_show 38 = .ok (.iload_n 2, 1) := by decide +kernel
theorem dX12_show_39 : decode cX12_show 39 = .ok (.bipush 10, 2) := by decide +kernel
theorem dX12_show_41 : decode cX12_show 41 = .ok (.if_icmp .ge 23, 3) := by decide +kernel
theorem dX12_show_44 : decode cX12_show 44 = .ok (.aload_n 0, 1) := by decide +kernel
theorem dX12_show_45 : decode cX12_show 45 = .ok (.bipush 10, 2) := by decide +kernel
theorem dX12_show_47 : decode cX12_show 47 = .ok (.aload_n 0, 1) := by decide +kernel
theorem dX12_show_48 : decode cX12_show 48 = .ok (.getfield 218, 3) := by decide +kernel
theorem dX12_show_51 : decode cX12_show 51 = .ok (.imul, 1) := by decide +kernel
theorem dX12_show_52 : decode cX12_show 52 = .ok (.iload_n 2, 1) := by decide +kernel
theorem dX12_show_53 : decode cX12_show 53 = .ok (.iadd, 1) := by decide +kernel
theorem dX12_show_54 : decode cX12_show 54 = .ok (.invokevirtual 221, 3) := by decide +kernel
theorem dX12_show_57 : decode cX12_show 57 = .ok (.ifCond .eq 7, 3) := by decide +kernel
theorem dX12_show_60 : decode cX12_show 60 = .ok (.iconst 1, 1) := by decide +kernel
theorem dX12_show_61 : decode cX12_show 61 = .ok (.goto 4, 3) := by decide +kernel
theorem dX12_show_64 : decode cX12_show 64 = .ok (.iconst 0, 1) := by decide +kernel
theorem dX12_show_65 : decode cX12_show 65 = .ok (.istore_n 3, 1) := by decide +kernel
theorem dX12_show_66 : decode cX12_show 66 = .ok (.iload_n 3, 1) := by decide +kernel
theorem dX12_show_67 : decode cX12_show 67 = .ok (.ifCond .ne 6, 3) := by decide +kernel
theorem dX12_show_70 : decode cX12_show 70 = .ok (.goto (-41), 3) := by decide +kernel
theorem dX12_show_73 : decode cX12_show 73 = .ok (.iinc 2 1, 3) := by decide +kernel
theorem dX12_show_76 : decode cX12_show 76 = .ok (.aload_n 0, 1) := by decide +kernel
theorem dX12_show_77 : decode cX12_show 77 = .ok (.getfield 149, 3) := by decide +kernel
theorem dX12_show_80 : decode cX12_show 80 = .ok (.aload_n 0, 1) := by decide +kernel
theorem dX12_show_81 : decode cX12_show 81 = .ok (.getfield 146, 3) := by decide +kernel
theorem dX12_show_84 : decode cX12_show 84 = .ok (.if_icmp .ne 7, 3) := by decide +kernel
theorem dX12_show_87 : decode cX12_show 87 = .ok (.iconst 1, 1) := by decide +kernel
theorem dX12_show_88 : decode cX12_show 88 = .ok (.goto 4, 3) := by decide +kernel
theorem dX12_show_91 : decode cX12_show 91 = .ok (.iconst 0, 1) := by decide +kernel
theorem dX12_show_92 : decode cX12_show 92 = .ok (.istore 4, 2) := by decide +kernel
theorem dX12_show_94 : decode cX12_show 94 = .ok (.iload 4, 2) := by decide +kernel
theorem dX12_show_96 : decode cX12_show 96 = .ok (.ifCond .ne 18, 3) := by decide +kernel
theorem dX12_show_99 : decode cX12_show 99 = .ok (.iload_n 2, 1) := by decide +kernel
theorem dX12_show_100 : decode cX12_show 100 = .ok (.bipush 10, 2) := by decide +kernel
theorem dX12_show_102 : decode cX12_show 102 = .ok (.if_icmp .ge 16, 3) := by decide +kernel
theorem dX12_show_105 : decode cX12_show 105 = .ok (.aload_n 0, 1) := by decide +kernel
theorem dX12_show_106 : decode cX12_show 106 = .ok (.bipush 59, 2) := by decide +kernel
theorem dX12_show_108 : decode cX12_show 108 = .ok (.invokevirtual 171, 3) := by decide +kernel
theorem dX12_show_111 : decode cX12_show 111 = .ok (.ifCond .eq 7, 3) := by decide +kernel
theorem dX12_show_114 : decode cX12_show 114 = .ok (.iconst 1, 1) := by decide +kernel
theorem dX12_show_115 : decode cX12_show 115 = .ok (.goto 4, 3) := by decide +kernel
theorem dX12_show_118 : decode cX12_show 118 = .ok (.iconst 0, 1) := by decide +kernel
theorem dX12_show_119 : decode cX12_show 119 = .ok (.istore_n 3, 1) := by decide +kernel
theorem dX12_show_120 : decode cX12_show 120 = .ok (.goto (-91), 3) := by decide +kernel
theorem dX12_show_123 : decode cX12_show 123 = .ok (.aload_n 0, 1) := by decide +kernel
theorem dX12_show_124 : decode cX12_show 124 = .ok (.iconst 0, 1) := by decide +kernel
theorem dX12_show_125 : decode cX12_show 125 = .ok (.putfield 146, 3) := by decide +kernel
theorem dX12_show_128 : decode cX12_show 128 = .ok (.iload 4, 2) := by decide +kernel
theorem dX12_show_130 : decode cX12_show 130 = .ok (.ifCond .ne 16, 3) := by decide +kernel
theorem dX12_show_133 : decode cX12_show 133 = .ok (.aload_n 0, 1) := by decide +kernel
theorem dX12_show_134 : decode cX12_show 134 = .ok (.iload_n 1, 1) := by decide +kernel
theorem dX12_show_135 : decode cX12_show 135 = .ok (.putfield 174, 3) := by decide +kernel
theorem dX12_show_138 : decode cX12_show 138 = .ok (.bipush (-10), 2) := by decide +kernel
theorem dX12_show_140 : decode cX12_show 140 = .ok (.aload_n 0, 1) := by decide +kernel
theorem dX12_show_141 : decode cX12_show 141 = .ok (.getfield 149, 3) := by decide +kernel
theorem dX12_show_144 : decode cX12_show 144 = .ok (.isub, 1) := by decide +kernel
theorem dX12_show_145 : decode cX12_show 145 = .ok (.ireturn, 1) := by decide +kernel
theorem dX12_show_146 : decode cX12_show 146 = .ok (.aload_n 0, 1) := by decide +kernel
theorem dX12_show_147 : decode cX12_show 147 = .ok (.getfield 42, 3) := by decide +kernel
theorem dX12_show_150 : decode cX12_show 150 = .ok (.aload_n 0, 1) := by decide +kernel
theorem dX12_show_151 : decode cX12_show 151 = .ok (.getfield 218, 3) := by decide +kernel
theorem dX12_show_154 : decode cX12_show 154 = .ok (.iload_n 2, 1) := by decide +kernel
theorem dX12_show_155 : decode cX12_show 155 = .ok (.iastore, 1) := by decide +kernel
theorem dX12_show_156 : decode cX12_show 156 = .ok (.aload_n 0, 1) := by decide +kernel
theorem dX12_show_157 : decode cX12_show 157 = .ok (.aload_n 0, 1) := by decide +kernel
theorem dX12_show_158 : decode cX12_show 158 = .ok (.getfield 218, 3) := by decide +kernel
theorem dX12_show_161 : decode cX12_show 161 = .ok (.putfield 110, 3) := by decide +kernel
theorem dX12_show_164 : decode cX12_show 164 = .ok (.aload_n 0, 1) := by decide +kernel
theorem dX12_show_165 : decode cX12_show 165 = .ok (.dup, 1) := by decide +kernel
theorem dX12_show_166 : decode cX12_show 166 = .ok (.getfield 218, 3) := by decide +kernel
theorem dX12_show_169 : decode cX12_show 169 = .ok (.dup_x1, 1) := by decide +kernel
theorem dX12_show_170 : decode cX12_show 170 = .ok (.iconst 1, 1) := by decide +kernel
theorem dX12_show_171 : decode cX12_show 171 = .ok (.iadd, 1) := by decide +kernel
theorem dX12_show_172 : decode cX12_show 172 = .ok (.putfield 218, 3) := by decide +kernel
theorem dX12_show_175 : decode cX12_show 175 = .ok (.ireturn, 1) := by decide +kernel
theorem dX12_letterOf_0 : decode cX12_letterOf 0 = .ok (.iload_n 2, 1) := by decide +kernel
theorem dX12_letterOf_1 : decode cX12_letterOf 1 = .ok (.tableswitch 68 0 4 #[35, 37, 44, 51, 58], 35) := by decide +kernel
theorem dX12_letterOf_36 : decode cX12_letterOf 36 = .ok (.iload_n 1, 1) := by decide +kernel
theorem dX12_letterOf_37 : decode cX12_letterOf 37 = .ok (.ireturn, 1) := by decide +kernel
theorem dX12_letterOf_38 : decode cX12_letterOf 38 = .ok (.aload_n 0, 1) := by decide +kernel
theorem dX12_letterOf_39 : decode cX12_letterOf 39 = .ok (.getfield 18, 3) := by decide +kernel
theorem dX12_letterOf_42 : decode cX12_letterOf 42 = .ok (.iload_n 1, 1) := by decide +kernel
theorem dX12_letterOf_43 : decode cX12_letterOf 43 = .ok (.iaload, 1) := by decide +kernel
theorem dX12_letterOf_44 : decode cX12_letterOf 44 = .ok (.ireturn, 1) := by decide +kernel
theorem dX12_letterOf_45 : decode cX12_letterOf 45 = .ok (.aload_n 0, 1) := by decide +kernel
theorem dX12_letterOf_46 : decode cX12_letterOf 46 = .ok (.getfield 21, 3) := by decide +kernel
theorem dX12_letterOf_49 : decode cX12_letterOf 49 = .ok (.iload_n 1, 1) := by decide +kernel
theorem dX12_letterOf_50 : decode cX12_letterOf 50 = .ok (.iaload, 1) := by decide +kernel
theorem dX12_letterOf_51 : decode cX12_letterOf 51 = .ok (.ireturn, 1) := by decide +kernel
theorem dX12_letterOf_52 : decode cX12_letterOf 52 = .ok (.aload_n 0, 1) := by decide +kernel
theorem dX12_letterOf_53 : decode cX12_letterOf 53 = .ok (.getfield 24, 3) := by decide +kernel
theorem dX12_letterOf_56 : decode cX12_letterOf 56 = .ok (.iload_n 1, 1) := by decide +kernel
theorem dX12_letterOf_57 : decode cX12_letterOf 57 = .ok (.iaload, 1) := by decide +kernel
theorem dX12_letterOf_58 : decode cX12_letterOf 58 = .ok (.ireturn, 1) := by decide +kernel
theorem dX12_letterOf_59 : decode cX12_letterOf 59 = .ok (.aload_n 0, 1) := by decide +kernel
theorem dX12_letterOf_60 : decode cX12_letterOf 60 = .ok (.getfield 30, 3) := by decide +kernel
theorem dX12_letterOf_63 : decode cX12_letterOf 63 = .ok (.iload_n 1, 1) := by decide +kernel
theorem dX12_letterOf_64 : decode cX12_letterOf 64 = .ok (.iaload, 1) := by decide +kernel
theorem dX12_letterOf_65 : decode cX12_letterOf 65 = .ok (.bipush 10, 2) := by decide +kernel
theorem dX12_letterOf_67 : decode cX12_letterOf 67 = .ok (.idiv, 1) := by decide +kernel
theorem dX12_letterOf_68 : decode cX12_letterOf 68 = .ok (.ireturn, 1) := by decide +kernel
theorem dX12_letterOf_69 : decode cX12_letterOf 69 = .ok (.aload_n 0, 1) := by decide +kernel
theorem dX12_letterOf_70 : decode cX12_letterOf 70 = .ok (.getfield 224, 3) := by decide +kernel
theorem dX12_letterOf_73 : decode cX12_letterOf 73 = .ok (.bipush 10, 2) := by decide +kernel
theorem dX12_letterOf_75 : decode cX12_letterOf 75 = .ok (.irem, 1) := by decide +kernel
theorem dX12_letterOf_76 : decode cX12_letterOf 76 = .ok (.ireturn, 1) := by decide +kernel
theorem dX12_isTrue_0 : decode cX12_isTrue 0 = .ok (.iconst 0, 1) := by decide +kernel
theorem dX12_isTrue_1 : decode cX12_isTrue 1 = .ok (.istore_n 3, 1) := by decide +kernel
theorem dX12_isTrue_2 : decode cX12_isTrue 2 = .ok (.aload_n 0, 1) := by decide +kernel
theorem dX12_isTrue_3 : decode cX12_isTrue 3 = .ok (.getfield 51, 3) := by decide +kernel
theorem dX12_isTrue_6 : decode cX12_isTrue 6 = .ok (.iload_n 2, 1) := by decide +kernel
theorem dX12_isTrue_7 : decode cX12_isTrue 7 = .ok (.iaload, 1) := by decide +kernel
theorem dX12_isTrue_8 : decode cX12_isTrue 8 = .ok (.istore 4, 2) := by decide +kernel
theorem dX12_isTrue_10 : decode cX12_isTrue 10 = .ok (.iload 4, 2) := by decide +kernel
theorem dX12_isTrue_12 : decode cX12_isTrue 12 = .ok (.aload_n 0, 1) := by decide +kernel
theorem dX12_isTrue_13 : decode cX12_isTrue 13 = .ok (.getfield 51, 3) := by decide +kernel
theorem dX12_isTrue_16 : decode cX12_isTrue 16 = .ok (.iload_n 2, 1) := by decide +kernel
theorem dX12_isTrue_17 : decode cX12_isTrue 17 = .ok (.iaload, 1) := by decide +kernel
theorem dX12_isTrue_18 : decode cX12_isTrue 18 = .ok (.aload_n 0, 1) := by decide +kernel
theorem dX12_isTrue_19 : decode cX12_isTrue 19 = .ok (.getfield 54, 3) := by decide +kernel
theorem dX12_isTrue_22 : decode cX12_isTrue 22 = .ok (.iload_n 2, 1) := by decide +kernel
theorem dX12_isTrue_23 : decode cX12_isTrue 23 = .ok (.iaload, 1) := by decide +kernel
theorem dX12_isTrue_24 : decode cX12_isTrue 24 = .ok (.iadd, 1) := by decide +kernel
theorem dX12_isTrue_25 : decode cX12_isTrue 25 = .ok (.if_icmp .ge 226, 3) := by decide +kernel
theorem dX12_isTrue_28 : decode cX12_isTrue 28 = .ok (.aload_n 0, 1) := by decide +kernel
theorem dX12_isTrue_29 : decode cX12_isTrue 29 = .ok (.getfield 57, 3) := by decide +kernel
theorem dX12_isTrue_32 : decode cX12_isTrue 32 = .ok (.iload 4, 2) := by decide +kernel
theorem dX12_isTrue_34 : decode cX12_isTrue 34 = .ok (.iaload, 1) := by decide +kernel
theorem dX12_isTrue_35 : decode cX12_isTrue 35 = .ok (.istore 5, 2) := by decide +kernel
theorem dX12_isTrue_37 : decode cX12_isTrue 37 = .ok (.iload 5, 2) := by decide +kernel
theorem dX12_isTrue_39 : decode cX12_isTrue 39 = .ok (.iconst 3, 1) := by decide +kernel
theorem dX12_isTrue_40 : decode cX12_isTrue 40 = .ok (.if_icmp .lt 103, 3) := by decide +kernel
theorem dX12_isTrue_43 : decode cX12_isTrue 43 = .ok (.aload_n 0, 1) := by decide +kernel
theorem dX12_isTrue_44 : decode cX12_isTrue 44 = .ok (.iload_n 1, 1) := by decide +kernel
theorem dX12_isTrue_45 : decode cX12_isTrue 45 = .ok (.iload 5, 2) := by decide +kernel
theorem dX12_isTrue_47 : decode cX12_isTrue 47 = .ok (.iconst 3, 1) := by decide +kernel
theorem dX12_isTrue_48 : decode cX12_isTrue 48 = .ok (.isub, 1) := by decide +kernel
theorem dX12_isTrue_49 : decode cX12_isTrue 49 = .ok (.sipush 300, 3) := by decide +kernel
theorem dX12_isTrue_52 : decode cX12_isTrue 52 = .ok (.idiv, 1) := by decide +kernel
theorem dX12_isTrue_53 : decode cX12_isTrue 53 = .ok (.invokevirtual 227, 3) := by decide +kernel
theorem dX12_isTrue_56 : decode cX12_isTrue 56 = .ok (.istore 6, 2) := by decide +kernel
theorem dX12_isTrue_58 : decode cX12_isTrue 58 = .ok (.iload 5, 2) := by decide +kernel
theorem dX12_isTrue_60 : decode cX12_isTrue 60 = .ok (.iconst 3, 1) := by decide +kernel
theorem dX12_isTrue_61 : decode cX12_isTrue 61 = .ok (.isub, 1) := by decide +kernel
theorem dX12_isTrue_62 : decode cX12_isTrue 62 = .ok (.bipush 100, 2) := by decide +kernel
theorem dX12_isTrue_64 : decode cX12_isTrue 64 = .ok (.irem, 1) := by decide +kernel
theorem dX12_isTrue_65 : decode cX12_isTrue 65 = .ok (.istore 7, 2) := by decide +kernel
theorem dX12_isTrue_67 : decode cX12_isTrue 67 = .ok (.iload 5, 2) := by decide +kernel
theorem dX12_isTrue_69 : decode cX12_isTrue 69 = .ok (.iconst 3, 1) := by decide +kernel
theorem dX12_isTrue_70 : decode cX12_isTrue 70 = .ok (.isub, 1) := by decide +kernel
theorem dX12_isTrue_71 : decode cX12_isTrue 71 = .ok (.bipush 100, 2) := by decide +kernel
theorem dX12_isTrue_73 : decode cX12_isTrue 73 = .ok (.idiv, 1) := by decide +kernel
theorem dX12_isTrue_74 : decode cX12_isTrue 74 = .ok (.iconst 3, 1) := by decide +kernel
theorem dX12_isTrue_75 : decode cX12_isTrue 75 = .ok (.irem, 1) := by decide +kernel
theorem dX12_isTrue_76 : decode cX12_isTrue 76 = .ok (.istore 8, 2) := by decide +kernel
theorem dX12_isTrue_78 : decode cX12_isTrue 78 = .ok (.aload_n 0, 1) := by decide +kernel
theorem dX12_isTrue_79 : decode cX12_isTrue 79 = .ok (.getfield 60, 3) := by decide +kernel
theorem dX12_isTrue_82 : decode cX12_isTrue 82 = .ok (.iload_n 3, 1) := by decide +kernel
theorem dX12_isTrue_83 : decode cX12_isTrue 83 = .ok (.iinc 3 1, 3) := by decide +kernel
theorem dX12_isTrue_86 : decode cX12_isTrue 86 = .ok (.iload 8, 2) := by decide +kernel
theorem dX12_isTrue_88 : decode cX12_isTrue 88 = .ok (.ifCond .ne 18, 3) := by decide +kernel
theorem dX12_isTrue_91 : decode cX12_isTrue 91 = .ok (.iload 6, 2) := by decide +kernel
theorem dX12_isTrue_93 : decode cX12_isTrue 93 = .ok (.iload 7, 2) := by decide +kernel
theorem dX12_isTrue_95 : decode cX12_isTrue 95 = .ok (.if_icmp .ge 7, 3) := by decide +kernel
theorem dX12_isTrue_98 : decode cX12_isTrue 98 = .ok (.iconst 1, 1) := by decide +kernel
theorem dX12_isTrue_99 : decode cX12_isTrue 99 = .ok (.goto 40, 3) := by decide +kernel
theorem dX12_isTrue_102 : decode cX12_isTrue 102 = .ok (.iconst 0, 1) := by decide +kernel
theorem dX12_isTrue_103 : decode cX12_isTrue 103 = .ok (.goto 36, 3) := by decide +kernel
theorem dX12_isTrue_106 : decode cX12_isTrue 106 = .ok (.iload 8, 2) := by decide +kernel
theorem dX12_isTrue_108 : decode cX12_isTrue 108 = .ok (.iconst 1, 1) := by decide +kernel
theorem dX12_isTrue_109 : decode cX12_isTrue 109 = .ok (.if_icmp .ne 18, 3) := by decide +kernel
theorem dX12_isTrue_112 : decode cX12_isTrue 112 = .ok (.iload 6, 2) := by decide +kernel
theorem dX12_isTrue_114 : decode cX12_isTrue 114 = .ok (.iload 7, 2) := by decide +kernel
theorem dX12_isTrue_116 : decode cX12_isTrue 116 = .ok (.if_icmp .ne 7, 3) := by decide +kernel
theorem dX12_isTrue_119 : decode cX12_isTrue 119 = .ok (.iconst 1, 1) := by decide +kernel
theorem dX12_isTrue_120 : decode cX12_isTrue 120 = .ok (.goto 19, 3) := by decide +kernel
theorem dX12_isTrue_123 : decode cX12_isTrue 123 = .ok (.iconst 0, 1) := by decide +kernel
theorem dX12_isTrue_124 : decode cX12_isTrue 124 = .ok (.goto 15, 3) := by decide +kernel
theorem dX12_isTrue_127 : decode cX12_isTrue 127 = .ok (.iload 6, 2) := by decide +kernel
theorem dX12_isTrue_129 : decode cX12_isTrue 129 = .ok (.iload 7, 2) := by decide +kernel
theorem dX12_isTrue_131 : decode cX12_isTrue 131 = .ok (.if_icmp .le 7, 3) := by decide +kernel
theorem dX12_isTrue_134 : decode cX12_isTrue 134 = .ok (.iconst 1, 1) := by decide +kernel
theorem dX12_isTrue_135 : decode cX12_isTrue 135 = .ok (.goto 4, 3) := by decide +kernel
theorem dX12_isTrue_138 : decode cX12_isTrue 138 = .ok (.iconst 0, 1) := by decide +kernel
theorem dX12_isTrue_139 : decode cX12_isTrue 139 = .ok (.bastore, 1) := by decide +kernel
theorem dX12_isTrue_140 : decode cX12_isTrue 140 = .ok (.goto 105, 3) := by decide +kernel
theorem dX12_isTrue_143 : decode cX12_isTrue 143 = .ok (.iload 5, 2) := by decide +kernel
theorem dX12_isTrue_145 : decode cX12_isTrue 145 = .ok (.ifCond .ne 30, 3) := by decide +kernel
theorem dX12_isTrue_148 : decode cX12_isTrue 148 = .ok (.aload_n 0, 1) := by decide +kernel
theorem dX12_isTrue_149 : decode cX12_isTrue 149 = .ok (.getfield 60, 3) := by decide +kernel
theorem dX12_isTrue_152 : decode cX12_isTrue 152 = .ok (.iload_n 3, 1) := by decide +kernel
theorem dX12_isTrue_153 : decode cX12_isTrue 153 = .ok (.iconst 1, 1) := by decide +kernel
theorem dX12_isTrue_154 : decode cX12_isTrue 154 = .ok (.isub, 1) := by decide +kernel
theorem dX12_isTrue_155 : decode cX12_isTrue 155 = .ok (.aload_n 0, 1) := by decide +kernel
theorem dX12_isTrue_156 : decode cX12_isTrue 156 = .ok (.getfield 60, 3) := by decide +kernel
theorem dX12_isTrue_159 : decode cX12_isTrue 159 = .ok (.iload_n 3, 1) := by decide +kernel
theorem dX12_isTrue_160 : decode cX12_isTrue 160 = .ok (.iconst 1, 1) := by decide +kernel
theorem dX12_isTrue_161 : decode cX12_isTrue 161 = .ok (.isub, 1) := by decide +kernel
theorem dX12_isTrue_162 : decode cX12_isTrue 162 = .ok (.baload, 1) := by decide +kernel
theorem dX12_isTrue_163 : decode cX12_isTrue 163 = .ok (.ifCond .ne 7, 3) := by decide +kernel
theorem dX12_isTrue_166 : decode cX12_isTrue 166 = .ok (.iconst 1, 1) := by decide +kernel
theorem dX12_isTrue_167 : decode cX12_isTrue 167 = .ok (.goto 4, 3) := by decide +kernel
theorem dX12_isTrue_170 : decode cX12_isTrue 170 = .ok (.iconst 0, 1) := by decide +kernel
theorem dX12_isTrue_171 : decode cX12_isTrue 171 = .ok (.bastore, 1) := by decide +kernel
theorem dX12_isTrue_172 : decode cX12_isTrue 172 = .ok (.goto 73, 3) := by decide +kernel
theorem dX12_isTrue_175 : decode cX12_isTrue 175 = .ok (.iinc 3 (-1), 3) := by decide +kernel
theorem dX12_isTrue_178 : decode cX12_isTrue 178 = .ok (.aload_n 0, 1) := by decide +kernel
theorem dX12_isTrue_179 : decode cX12_isTrue 179 = .ok (.getfield 60, 3) := by decide +kernel
theorem dX12_isTrue_182 : decode cX12_isTrue 182 = .ok (.iload_n 3, 1) := by decide +kernel
theorem dX12_isTrue_183 : decode cX12_isTrue 183 = .ok (.iconst 1, 1) := by decide +kernel
theorem dX12_isTrue_184 : decode cX12_isTrue 184 = .ok (.isub, 1) := by decide +kernel
theorem dX12_isTrue_185 : decode cX12_isTrue 185 = .ok (.iload 5, 2) := by decide +kernel
theorem dX12_isTrue_187 : decode cX12_isTrue 187 = .ok (.iconst 1, 1) := by decide +kernel
theorem dX12_isTrue_188 : decode cX12_isTrue 188 = .ok (.if_icmp .ne 31, 3) := by decide +kernel
theorem dX12_isTrue_191 : decode cX12_isTrue 191 = .ok (.aload_n 0, 1) := by decide +kernel
theorem dX12_isTrue_192 : decode cX12_isTrue 192 = .ok (.getfield 60, 3) := by decide +kernel
theorem dX12_isTrue_195 : decode cX12_isTrue 195 = .ok (.iload_n 3, 1) := by decide +kernel
theorem dX12_isTrue_196 : decode cX12_isTrue 196 = .ok (.iconst 1, 1) := by decide +kernel
theorem dX12_isTrue_197 : decode cX12_isTrue 197 = .ok (.isub, 1) := by decide +kernel
theorem dX12_isTrue_198 : decode cX12_isTrue 198 = .ok (.baload, 1) := by decide +kernel
theorem dX12_isTrue_199 : decode cX12_isTrue 199 = .ok (.ifCond .eq 16, 3) := by decide +kernel
theorem dX12_isTrue_202 : decode cX12_isTrue 202 = .ok (.aload_n 0, 1) := by decide +kernel
theorem dX12_isTrue_203 : decode cX12_isTrue 203 = .ok (.getfield 60, 3) := by decide +kernel
theorem dX12_isTrue_206 : decode cX12_isTrue 206 = .ok (.iload_n 3, 1) := by decide +kernel
theorem dX12_isTrue_207 : decode cX12_isTrue 207 = .ok (.baload, 1) := by decide +kernel
theorem dX12_isTrue_208 : decode cX12_isTrue 208 = .ok (.ifCond .eq 7, 3) := by decide +kernel
theorem dX12_isTrue_211 : decode cX12_isTrue 211 = .ok (.iconst 1, 1) := by decide +kernel
theorem dX12_isTrue_212 : decode cX12_isTrue 212 = .ok (.goto 32, 3) := by decide +kernel
theorem dX12_isTrue_215 : decode cX12_isTrue 215 = .ok (.iconst 0, 1) := by decide +kernel
theorem dX12_isTrue_216 : decode cX12_isTrue 216 = .ok (.goto 28, 3) := by decide +kernel
theorem dX12_isTrue_219 : decode cX12_isTrue 219 = .ok (.aload_n 0, 1) := by decide +kernel
theorem dX12_isTrue_220 : decode cX12_isTrue 220 = .ok (.getfield 60, 3) := by decide +kernel
theorem dX12_isTrue_223 : decode cX12_isTrue 223 = .ok (.iload_n 3, 1) := by decide +kernel
theorem dX12_isTrue_224 : decode cX12_isTrue 224 = .ok (.iconst 1, 1) := by decide +kernel
theorem dX12_isTrue_225 : decode cX12_isTrue 225 = .ok (.isub, 1) := by decide +kernel
theorem dX12_isTrue_226 : decode cX12_isTrue 226 = .ok (.baload, 1) := by decide +kernel
theorem dX12_isTrue_227 : decode cX12_isTrue 227 = .ok (.ifCond .ne 12, 3) := by decide +kernel
theorem dX12_isTrue_230 : decode cX12_isTrue 230 = .ok (.aload_n 0, 1) := by decide +kernel
theorem dX12_isTrue_231 : decode cX12_isTrue 231 = .ok (.getfield 60, 3) := by decide +kernel
theorem dX12_isTrue_234 : decode cX12_isTrue 234 = .ok (.iload_n 3, 1) := by decide +kernel
theorem dX12_isTrue_235 : decode cX12_isTrue 235 = .ok (.baload, 1) := by decide +kernel
theorem dX12_isTrue_236 : decode cX12_isTrue 236 = .ok (.ifCond .eq 7, 3) := by decide +kernel
theorem dX12_isTrue_239 : decode cX12_isTrue 239 = .ok (.iconst 1, 1) := by decide +kernel
theorem dX12_isTrue_240 : decode cX12_isTrue 240 = .ok (.goto 4, 3) := by decide +kernel
theorem dX12_isTrue_243 : decode cX12_isTrue 243 = .ok (.iconst 0, 1) := by decide +kernel
theorem dX12_isTrue_244 : decode cX12_isTrue 244 = .ok (.bastore, 1) := by decide +kernel
theorem dX12_isTrue_245 : decode cX12_isTrue 245 = .ok (.iinc 4 1, 3) := by decide +kernel
theorem dX12_isTrue_248 : decode cX12_isTrue 248 = .ok (.goto (-238), 3) := by decide +kernel
theorem dX12_isTrue_251 : decode cX12_isTrue 251 = .ok (.aload_n 0, 1) := by decide +kernel
theorem dX12_isTrue_252 : decode cX12_isTrue 252 = .ok (.getfield 60, 3) := by decide +kernel
theorem dX12_isTrue_255 : decode cX12_isTrue 255 = .ok (.iconst 0, 1) := by decide +kernel
theorem dX12_isTrue_256 : decode cX12_isTrue 256 = .ok (.baload, 1) := by decide +kernel
theorem dX12_isTrue_257 : decode cX12_isTrue 257 = .ok (.ireturn, 1) := by decide +kernel
theorem dX12_sum_0 : decode cX12_sum 0 = .ok (.iconst 2, 1) := by decide +kernel
theorem dX12_sum_1 : decode cX12_sum 1 = .ok (.aload_n 0, 1) := by decide +kernel
theorem dX12_sum_2 : decode cX12_sum 2 = .ok (.getfield 24, 3) := by decide +kernel
theorem dX12_sum_5 : decode cX12_sum 5 = .ok (.iload_n 1, 1) := by decide +kernel
theorem dX12_sum_6 : decode cX12_sum 6 = .ok (.iaload, 1) := by decide +kernel
theorem dX12_sum_7 : decode cX12_sum 7 = .ok (.imul, 1) := by decide +kernel
theorem dX12_sum_8 : decode cX12_sum 8 = .ok (.aload_n 0, 1) := by decide +kernel
theorem dX12_sum_9 : decode cX12_sum 9 = .ok (.getfield 30, 3) := by decide +kernel
theorem dX12_sum_12 : decode cX12_sum 12 = .ok (.iload_n 1, 1) := by decide +kernel
theorem dX12_sum_13 : decode cX12_sum 13 = .ok (.iaload, 1) := by decide +kernel
theorem dX12_sum_14 : decode cX12_sum 14 = .ok (.bipush 10, 2) := by decide +kernel
theorem dX12_sum_16 : decode cX12_sum 16 = .ok (.idiv, 1) := by decide +kernel
theorem dX12_sum_17 : decode cX12_sum 17 = .ok (.isub, 1) := by decide +kernel
theorem dX12_sum_18 : decode cX12_sum 18 = .ok (.istore_n 2, 1) := by decide +kernel
theorem dX12_sum_19 : decode cX12_sum 19 = .ok (.iconst 0, 1) := by decide +kernel
theorem dX12_sum_20 : decode cX12_sum 20 = .ok (.istore_n 3, 1) := by decide +kernel
theorem dX12_sum_21 : decode cX12_sum 21 = .ok (.aload_n 0, 1) := by decide +kernel
theorem dX12_sum_22 : decode cX12_sum 22 = .ok (.getfield 110, 3) := by decide +kernel
theorem dX12_sum_25 : decode cX12_sum 25 = .ok (.iconst (-1), 1) := by decide +kernel
theorem dX12_sum_26 : decode cX12_sum 26 = .ok (.if_icmp .eq 85, 3) := by decide +kernel
theorem dX12_sum_29 : decode cX12_sum 29 = .ok (.iload_n 3, 1) := by decide +kernel
theorem dX12_sum_30 : decode cX12_sum 30 = .ok (.aload_n 0, 1) := by decide +kernel
theorem dX12_sum_31 : decode cX12_sum 31 = .ok (.getfield 42, 3) := by decide +kernel
theorem dX12_sum_34 : decode cX12_sum 34 = .ok (.aload_n 0, 1) := by decide +kernel
theorem dX12_sum_35 : decode cX12_sum 35 = .ok (.getfield 110, 3) := by decide +kernel
theorem dX12_sum_38 : decode cX12_sum 38 = .ok (.iaload, 1) := by decide +kernel
theorem dX12_sum_39 : decode cX12_sum 39 = .ok (.if_icmp .ge 72, 3) := by decide +kernel
theorem dX12_sum_42 : decode cX12_sum 42 = .ok (.bipush 10, 2) := by decide +kernel
theorem dX12_sum_44 : decode cX12_sum 44 = .ok (.aload_n 0, 1) := by decide +kernel
theorem dX12_sum_45 : decode cX12_sum 45 = .ok (.getfield 110, 3) := by decide +kernel
theorem dX12_sum_48 : decode cX12_sum 48 = .ok (.imul, 1) := by decide +kernel
theorem dX12_sum_49 : decode cX12_sum 49 = .ok (.iload_n 3, 1) := by decide +kernel
theorem dX12_sum_50 : decode cX12_sum 50 = .ok (.iadd, 1) := by decide +kernel
theorem dX12_sum_51 : decode cX12_sum 51 = .ok (.istore 4, 2) := by decide +kernel
theorem dX12_sum_53 : decode cX12_sum 53 = .ok (.aload_n 0, 1) := by decide +kernel
theorem dX12_sum_54 : decode cX12_sum 54 = .ok (.getfield 45, 3) := by decide +kernel
theorem dX12_sum_57 : decode cX12_sum 57 = .ok (.iload 4, 2) := by decide +kernel
theorem dX12_sum_59 : decode cX12_sum 59 = .ok (.iaload, 1) := by decide +kernel
theorem dX12_sum_60 : decode cX12_sum 60 = .ok (.iconst 2, 1) := by decide +kernel
theorem dX12_sum_61 : decode cX12_sum 61 = .ok (.if_icmp .ge 44, 3) := by decide +kernel
theorem dX12_sum_64 : decode cX12_sum 64 = .ok (.aload_n 0, 1) := by decide +kernel
theorem dX12_sum_65 : decode cX12_sum 65 = .ok (.iload_n 1, 1) := by decide +kernel
theorem dX12_sum_66 : decode cX12_sum 66 = .ok (.iload 4, 2) := by decide +kernel
theorem dX12_sum_68 : decode cX12_sum 68 = .ok (.invokevirtual 230, 3) := by decide +kernel
theorem dX12_sum_71 : decode cX12_sum 71 = .ok (.ifCond .eq 34, 3) := by decide +kernel
theorem dX12_sum_74 : decode cX12_sum 74 = .ok (.iload_n 2, 1) := by decide +kernel
theorem dX12_sum_75 : decode cX12_sum 75 = .ok (.aload_n 0, 1) := by decide +kernel
theorem dX12_sum_76 : decode cX12_sum 76 = .ok (.getfield 45, 3) := by decide +kernel
theorem dX12_sum_79 : decode cX12_sum 79 = .ok (.iload 4, 2) := by decide +kernel
theorem dX12_sum_81 : decode cX12_sum 81 = .ok (.iaload, 1) := by decide +kernel
theorem dX12_sum_82 : decode cX12_sum 82 = .ok (.ifCond .ne 13, 3) := by decide +kernel
theorem dX12_sum_85 : decode cX12_sum 85 = .ok (.aload_n 0, 1) := by decide +kernel
theorem dX12_sum_86 : decode cX12_sum 86 = .ok (.getfield 48, 3) := by decide +kernel
theorem dX12_sum_89 : decode cX12_sum 89 = .ok (.iload 4, 2) := by decide +kernel
theorem dX12_sum_91 : decode cX12_sum 91 = .ok (.iaload, 1) := by decide +kernel
theorem dX12_sum_92 : decode cX12_sum 92 = .ok (.goto 11, 3) := by decide +kernel
theorem dX12_sum_95 : decode cX12_sum 95 = .ok (.aload_n 0, 1) := by decide +kernel
theorem dX12_sum_96 : decode cX12_sum 96 = .ok (.getfield 48, 3) := by decide +kernel
theorem dX12_sum_99 : decode cX12_sum 99 = .ok (.iload 4, 2) := by decide +kernel
theorem dX12_sum_101 : decode cX12_sum 101 = .ok (.iaload, 1) := by decide +kernel
theorem dX12_sum_102 : decode cX12_sum 102 = .ok (.ineg, 1) := by decide +kernel
theorem dX12_sum_103 : decode cX12_sum 103 = .ok (.iadd, 1) := by decide +kernel
theorem dX12_sum_104 : decode cX12_sum 104 = .ok (.istore_n 2, 1) := by decide +kernel
theorem dX12_sum_105 : decode cX12_sum 105 = .ok (.iinc 3 1, 3) := by decide +kernel
theorem dX12_sum_108 : decode cX12_sum 108 = .ok (.goto (-87), 3) := by decide +kernel
theorem dX12_sum_111 : decode cX12_sum 111 = .ok (.iload_n 2, 1) := by decide +kernel
theorem dX12_sum_112 : decode cX12_sum 112 = .ok (.ireturn, 1) := by decide +kernel
theorem dX12_dryBy_0 : decode cX12_dryBy 0 = .ok (.iconst 2, 1) := by decide +kernel
theorem dX12_dryBy_1 : decode cX12_dryBy 1 = .ok (.istore_n 1, 1) := by decide +kernel
theorem dX12_dryBy_2 : decode cX12_dryBy 2 = .ok (.iconst 0, 1) := by decide +kernel
theorem dX12_dryBy_3 : decode cX12_dryBy 3 = .ok (.istore_n 2, 1) := by decide +kernel
theorem dX12_dryBy_4 : decode cX12_dryBy 4 = .ok (.aload_n 0, 1) := by decide +kernel
theorem dX12_dryBy_5 : decode cX12_dryBy 5 = .ok (.getfield 110, 3) := by decide +kernel
theorem dX12_dryBy_8 : decode cX12_dryBy 8 = .ok (.iconst (-1), 1) := by decide +kernel
theorem dX12_dryBy_9 : decode cX12_dryBy 9 = .ok (.if_icmp .eq 55, 3) := by decide +kernel
theorem dX12_dryBy_12 : decode cX12_dryBy 12 = .ok (.iload_n 2, 1) := by decide +kernel
theorem dX12_dryBy_13 : decode cX12_dryBy 13 = .ok (.aload_n 0, 1) := by decide +kernel
theorem dX12_dryBy_14 : decode cX12_dryBy 14 = .ok (.getfield 42, 3) := by decide +kernel
theorem dX12_dryBy_17 : decode cX12_dryBy 17 = .ok (.aload_n 0, 1) := by decide +kernel
theorem dX12_dryBy_18 : decode cX12_dryBy 18 = .ok (.getfield 110, 3) := by decide +kernel
theorem dX12_dryBy_21 : decode cX12_dryBy 21 = .ok (.iaload, 1) := by decide +kernel
theorem dX12_dryBy_22 : decode cX12_dryBy 22 = .ok (.if_icmp .ge 42, 3) := by decide +kernel
theorem dX12_dryBy_25 : decode cX12_dryBy 25 = .ok (.aload_n 0, 1) := by decide +kernel
theorem dX12_dryBy_26 : decode cX12_dryBy 26 = .ok (.getfield 45, 3) := by decide +kernel
theorem dX12_dryBy_29 : decode cX12_dryBy 29 = .ok (.bipush 10, 2) := by decide +kernel
theorem dX12_dryBy_31 : decode cX12_dryBy 31 = .ok (.aload_n 0, 1) := by decide +kernel
theorem dX12_dryBy_32 : decode cX12_dryBy 32 = .ok (.getfield 110, 3) := by decide +kernel
theorem dX12_dryBy_35 : decode cX12_dryBy 35 = .ok (.imul, 1) := by decide +kernel
theorem dX12_dryBy_36 : decode cX12_dryBy 36 = .ok (.iload_n 2, 1) := by decide +kernel
theorem dX12_dryBy_37 : decode cX12_dryBy 37 = .ok (.iadd, 1) := by decide +kernel
theorem dX12_dryBy_38 : decode cX12_dryBy 38 = .ok (.iaload, 1) := by decide +kernel
theorem dX12_dryBy_39 : decode cX12_dryBy 39 = .ok (.iconst 2, 1) := by decide +kernel
theorem dX12_dryBy_40 : decode cX12_dryBy 40 = .ok (.if_icmp .ne 18, 3) := by decide +kernel
theorem dX12_dryBy_43 : decode cX12_dryBy 43 = .ok (.aload_n 0, 1) := by decide +kernel
theorem dX12_dryBy_44 : decode cX12_dryBy 44 = .ok (.getfield 48, 3) := by decide +kernel
theorem dX12_dryBy_47 : decode cX12_dryBy 47 = .ok (.bipush 10, 2) := by decide +kernel
theorem dX12_dryBy_49 : decode cX12_dryBy 49 = .ok (.aload_n 0, 1) := by decide +kernel
theorem dX12_dryBy_50 : decode cX12_dryBy 50 = .ok (.getfield 110, 3) := by decide +kernel
theorem dX12_dryBy_53 : decode cX12_dryBy 53 = .ok (.imul, 1) := by decide +kernel
theorem dX12_dryBy_54 : decode cX12_dryBy 54 = .ok (.iload_n 2, 1) := by decide +kernel
theorem dX12_dryBy_55 : decode cX12_dryBy 55 = .ok (.iadd, 1) := by decide +kernel
theorem dX12_dryBy_56 : decode cX12_dryBy 56 = .ok (.iaload, 1) := by decide +kernel
theorem dX12_dryBy_57 : decode cX12_dryBy 57 = .ok (.istore_n 1, 1) := by decide +kernel
theorem dX12_dryBy_58 : decode cX12_dryBy 58 = .ok (.iinc 2 1, 3) := by decide +kernel
theorem dX12_dryBy_61 : decode cX12_dryBy 61 = .ok (.goto (-57), 3) := by decide +kernel
theorem dX12_dryBy_64 : decode cX12_dryBy 64 = .ok (.iload_n 1, 1) := by decide +kernel
theorem dX12_dryBy_65 : decode cX12_dryBy 65 = .ok (.ireturn, 1) := by decide +kernel
theorem dX12_areSo_0 : decode cX12_areSo 0 = .ok (.iconst 0, 1) := by decide +kernel
theorem dX12_areSo_1 : decode cX12_areSo 1 = .ok (.istore_n 2, 1) := by decide +kernel
theorem dX12_areSo_2 : decode cX12_areSo 2 = .ok (.iconst 0, 1) := by decide +kernel
theorem dX12_areSo_3 : decode cX12_areSo 3 = .ok (.istore_n 3, 1) := by decide +kernel
theorem dX12_areSo_4 : decode cX12_areSo 4 = .ok (.iload_n 3, 1) := by decide +kernel
theorem dX12_areSo_5 : decode cX12_areSo 5 = .ok (.aload_n 0, 1) := by decide +kernel
theorem dX12_areSo_6 : decode cX12_areSo 6 = .ok (.getfield 114, 3) := by decide +kernel
theorem dX12_areSo_9 : decode cX12_areSo 9 = .ok (.if_icmp .ge 25, 3) := by decide +kernel
theorem dX12_areSo_12 : decode cX12_areSo 12 = .ok (.aload_n 0, 1) := by decide +kernel
theorem dX12_areSo_13 : decode cX12_areSo 13 = .ok (.getfield 33, 3) := by decide +kernel
theorem dX12_areSo_16 : decode cX12_areSo 16 = .ok (.iload_n 3, 1) := by decide +kernel
theorem dX12_areSo_17 : decode cX12_areSo 17 = .ok (.iaload, 1) := by decide +kernel
theorem dX12_areSo_18 : decode cX12_areSo 18 = .ok (.iload_n 1, 1) := by decide +kernel
theorem dX12_areSo_19 : decode cX12_areSo 19 = .ok (.if_icmp .ne 9, 3) := by decide +kernel
theorem dX12_areSo_22 : decode cX12_areSo 22 = .ok (.iload_n 2, 1) := by decide +kernel
theorem dX12_areSo_23 : decode cX12_areSo 23 = .ok (.iconst 1, 1) := by decide +kernel
theorem dX12_areSo_24 : decode cX12_areSo 24 = .ok (.iload_n 3, 1) := by decide +kernel
theorem dX12_areSo_25 : decode cX12_areSo 25 = .ok (.ishl, 1) := by decide +kernel
theorem dX12_areSo_26 : decode cX12_areSo 26 = .ok (.ior, 1) := by decide +kernel
theorem dX12_areSo_27 : decode cX12_areSo 27 = .ok (.istore_n 2, 1) := by decide +kernel
theorem dX12_areSo_28 : decode cX12_areSo 28 = .ok (.iinc 3 1, 3) := by decide +kernel
theorem dX12_areSo_31 : decode cX12_areSo 31 = .ok (.goto (-27), 3) := by decide +kernel
theorem dX12_areSo_34 : decode cX12_areSo 34 = .ok (.iload_n 2, 1) := by decide +kernel
theorem dX12_areSo_35 : decode cX12_areSo 35 = .ok (.ireturn, 1) := by decide +kernel
theorem dX12_lightOf_0 : decode cX12_lightOf 0 = .ok (.aload_n 0, 1) := by decide +kernel
theorem dX12_lightOf_1 : decode cX12_lightOf 1 = .ok (.iload_n 1, 1) := by decide +kernel
theorem dX12_lightOf_2 : decode cX12_lightOf 2 = .ok (.invokevirtual 234, 3) := by decide +kernel
theorem dX12_lightOf_5 : decode cX12_lightOf 5 = .ok (.istore_n 2, 1) := by decide +kernel
theorem dX12_lightOf_6 : decode cX12_lightOf 6 = .ok (.aload_n 0, 1) := by decide +kernel
theorem dX12_lightOf_7 : decode cX12_lightOf 7 = .ok (.getfield 15, 3) := by decide +kernel
theorem dX12_lightOf_10 : decode cX12_lightOf 10 = .ok (.aload_n 0, 1) := by decide +kernel
theorem dX12_lightOf_11 : decode cX12_lightOf 11 = .ok (.getfield 224, 3) := by decide +kernel
theorem dX12_lightOf_14 : decode cX12_lightOf 14 = .ok (.iconst 4, 1) := by decide +kernel
theorem dX12_lightOf_15 : decode cX12_lightOf 15 = .ok (.irem, 1) := by decide +kernel
theorem dX12_lightOf_16 : decode cX12_lightOf 16 = .ok (.iaload, 1) := by decide +kernel
theorem dX12_lightOf_17 : decode cX12_lightOf 17 = .ok (.aload_n 0, 1) := by decide +kernel
theorem dX12_lightOf_18 : decode cX12_lightOf 18 = .ok (.getfield 21, 3) := by decide +kernel
theorem dX12_lightOf_21 : decode cX12_lightOf 21 = .ok (.iload_n 1, 1) := by decide +kernel
theorem dX12_lightOf_22 : decode cX12_lightOf 22 = .ok (.iaload, 1) := by decide +kernel
theorem dX12_lightOf_23 : decode cX12_lightOf 23 = .ok (.if_icmp .le 7, 3) := by decide +kernel
theorem dX12_lightOf_26 : decode cX12_lightOf 26 = .ok (.iconst 0, 1) := by decide +kernel
theorem dX12_lightOf_27 : decode cX12_lightOf 27 = .ok (.goto 4, 3) := by decide +kernel
theorem dX12_lightOf_30 : decode cX12_lightOf 30 = .ok (.iload_n 2, 1) := by decide +kernel
theorem dX12_lightOf_31 : decode cX12_lightOf 31 = .ok (.istore_n 3, 1) := by decide +kernel
theorem dX12_lightOf_32 : decode cX12_lightOf 32 = .ok (.aload_n 0, 1) := by decide +kernel
theorem dX12_lightOf_33 : decode cX12_lightOf 33 = .ok (.getfield 18, 3) := by decide +kernel
theorem dX12_lightOf_36 : decode cX12_lightOf 36 = .ok (.iload_n 1, 1) := by decide +kernel
theorem dX12_lightOf_37 : decode cX12_lightOf 37 = .ok (.iaload, 1) := by decide +kernel
theorem dX12_lightOf_38 : decode cX12_lightOf 38 = .ok (.tableswitch 112 1 6 #[38, 47, 51, 53, 73, 94], 38) := by decide +kernel
theorem dX12_lightOf_76 : decode cX12_lightOf 76 = .ok (.iload_n 2, 1) := by decide +kernel
theorem dX12_lightOf_77 : decode cX12_lightOf 77 = .ok (.aload_n 0, 1) := by decide +kernel
theorem dX12_lightOf_78 : decode cX12_lightOf 78 = .ok (.getfield 21, 3) := by decide +kernel
theorem dX12_lightOf_81 : decode cX12_lightOf 81 = .ok (.iload_n 1, 1) := by decide +kernel
theorem dX12_lightOf_82 : decode cX12_lightOf 82 = .ok (.iaload, 1) := by decide +kernel
theorem dX12_lightOf_83 : decode cX12_lightOf 83 = .ok (.iadd, 1) := by decide +kernel
theorem dX12_lightOf_84 : decode cX12_lightOf 84 = .ok (.ireturn, 1) := by decide +kernel
theorem dX12_lightOf_85 : decode cX12_lightOf 85 = .ok (.iload_n 2, 1) := by decide +kernel
theorem dX12_lightOf_86 : decode cX12_lightOf 86 = .ok (.iconst 2, 1) := by decide +kernel
theorem dX12_lightOf_87 : decode cX12_lightOf 87 = .ok (.idiv, 1) := by decide +kernel
theorem dX12_lightOf_88 : decode cX12_lightOf 88 = .ok (.ireturn, 1) := by decide +kernel
theorem dX12_lightOf_89 : decode cX12_lightOf 89 = .ok (.iload_n 3, 1) := by decide +kernel
theorem dX12_lightOf_90 : decode cX12_lightOf 90 = .ok (.ireturn, 1) := by decide +kernel
theorem dX12_lightOf_91 : decode cX12_lightOf 91 = .ok (.iload_n 2, 1) := by decide +kernel
theorem dX12_lightOf_92 : decode cX12_lightOf 92 = .ok (.aload_n 0, 1) := by decide +kernel
theorem dX12_lightOf_93 : decode cX12_lightOf 93 = .ok (.getfield 21, 3) := by decide +kernel
theorem dX12_lightOf_96 : decode cX12_lightOf 96 = .ok (.iload_n 1, 1) := by decide +kernel
theorem dX12_lightOf_97 : decode cX12_lightOf 97 = .ok (.iaload, 1) := by decide +kernel
theorem dX12_lightOf_98 : decode cX12_lightOf 98 = .ok (.iadd, 1) := by decide +kernel
theorem dX12_lightOf_99 : decode cX12_lightOf 99 = .ok (.iconst 2, 1) := by decide +kernel
theorem dX12_lightOf_100 : decode cX12_lightOf 100 = .ok (.aload_n 0, 1) := by decide +kernel
theorem dX12_lightOf_101 : decode cX12_lightOf 101 = .ok (.iconst 2, 1) := by decide +kernel
theorem dX12_lightOf_102 : decode cX12_lightOf 102 = .ok (.invokevirtual 237, 3) := by decide +kernel
theorem dX12_lightOf_105 : decode cX12_lightOf 105 = .ok (.invokestatic 240, 3) := by decide +kernel
theorem dX12_lightOf_108 : decode cX12_lightOf 108 = .ok (.imul, 1) := by decide +kernel
theorem dX12_lightOf_109 : decode cX12_lightOf 109 = .ok (.iadd, 1) := by decide +kernel
theorem dX12_lightOf_110 : decode cX12_lightOf 110 = .ok (.ireturn, 1) := by decide +kernel
theorem dX12_lightOf_111 : decode cX12_lightOf 111 = .ok (.aload_n 0, 1) := by decide +kernel
theorem dX12_lightOf_112 : decode cX12_lightOf 112 = .ok (.getfield 224, 3) := by decide +kernel
theorem dX12_lightOf_115 : decode cX12_lightOf 115 = .ok (.iconst 3, 1) := by decide +kernel
theorem dX12_lightOf_116 : decode cX12_lightOf 116 = .ok (.irem, 1) := by decide +kernel
theorem dX12_lightOf_117 : decode cX12_lightOf 117 = .ok (.ifCond .ne 11, 3) := by decide +kernel
theorem dX12_lightOf_120 : decode cX12_lightOf 120 = .ok (.iload_n 2, 1) := by decide +kernel
theorem dX12_lightOf_121 : decode cX12_lightOf 121 = .ok (.iconst 2, 1) := by decide +kernel
theorem dX12_lightOf_122 : decode cX12_lightOf 122 = .ok (.idiv, 1) := by decide +kernel
theorem dX12_lightOf_123 : decode cX12_lightOf 123 = .ok (.iconst 2, 1) := by decide +kernel
theorem dX12_lightOf_124 : decode cX12_lightOf 124 = .ok (.imul, 1) := by decide +kernel
theorem dX12_lightOf_125 : decode cX12_lightOf 125 = .ok (.goto 6, 3) := by decide +kernel
theorem dX12_lightOf_128 : decode cX12_lightOf 128 = .ok (.iload_n 2, 1) := by decide +kernel
theorem dX12_lightOf_129 : decode cX12_lightOf 129 = .ok (.iconst 2, 1) := by decide +kernel
theorem dX12_lightOf_130 : decode cX12_lightOf 130 = .ok (.idiv, 1) := by decide +kernel
theorem dX12_lightOf_131 : decode cX12_lightOf 131 = .ok (.ireturn, 1) := by decide +kernel
theorem dX12_lightOf_132 : decode cX12_lightOf 132 = .ok (.iload_n 3, 1) := by decide +kernel
theorem dX12_lightOf_133 : decode cX12_lightOf 133 = .ok (.aload_n 0, 1) := by decide +kernel
theorem dX12_lightOf_134 : decode cX12_lightOf 134 = .ok (.getfield 36, 3) := by decide +kernel
theorem dX12_lightOf_137 : decode cX12_lightOf 137 = .ok (.iconst 4, 1) := by decide +kernel
theorem dX12_lightOf_138 : decode cX12_lightOf 138 = .ok (.iload_n 1, 1) := by decide +kernel
theorem dX12_lightOf_139 : decode cX12_lightOf 139 = .ok (.imul, 1) := by decide +kernel
theorem dX12_lightOf_140 : decode cX12_lightOf 140 = .ok (.aload_n 0, 1) := by decide +kernel
theorem dX12_lightOf_141 : decode cX12_lightOf 141 = .ok (.getfield 224, 3) := by decide +kernel
theorem dX12_lightOf_144 : decode cX12_lightOf 144 = .ok (.iconst 4, 1) := by decide +kernel
theorem dX12_lightOf_145 : decode cX12_lightOf 145 = .ok (.irem, 1) := by decide +kernel
theorem dX12_lightOf_146 : decode cX12_lightOf 146 = .ok (.iadd, 1) := by decide +kernel
theorem dX12_lightOf_147 : decode cX12_lightOf 147 = .ok (.iaload, 1) := by decide +kernel
theorem dX12_lightOf_148 : decode cX12_lightOf 148 = .ok (.iadd, 1) := by decide +kernel
theorem dX12_lightOf_149 : decode cX12_lightOf 149 = .ok (.ireturn, 1) := by decide +kernel
theorem dX12_lightOf_150 : decode cX12_lightOf 150 = .ok (.iload_n 2, 1) := by decide +kernel
theorem dX12_lightOf_151 : decode cX12_lightOf 151 = .ok (.ireturn, 1) := by decide +kernel
theorem dX12_lights_0 : decode cX12_lights 0 = .ok (.aload_n 0, 1) := by decide +kernel
theorem dX12_lights_1 : decode cX12_lights 1 = .ok (.iload_n 1, 1) := by decide +kernel
theorem dX12_lights_2 : decode cX12_lights 2 = .ok (.invokevirtual 128, 3) := by decide +kernel
theorem dX12_lights_5 : decode cX12_lights 5 = .ok (.istore_n 2, 1) := by decide +kernel
theorem dX12_lights_6 : decode cX12_lights 6 = .ok (.aload_n 0, 1) := by decide +kernel
theorem dX12_lights_7 : decode cX12_lights 7 = .ok (.getfield 33, 3) := by decide +kernel
theorem dX12_lights_10 : decode cX12_lights 10 = .ok (.iload_n 1, 1) := by decide +kernel
theorem dX12_lights_11 : decode cX12_lights 11 = .ok (.iload_n 2, 1) := by decide +kernel
theorem dX12_lights_12 : decode cX12_lights 12 = .ok (.ifCond .le 7, 3) := by decide +kernel
theorem dX12_lights_15 : decode cX12_lights 15 = .ok (.iconst 2, 1) := by decide +kernel
theorem dX12_lights_16 : decode cX12_lights 16 = .ok (.goto 4, 3) := by decide +kernel
theorem dX12_lights_19 : decode cX12_lights 19 = .ok (.iconst 1, 1) := by decide +kernel
theorem dX12_lights_20 : decode cX12_lights 20 = .ok (.iastore, 1) := by decide +kernel
theorem dX12_lights_21 : decode cX12_lights 21 = .ok (.iload_n 2, 1) := by decide +kernel
theorem dX12_lights_22 : decode cX12_lights 22 = .ok (.ifCond .le 31, 3) := by decide +kernel
theorem dX12_lights_25 : decode cX12_lights 25 = .ok (.aload_n 0, 1) := by decide +kernel
theorem dX12_lights_26 : decode cX12_lights 26 = .ok (.getfield 9, 3) := by decide +kernel
theorem dX12_lights_29 : decode cX12_lights 29 = .ok (.aload_n 0, 1) := by decide +kernel
theorem dX12_lights_30 : decode cX12_lights 30 = .ok (.getfield 27, 3) := by decide +kernel
theorem dX12_lights_33 : decode cX12_lights 33 = .ok (.iload_n 1, 1) := by decide +kernel
theorem dX12_lights_34 : decode cX12_lights 34 = .ok (.iaload, 1) := by decide +kernel
theorem dX12_lights_35 : decode cX12_lights 35 = .ok (.iconst 0, 1) := by decide +kernel
theorem dX12_lights_36 : decode cX12_lights 36 = .ok (.aload_n 0, 1) := by decide +kernel
theorem dX12_lights_37 : decode cX12_lights 37 = .ok (.getfield 9, 3) := by decide +kernel
theorem dX12_lights_40 : decode cX12_lights 40 = .ok (.aload_n 0, 1) := by decide +kernel
theorem dX12_lights_41 : decode cX12_lights 41 = .ok (.getfield 27, 3) := by decide +kernel
theorem dX12_lights_44 : decode cX12_lights 44 = .ok (.iload_n 1, 1) := by decide +kernel
theorem dX12_lights_45 : decode cX12_lights 45 = .ok (.iaload, 1) := by decide +kernel
theorem dX12_lights_46 : decode cX12_lights 46 = .ok (.iaload, 1) := by decide +kernel
theorem dX12_lights_47 : decode cX12_lights 47 = .ok (.iload_n 2, 1) := by decide +kernel
theorem dX12_lights_48 : decode cX12_lights 48 = .ok (.isub, 1) := by decide +kernel
theorem dX12_lights_49 : decode cX12_lights 49 = .ok (.invokestatic 245, 3) := by decide +kernel
theorem dX12_lights_52 : decode cX12_lights 52 = .ok (.iastore, 1) := by decide +kernel
theorem dX12_lights_53 : decode cX12_lights 53 = .ok (.return_, 1) := by decide +kernel
theorem dX12_lightsAll_0 : decode cX12_lightsAll 0 = .ok (.iconst 0, 1) := by decide +kernel
theorem dX12_lightsAll_1 : decode cX12_lightsAll 1 = .ok (.istore_n 2, 1) := by decide +kernel
theorem dX12_lightsAll_2 : decode cX12_lightsAll 2 = .ok (.iload_n 2, 1) := by decide +kernel
theorem dX12_lightsAll_3 : decode cX12_lightsAll 3 = .ok (.aload_n 0, 1) := by decide +kernel
theorem dX12_lightsAll_4 : decode cX12_lightsAll 4 = .ok (.getfield 114, 3) := by decide +kernel
theorem dX12_lightsAll_7 : decode cX12_lightsAll 7 = .ok (.if_icmp .ge 22, 3) := by decide +kernel
theorem dX12_lightsAll_10 : decode cX12_lightsAll 10 = .ok (.iload_n 1, 1) := by decide +kernel
theorem dX12_lightsAll_11 : decode cX12_lightsAll 11 = .ok (.iload_n 2, 1) := by decide +kernel
theorem dX12_lightsAll_12 : decode cX12_lightsAll 12 = .ok (.invokestatic 250, 3) := by decide +kernel
theorem dX12_lightsAll_15 : decode cX12_lightsAll 15 = .ok (.ifCond .eq 8, 3) := by decide +kernel
theorem dX12_lightsAll_18 : decode cX12_lightsAll 18 = .ok (.aload_n 0, 1) := by decide +kernel
theorem dX12_lightsAll_19 : decode cX12_lightsAll 19 = .ok (.iload_n 2, 1) := by decide +kernel
theorem dX12_lightsAll_20 : decode cX12_lightsAll 20 = .ok (.invokevirtual 142, 3) := by decide +kernel
theorem dX12_lightsAll_23 : decode cX12_lightsAll 23 = .ok (.iinc 2 1, 3) := by decide +kernel
theorem dX12_lightsAll_26 : decode cX12_lightsAll 26 = .ok (.goto (-24), 3) := by decide +kernel
theorem dX12_lightsAll_29 : decode cX12_lightsAll 29 = .ok (.return_, 1) := by decide +kernel
theorem dX12_goesMinute_0 : decode cX12_goesMinute 0 = .ok (.iconst 3, 1) := by decide +kernel
theorem dX12_goesMinute_1 : decode cX12_goesMinute 1 = .ok (.aload_n 0, 1) := by decide +kernel
theorem dX12_goesMinute_2 : decode cX12_goesMinute 2 = .ok (.getfield 15, 3) := by decide +kernel
theorem dX12_goesMinute_5 : decode cX12_goesMinute 5 = .ok (.aload_n 0, 1) := by decide +kernel
theorem dX12_goesMinute_6 : decode cX12_goesMinute 6 = .ok (.getfield 224, 3) := by decide +kernel
theorem dX12_goesMinute_9 : decode cX12_goesMinute 9 = .ok (.iconst 4, 1) := by decide +kernel
theorem dX12_goesMinute_10 : decode cX12_goesMinute 10 = .ok (.irem, 1) := by decide +kernel
theorem dX12_goesMinute_11 : decode cX12_goesMinute 11 = .ok (.iaload, 1) := by decide +kernel
theorem dX12_goesMinute_12 : decode cX12_goesMinute 12 = .ok (.imul, 1) := by decide +kernel
theorem dX12_goesMinute_13 : decode cX12_goesMinute 13 = .ok (.aload_n 0, 1) := by decide +kernel
theorem dX12_goesMinute_14 : decode cX12_goesMinute 14 = .ok (.invokevirtual 253, 3) := by decide +kernel
theorem dX12_goesMinute_17 : decode cX12_goesMinute 17 = .ok (.isub, 1) := by decide +kernel
theorem dX12_goesMinute_18 : decode cX12_goesMinute 18 = .ok (.istore_n 1, 1) := by decide +kernel
theorem dX12_goesMinute_19 : decode cX12_goesMinute 19 = .ok (.iconst 0, 1) := by decide +kernel
theorem dX12_goesMinute_20 : decode cX12_goesMinute 20 = .ok (.istore_n 2, 1) := by decide +kernel
theorem dX12_goesMinute_21 : decode cX12_goesMinute 21 = .ok (.iload_n 2, 1) := by decide +kernel
theorem dX12_goesMinute_22 : decode cX12_goesMinute 22 = .ok (.aload_n 0, 1) := by decide +kernel
theorem dX12_goesMinute_23 : decode cX12_goesMinute 23 = .ok (.getfield 114, 3) := by decide +kernel
theorem dX12_goesMinute_26 : decode cX12_goesMinute 26 = .ok (.if_icmp .ge 41, 3) := by decide +kernel
theorem dX12_goesMinute_29 : decode cX12_goesMinute 29 = .ok (.aload_n 0, 1) := by decide +kernel
theorem dX12_goesMinute_30 : decode cX12_goesMinute 30 = .ok (.getfield 33, 3) := by decide +kernel
theorem dX12_goesMinute_33 : decode cX12_goesMinute 33 = .ok (.iload_n 2, 1) := by decide +kernel
theorem dX12_goesMinute_34 : decode cX12_goesMinute 34 = .ok (.iaload, 1) := by decide +kernel
theorem dX12_goesMinute_35 : decode cX12_goesMinute 35 = .ok (.ifCond .ne 26, 3) := by decide +kernel
theorem dX12_goesMinute_38 : decode cX12_goesMinute 38 = .ok (.aload_n 0, 1) := by decide +kernel
theorem dX12_goesMinute_39 : decode cX12_goesMinute 39 = .ok (.getfield 30, 3) := by decide +kernel
theorem dX12_goesMinute_42 : decode cX12_goesMinute 42 = .ok (.iload_n 2, 1) := by decide +kernel
theorem dX12_goesMinute_43 : decode cX12_goesMinute 43 = .ok (.iconst 0, 1) := by decide +kernel
theorem dX12_goesMinute_44 : decode cX12_goesMinute 44 = .ok (.bipush 99, 2) := by decide +kernel
theorem dX12_goesMinute_46 : decode cX12_goesMinute 46 = .ok (.aload_n 0, 1) := by decide +kernel
theorem dX12_goesMinute_47 : decode cX12_goesMinute 47 = .ok (.getfield 30, 3) := by decide +kernel
theorem dX12_goesMinute_50 : decode cX12_goesMinute 50 = .ok (.iload_n 2, 1) := by decide +kernel
theorem dX12_goesMinute_51 : decode cX12_goesMinute 51 = .ok (.iaload, 1) := by decide +kernel
theorem dX12_goesMinute_52 : decode cX12_goesMinute 52 = .ok (.iload_n 1, 1) := by decide +kernel
theorem dX12_goesMinute_53 : decode cX12_goesMinute 53 = .ok (.iadd, 1) := by decide +kernel
theorem dX12_goesMinute_54 : decode cX12_goesMinute 54 = .ok (.invokestatic 256, 3) := by decide +kernel
theorem dX12_goesMinute_57 : decode cX12_goesMinute 57 = .ok (.invokestatic 245, 3) := by decide +kernel
theorem dX12_goesMinute_60 : decode cX12_goesMinute 60 = .ok (.iastore, 1) := by decide +kernel
theorem dX12_goesMinute_61 : decode cX12_goesMinute 61 = .ok (.iinc 2 1, 3) := by decide +kernel
theorem dX12_goesMinute_64 : decode cX12_goesMinute 64 = .ok (.goto (-43), 3) := by decide +kernel
theorem dX12_goesMinute_67 : decode cX12_goesMinute 67 = .ok (.aload_n 0, 1) := by decide +kernel
theorem dX12_goesMinute_68 : decode cX12_goesMinute 68 = .ok (.dup, 1) := by decide +kernel
theorem dX12_goesMinute_69 : decode cX12_goesMinute 69 = .ok (.getfield 224, 3) := by decide +kernel
theorem dX12_goesMinute_72 : decode cX12_goesMinute 72 = .ok (.iconst 1, 1) := by decide +kernel
theorem dX12_goesMinute_73 : decode cX12_goesMinute 73 = .ok (.iadd, 1) := by decide +kernel
theorem dX12_goesMinute_74 : decode cX12_goesMinute 74 = .ok (.putfield 224, 3) := by decide +kernel
theorem dX12_goesMinute_77 : decode cX12_goesMinute 77 = .ok (.return_, 1) := by decide +kernel
theorem dX12_even_0 : decode cX12_even 0 = .ok (.iconst 0, 1) := by decide +kernel
theorem dX12_even_1 : decode cX12_even 1 = .ok (.istore_n 1, 1) := by decide +kernel
theorem dX12_even_2 : decode cX12_even 2 = .ok (.iconst 0, 1) := by decide +kernel
theorem dX12_even_3 : decode cX12_even 3 = .ok (.istore_n 2, 1) := by decide +kernel
theorem dX12_even_4 : decode cX12_even 4 = .ok (.iload_n 2, 1) := by decide +kernel
theorem dX12_even_5 : decode cX12_even 5 = .ok (.iconst 4, 1) := by decide +kernel
theorem dX12_even_6 : decode cX12_even 6 = .ok (.if_icmp .ge 24, 3) := by decide +kernel
theorem dX12_even_9 : decode cX12_even 9 = .ok (.aload_n 0, 1) := by decide +kernel
theorem dX12_even_10 : decode cX12_even 10 = .ok (.getfield 9, 3) := by decide +kernel
theorem dX12_even_13 : decode cX12_even 13 = .ok (.iload_n 2, 1) := by decide +kernel
theorem dX12_even_14 : decode cX12_even 14 = .ok (.iaload, 1) := by decide +kernel
theorem dX12_even_15 : decode cX12_even 15 = .ok (.ifCond .ne 9, 3) := by decide +kernel
theorem dX12_even_18 : decode cX12_even 18 = .ok (.iload_n 1, 1) := by decide +kernel
theorem dX12_even_19 : decode cX12_even 19 = .ok (.iconst 1, 1) := by decide +kernel
theorem dX12_even_20 : decode cX12_even 20 = .ok (.iload_n 2, 1) := by decide +kernel
theorem dX12_even_21 : decode cX12_even 21 = .ok (.ishl, 1) := by decide +kernel
theorem dX12_even_22 : decode cX12_even 22 = .ok (.ior, 1) := by decide +kernel
theorem dX12_even_23 : decode cX12_even 23 = .ok (.istore_n 1, 1) := by decide +kernel
theorem dX12_even_24 : decode cX12_even 24 = .ok (.iinc 2 1, 3) := by decide +kernel
theorem dX12_even_27 : decode cX12_even 27 = .ok (.goto (-23), 3) := by decide +kernel
theorem dX12_even_30 : decode cX12_even 30 = .ok (.iload_n 1, 1) := by decide +kernel
theorem dX12_even_31 : decode cX12_even 31 = .ok (.ireturn, 1) := by decide +kernel
theorem dX12_allGrief_0 : decode cX12_allGrief 0 = .ok (.iconst 0, 1) := by decide +kernel
theorem dX12_allGrief_1 : decode cX12_allGrief 1 = .ok (.istore_n 1, 1) := by decide +kernel
theorem dX12_allGrief_2 : decode cX12_allGrief 2 = .ok (.iconst 0, 1) := by decide +kernel
theorem dX12_allGrief_3 : decode cX12_allGrief 3 = .ok (.istore_n 2, 1) := by decide +kernel
theorem dX12_allGrief_4 : decode cX12_allGrief 4 = .ok (.iload_n 2, 1) := by decide +kernel
theorem dX12_allGrief_5 : decode cX12_allGrief 5 = .ok (.iconst 4, 1) := by decide +kernel
theorem dX12_allGrief_6 : decode cX12_allGrief 6 = .ok (.if_icmp .ge 18, 3) := by decide +kernel
theorem dX12_allGrief_9 : decode cX12_allGrief 9 = .ok (.iload_n 1, 1) := by decide +kernel
theorem dX12_allGrief_10 : decode cX12_allGrief 10 = .ok (.aload_n 0, 1) := by decide +kernel
theorem dX12_allGrief_11 : decode cX12_allGrief 11 = .ok (.getfield 9, 3) := by decide +kernel
theorem dX12_allGrief_14 : decode cX12_allGrief 14 = .ok (.iload_n 2, 1) := by decide +kernel
theorem dX12_allGrief_15 : decode cX12_allGrief 15 = .ok (.iaload, 1) := by decide +kernel
theorem dX12_allGrief_16 : decode cX12_allGrief 16 = .ok (.iadd, 1) := by decide +kernel
theorem dX12_allGrief_17 : decode cX12_allGrief 17 = .ok (.istore_n 1, 1) := by decide +kernel
theorem dX12_allGrief_18 : decode cX12_allGrief 18 = .ok (.iinc 2 1, 3) := by decide +kernel
theorem dX12_allGrief_21 : decode cX12_allGrief 21 = .ok (.goto (-17), 3) := by decide +kernel
theorem dX12_allGrief_24 : decode cX12_allGrief 24 = .ok (.iload_n 1, 1) := by decide +kernel
theorem dX12_allGrief_25 : decode cX12_allGrief 25 = .ok (.ireturn, 1) := by decide +kernel
theorem dX12_told_0 : decode cX12_told 0 = .ok (.iload_n 1, 1) := by decide +kernel
theorem dX12_told_1 : decode cX12_told 1 = .ok (.bipush 10, 2) := by decide +kernel
theorem dX12_told_3 : decode cX12_told 3 = .ok (.bipush 13, 2) := by decide +kernel
theorem dX12_told_5 : decode cX12_told 5 = .ok (.invokestatic 117, 3) := by decide +kernel
theorem dX12_told_8 : decode cX12_told 8 = .ok (.ifCond .eq 13, 3) := by decide +kernel
theorem dX12_told_11 : decode cX12_told 11 = .ok (.aload_n 0, 1) := by decide +kernel
theorem dX12_told_12 : decode cX12_told 12 = .ok (.getfield 15, 3) := by decide +kernel
theorem dX12_told_15 : decode cX12_told 15 = .ok (.iload_n 1, 1) := by decide +kernel
theorem dX12_told_16 : decode cX12_told 16 = .ok (.bipush 10, 2) := by decide +kernel
theorem dX12_told_18 : decode cX12_told 18 = .ok (.isub, 1) := by decide +kernel
theorem dX12_told_19 : decode cX12_told 19 = .ok (.iaload, 1) := by decide +kernel
theorem dX12_told_20 : decode cX12_told 20 = .ok (.ireturn, 1) := by decide +kernel
theorem dX12_told_21 : decode cX12_told 21 = .ok (.iload_n 1, 1) := by decide +kernel
theorem dX12_told_22 : decode cX12_told 22 = .ok (.bipush 20, 2) := by decide +kernel
theorem dX12_told_24 : decode cX12_told 24 = .ok (.isub, 1) := by decide +kernel
theorem dX12_told_25 : decode cX12_told 25 = .ok (.invokestatic 121, 3) := by decide +kernel
theorem dX12_told_28 : decode cX12_told 28 = .ok (.ifCond .eq 13, 3) := by decide +kernel
theorem dX12_told_31 : decode cX12_told 31 = .ok (.aload_n 0, 1) := by decide +kernel
theorem dX12_told_32 : decode cX12_told 32 = .ok (.getfield 9, 3) := by decide +kernel
theorem dX12_told_35 : decode cX12_told 35 = .ok (.iload_n 1, 1) := by decide +kernel
theorem dX12_told_36 : decode cX12_told 36 = .ok (.bipush 20, 2) := by decide +kernel
theorem dX12_told_38 : decode cX12_told 38 = .ok (.isub, 1) := by decide +kernel
theorem dX12_told_39 : decode cX12_told 39 = .ok (.iaload, 1) := by decide +kernel
theorem dX12_told_40 : decode cX12_told 40 = .ok (.ireturn, 1) := by decide +kernel
theorem dX12_told_41 : decode cX12_told 41 = .ok (.iload_n 1, 1) := by decide +kernel
theorem dX12_told_42 : decode cX12_told 42 = .ok (.bipush 30, 2) := by decide +kernel
theorem dX12_told_44 : decode cX12_told 44 = .ok (.isub, 1) := by decide +kernel
theorem dX12_told_45 : decode cX12_told 45 = .ok (.invokestatic 121, 3) := by decide +kernel
theorem dX12_told_48 : decode cX12_told 48 = .ok (.ifCond .eq 12, 3) := by decide +kernel
theorem dX12_told_51 : decode cX12_told 51 = .ok (.aload_n 0, 1) := by decide +kernel
theorem dX12_told_52 : decode cX12_told 52 = .ok (.iload_n 1, 1) := by decide +kernel
theorem dX12_told_53 : decode cX12_told 53 = .ok (.bipush 30, 2) := by decide +kernel
theorem dX12_told_55 : decode cX12_told 55 = .ok (.isub, 1) := by decide +kernel
theorem dX12_told_56 : decode cX12_told 56 = .ok (.invokevirtual 259, 3) := by decide +kernel
theorem dX12_told_59 : decode cX12_told 59 = .ok (.ireturn, 1) := by decide +kernel
theorem dX12_told_60 : decode cX12_told 60 = .ok (.iload_n 1, 1) := by decide +kernel
theorem dX12_told_61 : decode cX12_told 61 = .ok (.tableswitch 71 0 5 #[39, 44, 49, 54, 59, 65], 39) := by decide +kernel
theorem dX12_told_100 : decode cX12_told 100 = .ok (.aload_n 0, 1) := by decide +kernel
theorem dX12_told_101 : decode cX12_told 101 = .ok (.getfield 224, 3) := by decide +kernel
theorem dX12_told_104 : decode cX12_told 104 = .ok (.ireturn, 1) := by decide +kernel
theorem dX12_told_105 : decode cX12_told 105 = .ok (.aload_n 0, 1) := by decide +kernel
theorem dX12_told_106 : decode cX12_told 106 = .ok (.invokevirtual 253, 3) := by decide +kernel
theorem dX12_told_109 : decode cX12_told 109 = .ok (.ireturn, 1) := by decide +kernel
theorem dX12_told_110 : decode cX12_told 110 = .ok (.aload_n 0, 1) := by decide +kernel
theorem dX12_told_111 : decode cX12_told 111 = .ok (.invokevirtual 262, 3) := by decide +kernel
theorem dX12_told_114 : decode cX12_told 114 = .ok (.ireturn, 1) := by decide +kernel
theorem dX12_told_115 : decode cX12_told 115 = .ok (.aload_n 0, 1) := by decide +kernel
theorem dX12_told_116 : decode cX12_told 116 = .ok (.invokevirtual 265, 3) := by decide +kernel
theorem dX12_told_119 : decode cX12_told 119 = .ok (.ireturn, 1) := by decide +kernel
theorem dX12_told_120 : decode cX12_told 120 = .ok (.aload_n 0, 1) := by decide +kernel
theorem dX12_told_121 : decode cX12_told 121 = .ok (.iconst 0, 1) := by decide +kernel
theorem dX12_told_122 : decode cX12_told 122 = .ok (.invokevirtual 237, 3) := by decide +kernel
theorem dX12_told_125 : decode cX12_told 125 = .ok (.ireturn, 1) := by decide +kernel
theorem dX12_told_126 : decode cX12_told 126 = .ok (.aload_n 0, 1) := by decide +kernel
theorem dX12_told_127 : decode cX12_told 127 = .ok (.iconst 2, 1) := by decide +kernel
theorem dX12_told_128 : decode cX12_told 128 = .ok (.invokevirtual 237, 3) := by decide +kernel
theorem dX12_told_131 : decode cX12_told 131 = .ok (.ireturn, 1) := by decide +kernel
theorem dX12_told_132 : decode cX12_told 132 = .ok (.iconst (-1), 1) := by decide +kernel
theorem dX12_told_133 : decode cX12_told 133 = .ok (.ireturn, 1) := by decide +kernel
theorem dX12_pass_0 : decode cX12_pass 0 = .ok (.iload_n 1, 1) := by decide +kernel
theorem dX12_pass_1 : decode cX12_pass 1 = .ok (.iconst 0, 1) := by decide +kernel
theorem dX12_pass_2 : decode cX12_pass 2 = .ok (.bipush 60, 2) := by decide +kernel
theorem dX12_pass_4 : decode cX12_pass 4 = .ok (.invokestatic 117, 3) := by decide +kernel
theorem dX12_pass_7 : decode cX12_pass 7 = .ok (.ifCond .ne 6, 3) := by decide +kernel
theorem dX12_pass_10 : decode cX12_pass 10 = .ok (.bipush (-2), 2) := by decide +kernel
theorem dX12_pass_12 : decode cX12_pass 12 = .ok (.ireturn, 1) := by decide +kernel
theorem dX12_pass_13 : decode cX12_pass 13 = .ok (.aload_n 0, 1) := by decide +kernel
theorem dX12_pass_14 : decode cX12_pass 14 = .ok (.getfield 224, 3) := by decide +kernel
theorem dX12_pass_17 : decode cX12_pass 17 = .ok (.iload_n 1, 1) := by decide +kernel
theorem dX12_pass_18 : decode cX12_pass 18 = .ok (.iadd, 1) := by decide +kernel
theorem dX12_pass_19 : decode cX12_pass 19 = .ok (.sipush 9999, 3) := by decide +kernel
theorem dX12_pass_22 : decode cX12_pass 22 = .ok (.if_icmp .le 6, 3) := by decide +kernel
theorem dX12_pass_25 : decode cX12_pass 25 = .ok (.bipush (-3), 2) := by decide +kernel
theorem dX12_pass_27 : decode cX12_pass 27 = .ok (.ireturn, 1) := by decide +kernel
theorem dX12_pass_28 : decode cX12_pass 28 = .ok (.iconst 0, 1) := by decide +kernel
theorem dX12_pass_29 : decode cX12_pass 29 = .ok (.istore_n 2, 1) := by decide +kernel
theorem dX12_pass_30 : decode cX12_pass 30 = .ok (.iload_n 2, 1) := by decide +kernel
theorem dX12_pass_31 : decode cX12_pass 31 = .ok (.iload_n 1, 1) := by decide +kernel
theorem dX12_pass_32 : decode cX12_pass 32 = .ok (.if_icmp .ge 13, 3) := by decide +kernel
theorem dX12_pass_35 : decode cX12_pass 35 = .ok (.aload_n 0, 1) := by decide +kernel
theorem dX12_pass_36 : decode cX12_pass 36 = .ok (.invokevirtual 268, 3) := by decide +kernel
theorem dX12_pass_39 : decode cX12_pass 39 = .ok (.iinc 2 1, 3) := by decide +kernel
theorem dX12_pass_42 : decode cX12_pass 42 = .ok (.goto (-12), 3) := by decide +kernel
theorem dX12_pass_45 : decode cX12_pass 45 = .ok (.aload_n 0, 1) := by decide +kernel
theorem dX12_pass_46 : decode cX12_pass 46 = .ok (.getfield 224, 3) := by decide +kernel
theorem dX12_pass_49 : decode cX12_pass 49 = .ok (.ireturn, 1) := by decide +kernel
theorem dX12_on_0 : decode cX12_on 0 = .ok (.aload_n 0, 1) := by decide +kernel
theorem dX12_on_1 : decode cX12_on 1 = .ok (.iload_n 2, 1) := by decide +kernel
theorem dX12_on_2 : decode cX12_on 2 = .ok (.bipush 10, 2) := by decide +kernel
theorem dX12_on_4 : decode cX12_on 4 = .ok (.isub, 1) := by decide +kernel
theorem dX12_on_5 : decode cX12_on 5 = .ok (.invokevirtual 125, 3) := by decide +kernel
theorem dX12_on_8 : decode cX12_on 8 = .ok (.ifCond .ne 18, 3) := by decide +kernel
theorem dX12_on_11 : decode cX12_on 11 = .ok (.aload_n 0, 1) := by decide +kernel
theorem dX12_on_12 : decode cX12_on 12 = .ok (.iload_n 2, 1) := by decide +kernel
theorem dX12_on_13 : decode cX12_on 13 = .ok (.bipush 20, 2) := by decide +kernel
theorem dX12_on_15 : decode cX12_on 15 = .ok (.isub, 1) := by decide +kernel
theorem dX12_on_16 : decode cX12_on 16 = .ok (.invokevirtual 125, 3) := by decide +kernel
theorem dX12_on_19 : decode cX12_on 19 = .ok (.ifCond .ne 7, 3) := by decide +kernel
theorem dX12_on_22 : decode cX12_on 22 = .ok (.sipush (-10001), 3) := by decide +kernel
theorem dX12_on_25 : decode cX12_on 25 = .ok (.ireturn, 1) := by decide +kernel
theorem dX12_on_26 : decode cX12_on 26 = .ok (.iload_n 1, 1) := by decide +kernel
theorem dX12_on_27 : decode cX12_on 27 = .ok (.iconst 0, 1) := by decide +kernel
theorem dX12_on_28 : decode cX12_on 28 = .ok (.bipush 60, 2) := by decide +kernel
theorem dX12_on_30 : decode cX12_on 30 = .ok (.invokestatic 117, 3) := by decide +kernel
theorem dX12_on_33 : decode cX12_on 33 = .ok (.ifCond .ne 6, 3) := by decide +kernel
theorem dX12_on_36 : decode cX12_on 36 = .ok (.bipush (-2), 2) := by decide +kernel
theorem dX12_on_38 : decode cX12_on 38 = .ok (.ireturn, 1) := by decide +kernel
theorem dX12_on_39 : decode cX12_on 39 = .ok (.aload_n 0, 1) := by decide +kernel
theorem dX12_on_40 : decode cX12_on 40 = .ok (.aload_n 0, 1) := by decide +kernel
theorem dX12_on_41 : decode cX12_on 41 = .ok (.getfield 91, 3) := by decide +kernel
theorem dX12_on_44 : decode cX12_on 44 = .ok (.invokevirtual 271, 3) := by decide +kernel
theorem dX12_on_47 : decode cX12_on 47 = .ok (.iconst 0, 1) := by decide +kernel
theorem dX12_on_48 : decode cX12_on 48 = .ok (.istore_n 3, 1) := by decide +kernel
theorem dX12_on_49 : decode cX12_on 49 = .ok (.iload_n 3, 1) := by decide +kernel
theorem dX12_on_50 : decode cX12_on 50 = .ok (.iload_n 1, 1) := by decide +kernel
theorem dX12_on_51 : decode cX12_on 51 = .ok (.if_icmp .ge 13, 3) := by decide +kernel
theorem dX12_on_54 : decode cX12_on 54 = .ok (.aload_n 0, 1) := by decide +kernel
theorem dX12_on_55 : decode cX12_on 55 = .ok (.invokevirtual 268, 3) := by decide +kernel
theorem dX12_on_58 : decode cX12_on 58 = .ok (.iinc 3 1, 3) := by decide +kernel
theorem dX12_on_61 : decode cX12_on 61 = .ok (.goto (-12), 3) := by decide +kernel
theorem dX12_on_64 : decode cX12_on 64 = .ok (.iload_n 2, 1) := by decide +kernel
theorem dX12_on_65 : decode cX12_on 65 = .ok (.bipush 20, 2) := by decide +kernel
theorem dX12_on_67 : decode cX12_on 67 = .ok (.if_icmp .ge 15, 3) := by decide +kernel
theorem dX12_on_70 : decode cX12_on 70 = .ok (.aload_n 0, 1) := by decide +kernel
theorem dX12_on_71 : decode cX12_on 71 = .ok (.getfield 30, 3) := by decide +kernel
theorem dX12_on_74 : decode cX12_on 74 = .ok (.iload_n 2, 1) := by decide +kernel
theorem dX12_on_75 : decode cX12_on 75 = .ok (.bipush 10, 2) := by decide +kernel
theorem dX12_on_77 : decode cX12_on 77 = .ok (.isub, 1) := by decide +kernel
theorem dX12_on_78 : decode cX12_on 78 = .ok (.iaload, 1) := by decide +kernel
theorem dX12_on_79 : decode cX12_on 79 = .ok (.goto 11, 3) := by decide +kernel
theorem dX12_on_82 : decode cX12_on 82 = .ok (.aload_n 0, 1) := by decide +kernel
theorem dX12_on_83 : decode cX12_on 83 = .ok (.iload_n 2, 1) := by decide +kernel
theorem dX12_on_84 : decode cX12_on 84 = .ok (.bipush 20, 2) := by decide +kernel
theorem dX12_on_86 : decode cX12_on 86 = .ok (.isub, 1) := by decide +kernel
theorem dX12_on_87 : decode cX12_on 87 = .ok (.invokevirtual 128, 3) := by decide +kernel
theorem dX12_on_90 : decode cX12_on 90 = .ok (.istore_n 3, 1) := by decide +kernel
theorem dX12_on_91 : decode cX12_on 91 = .ok (.aload_n 0, 1) := by decide +kernel
theorem dX12_on_92 : decode cX12_on 92 = .ok (.aload_n 0, 1) := by decide +kernel
theorem dX12_on_93 : decode cX12_on 93 = .ok (.getfield 91, 3) := by decide +kernel
theorem dX12_on_96 : decode cX12_on 96 = .ok (.invokevirtual 275, 3) := by decide +kernel
theorem dX12_on_99 : decode cX12_on 99 = .ok (.iload_n 3, 1) := by decide +kernel
theorem dX12_on_100 : decode cX12_on 100 = .ok (.ireturn, 1) := by decide +kernel
theorem dX12_brightest_0 : decode cX12_brightest 0 = .ok (.aload_n 0, 1) := by decide +kernel
theorem dX12_brightest_1 : decode cX12_brightest 1 = .ok (.aload_n 0, 1) := by decide +kernel
theorem dX12_brightest_2 : decode cX12_brightest 2 = .ok (.getfield 91, 3) := by decide +kernel
theorem dX12_brightest_5 : decode cX12_brightest 5 = .ok (.invokevirtual 271, 3) := by decide +kernel
theorem dX12_brightest_8 : decode cX12_brightest 8 = .ok (.iconst 0, 1) := by decide +kernel
theorem dX12_brightest_9 : decode cX12_brightest 9 = .ok (.istore_n 3, 1) := by decide +kernel
theorem dX12_brightest_10 : decode cX12_brightest 10 = .ok (.aload_n 0, 1) := by decide +kernel
theorem dX12_brightest_11 : decode cX12_brightest 11 = .ok (.iload_n 1, 1) := by decide +kernel
theorem dX12_brightest_12 : decode cX12_brightest 12 = .ok (.invokevirtual 128, 3) := by decide +kernel
theorem dX12_brightest_15 : decode cX12_brightest 15 = .ok (.istore 4, 2) := by decide +kernel
theorem dX12_brightest_17 : decode cX12_brightest 17 = .ok (.iconst 1, 1) := by decide +kernel
theorem dX12_brightest_18 : decode cX12_brightest 18 = .ok (.istore 5, 2) := by decide +kernel
theorem dX12_brightest_20 : decode cX12_brightest 20 = .ok (.iload 5, 2) := by decide +kernel
theorem dX12_brightest_22 : decode cX12_brightest 22 = .ok (.bipush 21, 2) := by decide +kernel
theorem dX12_brightest_24 : decode cX12_brightest 24 = .ok (.if_icmp .ge 37, 3) := by decide +kernel
theorem dX12_brightest_27 : decode cX12_brightest 27 = .ok (.aload_n 0, 1) := by decide +kernel
theorem dX12_brightest_28 : decode cX12_brightest 28 = .ok (.invokevirtual 268, 3) := by decide +kernel
theorem dX12_brightest_31 : decode cX12_brightest 31 = .ok (.aload_n 0, 1) := by decide +kernel
theorem dX12_brightest_32 : decode cX12_brightest 32 = .ok (.iload_n 1, 1) := by decide +kernel
theorem dX12_brightest_33 : decode cX12_brightest 33 = .ok (.invokevirtual 128, 3) := by decide +kernel
theorem dX12_brightest_36 : decode cX12_brightest 36 = .ok (.istore 6, 2) := by decide +kernel
theorem dX12_brightest_38 : decode cX12_brightest 38 = .ok (.iload 6, 2) := by decide +kernel
theorem dX12_brightest_40 : decode cX12_brightest 40 = .ok (.iload 4, 2) := by decide +kernel
theorem dX12_brightest_42 : decode cX12_brightest 42 = .ok (.if_icmp .gt 6, 3) := by decide +kernel
theorem dX12_brightest_45 : decode cX12_brightest 45 = .ok (.goto 10, 3) := by decide +kernel
theorem dX12_brightest_48 : decode cX12_brightest 48 = .ok (.iload 6, 2) := by decide +kernel
theorem dX12_brightest_50 : decode cX12_brightest 50 = .ok (.istore 4, 2) := by decide +kernel
theorem dX12_brightest_52 : decode cX12_brightest 52 = .ok (.iload 5, 2) := by decide +kernel
theorem dX12_brightest_54 : decode cX12_brightest 54 = .ok (.istore_n 3, 1) := by decide +kernel
theorem dX12_brightest_55 : decode cX12_brightest 55 = .ok (.iinc 5 1, 3) := by decide +kernel
theorem dX12_brightest_58 : decode cX12_brightest 58 = .ok (.goto (-38), 3) := by decide +kernel
theorem dX12_brightest_61 : decode cX12_brightest 61 = .ok (.aload_n 0, 1) := by decide +kernel
theorem dX12_brightest_62 : decode cX12_brightest 62 = .ok (.aload_n 0, 1) := by decide +kernel
theorem dX12_brightest_63 : decode cX12_brightest 63 = .ok (.getfield 91, 3) := by decide +kernel
theorem dX12_brightest_66 : decode cX12_brightest 66 = .ok (.invokevirtual 275, 3) := by decide +kernel
theorem dX12_brightest_69 : decode cX12_brightest 69 = .ok (.iload_n 2, 1) := by decide +kernel
theorem dX12_brightest_70 : decode cX12_brightest 70 = .ok (.ifCond .ne 7, 3) := by decide +kernel
theorem dX12_brightest_73 : decode cX12_brightest 73 = .ok (.iload_n 3, 1) := by decide +kernel
theorem dX12_brightest_74 : decode cX12_brightest 74 = .ok (.goto 5, 3) := by decide +kernel
theorem dX12_brightest_77 : decode cX12_brightest 77 = .ok (.iload 4, 2) := by decide +kernel
theorem dX12_brightest_79 : decode cX12_brightest 79 = .ok (.ireturn, 1) := by decide +kernel
theorem dX12_tries_0 : decode cX12_tries 0 = .ok (.iload_n 1, 1) := by decide +kernel
theorem dX12_tries_1 : decode cX12_tries 1 = .ok (.iload_n 2, 1) := by decide +kernel
theorem dX12_tries_2 : decode cX12_tries 2 = .ok (.if_icmp .ne 127, 3) := by decide +kernel
theorem dX12_tries_5 : decode cX12_tries 5 = .ok (.aload_n 0, 1) := by decide +kernel
theorem dX12_tries_6 : decode cX12_tries 6 = .ok (.aload_n 0, 1) := by decide +kernel
theorem dX12_tries_7 : decode cX12_tries 7 = .ok (.getfield 91, 3) := by decide +kernel
theorem dX12_tries_10 : decode cX12_tries 10 = .ok (.invokevirtual 271, 3) := by decide +kernel
theorem dX12_tries_13 : decode cX12_tries 13 = .ok (.iconst 0, 1) := by decide +kernel
theorem dX12_tries_14 : decode cX12_tries 14 = .ok (.istore_n 3, 1) := by decide +kernel
theorem dX12_tries_15 : decode cX12_tries 15 = .ok (.iload_n 3, 1) := by decide +kernel
theorem dX12_tries_16 : decode cX12_tries 16 = .ok (.iload_n 2, 1) := by decide +kernel
theorem dX12_tries_17 : decode cX12_tries 17 = .ok (.if_icmp .ge 23, 3) := by decide +kernel
theorem dX12_tries_20 : decode cX12_tries 20 = .ok (.aload_n 0, 1) := by decide +kernel
theorem dX12_tries_21 : decode cX12_tries 21 = .ok (.aload_n 0, 1) := by decide +kernel
theorem dX12_tries_22 : decode cX12_tries 22 = .ok (.getfield 94, 3) := by decide +kernel
theorem dX12_tries_25 : decode cX12_tries 25 = .ok (.iload_n 3, 1) := by decide +kernel
theorem dX12_tries_26 : decode cX12_tries 26 = .ok (.iaload, 1) := by decide +kernel
theorem dX12_tries_27 : decode cX12_tries 27 = .ok (.invokevirtual 142, 3) := by decide +kernel
theorem dX12_tries_30 : decode cX12_tries 30 = .ok (.aload_n 0, 1) := by decide +kernel
theorem dX12_tries_31 : decode cX12_tries 31 = .ok (.invokevirtual 268, 3) := by decide +kernel
theorem dX12_tries_34 : decode cX12_tries 34 = .ok (.iinc 3 1, 3) := by decide +kernel
theorem dX12_tries_37 : decode cX12_tries 37 = .ok (.goto (-22), 3) := by decide +kernel
theorem dX12_tries_40 : decode cX12_tries 40 = .ok (.aload_n 0, 1) := by decide +kernel
theorem dX12_tries_41 : decode cX12_tries 41 = .ok (.invokevirtual 262, 3) := by decide +kernel
theorem dX12_tries_44 : decode cX12_tries 44 = .ok (.invokestatic 240, 3) := by decide +kernel
theorem dX12_tries_47 : decode cX12_tries 47 = .ok (.istore_n 3, 1) := by decide +kernel
theorem dX12_tries_48 : decode cX12_tries 48 = .ok (.aload_n 0, 1) := by decide +kernel
theorem dX12_tries_49 : decode cX12_tries 49 = .ok (.invokevirtual 265, 3) := by decide +kernel
theorem dX12_tries_52 : decode cX12_tries 52 = .ok (.istore 4, 2) := by decide +kernel
theorem dX12_tries_54 : decode cX12_tries 54 = .ok (.aload_n 0, 1) := by decide +kernel
theorem dX12_tries_55 : decode cX12_tries 55 = .ok (.aload_n 0, 1) := by decide +kernel
theorem dX12_tries_56 : decode cX12_tries 56 = .ok (.getfield 91, 3) := by decide +kernel
theorem dX12_tries_59 : decode cX12_tries 59 = .ok (.invokevirtual 275, 3) := by decide +kernel
theorem dX12_tries_62 : decode cX12_tries 62 = .ok (.iload_n 3, 1) := by decide +kernel
theorem dX12_tries_63 : decode cX12_tries 63 = .ok (.aload_n 0, 1) := by decide +kernel
theorem dX12_tries_64 : decode cX12_tries 64 = .ok (.getfield 278, 3) := by decide +kernel
theorem dX12_tries_67 : decode cX12_tries 67 = .ok (.if_icmp .lt 20, 3) := by decide +kernel
theorem dX12_tries_70 : decode cX12_tries 70 = .ok (.iload_n 3, 1) := by decide +kernel
theorem dX12_tries_71 : decode cX12_tries 71 = .ok (.aload_n 0, 1) := by decide +kernel
theorem dX12_tries_72 : decode cX12_tries 72 = .ok (.getfield 278, 3) := by decide +kernel
theorem dX12_tries_75 : decode cX12_tries 75 = .ok (.if_icmp .ne 13, 3) := by decide +kernel
theorem dX12_tries_78 : decode cX12_tries 78 = .ok (.iload 4, 2) := by decide +kernel
theorem dX12_tries_80 : decode cX12_tries 80 = .ok (.aload_n 0, 1) := by decide +kernel
theorem dX12_tries_81 : decode cX12_tries 81 = .ok (.getfield 281, 3) := by decide +kernel
theorem dX12_tries_84 : decode cX12_tries 84 = .ok (.if_icmp .lt 4, 3) := by decide +kernel
theorem dX12_tries_87 : decode cX12_tries 87 = .ok (.return_, 1) := by decide +kernel
theorem dX12_tries_88 : decode cX12_tries 88 = .ok (.aload_n 0, 1) := by decide +kernel
theorem dX12_tries_89 : decode cX12_tries 89 = .ok (.iload_n 3, 1) := by decide +kernel
theorem dX12_tries_90 : decode cX12_tries 90 = .ok (.putfield 278, 3) := by decide +kernel
theorem dX12_tries_93 : decode cX12_tries 93 = .ok (.aload_n 0, 1) := by decide +kernel
theorem dX12_tries_94 : decode cX12_tries 94 = .ok (.iload 4, 2) := by decide +kernel
theorem dX12_tries_96 : decode cX12_tries 96 = .ok (.putfield 281, 3) := by decide +kernel
theorem dX12_tries_99 : decode cX12_tries 99 = .ok (.iconst 0, 1) := by decide +kernel
theorem dX12_tries_100 : decode cX12_tries 100 = .ok (.istore 5, 2) := by decide +kernel
theorem dX12_tries_102 : decode cX12_tries 102 = .ok (.iload 5, 2) := by decide +kernel
theorem dX12_tries_104 : decode cX12_tries 104 = .ok (.iload_n 2, 1) := by decide +kernel
theorem dX12_tries_105 : decode cX12_tries 105 = .ok (.if_icmp .ge 23, 3) := by decide +kernel
theorem dX12_tries_108 : decode cX12_tries 108 = .ok (.aload_n 0, 1) := by decide +kernel
theorem dX12_tries_109 : decode cX12_tries 109 = .ok (.getfield 97, 3) := by decide +kernel
theorem dX12_tries_112 : decode cX12_tries 112 = .ok (.iload 5, 2) := by decide +kernel
theorem dX12_tries_114 : decode cX12_tries 114 = .ok (.aload_n 0, 1) := by decide +kernel
theorem dX12_tries_115 : decode cX12_tries 115 = .ok (.getfield 94, 3) := by decide +kernel
theorem dX12_tries_118 : decode cX12_tries 118 = .ok (.iload 5, 2) := by decide +kernel
theorem dX12_tries_120 : decode cX12_tries 120 = .ok (.iaload, 1) := by decide +kernel
theorem dX12_tries_121 : decode cX12_tries 121 = .ok (.iastore, 1) := by decide +kernel
theorem dX12_tries_122 : decode cX12_tries 122 = .ok (.iinc 5 1, 3) := by decide +kernel
theorem dX12_tries_125 : decode cX12_tries 125 = .ok (.goto (-23), 3) := by decide +kernel
theorem dX12_tries_128 : decode cX12_tries 128 = .ok (.return_, 1) := by decide +kernel
theorem dX12_tries_129 : decode cX12_tries 129 = .ok (.iconst 0, 1) := by decide +kernel
theorem dX12_tries_130 : decode cX12_tries 130 = .ok (.istore_n 3, 1) := by decide +kernel
theorem dX12_tries_131 : decode cX12_tries 131 = .ok (.iload_n 3, 1) := by decide +kernel
theorem dX12_tries_132 : decode cX12_tries 132 = .ok (.aload_n 0, 1) := by decide +kernel
theorem dX12_tries_133 : decode cX12_tries 133 = .ok (.getfield 114, 3) := by decide +kernel
theorem dX12_tries_136 : decode cX12_tries 136 = .ok (.if_icmp .ge 77, 3) := by decide +kernel
theorem dX12_tries_139 : decode cX12_tries 139 = .ok (.aload_n 0, 1) := by decide +kernel
theorem dX12_tries_140 : decode cX12_tries 140 = .ok (.getfield 33, 3) := by decide +kernel
theorem dX12_tries_143 : decode cX12_tries 143 = .ok (.iload_n 3, 1) := by decide +kernel
theorem dX12_tries_144 : decode cX12_tries 144 = .ok (.iaload, 1) := by decide +kernel
theorem dX12_tries_145 : decode cX12_tries 145 = .ok (.ifCond .ne 7, 3) := by decide +kernel
theorem dX12_tries_148 : decode cX12_tries 148 = .ok (.iconst 1, 1) := by decide +kernel
theorem dX12_tries_149 : decode cX12_tries 149 = .ok (.goto 4, 3) := by decide +kernel
theorem dX12_tries_152 : decode cX12_tries 152 = .ok (.iconst 0, 1) := by decide +kernel
theorem dX12_tries_153 : decode cX12_tries 153 = .ok (.istore 4, 2) := by decide +kernel
theorem dX12_tries_155 : decode cX12_tries 155 = .ok (.iconst 0, 1) := by decide +kernel
theorem dX12_tries_156 : decode cX12_tries 156 = .ok (.istore 5, 2) := by decide +kernel
theorem dX12_tries_158 : decode cX12_tries 158 = .ok (.iload 5, 2) := by decide +kernel
theorem dX12_tries_160 : decode cX12_tries 160 = .ok (.iload_n 1, 1) := by decide +kernel
theorem dX12_tries_161 : decode cX12_tries 161 = .ok (.if_icmp .ge 23, 3) := by decide +kernel
theorem dX12_tries_164 : decode cX12_tries 164 = .ok (.aload_n 0, 1) := by decide +kernel
theorem dX12_tries_165 : decode cX12_tries 165 = .ok (.getfield 94, 3) := by decide +kernel
theorem dX12_tries_168 : decode cX12_tries 168 = .ok (.iload 5, 2) := by decide +kernel
theorem dX12_tries_170 : decode cX12_tries 170 = .ok (.iaload, 1) := by decide +kernel
theorem dX12_tries_171 : decode cX12_tries 171 = .ok (.iload_n 3, 1) := by decide +kernel
theorem dX12_tries_172 : decode cX12_tries 172 = .ok (.if_icmp .ne 6, 3) := by decide +kernel
theorem dX12_tries_175 : decode cX12_tries 175 = .ok (.iconst 0, 1) := by decide +kernel
theorem dX12_tries_176 : decode cX12_tries 176 = .ok (.istore 4, 2) := by decide +kernel
theorem dX12_tries_178 : decode cX12_tries 178 = .ok (.iinc 5 1, 3) := by decide +kernel
theorem dX12_tries_181 : decode cX12_tries 181 = .ok (.goto (-23), 3) := by decide +kernel
theorem dX12_tries_184 : decode cX12_tries 184 = .ok (.iload 4, 2) := by decide +kernel
theorem dX12_tries_186 : decode cX12_tries 186 = .ok (.ifCond .ne 6, 3) := by decide +kernel
theorem dX12_tries_189 : decode cX12_tries 189 = .ok (.goto 18, 3) := by decide +kernel
theorem dX12_tries_192 : decode cX12_tries 192 = .ok (.aload_n 0, 1) := by decide +kernel
theorem dX12_tries_193 : decode cX12_tries 193 = .ok (.getfield 94, 3) := by decide +kernel
theorem dX12_tries_196 : decode cX12_tries 196 = .ok (.iload_n 1, 1) := by decide +kernel
theorem dX12_tries_197 : decode cX12_tries 197 = .ok (.iload_n 3, 1) := by decide +kernel
theorem dX12_tries_198 : decode cX12_tries 198 = .ok (.iastore, 1) := by decide +kernel
theorem dX12_tries_199 : decode cX12_tries 199 = .ok (.aload_n 0, 1) := by decide +kernel
theorem dX12_tries_200 : decode cX12_tries 200 = .ok (.iload_n 1, 1) := by decide +kernel
theorem dX12_tries_201 : decode cX12_tries 201 = .ok (.iconst 1, 1) := by decide +kernel
theorem dX12_tries_202 : decode cX12_tries 202 = .ok (.iadd, 1) := by decide +kernel
theorem dX12_tries_203 : decode cX12_tries 203 = .ok (.iload_n 2, 1) := by decide +kernel
theorem dX12_tries_204 : decode cX12_tries 204 = .ok (.invokevirtual 284, 3) := by decide +kernel
theorem dX12_tries_207 : decode cX12_tries 207 = .ok (.iinc 3 1, 3) := by decide +kernel
theorem dX12_tries_210 : decode cX12_tries 210 = .ok (.goto (-79), 3) := by decide +kernel
