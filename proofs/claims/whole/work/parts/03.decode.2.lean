theorem dX10_init_0 : decode cX10_init 0 = .ok (.aload_n 0, 1) := by decide +kernel
theorem dX10_init_1 : decode cX10_init 1 = .ok (.invokespecial 1, 3) := by decide +kernel
theorem dX10_init_4 : decode cX10_init 4 = .ok (.aload_n 0, 1) := by decide +kernel
theorem dX10_init_5 : decode cX10_init 5 = .ok (.bipush 6, 2) := by decide +kernel
theorem dX10_init_7 : decode cX10_init 7 = .ok (.newarray .int, 2) := by decide +kernel
theorem dX10_init_9 : decode cX10_init 9 = .ok (.putfield 7, 3) := by decide +kernel
theorem dX10_init_12 : decode cX10_init 12 = .ok (.aload_n 0, 1) := by decide +kernel
theorem dX10_init_13 : decode cX10_init 13 = .ok (.bipush 6, 2) := by decide +kernel
theorem dX10_init_15 : decode cX10_init 15 = .ok (.newarray .double, 2) := by decide +kernel
theorem dX10_init_17 : decode cX10_init 17 = .ok (.putfield 13, 3) := by decide +kernel
theorem dX10_init_20 : decode cX10_init 20 = .ok (.aload_n 0, 1) := by decide +kernel
theorem dX10_init_21 : decode cX10_init 21 = .ok (.bipush 6, 2) := by decide +kernel
theorem dX10_init_23 : decode cX10_init 23 = .ok (.newarray .int, 2) := by decide +kernel
theorem dX10_init_25 : decode cX10_init 25 = .ok (.putfield 17, 3) := by decide +kernel
theorem dX10_init_28 : decode cX10_init 28 = .ok (.aload_n 0, 1) := by decide +kernel
theorem dX10_init_29 : decode cX10_init 29 = .ok (.bipush 6, 2) := by decide +kernel
theorem dX10_init_31 : decode cX10_init 31 = .ok (.newarray .boolean, 2) := by decide +kernel
theorem dX10_init_33 : decode cX10_init 33 = .ok (.putfield 20, 3) := by decide +kernel
theorem dX10_init_36 : decode cX10_init 36 = .ok (.aload_n 0, 1) := by decide +kernel
theorem dX10_init_37 : decode cX10_init 37 = .ok (.bipush 6, 2) := by decide +kernel
theorem dX10_init_39 : decode cX10_init 39 = .ok (.newarray .double, 2) := by decide +kernel
theorem dX10_init_41 : decode cX10_init 41 = .ok (.putfield 24, 3) := by decide +kernel
theorem dX10_init_44 : decode cX10_init 44 = .ok (.aload_n 0, 1) := by decide +kernel
theorem dX10_init_45 : decode cX10_init 45 = .ok (.bipush 6, 2) := by decide +kernel
theorem dX10_init_47 : decode cX10_init 47 = .ok (.newarray .int, 2) := by decide +kernel
theorem dX10_init_49 : decode cX10_init 49 = .ok (.putfield 27, 3) := by decide +kernel
theorem dX10_init_52 : decode cX10_init 52 = .ok (.aload_n 0, 1) := by decide +kernel
theorem dX10_init_53 : decode cX10_init 53 = .ok (.bipush 6, 2) := by decide +kernel
theorem dX10_init_55 : decode cX10_init 55 = .ok (.newarray .int, 2) := by decide +kernel
theorem dX10_init_57 : decode cX10_init 57 = .ok (.putfield 30, 3) := by decide +kernel
theorem dX10_init_60 : decode cX10_init 60 = .ok (.aload_n 0, 1) := by decide +kernel
theorem dX10_init_61 : decode cX10_init 61 = .ok (.bipush 8, 2) := by decide +kernel
theorem dX10_init_63 : decode cX10_init 63 = .ok (.newarray .int, 2) := by decide +kernel
theorem dX10_init_65 : decode cX10_init 65 = .ok (.putfield 33, 3) := by decide +kernel
theorem dX10_init_68 : decode cX10_init 68 = .ok (.aload_n 0, 1) := by decide +kernel
theorem dX10_init_69 : decode cX10_init 69 = .ok (.bipush 8, 2) := by decide +kernel
theorem dX10_init_71 : decode cX10_init 71 = .ok (.newarray .int, 2) := by decide +kernel
theorem dX10_init_73 : decode cX10_init 73 = .ok (.putfield 36, 3) := by decide +kernel
theorem dX10_init_76 : decode cX10_init 76 = .ok (.aload_n 0, 1) := by decide +kernel
theorem dX10_init_77 : decode cX10_init 77 = .ok (.bipush 8, 2) := by decide +kernel
theorem dX10_init_79 : decode cX10_init 79 = .ok (.newarray .double, 2) := by decide +kernel
theorem dX10_init_81 : decode cX10_init 81 = .ok (.putfield 39, 3) := by decide +kernel
theorem dX10_init_84 : decode cX10_init 84 = .ok (.aload_n 0, 1) := by decide +kernel
theorem dX10_init_85 : decode cX10_init 85 = .ok (.iconst 4, 1) := by decide +kernel
theorem dX10_init_86 : decode cX10_init 86 = .ok (.newarray .double, 2) := by decide +kernel
theorem dX10_init_88 : decode cX10_init 88 = .ok (.putfield 42, 3) := by decide +kernel
theorem dX10_init_91 : decode cX10_init 91 = .ok (.aload_n 0, 1) := by decide +kernel
theorem dX10_init_92 : decode cX10_init 92 = .ok (.iconst 4, 1) := by decide +kernel
theorem dX10_init_93 : decode cX10_init 93 = .ok (.newarray .double, 2) := by decide +kernel
theorem dX10_init_95 : decode cX10_init 95 = .ok (.putfield 45, 3) := by decide +kernel
theorem dX10_init_98 : decode cX10_init 98 = .ok (.aload_n 0, 1) := by decide +kernel
theorem dX10_init_99 : decode cX10_init 99 = .ok (.iconst 4, 1) := by decide +kernel
theorem dX10_init_100 : decode cX10_init 100 = .ok (.newarray .int, 2) := by decide +kernel
theorem dX10_init_102 : decode cX10_init 102 = .ok (.putfield 48, 3) := by decide +kernel
theorem dX10_init_105 : decode cX10_init 105 = .ok (.aload_n 0, 1) := by decide +kernel
theorem dX10_init_106 : decode cX10_init 106 = .ok (.iconst 4, 1) := by decide +kernel
theorem dX10_init_107 : decode cX10_init 107 = .ok (.newarray .double, 2) := by decide +kernel
theorem dX10_init_109 : decode cX10_init 109 = .ok (.putfield 51, 3) := by decide +kernel
theorem dX10_init_112 : decode cX10_init 112 = .ok (.aload_n 0, 1) := by decide +kernel
theorem dX10_init_113 : decode cX10_init 113 = .ok (.iconst 4, 1) := by decide +kernel
theorem dX10_init_114 : decode cX10_init 114 = .ok (.newarray .double, 2) := by decide +kernel
theorem dX10_init_116 : decode cX10_init 116 = .ok (.putfield 54, 3) := by decide +kernel
theorem dX10_init_119 : decode cX10_init 119 = .ok (.aload_n 0, 1) := by decide +kernel
theorem dX10_init_120 : decode cX10_init 120 = .ok (.iconst 4, 1) := by decide +kernel
theorem dX10_init_121 : decode cX10_init 121 = .ok (.newarray .int, 2) := by decide +kernel
theorem dX10_init_123 : decode cX10_init 123 = .ok (.putfield 57, 3) := by decide +kernel
theorem dX10_init_126 : decode cX10_init 126 = .ok (.aload_n 0, 1) := by decide +kernel
theorem dX10_init_127 : decode cX10_init 127 = .ok (.iconst 4, 1) := by decide +kernel
theorem dX10_init_128 : decode cX10_init 128 = .ok (.newarray .double, 2) := by decide +kernel
theorem dX10_init_130 : decode cX10_init 130 = .ok (.putfield 60, 3) := by decide +kernel
theorem dX10_init_133 : decode cX10_init 133 = .ok (.aload_n 0, 1) := by decide +kernel
theorem dX10_init_134 : decode cX10_init 134 = .ok (.iconst 4, 1) := by decide +kernel
theorem dX10_init_135 : decode cX10_init 135 = .ok (.newarray .double, 2) := by decide +kernel
theorem dX10_init_137 : decode cX10_init 137 = .ok (.putfield 63, 3) := by decide +kernel
theorem dX10_init_140 : decode cX10_init 140 = .ok (.aload_n 0, 1) := by decide +kernel
theorem dX10_init_141 : decode cX10_init 141 = .ok (.iconst 4, 1) := by decide +kernel
theorem dX10_init_142 : decode cX10_init 142 = .ok (.newarray .int, 2) := by decide +kernel
theorem dX10_init_144 : decode cX10_init 144 = .ok (.putfield 66, 3) := by decide +kernel
theorem dX10_init_147 : decode cX10_init 147 = .ok (.aload_n 0, 1) := by decide +kernel
theorem dX10_init_148 : decode cX10_init 148 = .ok (.iconst 4, 1) := by decide +kernel
theorem dX10_init_149 : decode cX10_init 149 = .ok (.newarray .int, 2) := by decide +kernel
theorem dX10_init_151 : decode cX10_init 151 = .ok (.putfield 69, 3) := by decide +kernel
theorem dX10_init_154 : decode cX10_init 154 = .ok (.aload_n 0, 1) := by decide +kernel
theorem dX10_init_155 : decode cX10_init 155 = .ok (.bipush 60, 2) := by decide +kernel
theorem dX10_init_157 : decode cX10_init 157 = .ok (.newarray .int, 2) := by decide +kernel
theorem dX10_init_159 : decode cX10_init 159 = .ok (.putfield 72, 3) := by decide +kernel
theorem dX10_init_162 : decode cX10_init 162 = .ok (.aload_n 0, 1) := by decide +kernel
theorem dX10_init_163 : decode cX10_init 163 = .ok (.bipush 60, 2) := by decide +kernel
theorem dX10_init_165 : decode cX10_init 165 = .ok (.newarray .double, 2) := by decide +kernel
theorem dX10_init_167 : decode cX10_init 167 = .ok (.putfield 75, 3) := by decide +kernel
theorem dX10_init_170 : decode cX10_init 170 = .ok (.aload_n 0, 1) := by decide +kernel
theorem dX10_init_171 : decode cX10_init 171 = .ok (.bipush 60, 2) := by decide +kernel
theorem dX10_init_173 : decode cX10_init 173 = .ok (.newarray .int, 2) := by decide +kernel
theorem dX10_init_175 : decode cX10_init 175 = .ok (.putfield 78, 3) := by decide +kernel
theorem dX10_init_178 : decode cX10_init 178 = .ok (.aload_n 0, 1) := by decide +kernel
theorem dX10_init_179 : decode cX10_init 179 = .ok (.bipush 60, 2) := by decide +kernel
theorem dX10_init_181 : decode cX10_init 181 = .ok (.newarray .int, 2) := by decide +kernel
theorem dX10_init_183 : decode cX10_init 183 = .ok (.putfield 81, 3) := by decide +kernel
theorem dX10_init_186 : decode cX10_init 186 = .ok (.aload_n 0, 1) := by decide +kernel
theorem dX10_init_187 : decode cX10_init 187 = .ok (.bipush 60, 2) := by decide +kernel
theorem dX10_init_189 : decode cX10_init 189 = .ok (.newarray .int, 2) := by decide +kernel
theorem dX10_init_191 : decode cX10_init 191 = .ok (.putfield 84, 3) := by decide +kernel
theorem dX10_init_194 : decode cX10_init 194 = .ok (.aload_n 0, 1) := by decide +kernel
theorem dX10_init_195 : decode cX10_init 195 = .ok (.bipush 60, 2) := by decide +kernel
theorem dX10_init_197 : decode cX10_init 197 = .ok (.newarray .int, 2) := by decide +kernel
theorem dX10_init_199 : decode cX10_init 199 = .ok (.putfield 87, 3) := by decide +kernel
theorem dX10_init_202 : decode cX10_init 202 = .ok (.aload_n 0, 1) := by decide +kernel
theorem dX10_init_203 : decode cX10_init 203 = .ok (.bipush 60, 2) := by decide +kernel
theorem dX10_init_205 : decode cX10_init 205 = .ok (.newarray .int, 2) := by decide +kernel
theorem dX10_init_207 : decode cX10_init 207 = .ok (.putfield 90, 3) := by decide +kernel
theorem dX10_init_210 : decode cX10_init 210 = .ok (.aload_n 0, 1) := by decide +kernel
theorem dX10_init_211 : decode cX10_init 211 = .ok (.bipush 60, 2) := by decide +kernel
theorem dX10_init_213 : decode cX10_init 213 = .ok (.newarray .boolean, 2) := by decide +kernel
theorem dX10_init_215 : decode cX10_init 215 = .ok (.putfield 93, 3) := by decide +kernel
theorem dX10_init_218 : decode cX10_init 218 = .ok (.aload_n 0, 1) := by decide +kernel
theorem dX10_init_219 : decode cX10_init 219 = .ok (.sipush 8000, 3) := by decide +kernel
theorem dX10_init_222 : decode cX10_init 222 = .ok (.newarray .int, 2) := by decide +kernel
theorem dX10_init_224 : decode cX10_init 224 = .ok (.putfield 96, 3) := by decide +kernel
theorem dX10_init_227 : decode cX10_init 227 = .ok (.aload_n 0, 1) := by decide +kernel
theorem dX10_init_228 : decode cX10_init 228 = .ok (.sipush 240, 3) := by decide +kernel
theorem dX10_init_231 : decode cX10_init 231 = .ok (.newarray .int, 2) := by decide +kernel
theorem dX10_init_233 : decode cX10_init 233 = .ok (.putfield 99, 3) := by decide +kernel
theorem dX10_init_236 : decode cX10_init 236 = .ok (.aload_n 0, 1) := by decide +kernel
theorem dX10_init_237 : decode cX10_init 237 = .ok (.iconst 4, 1) := by decide +kernel
theorem dX10_init_238 : decode cX10_init 238 = .ok (.newarray .long, 2) := by decide +kernel
theorem dX10_init_240 : decode cX10_init 240 = .ok (.putfield 102, 3) := by decide +kernel
theorem dX10_init_243 : decode cX10_init 243 = .ok (.aload_n 0, 1) := by decide +kernel
theorem dX10_init_244 : decode cX10_init 244 = .ok (.bipush 30, 2) := by decide +kernel
theorem dX10_init_246 : decode cX10_init 246 = .ok (.newarray .int, 2) := by decide +kernel
theorem dX10_init_248 : decode cX10_init 248 = .ok (.putfield 106, 3) := by decide +kernel
theorem dX10_init_251 : decode cX10_init 251 = .ok (.aload_n 0, 1) := by decide +kernel
theorem dX10_init_252 : decode cX10_init 252 = .ok (.bipush 30, 2) := by decide +kernel
theorem dX10_init_254 : decode cX10_init 254 = .ok (.newarray .int, 2) := by decide +kernel
theorem dX10_init_256 : decode cX10_init 256 = .ok (.putfield 109, 3) := by decide +kernel
theorem dX10_init_259 : decode cX10_init 259 = .ok (.aload_n 0, 1) := by decide +kernel
theorem dX10_init_260 : decode cX10_init 260 = .ok (.bipush 30, 2) := by decide +kernel
theorem dX10_init_262 : decode cX10_init 262 = .ok (.newarray .int, 2) := by decide +kernel
theorem dX10_init_264 : decode cX10_init 264 = .ok (.putfield 112, 3) := by decide +kernel
theorem dX10_init_267 : decode cX10_init 267 = .ok (.aload_n 0, 1) := by decide +kernel
theorem dX10_init_268 : decode cX10_init 268 = .ok (.bipush 30, 2) := by decide +kernel
theorem dX10_init_270 : decode cX10_init 270 = .ok (.newarray .int, 2) := by decide +kernel
theorem dX10_init_272 : decode cX10_init 272 = .ok (.putfield 115, 3) := by decide +kernel
theorem dX10_init_275 : decode cX10_init 275 = .ok (.aload_n 0, 1) := by decide +kernel
theorem dX10_init_276 : decode cX10_init 276 = .ok (.lload_n 1, 1) := by decide +kernel
theorem dX10_init_277 : decode cX10_init 277 = .ok (.putfield 118, 3) := by decide +kernel
theorem dX10_init_280 : decode cX10_init 280 = .ok (.return_, 1) := by decide +kernel
theorem dX10_isIn_0 : decode cX10_isIn 0 = .ok (.dload_n 0, 1) := by decide +kernel
theorem dX10_isIn_1 : decode cX10_isIn 1 = .ok (.dload_n 2, 1) := by decide +kernel
theorem dX10_isIn_2 : decode cX10_isIn 2 = .ok (.dcmp .l, 1) := by decide +kernel
theorem dX10_isIn_3 : decode cX10_isIn 3 = .ok (.ifCond .lt 14, 3) := by decide +kernel
theorem dX10_isIn_6 : decode cX10_isIn 6 = .ok (.dload_n 0, 1) := by decide +kernel
theorem dX10_isIn_7 : decode cX10_isIn 7 = .ok (.dload 4, 2) := by decide +kernel
theorem dX10_isIn_9 : decode cX10_isIn 9 = .ok (.dcmp .g, 1) := by decide +kernel
theorem dX10_isIn_10 : decode cX10_isIn 10 = .ok (.ifCond .gt 7, 3) := by decide +kernel
theorem dX10_isIn_13 : decode cX10_isIn 13 = .ok (.iconst 1, 1) := by decide +kernel
theorem dX10_isIn_14 : decode cX10_isIn 14 = .ok (.goto 4, 3) := by decide +kernel
theorem dX10_isIn_17 : decode cX10_isIn 17 = .ok (.iconst 0, 1) := by decide +kernel
theorem dX10_isIn_18 : decode cX10_isIn 18 = .ok (.ireturn, 1) := by decide +kernel
theorem dX10_isBelt_0 : decode cX10_isBelt 0 = .ok (.iload_n 1, 1) := by decide +kernel
theorem dX10_isBelt_1 : decode cX10_isBelt 1 = .ok (.ifCond .lt 15, 3) := by decide +kernel
theorem dX10_isBelt_4 : decode cX10_isBelt 4 = .ok (.iload_n 1, 1) := by decide +kernel
theorem dX10_isBelt_5 : decode cX10_isBelt 5 = .ok (.aload_n 0, 1) := by decide +kernel
theorem dX10_isBelt_6 : decode cX10_isBelt 6 = .ok (.getfield 122, 3) := by decide +kernel
theorem dX10_isBelt_9 : decode cX10_isBelt 9 = .ok (.if_icmp .ge 7, 3) := by decide +kernel
theorem dX10_isBelt_12 : decode cX10_isBelt 12 = .ok (.iconst 1, 1) := by decide +kernel
theorem dX10_isBelt_13 : decode cX10_isBelt 13 = .ok (.goto 4, 3) := by decide +kernel
theorem dX10_isBelt_16 : decode cX10_isBelt 16 = .ok (.iconst 0, 1) := by decide +kernel
theorem dX10_isBelt_17 : decode cX10_isBelt 17 = .ok (.ireturn, 1) := by decide +kernel
theorem dX10_isOpen_0 : decode cX10_isOpen 0 = .ok (.aload_n 0, 1) := by decide +kernel
theorem dX10_isOpen_1 : decode cX10_isOpen 1 = .ok (.getfield 126, 3) := by decide +kernel
theorem dX10_isOpen_4 : decode cX10_isOpen 4 = .ok (.ifCond .ne 7, 3) := by decide +kernel
theorem dX10_isOpen_7 : decode cX10_isOpen 7 = .ok (.iconst 1, 1) := by decide +kernel
theorem dX10_isOpen_8 : decode cX10_isOpen 8 = .ok (.goto 4, 3) := by decide +kernel
theorem dX10_isOpen_11 : decode cX10_isOpen 11 = .ok (.iconst 0, 1) := by decide +kernel
theorem dX10_isOpen_12 : decode cX10_isOpen 12 = .ok (.ireturn, 1) := by decide +kernel
theorem dX10_belt_0 : decode cX10_belt 0 = .ok (.aload_n 0, 1) := by decide +kernel
theorem dX10_belt_1 : decode cX10_belt 1 = .ok (.getfield 122, 3) := by decide +kernel
theorem dX10_belt_4 : decode cX10_belt 4 = .ok (.bipush 6, 2) := by decide +kernel
theorem dX10_belt_6 : decode cX10_belt 6 = .ok (.if_icmp .eq 35, 3) := by decide +kernel
theorem dX10_belt_9 : decode cX10_belt 9 = .ok (.iload_n 1, 1) := by decide +kernel
theorem dX10_belt_10 : decode cX10_belt 10 = .ok (.iconst 1, 1) := by decide +kernel
theorem dX10_belt_11 : decode cX10_belt 11 = .ok (.if_icmp .lt 30, 3) := by decide +kernel
theorem dX10_belt_14 : decode cX10_belt 14 = .ok (.iload_n 1, 1) := by decide +kernel
theorem dX10_belt_15 : decode cX10_belt 15 = .ok (.sipush 1000, 3) := by decide +kernel
theorem dX10_belt_18 : decode cX10_belt 18 = .ok (.if_icmp .gt 23, 3) := by decide +kernel
theorem dX10_belt_21 : decode cX10_belt 21 = .ok (.dload_n 2, 1) := by decide +kernel
theorem dX10_belt_22 : decode cX10_belt 22 = .ok (.ldc2_w 129, 3) := by decide +kernel
theorem dX10_belt_25 : decode cX10_belt 25 = .ok (.ldc2_w 131, 3) := by decide +kernel
theorem dX10_belt_28 : decode cX10_belt 28 = .ok (.invokestatic 133, 3) := by decide +kernel
theorem dX10_belt_31 : decode cX10_belt 31 = .ok (.ifCond .eq 10, 3) := by decide +kernel
theorem dX10_belt_34 : decode cX10_belt 34 = .ok (.aload_n 0, 1) := by decide +kernel
theorem dX10_belt_35 : decode cX10_belt 35 = .ok (.invokevirtual 137, 3) := by decide +kernel
theorem dX10_belt_38 : decode cX10_belt 38 = .ok (.ifCond .ne 5, 3) := by decide +kernel
theorem dX10_belt_41 : decode cX10_belt 41 = .ok (.iconst (-1), 1) := by decide +kernel
theorem dX10_belt_42 : decode cX10_belt 42 = .ok (.ireturn, 1) := by decide +kernel
theorem dX10_belt_43 : decode cX10_belt 43 = .ok (.aload_n 0, 1) := by decide +kernel
theorem dX10_belt_44 : decode cX10_belt 44 = .ok (.getfield 7, 3) := by decide +kernel
theorem dX10_belt_47 : decode cX10_belt 47 = .ok (.aload_n 0, 1) := by decide +kernel
theorem dX10_belt_48 : decode cX10_belt 48 = .ok (.getfield 122, 3) := by decide +kernel
theorem dX10_belt_51 : decode cX10_belt 51 = .ok (.iload_n 1, 1) := by decide +kernel
theorem dX10_belt_52 : decode cX10_belt 52 = .ok (.iastore, 1) := by decide +kernel
theorem dX10_belt_53 : decode cX10_belt 53 = .ok (.aload_n 0, 1) := by decide +kernel
theorem dX10_belt_54 : decode cX10_belt 54 = .ok (.getfield 13, 3) := by decide +kernel
theorem dX10_belt_57 : decode cX10_belt 57 = .ok (.aload_n 0, 1) := by decide +kernel
theorem dX10_belt_58 : decode cX10_belt 58 = .ok (.getfield 122, 3) := by decide +kernel
theorem dX10_belt_61 : decode cX10_belt 61 = .ok (.dload_n 2, 1) := by decide +kernel
theorem dX10_belt_62 : decode cX10_belt 62 = .ok (.dastore, 1) := by decide +kernel
theorem dX10_belt_63 : decode cX10_belt 63 = .ok (.aload_n 0, 1) := by decide +kernel
theorem dX10_belt_64 : decode cX10_belt 64 = .ok (.getfield 17, 3) := by decide +kernel
theorem dX10_belt_67 : decode cX10_belt 67 = .ok (.aload_n 0, 1) := by decide +kernel
theorem dX10_belt_68 : decode cX10_belt 68 = .ok (.getfield 122, 3) := by decide +kernel
theorem dX10_belt_71 : decode cX10_belt 71 = .ok (.iconst (-1), 1) := by decide +kernel
theorem dX10_belt_72 : decode cX10_belt 72 = .ok (.iastore, 1) := by decide +kernel
theorem dX10_belt_73 : decode cX10_belt 73 = .ok (.aload_n 0, 1) := by decide +kernel
theorem dX10_belt_74 : decode cX10_belt 74 = .ok (.dup, 1) := by decide +kernel
theorem dX10_belt_75 : decode cX10_belt 75 = .ok (.getfield 122, 3) := by decide +kernel
theorem dX10_belt_78 : decode cX10_belt 78 = .ok (.iconst 1, 1) := by decide +kernel
theorem dX10_belt_79 : decode cX10_belt 79 = .ok (.iadd, 1) := by decide +kernel
theorem dX10_belt_80 : decode cX10_belt 80 = .ok (.putfield 122, 3) := by decide +kernel
theorem dX10_belt_83 : decode cX10_belt 83 = .ok (.aload_n 0, 1) := by decide +kernel
theorem dX10_belt_84 : decode cX10_belt 84 = .ok (.getfield 122, 3) := by decide +kernel
theorem dX10_belt_87 : decode cX10_belt 87 = .ok (.iconst 1, 1) := by decide +kernel
theorem dX10_belt_88 : decode cX10_belt 88 = .ok (.isub, 1) := by decide +kernel
theorem dX10_belt_89 : decode cX10_belt 89 = .ok (.ireturn, 1) := by decide +kernel
theorem dX10_head_0 : decode cX10_head 0 = .ok (.aload_n 0, 1) := by decide +kernel
theorem dX10_head_1 : decode cX10_head 1 = .ok (.getfield 141, 3) := by decide +kernel
theorem dX10_head_4 : decode cX10_head 4 = .ok (.bipush 8, 2) := by decide +kernel
theorem dX10_head_6 : decode cX10_head 6 = .ok (.if_icmp .eq 42, 3) := by decide +kernel
theorem dX10_head_9 : decode cX10_head 9 = .ok (.aload_n 0, 1) := by decide +kernel
theorem dX10_head_10 : decode cX10_head 10 = .ok (.iload_n 1, 1) := by decide +kernel
theorem dX10_head_11 : decode cX10_head 11 = .ok (.invokevirtual 144, 3) := by decide +kernel
theorem dX10_head_14 : decode cX10_head 14 = .ok (.ifCond .eq 34, 3) := by decide +kernel
theorem dX10_head_17 : decode cX10_head 17 = .ok (.dload_n 2, 1) := by decide +kernel
theorem dX10_head_18 : decode cX10_head 18 = .ok (.dconst 0, 1) := by decide +kernel
theorem dX10_head_19 : decode cX10_head 19 = .ok (.aload_n 0, 1) := by decide +kernel
theorem dX10_head_20 : decode cX10_head 20 = .ok (.getfield 13, 3) := by decide +kernel
theorem dX10_head_23 : decode cX10_head 23 = .ok (.iload_n 1, 1) := by decide +kernel
theorem dX10_head_24 : decode cX10_head 24 = .ok (.daload, 1) := by decide +kernel
theorem dX10_head_25 : decode cX10_head 25 = .ok (.invokestatic 133, 3) := by decide +kernel
theorem dX10_head_28 : decode cX10_head 28 = .ok (.ifCond .eq 20, 3) := by decide +kernel
theorem dX10_head_31 : decode cX10_head 31 = .ok (.dload 4, 2) := by decide +kernel
theorem dX10_head_33 : decode cX10_head 33 = .ok (.dconst 0, 1) := by decide +kernel
theorem dX10_head_34 : decode cX10_head 34 = .ok (.dconst 1, 1) := by decide +kernel
theorem dX10_head_35 : decode cX10_head 35 = .ok (.invokestatic 133, 3) := by decide +kernel
theorem dX10_head_38 : decode cX10_head 38 = .ok (.ifCond .eq 10, 3) := by decide +kernel
theorem dX10_head_41 : decode cX10_head 41 = .ok (.aload_n 0, 1) := by decide +kernel
theorem dX10_head_42 : decode cX10_head 42 = .ok (.invokevirtual 137, 3) := by decide +kernel
theorem dX10_head_45 : decode cX10_head 45 = .ok (.ifCond .ne 5, 3) := by decide +kernel
theorem dX10_head_48 : decode cX10_head 48 = .ok (.iconst (-1), 1) := by decide +kernel
theorem dX10_head_49 : decode cX10_head 49 = .ok (.ireturn, 1) := by decide +kernel
theorem dX10_head_50 : decode cX10_head 50 = .ok (.aload_n 0, 1) := by decide +kernel
theorem dX10_head_51 : decode cX10_head 51 = .ok (.getfield 33, 3) := by decide +kernel
theorem dX10_head_54 : decode cX10_head 54 = .ok (.aload_n 0, 1) := by decide +kernel
theorem dX10_head_55 : decode cX10_head 55 = .ok (.getfield 141, 3) := by decide +kernel
theorem dX10_head_58 : decode cX10_head 58 = .ok (.iload_n 1, 1) := by decide +kernel
theorem dX10_head_59 : decode cX10_head 59 = .ok (.iastore, 1) := by decide +kernel
theorem dX10_head_60 : decode cX10_head 60 = .ok (.aload_n 0, 1) := by decide +kernel
theorem dX10_head_61 : decode cX10_head 61 = .ok (.getfield 36, 3) := by decide +kernel
theorem dX10_head_64 : decode cX10_head 64 = .ok (.aload_n 0, 1) := by decide +kernel
theorem dX10_head_65 : decode cX10_head 65 = .ok (.getfield 141, 3) := by decide +kernel
theorem dX10_head_68 : decode cX10_head 68 = .ok (.dload_n 2, 1) := by decide +kernel
theorem dX10_head_69 : decode cX10_head 69 = .ok (.aload_n 0, 1) := by decide +kernel
theorem dX10_head_70 : decode cX10_head 70 = .ok (.getfield 13, 3) := by decide +kernel
theorem dX10_head_73 : decode cX10_head 73 = .ok (.iload_n 1, 1) := by decide +kernel
theorem dX10_head_74 : decode cX10_head 74 = .ok (.daload, 1) := by decide +kernel
theorem dX10_head_75 : decode cX10_head 75 = .ok (.ddiv, 1) := by decide +kernel
theorem dX10_head_76 : decode cX10_head 76 = .ok (.aload_n 0, 1) := by decide +kernel
theorem dX10_head_77 : decode cX10_head 77 = .ok (.getfield 7, 3) := by decide +kernel
theorem dX10_head_80 : decode cX10_head 80 = .ok (.iload_n 1, 1) := by decide +kernel
theorem dX10_head_81 : decode cX10_head 81 = .ok (.iaload, 1) := by decide +kernel
theorem dX10_head_82 : decode cX10_head 82 = .ok (.i2d, 1) := by decide +kernel
theorem dX10_head_83 : decode cX10_head 83 = .ok (.dmul, 1) := by decide +kernel
theorem dX10_head_84 : decode cX10_head 84 = .ok (.d2i, 1) := by decide +kernel
theorem dX10_head_85 : decode cX10_head 85 = .ok (.iastore, 1) := by decide +kernel
theorem dX10_head_86 : decode cX10_head 86 = .ok (.aload_n 0, 1) := by decide +kernel
theorem dX10_head_87 : decode cX10_head 87 = .ok (.getfield 39, 3) := by decide +kernel
theorem dX10_head_90 : decode cX10_head 90 = .ok (.aload_n 0, 1) := by decide +kernel
theorem dX10_head_91 : decode cX10_head 91 = .ok (.getfield 141, 3) := by decide +kernel
theorem dX10_head_94 : decode cX10_head 94 = .ok (.dload 4, 2) := by decide +kernel
theorem dX10_head_96 : decode cX10_head 96 = .ok (.dastore, 1) := by decide +kernel
theorem dX10_head_97 : decode cX10_head 97 = .ok (.aload_n 0, 1) := by decide +kernel
theorem dX10_head_98 : decode cX10_head 98 = .ok (.dup, 1) := by decide +kernel
theorem dX10_head_99 : decode cX10_head 99 = .ok (.getfield 141, 3) := by decide +kernel
theorem dX10_head_102 : decode cX10_head 102 = .ok (.iconst 1, 1) := by decide +kernel
theorem dX10_head_103 : decode cX10_head 103 = .ok (.iadd, 1) := by decide +kernel
theorem dX10_head_104 : decode cX10_head 104 = .ok (.putfield 141, 3) := by decide +kernel
theorem dX10_head_107 : decode cX10_head 107 = .ok (.aload_n 0, 1) := by decide +kernel
theorem dX10_head_108 : decode cX10_head 108 = .ok (.getfield 141, 3) := by decide +kernel
theorem dX10_head_111 : decode cX10_head 111 = .ok (.iconst 1, 1) := by decide +kernel
theorem dX10_head_112 : decode cX10_head 112 = .ok (.isub, 1) := by decide +kernel
theorem dX10_head_113 : decode cX10_head 113 = .ok (.ireturn, 1) := by decide +kernel
theorem dX10_bunker_0 : decode cX10_bunker 0 = .ok (.aload_n 0, 1) := by decide +kernel
theorem dX10_bunker_1 : decode cX10_bunker 1 = .ok (.getfield 148, 3) := by decide +kernel
theorem dX10_bunker_4 : decode cX10_bunker 4 = .ok (.iconst 4, 1) := by decide +kernel
theorem dX10_bunker_5 : decode cX10_bunker 5 = .ok (.if_icmp .eq 21, 3) := by decide +kernel
theorem dX10_bunker_8 : decode cX10_bunker 8 = .ok (.dload_n 1, 1) := by decide +kernel
theorem dX10_bunker_9 : decode cX10_bunker 9 = .ok (.dconst 0, 1) := by decide +kernel
theorem dX10_bunker_10 : decode cX10_bunker 10 = .ok (.ldc2_w 151, 3) := by decide +kernel
theorem dX10_bunker_13 : decode cX10_bunker 13 = .ok (.invokestatic 133, 3) := by decide +kernel
theorem dX10_bunker_16 : decode cX10_bunker 16 = .ok (.ifCond .eq 10, 3) := by decide +kernel
theorem dX10_bunker_19 : decode cX10_bunker 19 = .ok (.aload_n 0, 1) := by decide +kernel
theorem dX10_bunker_20 : decode cX10_bunker 20 = .ok (.invokevirtual 137, 3) := by decide +kernel
theorem dX10_bunker_23 : decode cX10_bunker 23 = .ok (.ifCond .ne 5, 3) := by decide +kernel
theorem dX10_bunker_26 : decode cX10_bunker 26 = .ok (.iconst (-1), 1) := by decide +kernel
theorem dX10_bunker_27 : decode cX10_bunker 27 = .ok (.ireturn, 1) := by decide +kernel
theorem dX10_bunker_28 : decode cX10_bunker 28 = .ok (.aload_n 0, 1) := by decide +kernel
theorem dX10_bunker_29 : decode cX10_bunker 29 = .ok (.getfield 42, 3) := by decide +kernel
theorem dX10_bunker_32 : decode cX10_bunker 32 = .ok (.aload_n 0, 1) := by decide +kernel
theorem dX10_bunker_33 : decode cX10_bunker 33 = .ok (.getfield 148, 3) := by decide +kernel
theorem dX10_bunker_36 : decode cX10_bunker 36 = .ok (.dload_n 1, 1) := by decide +kernel
theorem dX10_bunker_37 : decode cX10_bunker 37 = .ok (.dastore, 1) := by decide +kernel
theorem dX10_bunker_38 : decode cX10_bunker 38 = .ok (.aload_n 0, 1) := by decide +kernel
theorem dX10_bunker_39 : decode cX10_bunker 39 = .ok (.dup, 1) := by decide +kernel
theorem dX10_bunker_40 : decode cX10_bunker 40 = .ok (.getfield 148, 3) := by decide +kernel
theorem dX10_bunker_43 : decode cX10_bunker 43 = .ok (.iconst 1, 1) := by decide +kernel
theorem dX10_bunker_44 : decode cX10_bunker 44 = .ok (.iadd, 1) := by decide +kernel
theorem dX10_bunker_45 : decode cX10_bunker 45 = .ok (.putfield 148, 3) := by decide +kernel
theorem dX10_bunker_48 : decode cX10_bunker 48 = .ok (.aload_n 0, 1) := by decide +kernel
theorem dX10_bunker_49 : decode cX10_bunker 49 = .ok (.getfield 148, 3) := by decide +kernel
theorem dX10_bunker_52 : decode cX10_bunker 52 = .ok (.iconst 1, 1) := by decide +kernel
theorem dX10_bunker_53 : decode cX10_bunker 53 = .ok (.isub, 1) := by decide +kernel
theorem dX10_bunker_54 : decode cX10_bunker 54 = .ok (.ireturn, 1) := by decide +kernel
theorem dX10_joinTo_0 : decode cX10_joinTo 0 = .ok (.iload_n 2, 1) := by decide +kernel
theorem dX10_joinTo_1 : decode cX10_joinTo 1 = .ok (.iconst (-1), 1) := by decide +kernel
theorem dX10_joinTo_2 : decode cX10_joinTo 2 = .ok (.if_icmp .eq 32, 3) := by decide +kernel
theorem dX10_joinTo_5 : decode cX10_joinTo 5 = .ok (.iload_n 2, 1) := by decide +kernel
theorem dX10_joinTo_6 : decode cX10_joinTo 6 = .ok (.ifCond .lt 11, 3) := by decide +kernel
theorem dX10_joinTo_9 : decode cX10_joinTo 9 = .ok (.iload_n 2, 1) := by decide +kernel
theorem dX10_joinTo_10 : decode cX10_joinTo 10 = .ok (.aload_n 0, 1) := by decide +kernel
theorem dX10_joinTo_11 : decode cX10_joinTo 11 = .ok (.getfield 122, 3) := by decide +kernel
theorem dX10_joinTo_14 : decode cX10_joinTo 14 = .ok (.if_icmp .lt 20, 3) := by decide +kernel
theorem dX10_joinTo_17 : decode cX10_joinTo 17 = .ok (.iload_n 2, 1) := by decide +kernel
theorem dX10_joinTo_18 : decode cX10_joinTo 18 = .ok (.bipush (-2), 2) := by decide +kernel
theorem dX10_joinTo_20 : decode cX10_joinTo 20 = .ok (.if_icmp .gt 18, 3) := by decide +kernel
theorem dX10_joinTo_23 : decode cX10_joinTo 23 = .ok (.iload_n 2, 1) := by decide +kernel
theorem dX10_joinTo_24 : decode cX10_joinTo 24 = .ok (.bipush (-2), 2) := by decide +kernel
theorem dX10_joinTo_26 : decode cX10_joinTo 26 = .ok (.aload_n 0, 1) := by decide +kernel
theorem dX10_joinTo_27 : decode cX10_joinTo 27 = .ok (.getfield 148, 3) := by decide +kernel
theorem dX10_joinTo_30 : decode cX10_joinTo 30 = .ok (.isub, 1) := by decide +kernel
theorem dX10_joinTo_31 : decode cX10_joinTo 31 = .ok (.if_icmp .le 7, 3) := by decide +kernel
theorem dX10_joinTo_34 : decode cX10_joinTo 34 = .ok (.iconst 1, 1) := by decide +kernel
theorem dX10_joinTo_35 : decode cX10_joinTo 35 = .ok (.goto 4, 3) := by decide +kernel
theorem dX10_joinTo_38 : decode cX10_joinTo 38 = .ok (.iconst 0, 1) := by decide +kernel
theorem dX10_joinTo_39 : decode cX10_joinTo 39 = .ok (.istore_n 3, 1) := by decide +kernel
theorem dX10_joinTo_40 : decode cX10_joinTo 40 = .ok (.aload_n 0, 1) := by decide +kernel
theorem dX10_joinTo_41 : decode cX10_joinTo 41 = .ok (.iload_n 1, 1) := by decide +kernel
theorem dX10_joinTo_42 : decode cX10_joinTo 42 = .ok (.invokevirtual 144, 3) := by decide +kernel
theorem dX10_joinTo_45 : decode cX10_joinTo 45 = .ok (.ifCond .eq 14, 3) := by decide +kernel
theorem dX10_joinTo_48 : decode cX10_joinTo 48 = .ok (.iload_n 3, 1) := by decide +kernel
theorem dX10_joinTo_49 : decode cX10_joinTo 49 = .ok (.ifCond .eq 10, 3) := by decide +kernel
theorem dX10_joinTo_52 : decode cX10_joinTo 52 = .ok (.aload_n 0, 1) := by decide +kernel
theorem dX10_joinTo_53 : decode cX10_joinTo 53 = .ok (.invokevirtual 137, 3) := by decide +kernel
theorem dX10_joinTo_56 : decode cX10_joinTo 56 = .ok (.ifCond .ne 5, 3) := by decide +kernel
theorem dX10_joinTo_59 : decode cX10_joinTo 59 = .ok (.iconst 0, 1) := by decide +kernel
theorem dX10_joinTo_60 : decode cX10_joinTo 60 = .ok (.ireturn, 1) := by decide +kernel
theorem dX10_joinTo_61 : decode cX10_joinTo 61 = .ok (.aload_n 0, 1) := by decide +kernel
theorem dX10_joinTo_62 : decode cX10_joinTo 62 = .ok (.getfield 17, 3) := by decide +kernel
theorem dX10_joinTo_65 : decode cX10_joinTo 65 = .ok (.iload_n 1, 1) := by decide +kernel
theorem dX10_joinTo_66 : decode cX10_joinTo 66 = .ok (.iload_n 2, 1) := by decide +kernel
theorem dX10_joinTo_67 : decode cX10_joinTo 67 = .ok (.iastore, 1) := by decide +kernel
theorem dX10_joinTo_68 : decode cX10_joinTo 68 = .ok (.iconst 1, 1) := by decide +kernel
theorem dX10_joinTo_69 : decode cX10_joinTo 69 = .ok (.ireturn, 1) := by decide +kernel
theorem dX10_rule_0 : decode cX10_rule 0 = .ok (.aload_n 0, 1) := by decide +kernel
theorem dX10_rule_1 : decode cX10_rule 1 = .ok (.iload_n 1, 1) := by decide +kernel
theorem dX10_rule_2 : decode cX10_rule 2 = .ok (.invokevirtual 144, 3) := by decide +kernel
theorem dX10_rule_5 : decode cX10_rule 5 = .ok (.ifCond .eq 35, 3) := by decide +kernel
theorem dX10_rule_8 : decode cX10_rule 8 = .ok (.dload_n 2, 1) := by decide +kernel
theorem dX10_rule_9 : decode cX10_rule 9 = .ok (.dconst 0, 1) := by decide +kernel
theorem dX10_rule_10 : decode cX10_rule 10 = .ok (.ldc2_w 151, 3) := by decide +kernel
theorem dX10_rule_13 : decode cX10_rule 13 = .ok (.invokestatic 133, 3) := by decide +kernel
theorem dX10_rule_16 : decode cX10_rule 16 = .ok (.ifCond .eq 24, 3) := by decide +kernel
theorem dX10_rule_19 : decode cX10_rule 19 = .ok (.iload 4, 2) := by decide +kernel
theorem dX10_rule_21 : decode cX10_rule 21 = .ok (.iconst 1, 1) := by decide +kernel
theorem dX10_rule_22 : decode cX10_rule 22 = .ok (.if_icmp .lt 18, 3) := by decide +kernel
theorem dX10_rule_25 : decode cX10_rule 25 = .ok (.iload 4, 2) := by decide +kernel
theorem dX10_rule_27 : decode cX10_rule 27 = .ok (.sipush 1000, 3) := by decide +kernel
theorem dX10_rule_30 : decode cX10_rule 30 = .ok (.if_icmp .gt 10, 3) := by decide +kernel
theorem dX10_rule_33 : decode cX10_rule 33 = .ok (.aload_n 0, 1) := by decide +kernel
theorem dX10_rule_34 : decode cX10_rule 34 = .ok (.invokevirtual 137, 3) := by decide +kernel
theorem dX10_rule_37 : decode cX10_rule 37 = .ok (.ifCond .ne 5, 3) := by decide +kernel
theorem dX10_rule_40 : decode cX10_rule 40 = .ok (.iconst 0, 1) := by decide +kernel
theorem dX10_rule_41 : decode cX10_rule 41 = .ok (.ireturn, 1) := by decide +kernel
theorem dX10_rule_42 : decode cX10_rule 42 = .ok (.aload_n 0, 1) := by decide +kernel
theorem dX10_rule_43 : decode cX10_rule 43 = .ok (.getfield 20, 3) := by decide +kernel
theorem dX10_rule_46 : decode cX10_rule 46 = .ok (.iload_n 1, 1) := by decide +kernel
theorem dX10_rule_47 : decode cX10_rule 47 = .ok (.iconst 1, 1) := by decide +kernel
theorem dX10_rule_48 : decode cX10_rule 48 = .ok (.bastore, 1) := by decide +kernel
theorem dX10_rule_49 : decode cX10_rule 49 = .ok (.aload_n 0, 1) := by decide +kernel
theorem dX10_rule_50 : decode cX10_rule 50 = .ok (.getfield 24, 3) := by decide +kernel
theorem dX10_rule_53 : decode cX10_rule 53 = .ok (.iload_n 1, 1) := by decide +kernel
theorem dX10_rule_54 : decode cX10_rule 54 = .ok (.dload_n 2, 1) := by decide +kernel
theorem dX10_rule_55 : decode cX10_rule 55 = .ok (.dastore, 1) := by decide +kernel
theorem dX10_rule_56 : decode cX10_rule 56 = .ok (.aload_n 0, 1) := by decide +kernel
theorem dX10_rule_57 : decode cX10_rule 57 = .ok (.getfield 27, 3) := by decide +kernel
theorem dX10_rule_60 : decode cX10_rule 60 = .ok (.iload_n 1, 1) := by decide +kernel
theorem dX10_rule_61 : decode cX10_rule 61 = .ok (.iload 4, 2) := by decide +kernel
theorem dX10_rule_63 : decode cX10_rule 63 = .ok (.iastore, 1) := by decide +kernel
theorem dX10_rule_64 : decode cX10_rule 64 = .ok (.iconst 1, 1) := by decide +kernel
theorem dX10_rule_65 : decode cX10_rule 65 = .ok (.ireturn, 1) := by decide +kernel
theorem dX10_picker_0 : decode cX10_picker 0 = .ok (.aload_n 0, 1) := by decide +kernel
theorem dX10_picker_1 : decode cX10_picker 1 = .ok (.getfield 153, 3) := by decide +kernel
theorem dX10_picker_4 : decode cX10_picker 4 = .ok (.iconst 4, 1) := by decide +kernel
theorem dX10_picker_5 : decode cX10_picker 5 = .ok (.if_icmp .eq 43, 3) := by decide +kernel
theorem dX10_picker_8 : decode cX10_picker 8 = .ok (.aload_n 0, 1) := by decide +kernel
theorem dX10_picker_9 : decode cX10_picker 9 = .ok (.iload_n 1, 1) := by decide +kernel
theorem dX10_picker_10 : decode cX10_picker 10 = .ok (.invokevirtual 144, 3) := by decide +kernel
theorem dX10_picker_13 : decode cX10_picker 13 = .ok (.ifCond .eq 35, 3) := by decide +kernel
theorem dX10_picker_16 : decode cX10_picker 16 = .ok (.dload_n 2, 1) := by decide +kernel
theorem dX10_picker_17 : decode cX10_picker 17 = .ok (.ldc2_w 156, 3) := by decide +kernel
theorem dX10_picker_20 : decode cX10_picker 20 = .ok (.ldc2_w 158, 3) := by decide +kernel
theorem dX10_picker_23 : decode cX10_picker 23 = .ok (.invokestatic 133, 3) := by decide +kernel
theorem dX10_picker_26 : decode cX10_picker 26 = .ok (.ifCond .eq 22, 3) := by decide +kernel
theorem dX10_picker_29 : decode cX10_picker 29 = .ok (.dload 4, 2) := by decide +kernel
theorem dX10_picker_31 : decode cX10_picker 31 = .ok (.dconst 0, 1) := by decide +kernel
theorem dX10_picker_32 : decode cX10_picker 32 = .ok (.ldc2_w 160, 3) := by decide +kernel
theorem dX10_picker_35 : decode cX10_picker 35 = .ok (.invokestatic 133, 3) := by decide +kernel
theorem dX10_picker_38 : decode cX10_picker 38 = .ok (.ifCond .eq 10, 3) := by decide +kernel
theorem dX10_picker_41 : decode cX10_picker 41 = .ok (.aload_n 0, 1) := by decide +kernel
theorem dX10_picker_42 : decode cX10_picker 42 = .ok (.invokevirtual 137, 3) := by decide +kernel
theorem dX10_picker_45 : decode cX10_picker 45 = .ok (.ifCond .ne 5, 3) := by decide +kernel
theorem dX10_picker_48 : decode cX10_picker 48 = .ok (.iconst (-1), 1) := by decide +kernel
theorem dX10_picker_49 : decode cX10_picker 49 = .ok (.ireturn, 1) := by decide +kernel
theorem dX10_picker_50 : decode cX10_picker 50 = .ok (.aload_n 0, 1) := by decide +kernel
theorem dX10_picker_51 : decode cX10_picker 51 = .ok (.getfield 57, 3) := by decide +kernel
theorem dX10_picker_54 : decode cX10_picker 54 = .ok (.aload_n 0, 1) := by decide +kernel
theorem dX10_picker_55 : decode cX10_picker 55 = .ok (.getfield 153, 3) := by decide +kernel
theorem dX10_picker_58 : decode cX10_picker 58 = .ok (.iload_n 1, 1) := by decide +kernel
theorem dX10_picker_59 : decode cX10_picker 59 = .ok (.iastore, 1) := by decide +kernel
theorem dX10_picker_60 : decode cX10_picker 60 = .ok (.aload_n 0, 1) := by decide +kernel
theorem dX10_picker_61 : decode cX10_picker 61 = .ok (.getfield 60, 3) := by decide +kernel
theorem dX10_picker_64 : decode cX10_picker 64 = .ok (.aload_n 0, 1) := by decide +kernel
theorem dX10_picker_65 : decode cX10_picker 65 = .ok (.getfield 153, 3) := by decide +kernel
theorem dX10_picker_68 : decode cX10_picker 68 = .ok (.dload_n 2, 1) := by decide +kernel
theorem dX10_picker_69 : decode cX10_picker 69 = .ok (.dastore, 1) := by decide +kernel
theorem dX10_picker_70 : decode cX10_picker 70 = .ok (.aload_n 0, 1) := by decide +kernel
theorem dX10_picker_71 : decode cX10_picker 71 = .ok (.getfield 63, 3) := by decide +kernel
theorem dX10_picker_74 : decode cX10_picker 74 = .ok (.aload_n 0, 1) := by decide +kernel
theorem dX10_picker_75 : decode cX10_picker 75 = .ok (.getfield 153, 3) := by decide +kernel
theorem dX10_picker_78 : decode cX10_picker 78 = .ok (.dload 4, 2) := by decide +kernel
theorem dX10_picker_80 : decode cX10_picker 80 = .ok (.dastore, 1) := by decide +kernel
theorem dX10_picker_81 : decode cX10_picker 81 = .ok (.aload_n 0, 1) := by decide +kernel
theorem dX10_picker_82 : decode cX10_picker 82 = .ok (.dup, 1) := by decide +kernel
theorem dX10_picker_83 : decode cX10_picker 83 = .ok (.getfield 153, 3) := by decide +kernel
theorem dX10_picker_86 : decode cX10_picker 86 = .ok (.iconst 1, 1) := by decide +kernel
theorem dX10_picker_87 : decode cX10_picker 87 = .ok (.iadd, 1) := by decide +kernel
theorem dX10_picker_88 : decode cX10_picker 88 = .ok (.putfield 153, 3) := by decide +kernel
theorem dX10_picker_91 : decode cX10_picker 91 = .ok (.aload_n 0, 1) := by decide +kernel
theorem dX10_picker_92 : decode cX10_picker 92 = .ok (.getfield 153, 3) := by decide +kernel
theorem dX10_picker_95 : decode cX10_picker 95 = .ok (.iconst 1, 1) := by decide +kernel
theorem dX10_picker_96 : decode cX10_picker 96 = .ok (.isub, 1) := by decide +kernel
theorem dX10_picker_97 : decode cX10_picker 97 = .ok (.ireturn, 1) := by decide +kernel
theorem dX10_robot_0 : decode cX10_robot 0 = .ok (.aload_n 0, 1) := by decide +kernel
theorem dX10_robot_1 : decode cX10_robot 1 = .ok (.getfield 162, 3) := by decide +kernel
theorem dX10_robot_4 : decode cX10_robot 4 = .ok (.iconst 4, 1) := by decide +kernel
theorem dX10_robot_5 : decode cX10_robot 5 = .ok (.if_icmp .eq 39, 3) := by decide +kernel
theorem dX10_robot_8 : decode cX10_robot 8 = .ok (.aload_n 0, 1) := by decide +kernel
theorem dX10_robot_9 : decode cX10_robot 9 = .ok (.iload_n 1, 1) := by decide +kernel
theorem dX10_robot_10 : decode cX10_robot 10 = .ok (.invokevirtual 144, 3) := by decide +kernel
theorem dX10_robot_13 : decode cX10_robot 13 = .ok (.ifCond .eq 31, 3) := by decide +kernel
theorem dX10_robot_16 : decode cX10_robot 16 = .ok (.dload_n 2, 1) := by decide +kernel
theorem dX10_robot_17 : decode cX10_robot 17 = .ok (.dconst 0, 1) := by decide +kernel
theorem dX10_robot_18 : decode cX10_robot 18 = .ok (.ldc2_w 160, 3) := by decide +kernel
theorem dX10_robot_21 : decode cX10_robot 21 = .ok (.invokestatic 133, 3) := by decide +kernel
theorem dX10_robot_24 : decode cX10_robot 24 = .ok (.ifCond .eq 20, 3) := by decide +kernel
theorem dX10_robot_27 : decode cX10_robot 27 = .ok (.dload 4, 2) := by decide +kernel
theorem dX10_robot_29 : decode cX10_robot 29 = .ok (.dconst 0, 1) := by decide +kernel
theorem dX10_robot_30 : decode cX10_robot 30 = .ok (.dconst 1, 1) := by decide +kernel
theorem dX10_robot_31 : decode cX10_robot 31 = .ok (.invokestatic 133, 3) := by decide +kernel
theorem dX10_robot_34 : decode cX10_robot 34 = .ok (.ifCond .eq 10, 3) := by decide +kernel
theorem dX10_robot_37 : decode cX10_robot 37 = .ok (.aload_n 0, 1) := by decide +kernel
theorem dX10_robot_38 : decode cX10_robot 38 = .ok (.invokevirtual 137, 3) := by decide +kernel
theorem dX10_robot_41 : decode cX10_robot 41 = .ok (.ifCond .ne 5, 3) := by decide +kernel
theorem dX10_robot_44 : decode cX10_robot 44 = .ok (.iconst (-1), 1) := by decide +kernel
theorem dX10_robot_45 : decode cX10_robot 45 = .ok (.ireturn, 1) := by decide +kernel
theorem dX10_robot_46 : decode cX10_robot 46 = .ok (.aload_n 0, 1) := by decide +kernel
theorem dX10_robot_47 : decode cX10_robot 47 = .ok (.getfield 48, 3) := by decide +kernel
theorem dX10_robot_50 : decode cX10_robot 50 = .ok (.aload_n 0, 1) := by decide +kernel
theorem dX10_robot_51 : decode cX10_robot 51 = .ok (.getfield 162, 3) := by decide +kernel
theorem dX10_robot_54 : decode cX10_robot 54 = .ok (.iload_n 1, 1) := by decide +kernel
theorem dX10_robot_55 : decode cX10_robot 55 = .ok (.iastore, 1) := by decide +kernel
theorem dX10_robot_56 : decode cX10_robot 56 = .ok (.aload_n 0, 1) := by decide +kernel
theorem dX10_robot_57 : decode cX10_robot 57 = .ok (.getfield 51, 3) := by decide +kernel
theorem dX10_robot_60 : decode cX10_robot 60 = .ok (.aload_n 0, 1) := by decide +kernel
theorem dX10_robot_61 : decode cX10_robot 61 = .ok (.getfield 162, 3) := by decide +kernel
theorem dX10_robot_64 : decode cX10_robot 64 = .ok (.dload_n 2, 1) := by decide +kernel
theorem dX10_robot_65 : decode cX10_robot 65 = .ok (.dastore, 1) := by decide +kernel
theorem dX10_robot_66 : decode cX10_robot 66 = .ok (.aload_n 0, 1) := by decide +kernel
theorem dX10_robot_67 : decode cX10_robot 67 = .ok (.getfield 54, 3) := by decide +kernel
theorem dX10_robot_70 : decode cX10_robot 70 = .ok (.aload_n 0, 1) := by decide +kernel
theorem dX10_robot_71 : decode cX10_robot 71 = .ok (.getfield 162, 3) := by decide +kernel
theorem dX10_robot_74 : decode cX10_robot 74 = .ok (.dload 4, 2) := by decide +kernel
theorem dX10_robot_76 : decode cX10_robot 76 = .ok (.dastore, 1) := by decide +kernel
theorem dX10_robot_77 : decode cX10_robot 77 = .ok (.aload_n 0, 1) := by decide +kernel
theorem dX10_robot_78 : decode cX10_robot 78 = .ok (.dup, 1) := by decide +kernel
theorem dX10_robot_79 : decode cX10_robot 79 = .ok (.getfield 162, 3) := by decide +kernel
theorem dX10_robot_82 : decode cX10_robot 82 = .ok (.iconst 1, 1) := by decide +kernel
theorem dX10_robot_83 : decode cX10_robot 83 = .ok (.iadd, 1) := by decide +kernel
theorem dX10_robot_84 : decode cX10_robot 84 = .ok (.putfield 162, 3) := by decide +kernel
theorem dX10_robot_87 : decode cX10_robot 87 = .ok (.aload_n 0, 1) := by decide +kernel
theorem dX10_robot_88 : decode cX10_robot 88 = .ok (.getfield 162, 3) := by decide +kernel
theorem dX10_robot_91 : decode cX10_robot 91 = .ok (.iconst 1, 1) := by decide +kernel
theorem dX10_robot_92 : decode cX10_robot 92 = .ok (.isub, 1) := by decide +kernel
theorem dX10_robot_93 : decode cX10_robot 93 = .ok (.ireturn, 1) := by decide +kernel
theorem dX10_feed_0 : decode cX10_feed 0 = .ok (.aload_n 0, 1) := by decide +kernel
theorem dX10_feed_1 : decode cX10_feed 1 = .ok (.getfield 126, 3) := by decide +kernel
theorem dX10_feed_4 : decode cX10_feed 4 = .ok (.bipush 60, 2) := by decide +kernel
theorem dX10_feed_6 : decode cX10_feed 6 = .ok (.if_icmp .eq 47, 3) := by decide +kernel
theorem dX10_feed_9 : decode cX10_feed 9 = .ok (.aload_n 0, 1) := by decide +kernel
theorem dX10_feed_10 : decode cX10_feed 10 = .ok (.iload_n 1, 1) := by decide +kernel
theorem dX10_feed_11 : decode cX10_feed 11 = .ok (.invokevirtual 144, 3) := by decide +kernel
theorem dX10_feed_14 : decode cX10_feed 14 = .ok (.ifCond .eq 39, 3) := by decide +kernel
theorem dX10_feed_17 : decode cX10_feed 17 = .ok (.iload_n 2, 1) := by decide +kernel
theorem dX10_feed_18 : decode cX10_feed 18 = .ok (.aload_n 0, 1) := by decide +kernel
theorem dX10_feed_19 : decode cX10_feed 19 = .ok (.getfield 165, 3) := by decide +kernel
theorem dX10_feed_22 : decode cX10_feed 22 = .ok (.if_icmp .le 31, 3) := by decide +kernel
theorem dX10_feed_25 : decode cX10_feed 25 = .ok (.iload_n 2, 1) := by decide +kernel
theorem dX10_feed_26 : decode cX10_feed 26 = .ok (.sipush 10000, 3) := by decide +kernel
theorem dX10_feed_29 : decode cX10_feed 29 = .ok (.if_icmp .gt 24, 3) := by decide +kernel
theorem dX10_feed_32 : decode cX10_feed 32 = .ok (.iload_n 3, 1) := by decide +kernel
theorem dX10_feed_33 : decode cX10_feed 33 = .ok (.ifCond .lt 20, 3) := by decide +kernel
theorem dX10_feed_36 : decode cX10_feed 36 = .ok (.iload_n 3, 1) := by decide +kernel
theorem dX10_feed_37 : decode cX10_feed 37 = .ok (.iconst 5, 1) := by decide +kernel
theorem dX10_feed_38 : decode cX10_feed 38 = .ok (.if_icmp .ge 15, 3) := by decide +kernel
theorem dX10_feed_41 : decode cX10_feed 41 = .ok (.dload 4, 2) := by decide +kernel
theorem dX10_feed_43 : decode cX10_feed 43 = .ok (.dconst 0, 1) := by decide +kernel
theorem dX10_feed_44 : decode cX10_feed 44 = .ok (.ldc2_w 160, 3) := by decide +kernel
theorem dX10_feed_47 : decode cX10_feed 47 = .ok (.invokestatic 133, 3) := by decide +kernel
theorem dX10_feed_50 : decode cX10_feed 50 = .ok (.ifCond .ne 5, 3) := by decide +kernel
theorem dX10_feed_53 : decode cX10_feed 53 = .ok (.iconst 0, 1) := by decide +kernel
theorem dX10_feed_54 : decode cX10_feed 54 = .ok (.ireturn, 1) := by decide +kernel
theorem dX10_feed_55 : decode cX10_feed 55 = .ok (.aload_n 0, 1) := by decide +kernel
theorem dX10_feed_56 : decode cX10_feed 56 = .ok (.getfield 72, 3) := by decide +kernel
theorem dX10_feed_59 : decode cX10_feed 59 = .ok (.aload_n 0, 1) := by decide +kernel
theorem dX10_feed_60 : decode cX10_feed 60 = .ok (.getfield 126, 3) := by decide +kernel
theorem dX10_feed_63 : decode cX10_feed 63 = .ok (.iload_n 3, 1) := by decide +kernel
theorem dX10_feed_64 : decode cX10_feed 64 = .ok (.iastore, 1) := by decide +kernel
theorem dX10_feed_65 : decode cX10_feed 65 = .ok (.aload_n 0, 1) := by decide +kernel
theorem dX10_feed_66 : decode cX10_feed 66 = .ok (.getfield 75, 3) := by decide +kernel
theorem dX10_feed_69 : decode cX10_feed 69 = .ok (.aload_n 0, 1) := by decide +kernel
theorem dX10_feed_70 : decode cX10_feed 70 = .ok (.getfield 126, 3) := by decide +kernel
theorem dX10_feed_73 : decode cX10_feed 73 = .ok (.dload 4, 2) := by decide +kernel
theorem dX10_feed_75 : decode cX10_feed 75 = .ok (.dastore, 1) := by decide +kernel
theorem dX10_feed_76 : decode cX10_feed 76 = .ok (.aload_n 0, 1) := by decide +kernel
theorem dX10_feed_77 : decode cX10_feed 77 = .ok (.getfield 78, 3) := by decide +kernel
theorem dX10_feed_80 : decode cX10_feed 80 = .ok (.aload_n 0, 1) := by decide +kernel
theorem dX10_feed_81 : decode cX10_feed 81 = .ok (.getfield 126, 3) := by decide +kernel
theorem dX10_feed_84 : decode cX10_feed 84 = .ok (.iload_n 2, 1) := by decide +kernel
theorem dX10_feed_85 : decode cX10_feed 85 = .ok (.iastore, 1) := by decide +kernel
theorem dX10_feed_86 : decode cX10_feed 86 = .ok (.aload_n 0, 1) := by decide +kernel
theorem dX10_feed_87 : decode cX10_feed 87 = .ok (.getfield 81, 3) := by decide +kernel
theorem dX10_feed_90 : decode cX10_feed 90 = .ok (.aload_n 0, 1) := by decide +kernel
theorem dX10_feed_91 : decode cX10_feed 91 = .ok (.getfield 126, 3) := by decide +kernel
theorem dX10_feed_94 : decode cX10_feed 94 = .ok (.iload_n 1, 1) := by decide +kernel
theorem dX10_feed_95 : decode cX10_feed 95 = .ok (.iastore, 1) := by decide +kernel
theorem dX10_feed_96 : decode cX10_feed 96 = .ok (.aload_n 0, 1) := by decide +kernel
theorem dX10_feed_97 : decode cX10_feed 97 = .ok (.getfield 84, 3) := by decide +kernel
theorem dX10_feed_100 : decode cX10_feed 100 = .ok (.aload_n 0, 1) := by decide +kernel
theorem dX10_feed_101 : decode cX10_feed 101 = .ok (.getfield 126, 3) := by decide +kernel
theorem dX10_feed_104 : decode cX10_feed 104 = .ok (.iconst 0, 1) := by decide +kernel
theorem dX10_feed_105 : decode cX10_feed 105 = .ok (.iastore, 1) := by decide +kernel
theorem dX10_feed_106 : decode cX10_feed 106 = .ok (.aload_n 0, 1) := by decide +kernel
theorem dX10_feed_107 : decode cX10_feed 107 = .ok (.dup, 1) := by decide +kernel
theorem dX10_feed_108 : decode cX10_feed 108 = .ok (.getfield 126, 3) := by decide +kernel
theorem dX10_feed_111 : decode cX10_feed 111 = .ok (.iconst 1, 1) := by decide +kernel
theorem dX10_feed_112 : decode cX10_feed 112 = .ok (.iadd, 1) := by decide +kernel
theorem dX10_feed_113 : decode cX10_feed 113 = .ok (.putfield 126, 3) := by decide +kernel
theorem dX10_feed_116 : decode cX10_feed 116 = .ok (.iconst 1, 1) := by decide +kernel
theorem dX10_feed_117 : decode cX10_feed 117 = .ok (.ireturn, 1) := by decide +kernel
theorem dX10_chance_0 : decode cX10_chance 0 = .ok (.aload_n 0, 1) := by decide +kernel
theorem dX10_chance_1 : decode cX10_chance 1 = .ok (.getfield 118, 3) := by decide +kernel
theorem dX10_chance_4 : decode cX10_chance 4 = .ok (.ldc2_w 168, 3) := by decide +kernel
theorem dX10_chance_7 : decode cX10_chance 7 = .ok (.lmul, 1) := by decide +kernel
theorem dX10_chance_8 : decode cX10_chance 8 = .ok (.iload_n 1, 1) := by decide +kernel
theorem dX10_chance_9 : decode cX10_chance 9 = .ok (.i2l, 1) := by decide +kernel
theorem dX10_chance_10 : decode cX10_chance 10 = .ok (.ldc2_w 170, 3) := by decide +kernel
theorem dX10_chance_13 : decode cX10_chance 13 = .ok (.lmul, 1) := by decide +kernel
theorem dX10_chance_14 : decode cX10_chance 14 = .ok (.ladd, 1) := by decide +kernel
theorem dX10_chance_15 : decode cX10_chance 15 = .ok (.iload_n 2, 1) := by decide +kernel
theorem dX10_chance_16 : decode cX10_chance 16 = .ok (.i2l, 1) := by decide +kernel
theorem dX10_chance_17 : decode cX10_chance 17 = .ok (.ldc2_w 172, 3) := by decide +kernel
theorem dX10_chance_20 : decode cX10_chance 20 = .ok (.lmul, 1) := by decide +kernel
theorem dX10_chance_21 : decode cX10_chance 21 = .ok (.ladd, 1) := by decide +kernel
theorem dX10_chance_22 : decode cX10_chance 22 = .ok (.lstore_n 3, 1) := by decide +kernel
theorem dX10_chance_23 : decode cX10_chance 23 = .ok (.lload_n 3, 1) := by decide +kernel
theorem dX10_chance_24 : decode cX10_chance 24 = .ok (.lload_n 3, 1) := by decide +kernel
theorem dX10_chance_25 : decode cX10_chance 25 = .ok (.bipush 29, 2) := by decide +kernel
theorem dX10_chance_27 : decode cX10_chance 27 = .ok (.lushr, 1) := by decide +kernel
theorem dX10_chance_28 : decode cX10_chance 28 = .ok (.lxor, 1) := by decide +kernel
theorem dX10_chance_29 : decode cX10_chance 29 = .ok (.ldc2_w 174, 3) := by decide +kernel
theorem dX10_chance_32 : decode cX10_chance 32 = .ok (.lmul, 1) := by decide +kernel
theorem dX10_chance_33 : decode cX10_chance 33 = .ok (.lstore_n 3, 1) := by decide +kernel
theorem dX10_chance_34 : decode cX10_chance 34 = .ok (.lload_n 3, 1) := by decide +kernel
theorem dX10_chance_35 : decode cX10_chance 35 = .ok (.lload_n 3, 1) := by decide +kernel
theorem dX10_chance_36 : decode cX10_chance 36 = .ok (.bipush 32, 2) := by decide +kernel
theorem dX10_chance_38 : decode cX10_chance 38 = .ok (.lushr, 1) := by decide +kernel
theorem dX10_chance_39 : decode cX10_chance 39 = .ok (.lxor, 1) := by decide +kernel
theorem dX10_chance_40 : decode cX10_chance 40 = .ok (.lstore_n 3, 1) := by decide +kernel
theorem dX10_chance_41 : decode cX10_chance 41 = .ok (.lload_n 3, 1) := by decide +kernel
theorem dX10_chance_42 : decode cX10_chance 42 = .ok (.bipush 11, 2) := by decide +kernel
theorem dX10_chance_44 : decode cX10_chance 44 = .ok (.lushr, 1) := by decide +kernel
theorem dX10_chance_45 : decode cX10_chance 45 = .ok (.l2d, 1) := by decide +kernel
theorem dX10_chance_46 : decode cX10_chance 46 = .ok (.ldc2_w 176, 3) := by decide +kernel
theorem dX10_chance_49 : decode cX10_chance 49 = .ok (.ddiv, 1) := by decide +kernel
theorem dX10_chance_50 : decode cX10_chance 50 = .ok (.dreturn, 1) := by decide +kernel
theorem dX10_note_0 : decode cX10_note 0 = .ok (.aload_n 0, 1) := by decide +kernel
theorem dX10_note_1 : decode cX10_note 1 = .ok (.getfield 178, 3) := by decide +kernel
theorem dX10_note_4 : decode cX10_note 4 = .ok (.sipush 2000, 3) := by decide +kernel
theorem dX10_note_7 : decode cX10_note 7 = .ok (.if_icmp .ge 60, 3) := by decide +kernel
theorem dX10_note_10 : decode cX10_note 10 = .ok (.aload_n 0, 1) := by decide +kernel
theorem dX10_note_11 : decode cX10_note 11 = .ok (.getfield 96, 3) := by decide +kernel
theorem dX10_note_14 : decode cX10_note 14 = .ok (.iconst 4, 1) := by decide +kernel
theorem dX10_note_15 : decode cX10_note 15 = .ok (.aload_n 0, 1) := by decide +kernel
theorem dX10_note_16 : decode cX10_note 16 = .ok (.getfield 178, 3) := by decide +kernel
theorem dX10_note_19 : decode cX10_note 19 = .ok (.imul, 1) := by decide +kernel
theorem dX10_note_20 : decode cX10_note 20 = .ok (.aload_n 0, 1) := by decide +kernel
theorem dX10_note_21 : decode cX10_note 21 = .ok (.getfield 165, 3) := by decide +kernel
theorem dX10_note_24 : decode cX10_note 24 = .ok (.iastore, 1) := by decide +kernel
theorem dX10_note_25 : decode cX10_note 25 = .ok (.aload_n 0, 1) := by decide +kernel
theorem dX10_note_26 : decode cX10_note 26 = .ok (.getfield 96, 3) := by decide +kernel
theorem dX10_note_29 : decode cX10_note 29 = .ok (.iconst 4, 1) := by decide +kernel
theorem dX10_note_30 : decode cX10_note 30 = .ok (.aload_n 0, 1) := by decide +kernel
theorem dX10_note_31 : decode cX10_note 31 = .ok (.getfield 178, 3) := by decide +kernel
theorem dX10_note_34 : decode cX10_note 34 = .ok (.imul, 1) := by decide +kernel
theorem dX10_note_35 : decode cX10_note 35 = .ok (.iconst 1, 1) := by decide +kernel
theorem dX10_note_36 : decode cX10_note 36 = .ok (.iadd, 1) := by decide +kernel
theorem dX10_note_37 : decode cX10_note 37 = .ok (.iload_n 1, 1) := by decide +kernel
theorem dX10_note_38 : decode cX10_note 38 = .ok (.iastore, 1) := by decide +kernel
theorem dX10_note_39 : decode cX10_note 39 = .ok (.aload_n 0, 1) := by decide +kernel
theorem dX10_note_40 : decode cX10_note 40 = .ok (.getfield 96, 3) := by decide +kernel
theorem dX10_note_43 : decode cX10_note 43 = .ok (.iconst 4, 1) := by decide +kernel
theorem dX10_note_44 : decode cX10_note 44 = .ok (.aload_n 0, 1) := by decide +kernel
theorem dX10_note_45 : decode cX10_note 45 = .ok (.getfield 178, 3) := by decide +kernel
theorem dX10_note_48 : decode cX10_note 48 = .ok (.imul, 1) := by decide +kernel
theorem dX10_note_49 : decode cX10_note 49 = .ok (.iconst 2, 1) := by decide +kernel
theorem dX10_note_50 : decode cX10_note 50 = .ok (.iadd, 1) := by decide +kernel
theorem dX10_note_51 : decode cX10_note 51 = .ok (.iload_n 2, 1) := by decide +kernel
theorem dX10_note_52 : decode cX10_note 52 = .ok (.iastore, 1) := by decide +kernel
theorem dX10_note_53 : decode cX10_note 53 = .ok (.aload_n 0, 1) := by decide +kernel
theorem dX10_note_54 : decode cX10_note 54 = .ok (.getfield 96, 3) := by decide +kernel
theorem dX10_note_57 : decode cX10_note 57 = .ok (.iconst 4, 1) := by decide +kernel
theorem dX10_note_58 : decode cX10_note 58 = .ok (.aload_n 0, 1) := by decide +kernel
theorem dX10_note_59 : decode cX10_note 59 = .ok (.getfield 178, 3) := by decide +kernel
theorem dX10_note_62 : decode cX10_note 62 = .ok (.imul, 1) := by decide +kernel
theorem dX10_note_63 : decode cX10_note 63 = .ok (.iconst 3, 1) := by decide +kernel
theorem dX10_note_64 : decode cX10_note 64 = .ok (.iadd, 1) := by decide +kernel
theorem dX10_note_65 : decode cX10_note 65 = .ok (.iload_n 3, 1) := by decide +kernel
theorem dX10_note_66 : decode cX10_note 66 = .ok (.iastore, 1) := by decide +kernel
theorem dX10_note_67 : decode cX10_note 67 = .ok (.aload_n 0, 1) := by decide +kernel
theorem dX10_note_68 : decode cX10_note 68 = .ok (.dup, 1) := by decide +kernel
theorem dX10_note_69 : decode cX10_note 69 = .ok (.getfield 178, 3) := by decide +kernel
theorem dX10_note_72 : decode cX10_note 72 = .ok (.iconst 1, 1) := by decide +kernel
theorem dX10_note_73 : decode cX10_note 73 = .ok (.iadd, 1) := by decide +kernel
theorem dX10_note_74 : decode cX10_note 74 = .ok (.putfield 178, 3) := by decide +kernel
theorem dX10_note_77 : decode cX10_note 77 = .ok (.return_, 1) := by decide +kernel
theorem dX10_lose_0 : decode cX10_lose 0 = .ok (.aload_n 0, 1) := by decide +kernel
theorem dX10_lose_1 : decode cX10_lose 1 = .ok (.getfield 84, 3) := by decide +kernel
theorem dX10_lose_4 : decode cX10_lose 4 = .ok (.iload_n 1, 1) := by decide +kernel
theorem dX10_lose_5 : decode cX10_lose 5 = .ok (.iconst 5, 1) := by decide +kernel
theorem dX10_lose_6 : decode cX10_lose 6 = .ok (.iastore, 1) := by decide +kernel
theorem dX10_lose_7 : decode cX10_lose 7 = .ok (.aload_n 0, 1) := by decide +kernel
theorem dX10_lose_8 : decode cX10_lose 8 = .ok (.getfield 102, 3) := by decide +kernel
theorem dX10_lose_11 : decode cX10_lose 11 = .ok (.iload_n 2, 1) := by decide +kernel
theorem dX10_lose_12 : decode cX10_lose 12 = .ok (.dup2, 1) := by decide +kernel
theorem dX10_lose_13 : decode cX10_lose 13 = .ok (.laload, 1) := by decide +kernel
theorem dX10_lose_14 : decode cX10_lose 14 = .ok (.lconst 1, 1) := by decide +kernel
theorem dX10_lose_15 : decode cX10_lose 15 = .ok (.ladd, 1) := by decide +kernel
theorem dX10_lose_16 : decode cX10_lose 16 = .ok (.lastore, 1) := by decide +kernel
theorem dX10_lose_17 : decode cX10_lose 17 = .ok (.aload_n 0, 1) := by decide +kernel
theorem dX10_lose_18 : decode cX10_lose 18 = .ok (.iload_n 1, 1) := by decide +kernel
theorem dX10_lose_19 : decode cX10_lose 19 = .ok (.iload_n 3, 1) := by decide +kernel
theorem dX10_lose_20 : decode cX10_lose 20 = .ok (.iload 4, 2) := by decide +kernel
theorem dX10_lose_22 : decode cX10_lose 22 = .ok (.invokevirtual 181, 3) := by decide +kernel
theorem dX10_lose_25 : decode cX10_lose 25 = .ok (.return_, 1) := by decide +kernel
theorem dX10_sizesOn_0 : decode cX10_sizesOn 0 = .ok (.dconst 0, 1) := by decide +kernel
theorem dX10_sizesOn_1 : decode cX10_sizesOn 1 = .ok (.dstore_n 3, 1) := by decide +kernel
theorem dX10_sizesOn_2 : decode cX10_sizesOn 2 = .ok (.iconst 0, 1) := by decide +kernel
theorem dX10_sizesOn_3 : decode cX10_sizesOn 3 = .ok (.istore 5, 2) := by decide +kernel
theorem dX10_sizesOn_5 : decode cX10_sizesOn 5 = .ok (.iload 5, 2) := by decide +kernel
theorem dX10_sizesOn_7 : decode cX10_sizesOn 7 = .ok (.aload_n 0, 1) := by decide +kernel
theorem dX10_sizesOn_8 : decode cX10_sizesOn 8 = .ok (.getfield 126, 3) := by decide +kernel
theorem dX10_sizesOn_11 : decode cX10_sizesOn 11 = .ok (.if_icmp .ge 51, 3) := by decide +kernel
theorem dX10_sizesOn_14 : decode cX10_sizesOn 14 = .ok (.dload_n 3, 1) := by decide +kernel
theorem dX10_sizesOn_15 : decode cX10_sizesOn 15 = .ok (.iload 5, 2) := by decide +kernel
theorem dX10_sizesOn_17 : decode cX10_sizesOn 17 = .ok (.iload_n 2, 1) := by decide +kernel
theorem dX10_sizesOn_18 : decode cX10_sizesOn 18 = .ok (.if_icmp .eq 25, 3) := by decide +kernel
theorem dX10_sizesOn_21 : decode cX10_sizesOn 21 = .ok (.aload_n 0, 1) := by decide +kernel
theorem dX10_sizesOn_22 : decode cX10_sizesOn 22 = .ok (.getfield 84, 3) := by decide +kernel
theorem dX10_sizesOn_25 : decode cX10_sizesOn 25 = .ok (.iload 5, 2) := by decide +kernel
theorem dX10_sizesOn_27 : decode cX10_sizesOn 27 = .ok (.iaload, 1) := by decide +kernel
theorem dX10_sizesOn_28 : decode cX10_sizesOn 28 = .ok (.iconst 1, 1) := by decide +kernel
theorem dX10_sizesOn_29 : decode cX10_sizesOn 29 = .ok (.if_icmp .ne 24, 3) := by decide +kernel
theorem dX10_sizesOn_32 : decode cX10_sizesOn 32 = .ok (.aload_n 0, 1) := by decide +kernel
theorem dX10_sizesOn_33 : decode cX10_sizesOn 33 = .ok (.getfield 87, 3) := by decide +kernel
theorem dX10_sizesOn_36 : decode cX10_sizesOn 36 = .ok (.iload 5, 2) := by decide +kernel
theorem dX10_sizesOn_38 : decode cX10_sizesOn 38 = .ok (.iaload, 1) := by decide +kernel
theorem dX10_sizesOn_39 : decode cX10_sizesOn 39 = .ok (.iload_n 1, 1) := by decide +kernel
theorem dX10_sizesOn_40 : decode cX10_sizesOn 40 = .ok (.if_icmp .ne 13, 3) := by decide +kernel
theorem dX10_sizesOn_43 : decode cX10_sizesOn 43 = .ok (.aload_n 0, 1) := by decide +kernel
theorem dX10_sizesOn_44 : decode cX10_sizesOn 44 = .ok (.getfield 75, 3) := by decide +kernel
theorem dX10_sizesOn_47 : decode cX10_sizesOn 47 = .ok (.iload 5, 2) := by decide +kernel
theorem dX10_sizesOn_49 : decode cX10_sizesOn 49 = .ok (.daload, 1) := by decide +kernel
theorem dX10_sizesOn_50 : decode cX10_sizesOn 50 = .ok (.goto 4, 3) := by decide +kernel
theorem dX10_sizesOn_53 : decode cX10_sizesOn 53 = .ok (.dconst 0, 1) := by decide +kernel
theorem dX10_sizesOn_54 : decode cX10_sizesOn 54 = .ok (.dadd, 1) := by decide +kernel
theorem dX10_sizesOn_55 : decode cX10_sizesOn 55 = .ok (.dstore_n 3, 1) := by decide +kernel
theorem dX10_sizesOn_56 : decode cX10_sizesOn 56 = .ok (.iinc 5 1, 3) := by decide +kernel
theorem dX10_sizesOn_59 : decode cX10_sizesOn 59 = .ok (.goto (-54), 3) := by decide +kernel
theorem dX10_sizesOn_62 : decode cX10_sizesOn 62 = .ok (.dload_n 3, 1) := by decide +kernel
theorem dX10_sizesOn_63 : decode cX10_sizesOn 63 = .ok (.dreturn, 1) := by decide +kernel
theorem dX10_piecesOn_0 : decode cX10_piecesOn 0 = .ok (.iconst 0, 1) := by decide +kernel
theorem dX10_piecesOn_1 : decode cX10_piecesOn 1 = .ok (.istore_n 2, 1) := by decide +kernel
theorem dX10_piecesOn_2 : decode cX10_piecesOn 2 = .ok (.iconst 0, 1) := by decide +kernel
theorem dX10_piecesOn_3 : decode cX10_piecesOn 3 = .ok (.istore_n 3, 1) := by decide +kernel
theorem dX10_piecesOn_4 : decode cX10_piecesOn 4 = .ok (.iload_n 3, 1) := by decide +kernel
theorem dX10_piecesOn_5 : decode cX10_piecesOn 5 = .ok (.aload_n 0, 1) := by decide +kernel
theorem dX10_piecesOn_6 : decode cX10_piecesOn 6 = .ok (.getfield 126, 3) := by decide +kernel
theorem dX10_piecesOn_9 : decode cX10_piecesOn 9 = .ok (.if_icmp .ge 37, 3) := by decide +kernel
theorem dX10_piecesOn_12 : decode cX10_piecesOn 12 = .ok (.iload_n 2, 1) := by decide +kernel
theorem dX10_piecesOn_13 : decode cX10_piecesOn 13 = .ok (.aload_n 0, 1) := by decide +kernel
theorem dX10_piecesOn_14 : decode cX10_piecesOn 14 = .ok (.getfield 84, 3) := by decide +kernel
theorem dX10_piecesOn_17 : decode cX10_piecesOn 17 = .ok (.iload_n 3, 1) := by decide +kernel
theorem dX10_piecesOn_18 : decode cX10_piecesOn 18 = .ok (.iaload, 1) := by decide +kernel
theorem dX10_piecesOn_19 : decode cX10_piecesOn 19 = .ok (.iconst 1, 1) := by decide +kernel
theorem dX10_piecesOn_20 : decode cX10_piecesOn 20 = .ok (.if_icmp .ne 17, 3) := by decide +kernel
theorem dX10_piecesOn_23 : decode cX10_piecesOn 23 = .ok (.aload_n 0, 1) := by decide +kernel
theorem dX10_piecesOn_24 : decode cX10_piecesOn 24 = .ok (.getfield 87, 3) := by decide +kernel
theorem dX10_piecesOn_27 : decode cX10_piecesOn 27 = .ok (.iload_n 3, 1) := by decide +kernel
theorem dX10_piecesOn_28 : decode cX10_piecesOn 28 = .ok (.iaload, 1) := by decide +kernel
theorem dX10_piecesOn_29 : decode cX10_piecesOn 29 = .ok (.iload_n 1, 1) := by decide +kernel
theorem dX10_piecesOn_30 : decode cX10_piecesOn 30 = .ok (.if_icmp .ne 7, 3) := by decide +kernel
theorem dX10_piecesOn_33 : decode cX10_piecesOn 33 = .ok (.iconst 1, 1) := by decide +kernel
theorem dX10_piecesOn_34 : decode cX10_piecesOn 34 = .ok (.goto 4, 3) := by decide +kernel
theorem dX10_piecesOn_37 : decode cX10_piecesOn 37 = .ok (.iconst 0, 1) := by decide +kernel
theorem dX10_piecesOn_38 : decode cX10_piecesOn 38 = .ok (.iadd, 1) := by decide +kernel
theorem dX10_piecesOn_39 : decode cX10_piecesOn 39 = .ok (.istore_n 2, 1) := by decide +kernel
theorem dX10_piecesOn_40 : decode cX10_piecesOn 40 = .ok (.iinc 3 1, 3) := by decide +kernel
theorem dX10_piecesOn_43 : decode cX10_piecesOn 43 = .ok (.goto (-39), 3) := by decide +kernel
theorem dX10_piecesOn_46 : decode cX10_piecesOn 46 = .ok (.iload_n 2, 1) := by decide +kernel
theorem dX10_piecesOn_47 : decode cX10_piecesOn 47 = .ok (.ireturn, 1) := by decide +kernel
theorem dX10_enter_0 : decode cX10_enter 0 = .ok (.aload_n 0, 1) := by decide +kernel
theorem dX10_enter_1 : decode cX10_enter 1 = .ok (.getfield 84, 3) := by decide +kernel
theorem dX10_enter_4 : decode cX10_enter 4 = .ok (.iload_n 1, 1) := by decide +kernel
theorem dX10_enter_5 : decode cX10_enter 5 = .ok (.iconst 0, 1) := by decide +kernel
theorem dX10_enter_6 : decode cX10_enter 6 = .ok (.iastore, 1) := by decide +kernel
theorem dX10_enter_7 : decode cX10_enter 7 = .ok (.aload_n 0, 1) := by decide +kernel
theorem dX10_enter_8 : decode cX10_enter 8 = .ok (.getfield 165, 3) := by decide +kernel
theorem dX10_enter_11 : decode cX10_enter 11 = .ok (.aload_n 0, 1) := by decide +kernel
theorem dX10_enter_12 : decode cX10_enter 12 = .ok (.getfield 30, 3) := by decide +kernel
theorem dX10_enter_15 : decode cX10_enter 15 = .ok (.iload_n 2, 1) := by decide +kernel
theorem dX10_enter_16 : decode cX10_enter 16 = .ok (.iaload, 1) := by decide +kernel
theorem dX10_enter_17 : decode cX10_enter 17 = .ok (.if_icmp .ge 13, 3) := by decide +kernel
theorem dX10_enter_20 : decode cX10_enter 20 = .ok (.aload_n 0, 1) := by decide +kernel
theorem dX10_enter_21 : decode cX10_enter 21 = .ok (.iload_n 1, 1) := by decide +kernel
theorem dX10_enter_22 : decode cX10_enter 22 = .ok (.iconst 1, 1) := by decide +kernel
theorem dX10_enter_23 : decode cX10_enter 23 = .ok (.bipush 7, 2) := by decide +kernel
theorem dX10_enter_25 : decode cX10_enter 25 = .ok (.iload_n 2, 1) := by decide +kernel
theorem dX10_enter_26 : decode cX10_enter 26 = .ok (.invokevirtual 185, 3) := by decide +kernel
theorem dX10_enter_29 : decode cX10_enter 29 = .ok (.return_, 1) := by decide +kernel
theorem dX10_enter_30 : decode cX10_enter 30 = .ok (.aload_n 0, 1) := by decide +kernel
theorem dX10_enter_31 : decode cX10_enter 31 = .ok (.getfield 20, 3) := by decide +kernel
theorem dX10_enter_34 : decode cX10_enter 34 = .ok (.iload_n 2, 1) := by decide +kernel
theorem dX10_enter_35 : decode cX10_enter 35 = .ok (.baload, 1) := by decide +kernel
theorem dX10_enter_36 : decode cX10_enter 36 = .ok (.ifCond .eq 132, 3) := by decide +kernel
theorem dX10_enter_39 : decode cX10_enter 39 = .ok (.aload_n 0, 1) := by decide +kernel
theorem dX10_enter_40 : decode cX10_enter 40 = .ok (.iload_n 2, 1) := by decide +kernel
theorem dX10_enter_41 : decode cX10_enter 41 = .ok (.iload_n 1, 1) := by decide +kernel
theorem dX10_enter_42 : decode cX10_enter 42 = .ok (.invokevirtual 189, 3) := by decide +kernel
theorem dX10_enter_45 : decode cX10_enter 45 = .ok (.aload_n 0, 1) := by decide +kernel
theorem dX10_enter_46 : decode cX10_enter 46 = .ok (.getfield 24, 3) := by decide +kernel
theorem dX10_enter_49 : decode cX10_enter 49 = .ok (.iload_n 2, 1) := by decide +kernel
theorem dX10_enter_50 : decode cX10_enter 50 = .ok (.daload, 1) := by decide +kernel
theorem dX10_enter_51 : decode cX10_enter 51 = .ok (.dcmp .l, 1) := by decide +kernel
theorem dX10_enter_52 : decode cX10_enter 52 = .ok (.ifCond .le 116, 3) := by decide +kernel
theorem dX10_enter_55 : decode cX10_enter 55 = .ok (.aload_n 0, 1) := by decide +kernel
theorem dX10_enter_56 : decode cX10_enter 56 = .ok (.getfield 99, 3) := by decide +kernel
theorem dX10_enter_59 : decode cX10_enter 59 = .ok (.iconst 4, 1) := by decide +kernel
theorem dX10_enter_60 : decode cX10_enter 60 = .ok (.aload_n 0, 1) := by decide +kernel
theorem dX10_enter_61 : decode cX10_enter 61 = .ok (.getfield 193, 3) := by decide +kernel
theorem dX10_enter_64 : decode cX10_enter 64 = .ok (.imul, 1) := by decide +kernel
theorem dX10_enter_65 : decode cX10_enter 65 = .ok (.aload_n 0, 1) := by decide +kernel
theorem dX10_enter_66 : decode cX10_enter 66 = .ok (.getfield 165, 3) := by decide +kernel
theorem dX10_enter_69 : decode cX10_enter 69 = .ok (.iastore, 1) := by decide +kernel
theorem dX10_enter_70 : decode cX10_enter 70 = .ok (.aload_n 0, 1) := by decide +kernel
theorem dX10_enter_71 : decode cX10_enter 71 = .ok (.getfield 99, 3) := by decide +kernel
theorem dX10_enter_74 : decode cX10_enter 74 = .ok (.iconst 4, 1) := by decide +kernel
theorem dX10_enter_75 : decode cX10_enter 75 = .ok (.aload_n 0, 1) := by decide +kernel
theorem dX10_enter_76 : decode cX10_enter 76 = .ok (.getfield 193, 3) := by decide +kernel
theorem dX10_enter_79 : decode cX10_enter 79 = .ok (.imul, 1) := by decide +kernel
theorem dX10_enter_80 : decode cX10_enter 80 = .ok (.iconst 1, 1) := by decide +kernel
theorem dX10_enter_81 : decode cX10_enter 81 = .ok (.iadd, 1) := by decide +kernel
theorem dX10_enter_82 : decode cX10_enter 82 = .ok (.iload_n 1, 1) := by decide +kernel
theorem dX10_enter_83 : decode cX10_enter 83 = .ok (.iastore, 1) := by decide +kernel
theorem dX10_enter_84 : decode cX10_enter 84 = .ok (.aload_n 0, 1) := by decide +kernel
theorem dX10_enter_85 : decode cX10_enter 85 = .ok (.getfield 99, 3) := by decide +kernel
theorem dX10_enter_88 : decode cX10_enter 88 = .ok (.iconst 4, 1) := by decide +kernel
theorem dX10_enter_89 : decode cX10_enter 89 = .ok (.aload_n 0, 1) := by decide +kernel
theorem dX10_enter_90 : decode cX10_enter 90 = .ok (.getfield 193, 3) := by decide +kernel
theorem dX10_enter_93 : decode cX10_enter 93 = .ok (.imul, 1) := by decide +kernel
theorem dX10_enter_94 : decode cX10_enter 94 = .ok (.iconst 2, 1) := by decide +kernel
theorem dX10_enter_95 : decode cX10_enter 95 = .ok (.iadd, 1) := by decide +kernel
theorem dX10_enter_96 : decode cX10_enter 96 = .ok (.iload_n 2, 1) := by decide +kernel
theorem dX10_enter_97 : decode cX10_enter 97 = .ok (.iastore, 1) := by decide +kernel
theorem dX10_enter_98 : decode cX10_enter 98 = .ok (.aload_n 0, 1) := by decide +kernel
theorem dX10_enter_99 : decode cX10_enter 99 = .ok (.getfield 99, 3) := by decide +kernel
theorem dX10_enter_102 : decode cX10_enter 102 = .ok (.iconst 4, 1) := by decide +kernel
theorem dX10_enter_103 : decode cX10_enter 103 = .ok (.aload_n 0, 1) := by decide +kernel
theorem dX10_enter_104 : decode cX10_enter 104 = .ok (.getfield 193, 3) := by decide +kernel
theorem dX10_enter_107 : decode cX10_enter 107 = .ok (.imul, 1) := by decide +kernel
theorem dX10_enter_108 : decode cX10_enter 108 = .ok (.iconst 3, 1) := by decide +kernel
theorem dX10_enter_109 : decode cX10_enter 109 = .ok (.iadd, 1) := by decide +kernel
theorem dX10_enter_110 : decode cX10_enter 110 = .ok (.aload_n 0, 1) := by decide +kernel
theorem dX10_enter_111 : decode cX10_enter 111 = .ok (.iload_n 2, 1) := by decide +kernel
theorem dX10_enter_112 : decode cX10_enter 112 = .ok (.invokevirtual 196, 3) := by decide +kernel
theorem dX10_enter_115 : decode cX10_enter 115 = .ok (.iastore, 1) := by decide +kernel
theorem dX10_enter_116 : decode cX10_enter 116 = .ok (.aload_n 0, 1) := by decide +kernel
theorem dX10_enter_117 : decode cX10_enter 117 = .ok (.dup, 1) := by decide +kernel
theorem dX10_enter_118 : decode cX10_enter 118 = .ok (.getfield 193, 3) := by decide +kernel
theorem dX10_enter_121 : decode cX10_enter 121 = .ok (.iconst 1, 1) := by decide +kernel
theorem dX10_enter_122 : decode cX10_enter 122 = .ok (.iadd, 1) := by decide +kernel
theorem dX10_enter_123 : decode cX10_enter 123 = .ok (.putfield 193, 3) := by decide +kernel
theorem dX10_enter_126 : decode cX10_enter 126 = .ok (.aload_n 0, 1) := by decide +kernel
theorem dX10_enter_127 : decode cX10_enter 127 = .ok (.getfield 102, 3) := by decide +kernel
theorem dX10_enter_130 : decode cX10_enter 130 = .ok (.iconst 3, 1) := by decide +kernel
theorem dX10_enter_131 : decode cX10_enter 131 = .ok (.dup2, 1) := by decide +kernel
theorem dX10_enter_132 : decode cX10_enter 132 = .ok (.laload, 1) := by decide +kernel
theorem dX10_enter_133 : decode cX10_enter 133 = .ok (.aload_n 0, 1) := by decide +kernel
theorem dX10_enter_134 : decode cX10_enter 134 = .ok (.getfield 27, 3) := by decide +kernel
theorem dX10_enter_137 : decode cX10_enter 137 = .ok (.iload_n 2, 1) := by decide +kernel
theorem dX10_enter_138 : decode cX10_enter 138 = .ok (.iaload, 1) := by decide +kernel
theorem dX10_enter_139 : decode cX10_enter 139 = .ok (.i2l, 1) := by decide +kernel
theorem dX10_enter_140 : decode cX10_enter 140 = .ok (.ladd, 1) := by decide +kernel
theorem dX10_enter_141 : decode cX10_enter 141 = .ok (.lastore, 1) := by decide +kernel
theorem dX10_enter_142 : decode cX10_enter 142 = .ok (.aload_n 0, 1) := by decide +kernel
theorem dX10_enter_143 : decode cX10_enter 143 = .ok (.getfield 30, 3) := by decide +kernel
theorem dX10_enter_146 : decode cX10_enter 146 = .ok (.iload_n 2, 1) := by decide +kernel
theorem dX10_enter_147 : decode cX10_enter 147 = .ok (.aload_n 0, 1) := by decide +kernel
theorem dX10_enter_148 : decode cX10_enter 148 = .ok (.getfield 165, 3) := by decide +kernel
theorem dX10_enter_151 : decode cX10_enter 151 = .ok (.aload_n 0, 1) := by decide +kernel
theorem dX10_enter_152 : decode cX10_enter 152 = .ok (.getfield 27, 3) := by decide +kernel
theorem dX10_enter_155 : decode cX10_enter 155 = .ok (.iload_n 2, 1) := by decide +kernel
theorem dX10_enter_156 : decode cX10_enter 156 = .ok (.iaload, 1) := by decide +kernel
theorem dX10_enter_157 : decode cX10_enter 157 = .ok (.iadd, 1) := by decide +kernel
theorem dX10_enter_158 : decode cX10_enter 158 = .ok (.iastore, 1) := by decide +kernel
theorem dX10_enter_159 : decode cX10_enter 159 = .ok (.aload_n 0, 1) := by decide +kernel
theorem dX10_enter_160 : decode cX10_enter 160 = .ok (.iload_n 1, 1) := by decide +kernel
theorem dX10_enter_161 : decode cX10_enter 161 = .ok (.iconst 0, 1) := by decide +kernel
theorem dX10_enter_162 : decode cX10_enter 162 = .ok (.iconst 3, 1) := by decide +kernel
theorem dX10_enter_163 : decode cX10_enter 163 = .ok (.iload_n 2, 1) := by decide +kernel
theorem dX10_enter_164 : decode cX10_enter 164 = .ok (.invokevirtual 185, 3) := by decide +kernel
theorem dX10_enter_167 : decode cX10_enter 167 = .ok (.return_, 1) := by decide +kernel
theorem dX10_enter_168 : decode cX10_enter 168 = .ok (.aload_n 0, 1) := by decide +kernel
theorem dX10_enter_169 : decode cX10_enter 169 = .ok (.getfield 84, 3) := by decide +kernel
theorem dX10_enter_172 : decode cX10_enter 172 = .ok (.iload_n 1, 1) := by decide +kernel
theorem dX10_enter_173 : decode cX10_enter 173 = .ok (.iconst 1, 1) := by decide +kernel
theorem dX10_enter_174 : decode cX10_enter 174 = .ok (.iastore, 1) := by decide +kernel
theorem dX10_enter_175 : decode cX10_enter 175 = .ok (.aload_n 0, 1) := by decide +kernel
theorem dX10_enter_176 : decode cX10_enter 176 = .ok (.getfield 87, 3) := by decide +kernel
theorem dX10_enter_179 : decode cX10_enter 179 = .ok (.iload_n 1, 1) := by decide +kernel
theorem dX10_enter_180 : decode cX10_enter 180 = .ok (.iload_n 2, 1) := by decide +kernel
theorem dX10_enter_181 : decode cX10_enter 181 = .ok (.iastore, 1) := by decide +kernel
theorem dX10_enter_182 : decode cX10_enter 182 = .ok (.aload_n 0, 1) := by decide +kernel
theorem dX10_enter_183 : decode cX10_enter 183 = .ok (.getfield 90, 3) := by decide +kernel
theorem dX10_enter_186 : decode cX10_enter 186 = .ok (.iload_n 1, 1) := by decide +kernel
theorem dX10_enter_187 : decode cX10_enter 187 = .ok (.iconst 0, 1) := by decide +kernel
theorem dX10_enter_188 : decode cX10_enter 188 = .ok (.iastore, 1) := by decide +kernel
theorem dX10_enter_189 : decode cX10_enter 189 = .ok (.aload_n 0, 1) := by decide +kernel
theorem dX10_enter_190 : decode cX10_enter 190 = .ok (.iload_n 1, 1) := by decide +kernel
theorem dX10_enter_191 : decode cX10_enter 191 = .ok (.iconst 0, 1) := by decide +kernel
theorem dX10_enter_192 : decode cX10_enter 192 = .ok (.iload_n 2, 1) := by decide +kernel
theorem dX10_enter_193 : decode cX10_enter 193 = .ok (.invokevirtual 181, 3) := by decide +kernel
theorem dX10_enter_196 : decode cX10_enter 196 = .ok (.aload_n 0, 1) := by decide +kernel
theorem dX10_enter_197 : decode cX10_enter 197 = .ok (.iload_n 1, 1) := by decide +kernel
theorem dX10_enter_198 : decode cX10_enter 198 = .ok (.invokevirtual 200, 3) := by decide +kernel
theorem dX10_enter_201 : decode cX10_enter 201 = .ok (.return_, 1) := by decide +kernel
theorem dX10_pass_0 : decode cX10_pass 0 = .ok (.iconst 0, 1) := by decide +kernel
theorem dX10_pass_1 : decode cX10_pass 1 = .ok (.istore_n 2, 1) := by decide +kernel
theorem dX10_pass_2 : decode cX10_pass 2 = .ok (.iload_n 2, 1) := by decide +kernel
theorem dX10_pass_3 : decode cX10_pass 3 = .ok (.aload_n 0, 1) := by decide +kernel
theorem dX10_pass_4 : decode cX10_pass 4 = .ok (.getfield 141, 3) := by decide +kernel
theorem dX10_pass_7 : decode cX10_pass 7 = .ok (.if_icmp .ge 66, 3) := by decide +kernel
theorem dX10_pass_10 : decode cX10_pass 10 = .ok (.aload_n 0, 1) := by decide +kernel
theorem dX10_pass_11 : decode cX10_pass 11 = .ok (.getfield 33, 3) := by decide +kernel
theorem dX10_pass_14 : decode cX10_pass 14 = .ok (.iload_n 2, 1) := by decide +kernel
theorem dX10_pass_15 : decode cX10_pass 15 = .ok (.iaload, 1) := by decide +kernel
theorem dX10_pass_16 : decode cX10_pass 16 = .ok (.aload_n 0, 1) := by decide +kernel
theorem dX10_pass_17 : decode cX10_pass 17 = .ok (.getfield 87, 3) := by decide +kernel
theorem dX10_pass_20 : decode cX10_pass 20 = .ok (.iload_n 1, 1) := by decide +kernel
theorem dX10_pass_21 : decode cX10_pass 21 = .ok (.iaload, 1) := by decide +kernel
theorem dX10_pass_22 : decode cX10_pass 22 = .ok (.if_icmp .ne 45, 3) := by decide +kernel
theorem dX10_pass_25 : decode cX10_pass 25 = .ok (.aload_n 0, 1) := by decide +kernel
theorem dX10_pass_26 : decode cX10_pass 26 = .ok (.getfield 36, 3) := by decide +kernel
theorem dX10_pass_29 : decode cX10_pass 29 = .ok (.iload_n 2, 1) := by decide +kernel
theorem dX10_pass_30 : decode cX10_pass 30 = .ok (.iaload, 1) := by decide +kernel
theorem dX10_pass_31 : decode cX10_pass 31 = .ok (.aload_n 0, 1) := by decide +kernel
theorem dX10_pass_32 : decode cX10_pass 32 = .ok (.getfield 90, 3) := by decide +kernel
theorem dX10_pass_35 : decode cX10_pass 35 = .ok (.iload_n 1, 1) := by decide +kernel
theorem dX10_pass_36 : decode cX10_pass 36 = .ok (.iaload, 1) := by decide +kernel
theorem dX10_pass_37 : decode cX10_pass 37 = .ok (.if_icmp .ne 30, 3) := by decide +kernel
theorem dX10_pass_40 : decode cX10_pass 40 = .ok (.aload_n 0, 1) := by decide +kernel
theorem dX10_pass_41 : decode cX10_pass 41 = .ok (.iload_n 1, 1) := by decide +kernel
theorem dX10_pass_42 : decode cX10_pass 42 = .ok (.aload_n 0, 1) := by decide +kernel
theorem dX10_pass_43 : decode cX10_pass 43 = .ok (.iload_n 1, 1) := by decide +kernel
theorem dX10_pass_44 : decode cX10_pass 44 = .ok (.iload_n 2, 1) := by decide +kernel
theorem dX10_pass_45 : decode cX10_pass 45 = .ok (.invokevirtual 204, 3) := by decide +kernel
theorem dX10_pass_48 : decode cX10_pass 48 = .ok (.aload_n 0, 1) := by decide +kernel
theorem dX10_pass_49 : decode cX10_pass 49 = .ok (.getfield 39, 3) := by decide +kernel
theorem dX10_pass_52 : decode cX10_pass 52 = .ok (.iload_n 2, 1) := by decide +kernel
theorem dX10_pass_53 : decode cX10_pass 53 = .ok (.daload, 1) := by decide +kernel
theorem dX10_pass_54 : decode cX10_pass 54 = .ok (.dcmp .g, 1) := by decide +kernel
theorem dX10_pass_55 : decode cX10_pass 55 = .ok (.ifCond .ge 7, 3) := by decide +kernel
theorem dX10_pass_58 : decode cX10_pass 58 = .ok (.iconst 2, 1) := by decide +kernel
theorem dX10_pass_59 : decode cX10_pass 59 = .ok (.goto 4, 3) := by decide +kernel
theorem dX10_pass_62 : decode cX10_pass 62 = .ok (.iconst 1, 1) := by decide +kernel
theorem dX10_pass_63 : decode cX10_pass 63 = .ok (.iload_n 2, 1) := by decide +kernel
theorem dX10_pass_64 : decode cX10_pass 64 = .ok (.invokevirtual 181, 3) := by decide +kernel
theorem dX10_pass_67 : decode cX10_pass 67 = .ok (.iinc 2 1, 3) := by decide +kernel
theorem dX10_pass_70 : decode cX10_pass 70 = .ok (.goto (-68), 3) := by decide +kernel
theorem dX10_pass_73 : decode cX10_pass 73 = .ok (.return_, 1) := by decide +kernel
theorem dX10_isTaken_0 : decode cX10_isTaken 0 = .ok (.aload_n 0, 1) := by decide +kernel
theorem dX10_isTaken_1 : decode cX10_isTaken 1 = .ok (.getfield 87, 3) := by decide +kernel
theorem dX10_isTaken_4 : decode cX10_isTaken 4 = .ok (.iload_n 1, 1) := by decide +kernel
theorem dX10_isTaken_5 : decode cX10_isTaken 5 = .ok (.iaload, 1) := by decide +kernel
theorem dX10_isTaken_6 : decode cX10_isTaken 6 = .ok (.istore_n 2, 1) := by decide +kernel
theorem dX10_isTaken_7 : decode cX10_isTaken 7 = .ok (.iconst 0, 1) := by decide +kernel
theorem dX10_isTaken_8 : decode cX10_isTaken 8 = .ok (.istore_n 3, 1) := by decide +kernel
theorem dX10_isTaken_9 : decode cX10_isTaken 9 = .ok (.iload_n 3, 1) := by decide +kernel
theorem dX10_isTaken_10 : decode cX10_isTaken 10 = .ok (.aload_n 0, 1) := by decide +kernel
theorem dX10_isTaken_11 : decode cX10_isTaken 11 = .ok (.getfield 162, 3) := by decide +kernel
theorem dX10_isTaken_14 : decode cX10_isTaken 14 = .ok (.if_icmp .ge 80, 3) := by decide +kernel
theorem dX10_isTaken_17 : decode cX10_isTaken 17 = .ok (.aload_n 0, 1) := by decide +kernel
theorem dX10_isTaken_18 : decode cX10_isTaken 18 = .ok (.getfield 72, 3) := by decide +kernel
theorem dX10_isTaken_21 : decode cX10_isTaken 21 = .ok (.iload_n 1, 1) := by decide +kernel
theorem dX10_isTaken_22 : decode cX10_isTaken 22 = .ok (.iaload, 1) := by decide +kernel
theorem dX10_isTaken_23 : decode cX10_isTaken 23 = .ok (.ifCond .le 71, 3) := by decide +kernel
theorem dX10_isTaken_26 : decode cX10_isTaken 26 = .ok (.aload_n 0, 1) := by decide +kernel
theorem dX10_isTaken_27 : decode cX10_isTaken 27 = .ok (.getfield 48, 3) := by decide +kernel
theorem dX10_isTaken_30 : decode cX10_isTaken 30 = .ok (.iload_n 3, 1) := by decide +kernel
theorem dX10_isTaken_31 : decode cX10_isTaken 31 = .ok (.iaload, 1) := by decide +kernel
theorem dX10_isTaken_32 : decode cX10_isTaken 32 = .ok (.iload_n 2, 1) := by decide +kernel
theorem dX10_isTaken_33 : decode cX10_isTaken 33 = .ok (.if_icmp .ne 55, 3) := by decide +kernel
theorem dX10_isTaken_36 : decode cX10_isTaken 36 = .ok (.aload_n 0, 1) := by decide +kernel
theorem dX10_isTaken_37 : decode cX10_isTaken 37 = .ok (.getfield 75, 3) := by decide +kernel
theorem dX10_isTaken_40 : decode cX10_isTaken 40 = .ok (.iload_n 1, 1) := by decide +kernel
theorem dX10_isTaken_41 : decode cX10_isTaken 41 = .ok (.daload, 1) := by decide +kernel
theorem dX10_isTaken_42 : decode cX10_isTaken 42 = .ok (.aload_n 0, 1) := by decide +kernel
theorem dX10_isTaken_43 : decode cX10_isTaken 43 = .ok (.getfield 51, 3) := by decide +kernel
theorem dX10_isTaken_46 : decode cX10_isTaken 46 = .ok (.iload_n 3, 1) := by decide +kernel
theorem dX10_isTaken_47 : decode cX10_isTaken 47 = .ok (.daload, 1) := by decide +kernel
theorem dX10_isTaken_48 : decode cX10_isTaken 48 = .ok (.dcmp .g, 1) := by decide +kernel
theorem dX10_isTaken_49 : decode cX10_isTaken 49 = .ok (.ifCond .gt 39, 3) := by decide +kernel
theorem dX10_isTaken_52 : decode cX10_isTaken 52 = .ok (.aload_n 0, 1) := by decide +kernel
theorem dX10_isTaken_53 : decode cX10_isTaken 53 = .ok (.iload_n 1, 1) := by decide +kernel
theorem dX10_isTaken_54 : decode cX10_isTaken 54 = .ok (.bipush 100, 2) := by decide +kernel
theorem dX10_isTaken_56 : decode cX10_isTaken 56 = .ok (.iload_n 3, 1) := by decide +kernel
theorem dX10_isTaken_57 : decode cX10_isTaken 57 = .ok (.iadd, 1) := by decide +kernel
theorem dX10_isTaken_58 : decode cX10_isTaken 58 = .ok (.invokevirtual 204, 3) := by decide +kernel
theorem dX10_isTaken_61 : decode cX10_isTaken 61 = .ok (.aload_n 0, 1) := by decide +kernel
theorem dX10_isTaken_62 : decode cX10_isTaken 62 = .ok (.getfield 54, 3) := by decide +kernel
theorem dX10_isTaken_65 : decode cX10_isTaken 65 = .ok (.iload_n 3, 1) := by decide +kernel
theorem dX10_isTaken_66 : decode cX10_isTaken 66 = .ok (.daload, 1) := by decide +kernel
theorem dX10_isTaken_67 : decode cX10_isTaken 67 = .ok (.dcmp .l, 1) := by decide +kernel
theorem dX10_isTaken_68 : decode cX10_isTaken 68 = .ok (.ifCond .lt 20, 3) := by decide +kernel
theorem dX10_isTaken_71 : decode cX10_isTaken 71 = .ok (.aload_n 0, 1) := by decide +kernel
theorem dX10_isTaken_72 : decode cX10_isTaken 72 = .ok (.getfield 84, 3) := by decide +kernel
theorem dX10_isTaken_75 : decode cX10_isTaken 75 = .ok (.iload_n 1, 1) := by decide +kernel
theorem dX10_isTaken_76 : decode cX10_isTaken 76 = .ok (.iconst 4, 1) := by decide +kernel
theorem dX10_isTaken_77 : decode cX10_isTaken 77 = .ok (.iastore, 1) := by decide +kernel
theorem dX10_isTaken_78 : decode cX10_isTaken 78 = .ok (.aload_n 0, 1) := by decide +kernel
theorem dX10_isTaken_79 : decode cX10_isTaken 79 = .ok (.iload_n 1, 1) := by decide +kernel
theorem dX10_isTaken_80 : decode cX10_isTaken 80 = .ok (.bipush 6, 2) := by decide +kernel
theorem dX10_isTaken_82 : decode cX10_isTaken 82 = .ok (.iload_n 3, 1) := by decide +kernel
theorem dX10_isTaken_83 : decode cX10_isTaken 83 = .ok (.invokevirtual 181, 3) := by decide +kernel
theorem dX10_isTaken_86 : decode cX10_isTaken 86 = .ok (.iconst 1, 1) := by decide +kernel
theorem dX10_isTaken_87 : decode cX10_isTaken 87 = .ok (.ireturn, 1) := by decide +kernel
theorem dX10_isTaken_88 : decode cX10_isTaken 88 = .ok (.iinc 3 1, 3) := by decide +kernel
theorem dX10_isTaken_91 : decode cX10_isTaken 91 = .ok (.goto (-82), 3) := by decide +kernel
theorem dX10_isTaken_94 : decode cX10_isTaken 94 = .ok (.iconst 0, 1) := by decide +kernel
theorem dX10_isTaken_95 : decode cX10_isTaken 95 = .ok (.istore_n 3, 1) := by decide +kernel
theorem dX10_isTaken_96 : decode cX10_isTaken 96 = .ok (.iload_n 3, 1) := by decide +kernel
theorem dX10_isTaken_97 : decode cX10_isTaken 97 = .ok (.aload_n 0, 1) := by decide +kernel
theorem dX10_isTaken_98 : decode cX10_isTaken 98 = .ok (.getfield 153, 3) := by decide +kernel
theorem dX10_isTaken_101 : decode cX10_isTaken 101 = .ok (.if_icmp .ge 108, 3) := by decide +kernel
theorem dX10_isTaken_104 : decode cX10_isTaken 104 = .ok (.aload_n 0, 1) := by decide +kernel
theorem dX10_isTaken_105 : decode cX10_isTaken 105 = .ok (.getfield 72, 3) := by decide +kernel
theorem dX10_isTaken_108 : decode cX10_isTaken 108 = .ok (.iload_n 1, 1) := by decide +kernel
theorem dX10_isTaken_109 : decode cX10_isTaken 109 = .ok (.iaload, 1) := by decide +kernel
theorem dX10_isTaken_110 : decode cX10_isTaken 110 = .ok (.ifCond .le 99, 3) := by decide +kernel
theorem dX10_isTaken_113 : decode cX10_isTaken 113 = .ok (.aload_n 0, 1) := by decide +kernel
theorem dX10_isTaken_114 : decode cX10_isTaken 114 = .ok (.getfield 57, 3) := by decide +kernel
theorem dX10_isTaken_117 : decode cX10_isTaken 117 = .ok (.iload_n 3, 1) := by decide +kernel
theorem dX10_isTaken_118 : decode cX10_isTaken 118 = .ok (.iaload, 1) := by decide +kernel
theorem dX10_isTaken_119 : decode cX10_isTaken 119 = .ok (.iload_n 2, 1) := by decide +kernel
theorem dX10_isTaken_120 : decode cX10_isTaken 120 = .ok (.if_icmp .ne 83, 3) := by decide +kernel
theorem dX10_isTaken_123 : decode cX10_isTaken 123 = .ok (.aload_n 0, 1) := by decide +kernel
theorem dX10_isTaken_124 : decode cX10_isTaken 124 = .ok (.getfield 165, 3) := by decide +kernel
theorem dX10_isTaken_127 : decode cX10_isTaken 127 = .ok (.aload_n 0, 1) := by decide +kernel
theorem dX10_isTaken_128 : decode cX10_isTaken 128 = .ok (.getfield 66, 3) := by decide +kernel
theorem dX10_isTaken_131 : decode cX10_isTaken 131 = .ok (.iload_n 3, 1) := by decide +kernel
theorem dX10_isTaken_132 : decode cX10_isTaken 132 = .ok (.iaload, 1) := by decide +kernel
theorem dX10_isTaken_133 : decode cX10_isTaken 133 = .ok (.if_icmp .lt 70, 3) := by decide +kernel
theorem dX10_isTaken_136 : decode cX10_isTaken 136 = .ok (.aload_n 0, 1) := by decide +kernel
theorem dX10_isTaken_137 : decode cX10_isTaken 137 = .ok (.getfield 66, 3) := by decide +kernel
theorem dX10_isTaken_140 : decode cX10_isTaken 140 = .ok (.iload_n 3, 1) := by decide +kernel
theorem dX10_isTaken_141 : decode cX10_isTaken 141 = .ok (.aload_n 0, 1) := by decide +kernel
theorem dX10_isTaken_142 : decode cX10_isTaken 142 = .ok (.getfield 165, 3) := by decide +kernel
theorem dX10_isTaken_145 : decode cX10_isTaken 145 = .ok (.iconst 1, 1) := by decide +kernel
theorem dX10_isTaken_146 : decode cX10_isTaken 146 = .ok (.iadd, 1) := by decide +kernel
theorem dX10_isTaken_147 : decode cX10_isTaken 147 = .ok (.ldc2_w 160, 3) := by decide +kernel
theorem dX10_isTaken_150 : decode cX10_isTaken 150 = .ok (.aload_n 0, 1) := by decide +kernel
theorem dX10_isTaken_151 : decode cX10_isTaken 151 = .ok (.getfield 60, 3) := by decide +kernel
theorem dX10_isTaken_154 : decode cX10_isTaken 154 = .ok (.iload_n 3, 1) := by decide +kernel
theorem dX10_isTaken_155 : decode cX10_isTaken 155 = .ok (.daload, 1) := by decide +kernel
theorem dX10_isTaken_156 : decode cX10_isTaken 156 = .ok (.ddiv, 1) := by decide +kernel
theorem dX10_isTaken_157 : decode cX10_isTaken 157 = .ok (.dconst 1, 1) := by decide +kernel
theorem dX10_isTaken_158 : decode cX10_isTaken 158 = .ok (.aload_n 0, 1) := by decide +kernel
theorem dX10_isTaken_159 : decode cX10_isTaken 159 = .ok (.getfield 63, 3) := by decide +kernel
theorem dX10_isTaken_162 : decode cX10_isTaken 162 = .ok (.iload_n 3, 1) := by decide +kernel
theorem dX10_isTaken_163 : decode cX10_isTaken 163 = .ok (.daload, 1) := by decide +kernel
theorem dX10_isTaken_164 : decode cX10_isTaken 164 = .ok (.aload_n 0, 1) := by decide +kernel
theorem dX10_isTaken_165 : decode cX10_isTaken 165 = .ok (.getfield 69, 3) := by decide +kernel
theorem dX10_isTaken_168 : decode cX10_isTaken 168 = .ok (.iload_n 3, 1) := by decide +kernel
theorem dX10_isTaken_169 : decode cX10_isTaken 169 = .ok (.iaload, 1) := by decide +kernel
theorem dX10_isTaken_170 : decode cX10_isTaken 170 = .ok (.i2d, 1) := by decide +kernel
theorem dX10_isTaken_171 : decode cX10_isTaken 171 = .ok (.dmul, 1) := by decide +kernel
theorem dX10_isTaken_172 : decode cX10_isTaken 172 = .ok (.dadd, 1) := by decide +kernel
theorem dX10_isTaken_173 : decode cX10_isTaken 173 = .ok (.dmul, 1) := by decide +kernel
theorem dX10_isTaken_174 : decode cX10_isTaken 174 = .ok (.d2i, 1) := by decide +kernel
theorem dX10_isTaken_175 : decode cX10_isTaken 175 = .ok (.iadd, 1) := by decide +kernel
theorem dX10_isTaken_176 : decode cX10_isTaken 176 = .ok (.iastore, 1) := by decide +kernel
theorem dX10_isTaken_177 : decode cX10_isTaken 177 = .ok (.aload_n 0, 1) := by decide +kernel
theorem dX10_isTaken_178 : decode cX10_isTaken 178 = .ok (.getfield 69, 3) := by decide +kernel
theorem dX10_isTaken_181 : decode cX10_isTaken 181 = .ok (.iload_n 3, 1) := by decide +kernel
theorem dX10_isTaken_182 : decode cX10_isTaken 182 = .ok (.dup2, 1) := by decide +kernel
theorem dX10_isTaken_183 : decode cX10_isTaken 183 = .ok (.iaload, 1) := by decide +kernel
theorem dX10_isTaken_184 : decode cX10_isTaken 184 = .ok (.iconst 1, 1) := by decide +kernel
theorem dX10_isTaken_185 : decode cX10_isTaken 185 = .ok (.iadd, 1) := by decide +kernel
theorem dX10_isTaken_186 : decode cX10_isTaken 186 = .ok (.iastore, 1) := by decide +kernel
theorem dX10_isTaken_187 : decode cX10_isTaken 187 = .ok (.aload_n 0, 1) := by decide +kernel
theorem dX10_isTaken_188 : decode cX10_isTaken 188 = .ok (.getfield 84, 3) := by decide +kernel
theorem dX10_isTaken_191 : decode cX10_isTaken 191 = .ok (.iload_n 1, 1) := by decide +kernel
theorem dX10_isTaken_192 : decode cX10_isTaken 192 = .ok (.iconst 4, 1) := by decide +kernel
theorem dX10_isTaken_193 : decode cX10_isTaken 193 = .ok (.iastore, 1) := by decide +kernel
theorem dX10_isTaken_194 : decode cX10_isTaken 194 = .ok (.aload_n 0, 1) := by decide +kernel
theorem dX10_isTaken_195 : decode cX10_isTaken 195 = .ok (.iload_n 1, 1) := by decide +kernel
theorem dX10_isTaken_196 : decode cX10_isTaken 196 = .ok (.iconst 5, 1) := by decide +kernel
theorem dX10_isTaken_197 : decode cX10_isTaken 197 = .ok (.iload_n 3, 1) := by decide +kernel
theorem dX10_isTaken_198 : decode cX10_isTaken 198 = .ok (.invokevirtual 181, 3) := by decide +kernel
theorem dX10_isTaken_201 : decode cX10_isTaken 201 = .ok (.iconst 1, 1) := by decide +kernel
theorem dX10_isTaken_202 : decode cX10_isTaken 202 = .ok (.ireturn, 1) := by decide +kernel
theorem dX10_isTaken_203 : decode cX10_isTaken 203 = .ok (.iinc 3 1, 3) := by decide +kernel
theorem dX10_isTaken_206 : decode cX10_isTaken 206 = .ok (.goto (-110), 3) := by decide +kernel
theorem dX10_isTaken_209 : decode cX10_isTaken 209 = .ok (.iconst 0, 1) := by decide +kernel
theorem dX10_isTaken_210 : decode cX10_isTaken 210 = .ok (.ireturn, 1) := by decide +kernel
theorem dX10_goOn_0 : decode cX10_goOn 0 = .ok (.aload_n 0, 1) := by decide +kernel
theorem dX10_goOn_1 : decode cX10_goOn 1 = .ok (.getfield 17, 3) := by decide +kernel
theorem dX10_goOn_4 : decode cX10_goOn 4 = .ok (.aload_n 0, 1) := by decide +kernel
theorem dX10_goOn_5 : decode cX10_goOn 5 = .ok (.getfield 87, 3) := by decide +kernel
theorem dX10_goOn_8 : decode cX10_goOn 8 = .ok (.iload_n 1, 1) := by decide +kernel
theorem dX10_goOn_9 : decode cX10_goOn 9 = .ok (.iaload, 1) := by decide +kernel
theorem dX10_goOn_10 : decode cX10_goOn 10 = .ok (.iaload, 1) := by decide +kernel
theorem dX10_goOn_11 : decode cX10_goOn 11 = .ok (.istore_n 2, 1) := by decide +kernel
theorem dX10_goOn_12 : decode cX10_goOn 12 = .ok (.iload_n 2, 1) := by decide +kernel
theorem dX10_goOn_13 : decode cX10_goOn 13 = .ok (.ifCond .lt 12, 3) := by decide +kernel
theorem dX10_goOn_16 : decode cX10_goOn 16 = .ok (.aload_n 0, 1) := by decide +kernel
theorem dX10_goOn_17 : decode cX10_goOn 17 = .ok (.iload_n 1, 1) := by decide +kernel
theorem dX10_goOn_18 : decode cX10_goOn 18 = .ok (.iload_n 2, 1) := by decide +kernel
theorem dX10_goOn_19 : decode cX10_goOn 19 = .ok (.invokevirtual 207, 3) := by decide +kernel
theorem dX10_goOn_22 : decode cX10_goOn 22 = .ok (.goto 86, 3) := by decide +kernel
theorem dX10_goOn_25 : decode cX10_goOn 25 = .ok (.iload_n 2, 1) := by decide +kernel
theorem dX10_goOn_26 : decode cX10_goOn 26 = .ok (.iconst (-1), 1) := by decide +kernel
theorem dX10_goOn_27 : decode cX10_goOn 27 = .ok (.if_icmp .ne 11, 3) := by decide +kernel
theorem dX10_goOn_30 : decode cX10_goOn 30 = .ok (.aload_n 0, 1) := by decide +kernel
theorem dX10_goOn_31 : decode cX10_goOn 31 = .ok (.iload_n 1, 1) := by decide +kernel
theorem dX10_goOn_32 : decode cX10_goOn 32 = .ok (.invokevirtual 211, 3) := by decide +kernel
theorem dX10_goOn_35 : decode cX10_goOn 35 = .ok (.goto 73, 3) := by decide +kernel
theorem dX10_goOn_38 : decode cX10_goOn 38 = .ok (.bipush (-2), 2) := by decide +kernel
theorem dX10_goOn_40 : decode cX10_goOn 40 = .ok (.iload_n 2, 1) := by decide +kernel
theorem dX10_goOn_41 : decode cX10_goOn 41 = .ok (.isub, 1) := by decide +kernel
theorem dX10_goOn_42 : decode cX10_goOn 42 = .ok (.istore_n 3, 1) := by decide +kernel
theorem dX10_goOn_43 : decode cX10_goOn 43 = .ok (.aload_n 0, 1) := by decide +kernel
theorem dX10_goOn_44 : decode cX10_goOn 44 = .ok (.getfield 45, 3) := by decide +kernel
theorem dX10_goOn_47 : decode cX10_goOn 47 = .ok (.iload_n 3, 1) := by decide +kernel
theorem dX10_goOn_48 : decode cX10_goOn 48 = .ok (.daload, 1) := by decide +kernel
theorem dX10_goOn_49 : decode cX10_goOn 49 = .ok (.aload_n 0, 1) := by decide +kernel
theorem dX10_goOn_50 : decode cX10_goOn 50 = .ok (.getfield 75, 3) := by decide +kernel
theorem dX10_goOn_53 : decode cX10_goOn 53 = .ok (.iload_n 1, 1) := by decide +kernel
theorem dX10_goOn_54 : decode cX10_goOn 54 = .ok (.daload, 1) := by decide +kernel
theorem dX10_goOn_55 : decode cX10_goOn 55 = .ok (.dadd, 1) := by decide +kernel
theorem dX10_goOn_56 : decode cX10_goOn 56 = .ok (.aload_n 0, 1) := by decide +kernel
theorem dX10_goOn_57 : decode cX10_goOn 57 = .ok (.getfield 42, 3) := by decide +kernel
theorem dX10_goOn_60 : decode cX10_goOn 60 = .ok (.iload_n 3, 1) := by decide +kernel
theorem dX10_goOn_61 : decode cX10_goOn 61 = .ok (.daload, 1) := by decide +kernel
theorem dX10_goOn_62 : decode cX10_goOn 62 = .ok (.dcmp .g, 1) := by decide +kernel
theorem dX10_goOn_63 : decode cX10_goOn 63 = .ok (.ifCond .gt 36, 3) := by decide +kernel
theorem dX10_goOn_66 : decode cX10_goOn 66 = .ok (.aload_n 0, 1) := by decide +kernel
theorem dX10_goOn_67 : decode cX10_goOn 67 = .ok (.getfield 45, 3) := by decide +kernel
theorem dX10_goOn_70 : decode cX10_goOn 70 = .ok (.iload_n 3, 1) := by decide +kernel
theorem dX10_goOn_71 : decode cX10_goOn 71 = .ok (.dup2, 1) := by decide +kernel
theorem dX10_goOn_72 : decode cX10_goOn 72 = .ok (.daload, 1) := by decide +kernel
theorem dX10_goOn_73 : decode cX10_goOn 73 = .ok (.aload_n 0, 1) := by decide +kernel
theorem dX10_goOn_74 : decode cX10_goOn 74 = .ok (.getfield 75, 3) := by decide +kernel
theorem dX10_goOn_77 : decode cX10_goOn 77 = .ok (.iload_n 1, 1) := by decide +kernel
theorem dX10_goOn_78 : decode cX10_goOn 78 = .ok (.daload, 1) := by decide +kernel
theorem dX10_goOn_79 : decode cX10_goOn 79 = .ok (.dadd, 1) := by decide +kernel
theorem dX10_goOn_80 : decode cX10_goOn 80 = .ok (.dastore, 1) := by decide +kernel
theorem dX10_goOn_81 : decode cX10_goOn 81 = .ok (.aload_n 0, 1) := by decide +kernel
theorem dX10_goOn_82 : decode cX10_goOn 82 = .ok (.getfield 84, 3) := by decide +kernel
theorem dX10_goOn_85 : decode cX10_goOn 85 = .ok (.iload_n 1, 1) := by decide +kernel
theorem dX10_goOn_86 : decode cX10_goOn 86 = .ok (.iconst 2, 1) := by decide +kernel
theorem dX10_goOn_87 : decode cX10_goOn 87 = .ok (.iastore, 1) := by decide +kernel
theorem dX10_goOn_88 : decode cX10_goOn 88 = .ok (.aload_n 0, 1) := by decide +kernel
theorem dX10_goOn_89 : decode cX10_goOn 89 = .ok (.iload_n 1, 1) := by decide +kernel
theorem dX10_goOn_90 : decode cX10_goOn 90 = .ok (.bipush 9, 2) := by decide +kernel
theorem dX10_goOn_92 : decode cX10_goOn 92 = .ok (.iload_n 3, 1) := by decide +kernel
theorem dX10_goOn_93 : decode cX10_goOn 93 = .ok (.invokevirtual 181, 3) := by decide +kernel
theorem dX10_goOn_96 : decode cX10_goOn 96 = .ok (.goto 12, 3) := by decide +kernel
theorem dX10_goOn_99 : decode cX10_goOn 99 = .ok (.aload_n 0, 1) := by decide +kernel
theorem dX10_goOn_100 : decode cX10_goOn 100 = .ok (.iload_n 1, 1) := by decide +kernel
theorem dX10_goOn_101 : decode cX10_goOn 101 = .ok (.iconst 2, 1) := by decide +kernel
theorem dX10_goOn_102 : decode cX10_goOn 102 = .ok (.bipush 8, 2) := by decide +kernel
theorem dX10_goOn_104 : decode cX10_goOn 104 = .ok (.iload_n 3, 1) := by decide +kernel
theorem dX10_goOn_105 : decode cX10_goOn 105 = .ok (.invokevirtual 185, 3) := by decide +kernel
theorem dX10_goOn_108 : decode cX10_goOn 108 = .ok (.return_, 1) := by decide +kernel
theorem dX10_goOut_0 : decode cX10_goOut 0 = .ok (.iconst 5, 1) := by decide +kernel
theorem dX10_goOut_1 : decode cX10_goOut 1 = .ok (.aload_n 0, 1) := by decide +kernel
theorem dX10_goOut_2 : decode cX10_goOut 2 = .ok (.getfield 87, 3) := by decide +kernel
theorem dX10_goOut_5 : decode cX10_goOut 5 = .ok (.iload_n 1, 1) := by decide +kernel
theorem dX10_goOut_6 : decode cX10_goOut 6 = .ok (.iaload, 1) := by decide +kernel
theorem dX10_goOut_7 : decode cX10_goOut 7 = .ok (.imul, 1) := by decide +kernel
theorem dX10_goOut_8 : decode cX10_goOut 8 = .ok (.aload_n 0, 1) := by decide +kernel
theorem dX10_goOut_9 : decode cX10_goOut 9 = .ok (.getfield 72, 3) := by decide +kernel
theorem dX10_goOut_12 : decode cX10_goOut 12 = .ok (.iload_n 1, 1) := by decide +kernel
theorem dX10_goOut_13 : decode cX10_goOut 13 = .ok (.iaload, 1) := by decide +kernel
theorem dX10_goOut_14 : decode cX10_goOut 14 = .ok (.iadd, 1) := by decide +kernel
theorem dX10_goOut_15 : decode cX10_goOut 15 = .ok (.istore_n 2, 1) := by decide +kernel
theorem dX10_goOut_16 : decode cX10_goOut 16 = .ok (.aload_n 0, 1) := by decide +kernel
theorem dX10_goOut_17 : decode cX10_goOut 17 = .ok (.getfield 106, 3) := by decide +kernel
theorem dX10_goOut_20 : decode cX10_goOut 20 = .ok (.iload_n 2, 1) := by decide +kernel
theorem dX10_goOut_21 : decode cX10_goOut 21 = .ok (.iaload, 1) := by decide +kernel
theorem dX10_goOut_22 : decode cX10_goOut 22 = .ok (.ifCond .le 87, 3) := by decide +kernel
theorem dX10_goOut_25 : decode cX10_goOut 25 = .ok (.aload_n 0, 1) := by decide +kernel
theorem dX10_goOut_26 : decode cX10_goOut 26 = .ok (.getfield 165, 3) := by decide +kernel
theorem dX10_goOut_29 : decode cX10_goOut 29 = .ok (.aload_n 0, 1) := by decide +kernel
theorem dX10_goOut_30 : decode cX10_goOut 30 = .ok (.getfield 109, 3) := by decide +kernel
theorem dX10_goOut_33 : decode cX10_goOut 33 = .ok (.iload_n 2, 1) := by decide +kernel
theorem dX10_goOut_34 : decode cX10_goOut 34 = .ok (.iaload, 1) := by decide +kernel
theorem dX10_goOut_35 : decode cX10_goOut 35 = .ok (.isub, 1) := by decide +kernel
theorem dX10_goOut_36 : decode cX10_goOut 36 = .ok (.istore_n 3, 1) := by decide +kernel
theorem dX10_goOut_37 : decode cX10_goOut 37 = .ok (.aload_n 0, 1) := by decide +kernel
theorem dX10_goOut_38 : decode cX10_goOut 38 = .ok (.getfield 112, 3) := by decide +kernel
theorem dX10_goOut_41 : decode cX10_goOut 41 = .ok (.iload_n 2, 1) := by decide +kernel
theorem dX10_goOut_42 : decode cX10_goOut 42 = .ok (.aload_n 0, 1) := by decide +kernel
theorem dX10_goOut_43 : decode cX10_goOut 43 = .ok (.getfield 106, 3) := by decide +kernel
theorem dX10_goOut_46 : decode cX10_goOut 46 = .ok (.iload_n 2, 1) := by decide +kernel
theorem dX10_goOut_47 : decode cX10_goOut 47 = .ok (.iaload, 1) := by decide +kernel
theorem dX10_goOut_48 : decode cX10_goOut 48 = .ok (.iconst 1, 1) := by decide +kernel
theorem dX10_goOut_49 : decode cX10_goOut 49 = .ok (.if_icmp .eq 13, 3) := by decide +kernel
theorem dX10_goOut_52 : decode cX10_goOut 52 = .ok (.iload_n 3, 1) := by decide +kernel
theorem dX10_goOut_53 : decode cX10_goOut 53 = .ok (.aload_n 0, 1) := by decide +kernel
theorem dX10_goOut_54 : decode cX10_goOut 54 = .ok (.getfield 112, 3) := by decide +kernel
theorem dX10_goOut_57 : decode cX10_goOut 57 = .ok (.iload_n 2, 1) := by decide +kernel
theorem dX10_goOut_58 : decode cX10_goOut 58 = .ok (.iaload, 1) := by decide +kernel
theorem dX10_goOut_59 : decode cX10_goOut 59 = .ok (.if_icmp .ge 7, 3) := by decide +kernel
theorem dX10_goOut_62 : decode cX10_goOut 62 = .ok (.iload_n 3, 1) := by decide +kernel
theorem dX10_goOut_63 : decode cX10_goOut 63 = .ok (.goto 9, 3) := by decide +kernel
theorem dX10_goOut_66 : decode cX10_goOut 66 = .ok (.aload_n 0, 1) := by decide +kernel
theorem dX10_goOut_67 : decode cX10_goOut 67 = .ok (.getfield 112, 3) := by decide +kernel
theorem dX10_goOut_70 : decode cX10_goOut 70 = .ok (.iload_n 2, 1) := by decide +kernel
theorem dX10_goOut_71 : decode cX10_goOut 71 = .ok (.iaload, 1) := by decide +kernel
theorem dX10_goOut_72 : decode cX10_goOut 72 = .ok (.iastore, 1) := by decide +kernel
theorem dX10_goOut_73 : decode cX10_goOut 73 = .ok (.aload_n 0, 1) := by decide +kernel
theorem dX10_goOut_74 : decode cX10_goOut 74 = .ok (.getfield 115, 3) := by decide +kernel
theorem dX10_goOut_77 : decode cX10_goOut 77 = .ok (.iload_n 2, 1) := by decide +kernel
theorem dX10_goOut_78 : decode cX10_goOut 78 = .ok (.aload_n 0, 1) := by decide +kernel
theorem dX10_goOut_79 : decode cX10_goOut 79 = .ok (.getfield 106, 3) := by decide +kernel
theorem dX10_goOut_82 : decode cX10_goOut 82 = .ok (.iload_n 2, 1) := by decide +kernel
theorem dX10_goOut_83 : decode cX10_goOut 83 = .ok (.iaload, 1) := by decide +kernel
theorem dX10_goOut_84 : decode cX10_goOut 84 = .ok (.iconst 1, 1) := by decide +kernel
theorem dX10_goOut_85 : decode cX10_goOut 85 = .ok (.if_icmp .eq 13, 3) := by decide +kernel
theorem dX10_goOut_88 : decode cX10_goOut 88 = .ok (.iload_n 3, 1) := by decide +kernel
theorem dX10_goOut_89 : decode cX10_goOut 89 = .ok (.aload_n 0, 1) := by decide +kernel
theorem dX10_goOut_90 : decode cX10_goOut 90 = .ok (.getfield 115, 3) := by decide +kernel
theorem dX10_goOut_93 : decode cX10_goOut 93 = .ok (.iload_n 2, 1) := by decide +kernel
theorem dX10_goOut_94 : decode cX10_goOut 94 = .ok (.iaload, 1) := by decide +kernel
theorem dX10_goOut_95 : decode cX10_goOut 95 = .ok (.if_icmp .le 7, 3) := by decide +kernel
theorem dX10_goOut_98 : decode cX10_goOut 98 = .ok (.iload_n 3, 1) := by decide +kernel
theorem dX10_goOut_99 : decode cX10_goOut 99 = .ok (.goto 9, 3) := by decide +kernel
theorem dX10_goOut_102 : decode cX10_goOut 102 = .ok (.aload_n 0, 1) := by decide +kernel
theorem dX10_goOut_103 : decode cX10_goOut 103 = .ok (.getfield 115, 3) := by decide +kernel
theorem dX10_goOut_106 : decode cX10_goOut 106 = .ok (.iload_n 2, 1) := by decide +kernel
theorem dX10_goOut_107 : decode cX10_goOut 107 = .ok (.iaload, 1) := by decide +kernel
theorem dX10_goOut_108 : decode cX10_goOut 108 = .ok (.iastore, 1) := by decide +kernel
theorem dX10_goOut_109 : decode cX10_goOut 109 = .ok (.aload_n 0, 1) := by decide +kernel
theorem dX10_goOut_110 : decode cX10_goOut 110 = .ok (.getfield 106, 3) := by decide +kernel
theorem dX10_goOut_113 : decode cX10_goOut 113 = .ok (.iload_n 2, 1) := by decide +kernel
theorem dX10_goOut_114 : decode cX10_goOut 114 = .ok (.dup2, 1) := by decide +kernel
theorem dX10_goOut_115 : decode cX10_goOut 115 = .ok (.iaload, 1) := by decide +kernel
theorem dX10_goOut_116 : decode cX10_goOut 116 = .ok (.iconst 1, 1) := by decide +kernel
theorem dX10_goOut_117 : decode cX10_goOut 117 = .ok (.iadd, 1) := by decide +kernel
theorem dX10_goOut_118 : decode cX10_goOut 118 = .ok (.iastore, 1) := by decide +kernel
theorem dX10_goOut_119 : decode cX10_goOut 119 = .ok (.aload_n 0, 1) := by decide +kernel
theorem dX10_goOut_120 : decode cX10_goOut 120 = .ok (.getfield 109, 3) := by decide +kernel
theorem dX10_goOut_123 : decode cX10_goOut 123 = .ok (.iload_n 2, 1) := by decide +kernel
theorem dX10_goOut_124 : decode cX10_goOut 124 = .ok (.aload_n 0, 1) := by decide +kernel
theorem dX10_goOut_125 : decode cX10_goOut 125 = .ok (.getfield 165, 3) := by decide +kernel
theorem dX10_goOut_128 : decode cX10_goOut 128 = .ok (.iastore, 1) := by decide +kernel
theorem dX10_goOut_129 : decode cX10_goOut 129 = .ok (.aload_n 0, 1) := by decide +kernel
theorem dX10_goOut_130 : decode cX10_goOut 130 = .ok (.getfield 84, 3) := by decide +kernel
theorem dX10_goOut_133 : decode cX10_goOut 133 = .ok (.iload_n 1, 1) := by decide +kernel
theorem dX10_goOut_134 : decode cX10_goOut 134 = .ok (.iconst 3, 1) := by decide +kernel
theorem dX10_goOut_135 : decode cX10_goOut 135 = .ok (.iastore, 1) := by decide +kernel
theorem dX10_goOut_136 : decode cX10_goOut 136 = .ok (.aload_n 0, 1) := by decide +kernel
theorem dX10_goOut_137 : decode cX10_goOut 137 = .ok (.iload_n 1, 1) := by decide +kernel
theorem dX10_goOut_138 : decode cX10_goOut 138 = .ok (.iconst 4, 1) := by decide +kernel
theorem dX10_goOut_139 : decode cX10_goOut 139 = .ok (.aload_n 0, 1) := by decide +kernel
theorem dX10_goOut_140 : decode cX10_goOut 140 = .ok (.getfield 87, 3) := by decide +kernel
theorem dX10_goOut_143 : decode cX10_goOut 143 = .ok (.iload_n 1, 1) := by decide +kernel
theorem dX10_goOut_144 : decode cX10_goOut 144 = .ok (.iaload, 1) := by decide +kernel
theorem dX10_goOut_145 : decode cX10_goOut 145 = .ok (.invokevirtual 181, 3) := by decide +kernel
theorem dX10_goOut_148 : decode cX10_goOut 148 = .ok (.return_, 1) := by decide +kernel
theorem dX10_tenth_0 : decode cX10_tenth 0 = .ok (.aload_n 0, 1) := by decide +kernel
theorem dX10_tenth_1 : decode cX10_tenth 1 = .ok (.dup, 1) := by decide +kernel
theorem dX10_tenth_2 : decode cX10_tenth 2 = .ok (.getfield 165, 3) := by decide +kernel
theorem dX10_tenth_5 : decode cX10_tenth 5 = .ok (.iconst 1, 1) := by decide +kernel
theorem dX10_tenth_6 : decode cX10_tenth 6 = .ok (.iadd, 1) := by decide +kernel
theorem dX10_tenth_7 : decode cX10_tenth 7 = .ok (.putfield 165, 3) := by decide +kernel
theorem dX10_tenth_10 : decode cX10_tenth 10 = .ok (.iconst 0, 1) := by decide +kernel
theorem dX10_tenth_11 : decode cX10_tenth 11 = .ok (.istore_n 1, 1) := by decide +kernel
theorem dX10_tenth_12 : decode cX10_tenth 12 = .ok (.iload_n 1, 1) := by decide +kernel
theorem dX10_tenth_13 : decode cX10_tenth 13 = .ok (.aload_n 0, 1) := by decide +kernel
theorem dX10_tenth_14 : decode cX10_tenth 14 = .ok (.getfield 126, 3) := by decide +kernel
theorem dX10_tenth_17 : decode cX10_tenth 17 = .ok (.if_icmp .ge 71, 3) := by decide +kernel
theorem dX10_tenth_20 : decode cX10_tenth 20 = .ok (.aload_n 0, 1) := by decide +kernel
theorem dX10_tenth_21 : decode cX10_tenth 21 = .ok (.getfield 93, 3) := by decide +kernel
theorem dX10_tenth_24 : decode cX10_tenth 24 = .ok (.iload_n 1, 1) := by decide +kernel
theorem dX10_tenth_25 : decode cX10_tenth 25 = .ok (.aload_n 0, 1) := by decide +kernel
theorem dX10_tenth_26 : decode cX10_tenth 26 = .ok (.getfield 84, 3) := by decide +kernel
theorem dX10_tenth_29 : decode cX10_tenth 29 = .ok (.iload_n 1, 1) := by decide +kernel
theorem dX10_tenth_30 : decode cX10_tenth 30 = .ok (.iaload, 1) := by decide +kernel
theorem dX10_tenth_31 : decode cX10_tenth 31 = .ok (.iconst 1, 1) := by decide +kernel
theorem dX10_tenth_32 : decode cX10_tenth 32 = .ok (.if_icmp .ne 25, 3) := by decide +kernel
theorem dX10_tenth_35 : decode cX10_tenth 35 = .ok (.aload_n 0, 1) := by decide +kernel
theorem dX10_tenth_36 : decode cX10_tenth 36 = .ok (.getfield 165, 3) := by decide +kernel
theorem dX10_tenth_39 : decode cX10_tenth 39 = .ok (.aload_n 0, 1) := by decide +kernel
theorem dX10_tenth_40 : decode cX10_tenth 40 = .ok (.getfield 30, 3) := by decide +kernel
theorem dX10_tenth_43 : decode cX10_tenth 43 = .ok (.aload_n 0, 1) := by decide +kernel
theorem dX10_tenth_44 : decode cX10_tenth 44 = .ok (.getfield 87, 3) := by decide +kernel
theorem dX10_tenth_47 : decode cX10_tenth 47 = .ok (.iload_n 1, 1) := by decide +kernel
theorem dX10_tenth_48 : decode cX10_tenth 48 = .ok (.iaload, 1) := by decide +kernel
theorem dX10_tenth_49 : decode cX10_tenth 49 = .ok (.iaload, 1) := by decide +kernel
theorem dX10_tenth_50 : decode cX10_tenth 50 = .ok (.if_icmp .le 7, 3) := by decide +kernel
theorem dX10_tenth_53 : decode cX10_tenth 53 = .ok (.iconst 1, 1) := by decide +kernel
theorem dX10_tenth_54 : decode cX10_tenth 54 = .ok (.goto 4, 3) := by decide +kernel
theorem dX10_tenth_57 : decode cX10_tenth 57 = .ok (.iconst 0, 1) := by decide +kernel
theorem dX10_tenth_58 : decode cX10_tenth 58 = .ok (.bastore, 1) := by decide +kernel
theorem dX10_tenth_59 : decode cX10_tenth 59 = .ok (.aload_n 0, 1) := by decide +kernel
theorem dX10_tenth_60 : decode cX10_tenth 60 = .ok (.getfield 90, 3) := by decide +kernel
theorem dX10_tenth_63 : decode cX10_tenth 63 = .ok (.iload_n 1, 1) := by decide +kernel
theorem dX10_tenth_64 : decode cX10_tenth 64 = .ok (.dup2, 1) := by decide +kernel
theorem dX10_tenth_65 : decode cX10_tenth 65 = .ok (.iaload, 1) := by decide +kernel
theorem dX10_tenth_66 : decode cX10_tenth 66 = .ok (.aload_n 0, 1) := by decide +kernel
theorem dX10_tenth_67 : decode cX10_tenth 67 = .ok (.getfield 93, 3) := by decide +kernel
theorem dX10_tenth_70 : decode cX10_tenth 70 = .ok (.iload_n 1, 1) := by decide +kernel
theorem dX10_tenth_71 : decode cX10_tenth 71 = .ok (.baload, 1) := by decide +kernel
theorem dX10_tenth_72 : decode cX10_tenth 72 = .ok (.ifCond .eq 7, 3) := by decide +kernel
theorem dX10_tenth_75 : decode cX10_tenth 75 = .ok (.iconst 1, 1) := by decide +kernel
theorem dX10_tenth_76 : decode cX10_tenth 76 = .ok (.goto 4, 3) := by decide +kernel
theorem dX10_tenth_79 : decode cX10_tenth 79 = .ok (.iconst 0, 1) := by decide +kernel
theorem dX10_tenth_80 : decode cX10_tenth 80 = .ok (.iadd, 1) := by decide +kernel
theorem dX10_tenth_81 : decode cX10_tenth 81 = .ok (.iastore, 1) := by decide +kernel
theorem dX10_tenth_82 : decode cX10_tenth 82 = .ok (.iinc 1 1, 3) := by decide +kernel
theorem dX10_tenth_85 : decode cX10_tenth 85 = .ok (.goto (-73), 3) := by decide +kernel
theorem dX10_tenth_88 : decode cX10_tenth 88 = .ok (.iconst 0, 1) := by decide +kernel
theorem dX10_tenth_89 : decode cX10_tenth 89 = .ok (.istore_n 1, 1) := by decide +kernel
theorem dX10_tenth_90 : decode cX10_tenth 90 = .ok (.iload_n 1, 1) := by decide +kernel
theorem dX10_tenth_91 : decode cX10_tenth 91 = .ok (.aload_n 0, 1) := by decide +kernel
theorem dX10_tenth_92 : decode cX10_tenth 92 = .ok (.getfield 126, 3) := by decide +kernel
theorem dX10_tenth_95 : decode cX10_tenth 95 = .ok (.if_icmp .ge 92, 3) := by decide +kernel
theorem dX10_tenth_98 : decode cX10_tenth 98 = .ok (.aload_n 0, 1) := by decide +kernel
theorem dX10_tenth_99 : decode cX10_tenth 99 = .ok (.getfield 84, 3) := by decide +kernel
theorem dX10_tenth_102 : decode cX10_tenth 102 = .ok (.iload_n 1, 1) := by decide +kernel
theorem dX10_tenth_103 : decode cX10_tenth 103 = .ok (.iaload, 1) := by decide +kernel
theorem dX10_tenth_104 : decode cX10_tenth 104 = .ok (.ifCond .ne 30, 3) := by decide +kernel
theorem dX10_tenth_107 : decode cX10_tenth 107 = .ok (.aload_n 0, 1) := by decide +kernel
theorem dX10_tenth_108 : decode cX10_tenth 108 = .ok (.getfield 78, 3) := by decide +kernel
theorem dX10_tenth_111 : decode cX10_tenth 111 = .ok (.iload_n 1, 1) := by decide +kernel
theorem dX10_tenth_112 : decode cX10_tenth 112 = .ok (.iaload, 1) := by decide +kernel
theorem dX10_tenth_113 : decode cX10_tenth 113 = .ok (.aload_n 0, 1) := by decide +kernel
theorem dX10_tenth_114 : decode cX10_tenth 114 = .ok (.getfield 165, 3) := by decide +kernel
theorem dX10_tenth_117 : decode cX10_tenth 117 = .ok (.if_icmp .ne 17, 3) := by decide +kernel
theorem dX10_tenth_120 : decode cX10_tenth 120 = .ok (.aload_n 0, 1) := by decide +kernel
theorem dX10_tenth_121 : decode cX10_tenth 121 = .ok (.iload_n 1, 1) := by decide +kernel
theorem dX10_tenth_122 : decode cX10_tenth 122 = .ok (.aload_n 0, 1) := by decide +kernel
theorem dX10_tenth_123 : decode cX10_tenth 123 = .ok (.getfield 81, 3) := by decide +kernel
theorem dX10_tenth_126 : decode cX10_tenth 126 = .ok (.iload_n 1, 1) := by decide +kernel
theorem dX10_tenth_127 : decode cX10_tenth 127 = .ok (.iaload, 1) := by decide +kernel
theorem dX10_tenth_128 : decode cX10_tenth 128 = .ok (.invokevirtual 207, 3) := by decide +kernel
theorem dX10_tenth_131 : decode cX10_tenth 131 = .ok (.goto 50, 3) := by decide +kernel
theorem dX10_tenth_134 : decode cX10_tenth 134 = .ok (.aload_n 0, 1) := by decide +kernel
theorem dX10_tenth_135 : decode cX10_tenth 135 = .ok (.getfield 93, 3) := by decide +kernel
theorem dX10_tenth_138 : decode cX10_tenth 138 = .ok (.iload_n 1, 1) := by decide +kernel
theorem dX10_tenth_139 : decode cX10_tenth 139 = .ok (.baload, 1) := by decide +kernel
theorem dX10_tenth_140 : decode cX10_tenth 140 = .ok (.ifCond .eq 41, 3) := by decide +kernel
theorem dX10_tenth_143 : decode cX10_tenth 143 = .ok (.aload_n 0, 1) := by decide +kernel
theorem dX10_tenth_144 : decode cX10_tenth 144 = .ok (.iload_n 1, 1) := by decide +kernel
theorem dX10_tenth_145 : decode cX10_tenth 145 = .ok (.invokevirtual 200, 3) := by decide +kernel
theorem dX10_tenth_148 : decode cX10_tenth 148 = .ok (.aload_n 0, 1) := by decide +kernel
theorem dX10_tenth_149 : decode cX10_tenth 149 = .ok (.getfield 90, 3) := by decide +kernel
theorem dX10_tenth_152 : decode cX10_tenth 152 = .ok (.iload_n 1, 1) := by decide +kernel
theorem dX10_tenth_153 : decode cX10_tenth 153 = .ok (.iaload, 1) := by decide +kernel
theorem dX10_tenth_154 : decode cX10_tenth 154 = .ok (.aload_n 0, 1) := by decide +kernel
theorem dX10_tenth_155 : decode cX10_tenth 155 = .ok (.getfield 7, 3) := by decide +kernel
theorem dX10_tenth_158 : decode cX10_tenth 158 = .ok (.aload_n 0, 1) := by decide +kernel
theorem dX10_tenth_159 : decode cX10_tenth 159 = .ok (.getfield 87, 3) := by decide +kernel
theorem dX10_tenth_162 : decode cX10_tenth 162 = .ok (.iload_n 1, 1) := by decide +kernel
theorem dX10_tenth_163 : decode cX10_tenth 163 = .ok (.iaload, 1) := by decide +kernel
theorem dX10_tenth_164 : decode cX10_tenth 164 = .ok (.iaload, 1) := by decide +kernel
theorem dX10_tenth_165 : decode cX10_tenth 165 = .ok (.if_icmp .ne 16, 3) := by decide +kernel
theorem dX10_tenth_168 : decode cX10_tenth 168 = .ok (.aload_n 0, 1) := by decide +kernel
theorem dX10_tenth_169 : decode cX10_tenth 169 = .ok (.iload_n 1, 1) := by decide +kernel
theorem dX10_tenth_170 : decode cX10_tenth 170 = .ok (.invokevirtual 214, 3) := by decide +kernel
theorem dX10_tenth_173 : decode cX10_tenth 173 = .ok (.ifCond .ne 8, 3) := by decide +kernel
theorem dX10_tenth_176 : decode cX10_tenth 176 = .ok (.aload_n 0, 1) := by decide +kernel
theorem dX10_tenth_177 : decode cX10_tenth 177 = .ok (.iload_n 1, 1) := by decide +kernel
theorem dX10_tenth_178 : decode cX10_tenth 178 = .ok (.invokevirtual 217, 3) := by decide +kernel
theorem dX10_tenth_181 : decode cX10_tenth 181 = .ok (.iinc 1 1, 3) := by decide +kernel
theorem dX10_tenth_184 : decode cX10_tenth 184 = .ok (.goto (-94), 3) := by decide +kernel
theorem dX10_tenth_187 : decode cX10_tenth 187 = .ok (.return_, 1) := by decide +kernel
theorem dX10_run_0 : decode cX10_run 0 = .ok (.iload_n 1, 1) := by decide +kernel
theorem dX10_run_1 : decode cX10_run 1 = .ok (.aload_n 0, 1) := by decide +kernel
theorem dX10_run_2 : decode cX10_run 2 = .ok (.getfield 165, 3) := by decide +kernel
theorem dX10_run_5 : decode cX10_run 5 = .ok (.if_icmp .lt 10, 3) := by decide +kernel
theorem dX10_run_8 : decode cX10_run 8 = .ok (.iload_n 1, 1) := by decide +kernel
theorem dX10_run_9 : decode cX10_run 9 = .ok (.sipush 10000, 3) := by decide +kernel
theorem dX10_run_12 : decode cX10_run 12 = .ok (.if_icmp .le 5, 3) := by decide +kernel
theorem dX10_run_15 : decode cX10_run 15 = .ok (.iconst (-1), 1) := by decide +kernel
theorem dX10_run_16 : decode cX10_run 16 = .ok (.ireturn, 1) := by decide +kernel
theorem dX10_run_17 : decode cX10_run 17 = .ok (.aload_n 0, 1) := by decide +kernel
theorem dX10_run_18 : decode cX10_run 18 = .ok (.getfield 165, 3) := by decide +kernel
theorem dX10_run_21 : decode cX10_run 21 = .ok (.iload_n 1, 1) := by decide +kernel
theorem dX10_run_22 : decode cX10_run 22 = .ok (.if_icmp .ge 10, 3) := by decide +kernel
theorem dX10_run_25 : decode cX10_run 25 = .ok (.aload_n 0, 1) := by decide +kernel
theorem dX10_run_26 : decode cX10_run 26 = .ok (.invokevirtual 220, 3) := by decide +kernel
theorem dX10_run_29 : decode cX10_run 29 = .ok (.goto (-12), 3) := by decide +kernel
theorem dX10_run_32 : decode cX10_run 32 = .ok (.aload_n 0, 1) := by decide +kernel
theorem dX10_run_33 : decode cX10_run 33 = .ok (.getfield 178, 3) := by decide +kernel
theorem dX10_run_36 : decode cX10_run 36 = .ok (.ireturn, 1) := by decide +kernel
theorem dX10_event_0 : decode cX10_event 0 = .ok (.iload_n 1, 1) := by decide +kernel
theorem dX10_event_1 : decode cX10_event 1 = .ok (.ifCond .lt 40, 3) := by decide +kernel
theorem dX10_event_4 : decode cX10_event 4 = .ok (.iload_n 1, 1) := by decide +kernel
theorem dX10_event_5 : decode cX10_event 5 = .ok (.aload_n 0, 1) := by decide +kernel
theorem dX10_event_6 : decode cX10_event 6 = .ok (.getfield 178, 3) := by decide +kernel
theorem dX10_event_9 : decode cX10_event 9 = .ok (.if_icmp .ge 32, 3) := by decide +kernel
theorem dX10_event_12 : decode cX10_event 12 = .ok (.iload_n 1, 1) := by decide +kernel
theorem dX10_event_13 : decode cX10_event 13 = .ok (.sipush 2000, 3) := by decide +kernel
theorem dX10_event_16 : decode cX10_event 16 = .ok (.if_icmp .ge 25, 3) := by decide +kernel
theorem dX10_event_19 : decode cX10_event 19 = .ok (.iload_n 2, 1) := by decide +kernel
theorem dX10_event_20 : decode cX10_event 20 = .ok (.ifCond .lt 21, 3) := by decide +kernel
theorem dX10_event_23 : decode cX10_event 23 = .ok (.iload_n 2, 1) := by decide +kernel
theorem dX10_event_24 : decode cX10_event 24 = .ok (.iconst 4, 1) := by decide +kernel
theorem dX10_event_25 : decode cX10_event 25 = .ok (.if_icmp .ge 16, 3) := by decide +kernel
theorem dX10_event_28 : decode cX10_event 28 = .ok (.aload_n 0, 1) := by decide +kernel
theorem dX10_event_29 : decode cX10_event 29 = .ok (.getfield 96, 3) := by decide +kernel
theorem dX10_event_32 : decode cX10_event 32 = .ok (.iconst 4, 1) := by decide +kernel
theorem dX10_event_33 : decode cX10_event 33 = .ok (.iload_n 1, 1) := by decide +kernel
theorem dX10_event_34 : decode cX10_event 34 = .ok (.imul, 1) := by decide +kernel
theorem dX10_event_35 : decode cX10_event 35 = .ok (.iload_n 2, 1) := by decide +kernel
theorem dX10_event_36 : decode cX10_event 36 = .ok (.iadd, 1) := by decide +kernel
theorem dX10_event_37 : decode cX10_event 37 = .ok (.iaload, 1) := by decide +kernel
theorem dX10_event_38 : decode cX10_event 38 = .ok (.goto 4, 3) := by decide +kernel
theorem dX10_event_41 : decode cX10_event 41 = .ok (.iconst (-1), 1) := by decide +kernel
theorem dX10_event_42 : decode cX10_event 42 = .ok (.ireturn, 1) := by decide +kernel
theorem dX10_isKind_0 : decode cX10_isKind 0 = .ok (.aload_n 0, 1) := by decide +kernel
theorem dX10_isKind_1 : decode cX10_isKind 1 = .ok (.iload_n 1, 1) := by decide +kernel
theorem dX10_isKind_2 : decode cX10_isKind 2 = .ok (.invokevirtual 144, 3) := by decide +kernel
theorem dX10_isKind_5 : decode cX10_isKind 5 = .ok (.ifCond .eq 16, 3) := by decide +kernel
theorem dX10_isKind_8 : decode cX10_isKind 8 = .ok (.iload_n 2, 1) := by decide +kernel
theorem dX10_isKind_9 : decode cX10_isKind 9 = .ok (.ifCond .lt 12, 3) := by decide +kernel
theorem dX10_isKind_12 : decode cX10_isKind 12 = .ok (.iload_n 2, 1) := by decide +kernel
theorem dX10_isKind_13 : decode cX10_isKind 13 = .ok (.iconst 5, 1) := by decide +kernel
theorem dX10_isKind_14 : decode cX10_isKind 14 = .ok (.if_icmp .ge 7, 3) := by decide +kernel
theorem dX10_isKind_17 : decode cX10_isKind 17 = .ok (.iconst 1, 1) := by decide +kernel
theorem dX10_isKind_18 : decode cX10_isKind 18 = .ok (.goto 4, 3) := by decide +kernel
theorem dX10_isKind_21 : decode cX10_isKind 21 = .ok (.iconst 0, 1) := by decide +kernel
theorem dX10_isKind_22 : decode cX10_isKind 22 = .ok (.ireturn, 1) := by decide +kernel
theorem dX10_out_0 : decode cX10_out 0 = .ok (.aload_n 0, 1) := by decide +kernel
theorem dX10_out_1 : decode cX10_out 1 = .ok (.iload_n 1, 1) := by decide +kernel
theorem dX10_out_2 : decode cX10_out 2 = .ok (.iload_n 2, 1) := by decide +kernel
theorem dX10_out_3 : decode cX10_out 3 = .ok (.invokevirtual 223, 3) := by decide +kernel
theorem dX10_out_6 : decode cX10_out 6 = .ok (.ifCond .eq 17, 3) := by decide +kernel
theorem dX10_out_9 : decode cX10_out 9 = .ok (.aload_n 0, 1) := by decide +kernel
theorem dX10_out_10 : decode cX10_out 10 = .ok (.getfield 106, 3) := by decide +kernel
theorem dX10_out_13 : decode cX10_out 13 = .ok (.iconst 5, 1) := by decide +kernel
theorem dX10_out_14 : decode cX10_out 14 = .ok (.iload_n 1, 1) := by decide +kernel
theorem dX10_out_15 : decode cX10_out 15 = .ok (.imul, 1) := by decide +kernel
theorem dX10_out_16 : decode cX10_out 16 = .ok (.iload_n 2, 1) := by decide +kernel
theorem dX10_out_17 : decode cX10_out 17 = .ok (.iadd, 1) := by decide +kernel
theorem dX10_out_18 : decode cX10_out 18 = .ok (.iaload, 1) := by decide +kernel
theorem dX10_out_19 : decode cX10_out 19 = .ok (.i2l, 1) := by decide +kernel
theorem dX10_out_20 : decode cX10_out 20 = .ok (.goto 6, 3) := by decide +kernel
theorem dX10_out_23 : decode cX10_out 23 = .ok (.ldc2_w 227, 3) := by decide +kernel
theorem dX10_out_26 : decode cX10_out 26 = .ok (.lreturn, 1) := by decide +kernel
theorem dX10_count_0 : decode cX10_count 0 = .ok (.iconst 0, 1) := by decide +kernel
theorem dX10_count_1 : decode cX10_count 1 = .ok (.istore_n 2, 1) := by decide +kernel
theorem dX10_count_2 : decode cX10_count 2 = .ok (.iconst 0, 1) := by decide +kernel
theorem dX10_count_3 : decode cX10_count 3 = .ok (.istore_n 3, 1) := by decide +kernel
theorem dX10_count_4 : decode cX10_count 4 = .ok (.iload_n 3, 1) := by decide +kernel
theorem dX10_count_5 : decode cX10_count 5 = .ok (.aload_n 0, 1) := by decide +kernel
theorem dX10_count_6 : decode cX10_count 6 = .ok (.getfield 126, 3) := by decide +kernel
theorem dX10_count_9 : decode cX10_count 9 = .ok (.if_icmp .ge 27, 3) := by decide +kernel
theorem dX10_count_12 : decode cX10_count 12 = .ok (.iload_n 2, 1) := by decide +kernel
theorem dX10_count_13 : decode cX10_count 13 = .ok (.aload_n 0, 1) := by decide +kernel
theorem dX10_count_14 : decode cX10_count 14 = .ok (.getfield 84, 3) := by decide +kernel
theorem dX10_count_17 : decode cX10_count 17 = .ok (.iload_n 3, 1) := by decide +kernel
theorem dX10_count_18 : decode cX10_count 18 = .ok (.iaload, 1) := by decide +kernel
theorem dX10_count_19 : decode cX10_count 19 = .ok (.iload_n 1, 1) := by decide +kernel
theorem dX10_count_20 : decode cX10_count 20 = .ok (.if_icmp .ne 7, 3) := by decide +kernel
theorem dX10_count_23 : decode cX10_count 23 = .ok (.iconst 1, 1) := by decide +kernel
theorem dX10_count_24 : decode cX10_count 24 = .ok (.goto 4, 3) := by decide +kernel
theorem dX10_count_27 : decode cX10_count 27 = .ok (.iconst 0, 1) := by decide +kernel
theorem dX10_count_28 : decode cX10_count 28 = .ok (.iadd, 1) := by decide +kernel
theorem dX10_count_29 : decode cX10_count 29 = .ok (.istore_n 2, 1) := by decide +kernel
theorem dX10_count_30 : decode cX10_count 30 = .ok (.iinc 3 1, 3) := by decide +kernel
theorem dX10_count_33 : decode cX10_count 33 = .ok (.goto (-29), 3) := by decide +kernel
theorem dX10_count_36 : decode cX10_count 36 = .ok (.iload_n 2, 1) := by decide +kernel
theorem dX10_count_37 : decode cX10_count 37 = .ok (.ireturn, 1) := by decide +kernel
theorem dX10_inside_0 : decode cX10_inside 0 = .ok (.aload_n 0, 1) := by decide +kernel
theorem dX10_inside_1 : decode cX10_inside 1 = .ok (.iconst 1, 1) := by decide +kernel
theorem dX10_inside_2 : decode cX10_inside 2 = .ok (.invokevirtual 229, 3) := by decide +kernel
theorem dX10_inside_5 : decode cX10_inside 5 = .ok (.aload_n 0, 1) := by decide +kernel
theorem dX10_inside_6 : decode cX10_inside 6 = .ok (.iconst 2, 1) := by decide +kernel
theorem dX10_inside_7 : decode cX10_inside 7 = .ok (.invokevirtual 229, 3) := by decide +kernel
theorem dX10_inside_10 : decode cX10_inside 10 = .ok (.iadd, 1) := by decide +kernel
theorem dX10_inside_11 : decode cX10_inside 11 = .ok (.i2l, 1) := by decide +kernel
theorem dX10_inside_12 : decode cX10_inside 12 = .ok (.lreturn, 1) := by decide +kernel
theorem dX10_jam_0 : decode cX10_jam 0 = .ok (.iload_n 1, 1) := by decide +kernel
theorem dX10_jam_1 : decode cX10_jam 1 = .ok (.ifCond .lt 33, 3) := by decide +kernel
theorem dX10_jam_4 : decode cX10_jam 4 = .ok (.iload_n 1, 1) := by decide +kernel
theorem dX10_jam_5 : decode cX10_jam 5 = .ok (.aload_n 0, 1) := by decide +kernel
theorem dX10_jam_6 : decode cX10_jam 6 = .ok (.getfield 193, 3) := by decide +kernel
theorem dX10_jam_9 : decode cX10_jam 9 = .ok (.if_icmp .ge 25, 3) := by decide +kernel
theorem dX10_jam_12 : decode cX10_jam 12 = .ok (.iload_n 2, 1) := by decide +kernel
theorem dX10_jam_13 : decode cX10_jam 13 = .ok (.ifCond .lt 21, 3) := by decide +kernel
theorem dX10_jam_16 : decode cX10_jam 16 = .ok (.iload_n 2, 1) := by decide +kernel
theorem dX10_jam_17 : decode cX10_jam 17 = .ok (.iconst 4, 1) := by decide +kernel
theorem dX10_jam_18 : decode cX10_jam 18 = .ok (.if_icmp .ge 16, 3) := by decide +kernel
theorem dX10_jam_21 : decode cX10_jam 21 = .ok (.aload_n 0, 1) := by decide +kernel
theorem dX10_jam_22 : decode cX10_jam 22 = .ok (.getfield 99, 3) := by decide +kernel
theorem dX10_jam_25 : decode cX10_jam 25 = .ok (.iconst 4, 1) := by decide +kernel
theorem dX10_jam_26 : decode cX10_jam 26 = .ok (.iload_n 1, 1) := by decide +kernel
theorem dX10_jam_27 : decode cX10_jam 27 = .ok (.imul, 1) := by decide +kernel
theorem dX10_jam_28 : decode cX10_jam 28 = .ok (.iload_n 2, 1) := by decide +kernel
theorem dX10_jam_29 : decode cX10_jam 29 = .ok (.iadd, 1) := by decide +kernel
theorem dX10_jam_30 : decode cX10_jam 30 = .ok (.iaload, 1) := by decide +kernel
theorem dX10_jam_31 : decode cX10_jam 31 = .ok (.goto 4, 3) := by decide +kernel
theorem dX10_jam_34 : decode cX10_jam 34 = .ok (.iconst (-1), 1) := by decide +kernel
theorem dX10_jam_35 : decode cX10_jam 35 = .ok (.ireturn, 1) := by decide +kernel
theorem dX10_lost_0 : decode cX10_lost 0 = .ok (.iload_n 1, 1) := by decide +kernel
theorem dX10_lost_1 : decode cX10_lost 1 = .ok (.ifCond .lt 17, 3) := by decide +kernel
theorem dX10_lost_4 : decode cX10_lost 4 = .ok (.iload_n 1, 1) := by decide +kernel
theorem dX10_lost_5 : decode cX10_lost 5 = .ok (.iconst 4, 1) := by decide +kernel
theorem dX10_lost_6 : decode cX10_lost 6 = .ok (.if_icmp .ge 12, 3) := by decide +kernel
theorem dX10_lost_9 : decode cX10_lost 9 = .ok (.aload_n 0, 1) := by decide +kernel
theorem dX10_lost_10 : decode cX10_lost 10 = .ok (.getfield 102, 3) := by decide +kernel
theorem dX10_lost_13 : decode cX10_lost 13 = .ok (.iload_n 1, 1) := by decide +kernel
theorem dX10_lost_14 : decode cX10_lost 14 = .ok (.laload, 1) := by decide +kernel
theorem dX10_lost_15 : decode cX10_lost 15 = .ok (.goto 6, 3) := by decide +kernel
theorem dX10_lost_18 : decode cX10_lost 18 = .ok (.ldc2_w 227, 3) := by decide +kernel
theorem dX10_lost_21 : decode cX10_lost 21 = .ok (.lreturn, 1) := by decide +kernel
theorem dX10_interval_0 : decode cX10_interval 0 = .ok (.aload_n 0, 1) := by decide +kernel
theorem dX10_interval_1 : decode cX10_interval 1 = .ok (.iload_n 1, 1) := by decide +kernel
theorem dX10_interval_2 : decode cX10_interval 2 = .ok (.iload_n 2, 1) := by decide +kernel
theorem dX10_interval_3 : decode cX10_interval 3 = .ok (.invokevirtual 223, 3) := by decide +kernel
theorem dX10_interval_6 : decode cX10_interval 6 = .ok (.ifCond .eq 26, 3) := by decide +kernel
theorem dX10_interval_9 : decode cX10_interval 9 = .ok (.iload_n 3, 1) := by decide +kernel
theorem dX10_interval_10 : decode cX10_interval 10 = .ok (.ifCond .lt 22, 3) := by decide +kernel
theorem dX10_interval_13 : decode cX10_interval 13 = .ok (.iload_n 3, 1) := by decide +kernel
theorem dX10_interval_14 : decode cX10_interval 14 = .ok (.iconst 1, 1) := by decide +kernel
theorem dX10_interval_15 : decode cX10_interval 15 = .ok (.if_icmp .gt 17, 3) := by decide +kernel
theorem dX10_interval_18 : decode cX10_interval 18 = .ok (.aload_n 0, 1) := by decide +kernel
theorem dX10_interval_19 : decode cX10_interval 19 = .ok (.getfield 106, 3) := by decide +kernel
theorem dX10_interval_22 : decode cX10_interval 22 = .ok (.iconst 5, 1) := by decide +kernel
theorem dX10_interval_23 : decode cX10_interval 23 = .ok (.iload_n 1, 1) := by decide +kernel
theorem dX10_interval_24 : decode cX10_interval 24 = .ok (.imul, 1) := by decide +kernel
theorem dX10_interval_25 : decode cX10_interval 25 = .ok (.iload_n 2, 1) := by decide +kernel
theorem dX10_interval_26 : decode cX10_interval 26 = .ok (.iadd, 1) := by decide +kernel
theorem dX10_interval_27 : decode cX10_interval 27 = .ok (.iaload, 1) := by decide +kernel
theorem dX10_interval_28 : decode cX10_interval 28 = .ok (.iconst 2, 1) := by decide +kernel
theorem dX10_interval_29 : decode cX10_interval 29 = .ok (.if_icmp .ge 7, 3) := by decide +kernel
theorem dX10_interval_32 : decode cX10_interval 32 = .ok (.ldc2_w 232, 3) := by decide +kernel
theorem dX10_interval_35 : decode cX10_interval 35 = .ok (.dreturn, 1) := by decide +kernel
theorem dX10_interval_36 : decode cX10_interval 36 = .ok (.iload_n 3, 1) := by decide +kernel
theorem dX10_interval_37 : decode cX10_interval 37 = .ok (.ifCond .ne 16, 3) := by decide +kernel
theorem dX10_interval_40 : decode cX10_interval 40 = .ok (.aload_n 0, 1) := by decide +kernel
theorem dX10_interval_41 : decode cX10_interval 41 = .ok (.getfield 112, 3) := by decide +kernel
theorem dX10_interval_44 : decode cX10_interval 44 = .ok (.iconst 5, 1) := by decide +kernel
theorem dX10_interval_45 : decode cX10_interval 45 = .ok (.iload_n 1, 1) := by decide +kernel
theorem dX10_interval_46 : decode cX10_interval 46 = .ok (.imul, 1) := by decide +kernel
theorem dX10_interval_47 : decode cX10_interval 47 = .ok (.iload_n 2, 1) := by decide +kernel
theorem dX10_interval_48 : decode cX10_interval 48 = .ok (.iadd, 1) := by decide +kernel
theorem dX10_interval_49 : decode cX10_interval 49 = .ok (.iaload, 1) := by decide +kernel
theorem dX10_interval_50 : decode cX10_interval 50 = .ok (.goto 13, 3) := by decide +kernel
theorem dX10_interval_53 : decode cX10_interval 53 = .ok (.aload_n 0, 1) := by decide +kernel
theorem dX10_interval_54 : decode cX10_interval 54 = .ok (.getfield 115, 3) := by decide +kernel
theorem dX10_interval_57 : decode cX10_interval 57 = .ok (.iconst 5, 1) := by decide +kernel
theorem dX10_interval_58 : decode cX10_interval 58 = .ok (.iload_n 1, 1) := by decide +kernel
theorem dX10_interval_59 : decode cX10_interval 59 = .ok (.imul, 1) := by decide +kernel
theorem dX10_interval_60 : decode cX10_interval 60 = .ok (.iload_n 2, 1) := by decide +kernel
theorem dX10_interval_61 : decode cX10_interval 61 = .ok (.iadd, 1) := by decide +kernel
theorem dX10_interval_62 : decode cX10_interval 62 = .ok (.iaload, 1) := by decide +kernel
theorem dX10_interval_63 : decode cX10_interval 63 = .ok (.i2d, 1) := by decide +kernel
theorem dX10_interval_64 : decode cX10_interval 64 = .ok (.ldc2_w 160, 3) := by decide +kernel
theorem dX10_interval_67 : decode cX10_interval 67 = .ok (.ddiv, 1) := by decide +kernel
theorem dX10_interval_68 : decode cX10_interval 68 = .ok (.dreturn, 1) := by decide +kernel
theorem dX10_same_0 : decode cX10_same 0 = .ok (.iconst 0, 1) := by decide +kernel
theorem dX10_same_1 : decode cX10_same 1 = .ok (.istore_n 1, 1) := by decide +kernel
theorem dX10_same_2 : decode cX10_same 2 = .ok (.iconst 0, 1) := by decide +kernel
theorem dX10_same_3 : decode cX10_same 3 = .ok (.istore_n 2, 1) := by decide +kernel
theorem dX10_same_4 : decode cX10_same 4 = .ok (.iload_n 2, 1) := by decide +kernel
theorem dX10_same_5 : decode cX10_same 5 = .ok (.aload_n 0, 1) := by decide +kernel
theorem dX10_same_6 : decode cX10_same 6 = .ok (.getfield 126, 3) := by decide +kernel
theorem dX10_same_9 : decode cX10_same 9 = .ok (.if_icmp .ge 30, 3) := by decide +kernel
theorem dX10_same_12 : decode cX10_same 12 = .ok (.iload_n 1, 1) := by decide +kernel
theorem dX10_same_13 : decode cX10_same 13 = .ok (.aload_n 0, 1) := by decide +kernel
theorem dX10_same_14 : decode cX10_same 14 = .ok (.getfield 78, 3) := by decide +kernel
theorem dX10_same_17 : decode cX10_same 17 = .ok (.iload_n 2, 1) := by decide +kernel
theorem dX10_same_18 : decode cX10_same 18 = .ok (.iaload, 1) := by decide +kernel
theorem dX10_same_19 : decode cX10_same 19 = .ok (.aload_n 0, 1) := by decide +kernel
theorem dX10_same_20 : decode cX10_same 20 = .ok (.getfield 165, 3) := by decide +kernel
theorem dX10_same_23 : decode cX10_same 23 = .ok (.if_icmp .gt 7, 3) := by decide +kernel
theorem dX10_same_26 : decode cX10_same 26 = .ok (.iconst 1, 1) := by decide +kernel
theorem dX10_same_27 : decode cX10_same 27 = .ok (.goto 4, 3) := by decide +kernel
theorem dX10_same_30 : decode cX10_same 30 = .ok (.iconst 0, 1) := by decide +kernel
theorem dX10_same_31 : decode cX10_same 31 = .ok (.iadd, 1) := by decide +kernel
theorem dX10_same_32 : decode cX10_same 32 = .ok (.istore_n 1, 1) := by decide +kernel
theorem dX10_same_33 : decode cX10_same 33 = .ok (.iinc 2 1, 3) := by decide +kernel
theorem dX10_same_36 : decode cX10_same 36 = .ok (.goto (-32), 3) := by decide +kernel
theorem dX10_same_39 : decode cX10_same 39 = .ok (.iload_n 1, 1) := by decide +kernel
theorem dX10_same_40 : decode cX10_same 40 = .ok (.i2l, 1) := by decide +kernel
theorem dX10_same_41 : decode cX10_same 41 = .ok (.aload_n 0, 1) := by decide +kernel
theorem dX10_same_42 : decode cX10_same 42 = .ok (.invokevirtual 234, 3) := by decide +kernel
theorem dX10_same_45 : decode cX10_same 45 = .ok (.aload_n 0, 1) := by decide +kernel
theorem dX10_same_46 : decode cX10_same 46 = .ok (.iconst 3, 1) := by decide +kernel
theorem dX10_same_47 : decode cX10_same 47 = .ok (.invokevirtual 229, 3) := by decide +kernel
theorem dX10_same_50 : decode cX10_same 50 = .ok (.i2l, 1) := by decide +kernel
theorem dX10_same_51 : decode cX10_same 51 = .ok (.ladd, 1) := by decide +kernel
theorem dX10_same_52 : decode cX10_same 52 = .ok (.aload_n 0, 1) := by decide +kernel
theorem dX10_same_53 : decode cX10_same 53 = .ok (.iconst 4, 1) := by decide +kernel
theorem dX10_same_54 : decode cX10_same 54 = .ok (.invokevirtual 229, 3) := by decide +kernel
theorem dX10_same_57 : decode cX10_same 57 = .ok (.i2l, 1) := by decide +kernel
theorem dX10_same_58 : decode cX10_same 58 = .ok (.ladd, 1) := by decide +kernel
theorem dX10_same_59 : decode cX10_same 59 = .ok (.aload_n 0, 1) := by decide +kernel
theorem dX10_same_60 : decode cX10_same 60 = .ok (.iconst 5, 1) := by decide +kernel
theorem dX10_same_61 : decode cX10_same 61 = .ok (.invokevirtual 229, 3) := by decide +kernel
theorem dX10_same_64 : decode cX10_same 64 = .ok (.i2l, 1) := by decide +kernel
theorem dX10_same_65 : decode cX10_same 65 = .ok (.ladd, 1) := by decide +kernel
theorem dX10_same_66 : decode cX10_same 66 = .ok (.lcmp, 1) := by decide +kernel
theorem dX10_same_67 : decode cX10_same 67 = .ok (.ifCond .ne 7, 3) := by decide +kernel
theorem dX10_same_70 : decode cX10_same 70 = .ok (.iconst 1, 1) := by decide +kernel
theorem dX10_same_71 : decode cX10_same 71 = .ok (.goto 4, 3) := by decide +kernel
theorem dX10_same_74 : decode cX10_same 74 = .ok (.iconst 0, 1) := by decide +kernel
theorem dX10_same_75 : decode cX10_same 75 = .ok (.ireturn, 1) := by decide +kernel
theorem dX10_pieceKind_0 : decode cX10_pieceKind 0 = .ok (.lload_n 1, 1) := by decide +kernel
theorem dX10_pieceKind_1 : decode cX10_pieceKind 1 = .ok (.lconst 0, 1) := by decide +kernel
theorem dX10_pieceKind_2 : decode cX10_pieceKind 2 = .ok (.lcmp, 1) := by decide +kernel
theorem dX10_pieceKind_3 : decode cX10_pieceKind 3 = .ok (.ifCond .lt 23, 3) := by decide +kernel
theorem dX10_pieceKind_6 : decode cX10_pieceKind 6 = .ok (.lload_n 1, 1) := by decide +kernel
theorem dX10_pieceKind_7 : decode cX10_pieceKind 7 = .ok (.aload_n 0, 1) := by decide +kernel
theorem dX10_pieceKind_8 : decode cX10_pieceKind 8 = .ok (.getfield 126, 3) := by decide +kernel
theorem dX10_pieceKind_11 : decode cX10_pieceKind 11 = .ok (.i2l, 1) := by decide +kernel
theorem dX10_pieceKind_12 : decode cX10_pieceKind 12 = .ok (.lcmp, 1) := by decide +kernel
theorem dX10_pieceKind_13 : decode cX10_pieceKind 13 = .ok (.ifCond .ge 13, 3) := by decide +kernel
theorem dX10_pieceKind_16 : decode cX10_pieceKind 16 = .ok (.aload_n 0, 1) := by decide +kernel
theorem dX10_pieceKind_17 : decode cX10_pieceKind 17 = .ok (.getfield 72, 3) := by decide +kernel
theorem dX10_pieceKind_20 : decode cX10_pieceKind 20 = .ok (.lload_n 1, 1) := by decide +kernel
theorem dX10_pieceKind_21 : decode cX10_pieceKind 21 = .ok (.l2i, 1) := by decide +kernel
theorem dX10_pieceKind_22 : decode cX10_pieceKind 22 = .ok (.iaload, 1) := by decide +kernel
theorem dX10_pieceKind_23 : decode cX10_pieceKind 23 = .ok (.goto 4, 3) := by decide +kernel
theorem dX10_pieceKind_26 : decode cX10_pieceKind 26 = .ok (.iconst (-1), 1) := by decide +kernel
theorem dX10_pieceKind_27 : decode cX10_pieceKind 27 = .ok (.ireturn, 1) := by decide +kernel
