theorem dM_init_0 : decode cM_init 0 = .ok (.aload_n 0, 1) := by decide +kernel
theorem dM_init_1 : decode cM_init 1 = .ok (.invokespecial 1, 3) := by decide +kernel
theorem dM_init_4 : decode cM_init 4 = .ok (.aload_n 0, 1) := by decide +kernel
theorem dM_init_5 : decode cM_init 5 = .ok (.bipush 6, 2) := by decide +kernel
theorem dM_init_7 : decode cM_init 7 = .ok (.newarray .int, 2) := by decide +kernel
theorem dM_init_9 : decode cM_init 9 = .ok (.putfield 7, 3) := by decide +kernel
theorem dM_init_12 : decode cM_init 12 = .ok (.aload_n 0, 1) := by decide +kernel
theorem dM_init_13 : decode cM_init 13 = .ok (.bipush 32, 2) := by decide +kernel
theorem dM_init_15 : decode cM_init 15 = .ok (.newarray .int, 2) := by decide +kernel
theorem dM_init_17 : decode cM_init 17 = .ok (.putfield 13, 3) := by decide +kernel
theorem dM_init_20 : decode cM_init 20 = .ok (.aload_n 0, 1) := by decide +kernel
theorem dM_init_21 : decode cM_init 21 = .ok (.bipush 32, 2) := by decide +kernel
theorem dM_init_23 : decode cM_init 23 = .ok (.newarray .int, 2) := by decide +kernel
theorem dM_init_25 : decode cM_init 25 = .ok (.putfield 16, 3) := by decide +kernel
theorem dM_init_28 : decode cM_init 28 = .ok (.aload_n 0, 1) := by decide +kernel
theorem dM_init_29 : decode cM_init 29 = .ok (.bipush 32, 2) := by decide +kernel
theorem dM_init_31 : decode cM_init 31 = .ok (.newarray .int, 2) := by decide +kernel
theorem dM_init_33 : decode cM_init 33 = .ok (.putfield 19, 3) := by decide +kernel
theorem dM_init_36 : decode cM_init 36 = .ok (.aload_n 0, 1) := by decide +kernel
theorem dM_init_37 : decode cM_init 37 = .ok (.bipush 32, 2) := by decide +kernel
theorem dM_init_39 : decode cM_init 39 = .ok (.newarray .int, 2) := by decide +kernel
theorem dM_init_41 : decode cM_init 41 = .ok (.putfield 22, 3) := by decide +kernel
theorem dM_init_44 : decode cM_init 44 = .ok (.aload_n 0, 1) := by decide +kernel
theorem dM_init_45 : decode cM_init 45 = .ok (.bipush 32, 2) := by decide +kernel
theorem dM_init_47 : decode cM_init 47 = .ok (.newarray .int, 2) := by decide +kernel
theorem dM_init_49 : decode cM_init 49 = .ok (.putfield 25, 3) := by decide +kernel
theorem dM_init_52 : decode cM_init 52 = .ok (.aload_n 0, 1) := by decide +kernel
theorem dM_init_53 : decode cM_init 53 = .ok (.bipush 32, 2) := by decide +kernel
theorem dM_init_55 : decode cM_init 55 = .ok (.newarray .int, 2) := by decide +kernel
theorem dM_init_57 : decode cM_init 57 = .ok (.putfield 28, 3) := by decide +kernel
theorem dM_init_60 : decode cM_init 60 = .ok (.aload_n 0, 1) := by decide +kernel
theorem dM_init_61 : decode cM_init 61 = .ok (.bipush 32, 2) := by decide +kernel
theorem dM_init_63 : decode cM_init 63 = .ok (.newarray .int, 2) := by decide +kernel
theorem dM_init_65 : decode cM_init 65 = .ok (.putfield 31, 3) := by decide +kernel
theorem dM_init_68 : decode cM_init 68 = .ok (.aload_n 0, 1) := by decide +kernel
theorem dM_init_69 : decode cM_init 69 = .ok (.bipush 32, 2) := by decide +kernel
theorem dM_init_71 : decode cM_init 71 = .ok (.newarray .int, 2) := by decide +kernel
theorem dM_init_73 : decode cM_init 73 = .ok (.putfield 34, 3) := by decide +kernel
theorem dM_init_76 : decode cM_init 76 = .ok (.aload_n 0, 1) := by decide +kernel
theorem dM_init_77 : decode cM_init 77 = .ok (.bipush 32, 2) := by decide +kernel
theorem dM_init_79 : decode cM_init 79 = .ok (.newarray .int, 2) := by decide +kernel
theorem dM_init_81 : decode cM_init 81 = .ok (.putfield 37, 3) := by decide +kernel
theorem dM_init_84 : decode cM_init 84 = .ok (.aload_n 0, 1) := by decide +kernel
theorem dM_init_85 : decode cM_init 85 = .ok (.bipush 32, 2) := by decide +kernel
theorem dM_init_87 : decode cM_init 87 = .ok (.newarray .int, 2) := by decide +kernel
theorem dM_init_89 : decode cM_init 89 = .ok (.putfield 40, 3) := by decide +kernel
theorem dM_init_92 : decode cM_init 92 = .ok (.aload_n 0, 1) := by decide +kernel
theorem dM_init_93 : decode cM_init 93 = .ok (.bipush 32, 2) := by decide +kernel
theorem dM_init_95 : decode cM_init 95 = .ok (.newarray .int, 2) := by decide +kernel
theorem dM_init_97 : decode cM_init 97 = .ok (.putfield 43, 3) := by decide +kernel
theorem dM_init_100 : decode cM_init 100 = .ok (.aload_n 0, 1) := by decide +kernel
theorem dM_init_101 : decode cM_init 101 = .ok (.bipush 32, 2) := by decide +kernel
theorem dM_init_103 : decode cM_init 103 = .ok (.newarray .int, 2) := by decide +kernel
theorem dM_init_105 : decode cM_init 105 = .ok (.putfield 46, 3) := by decide +kernel
theorem dM_init_108 : decode cM_init 108 = .ok (.aload_n 0, 1) := by decide +kernel
theorem dM_init_109 : decode cM_init 109 = .ok (.bipush 32, 2) := by decide +kernel
theorem dM_init_111 : decode cM_init 111 = .ok (.newarray .int, 2) := by decide +kernel
theorem dM_init_113 : decode cM_init 113 = .ok (.putfield 49, 3) := by decide +kernel
theorem dM_init_116 : decode cM_init 116 = .ok (.aload_n 0, 1) := by decide +kernel
theorem dM_init_117 : decode cM_init 117 = .ok (.bipush 32, 2) := by decide +kernel
theorem dM_init_119 : decode cM_init 119 = .ok (.newarray .int, 2) := by decide +kernel
theorem dM_init_121 : decode cM_init 121 = .ok (.putfield 52, 3) := by decide +kernel
theorem dM_init_124 : decode cM_init 124 = .ok (.aload_n 0, 1) := by decide +kernel
theorem dM_init_125 : decode cM_init 125 = .ok (.bipush 32, 2) := by decide +kernel
theorem dM_init_127 : decode cM_init 127 = .ok (.newarray .int, 2) := by decide +kernel
theorem dM_init_129 : decode cM_init 129 = .ok (.putfield 55, 3) := by decide +kernel
theorem dM_init_132 : decode cM_init 132 = .ok (.aload_n 0, 1) := by decide +kernel
theorem dM_init_133 : decode cM_init 133 = .ok (.sipush 192, 3) := by decide +kernel
theorem dM_init_136 : decode cM_init 136 = .ok (.newarray .boolean, 2) := by decide +kernel
theorem dM_init_138 : decode cM_init 138 = .ok (.putfield 58, 3) := by decide +kernel
theorem dM_init_141 : decode cM_init 141 = .ok (.aload_n 0, 1) := by decide +kernel
theorem dM_init_142 : decode cM_init 142 = .ok (.sipush 192, 3) := by decide +kernel
theorem dM_init_145 : decode cM_init 145 = .ok (.newarray .int, 2) := by decide +kernel
theorem dM_init_147 : decode cM_init 147 = .ok (.putfield 62, 3) := by decide +kernel
theorem dM_init_150 : decode cM_init 150 = .ok (.aload_n 0, 1) := by decide +kernel
theorem dM_init_151 : decode cM_init 151 = .ok (.sipush 192, 3) := by decide +kernel
theorem dM_init_154 : decode cM_init 154 = .ok (.newarray .int, 2) := by decide +kernel
theorem dM_init_156 : decode cM_init 156 = .ok (.putfield 65, 3) := by decide +kernel
theorem dM_init_159 : decode cM_init 159 = .ok (.aload_n 0, 1) := by decide +kernel
theorem dM_init_160 : decode cM_init 160 = .ok (.sipush 192, 3) := by decide +kernel
theorem dM_init_163 : decode cM_init 163 = .ok (.newarray .int, 2) := by decide +kernel
theorem dM_init_165 : decode cM_init 165 = .ok (.putfield 68, 3) := by decide +kernel
theorem dM_init_168 : decode cM_init 168 = .ok (.aload_n 0, 1) := by decide +kernel
theorem dM_init_169 : decode cM_init 169 = .ok (.sipush 192, 3) := by decide +kernel
theorem dM_init_172 : decode cM_init 172 = .ok (.newarray .int, 2) := by decide +kernel
theorem dM_init_174 : decode cM_init 174 = .ok (.putfield 71, 3) := by decide +kernel
theorem dM_init_177 : decode cM_init 177 = .ok (.aload_n 0, 1) := by decide +kernel
theorem dM_init_178 : decode cM_init 178 = .ok (.sipush 192, 3) := by decide +kernel
theorem dM_init_181 : decode cM_init 181 = .ok (.newarray .int, 2) := by decide +kernel
theorem dM_init_183 : decode cM_init 183 = .ok (.putfield 74, 3) := by decide +kernel
theorem dM_init_186 : decode cM_init 186 = .ok (.aload_n 0, 1) := by decide +kernel
theorem dM_init_187 : decode cM_init 187 = .ok (.sipush 192, 3) := by decide +kernel
theorem dM_init_190 : decode cM_init 190 = .ok (.newarray .int, 2) := by decide +kernel
theorem dM_init_192 : decode cM_init 192 = .ok (.putfield 77, 3) := by decide +kernel
theorem dM_init_195 : decode cM_init 195 = .ok (.aload_n 0, 1) := by decide +kernel
theorem dM_init_196 : decode cM_init 196 = .ok (.sipush 384, 3) := by decide +kernel
theorem dM_init_199 : decode cM_init 199 = .ok (.newarray .int, 2) := by decide +kernel
theorem dM_init_201 : decode cM_init 201 = .ok (.putfield 80, 3) := by decide +kernel
theorem dM_init_204 : decode cM_init 204 = .ok (.aload_n 0, 1) := by decide +kernel
theorem dM_init_205 : decode cM_init 205 = .ok (.sipush 384, 3) := by decide +kernel
theorem dM_init_208 : decode cM_init 208 = .ok (.newarray .int, 2) := by decide +kernel
theorem dM_init_210 : decode cM_init 210 = .ok (.putfield 83, 3) := by decide +kernel
theorem dM_init_213 : decode cM_init 213 = .ok (.aload_n 0, 1) := by decide +kernel
theorem dM_init_214 : decode cM_init 214 = .ok (.sipush 384, 3) := by decide +kernel
theorem dM_init_217 : decode cM_init 217 = .ok (.newarray .int, 2) := by decide +kernel
theorem dM_init_219 : decode cM_init 219 = .ok (.putfield 86, 3) := by decide +kernel
theorem dM_init_222 : decode cM_init 222 = .ok (.aload_n 0, 1) := by decide +kernel
theorem dM_init_223 : decode cM_init 223 = .ok (.sipush 3000, 3) := by decide +kernel
theorem dM_init_226 : decode cM_init 226 = .ok (.newarray .int, 2) := by decide +kernel
theorem dM_init_228 : decode cM_init 228 = .ok (.putfield 89, 3) := by decide +kernel
theorem dM_init_231 : decode cM_init 231 = .ok (.aload_n 0, 1) := by decide +kernel
theorem dM_init_232 : decode cM_init 232 = .ok (.sipush 3000, 3) := by decide +kernel
theorem dM_init_235 : decode cM_init 235 = .ok (.newarray .int, 2) := by decide +kernel
theorem dM_init_237 : decode cM_init 237 = .ok (.putfield 92, 3) := by decide +kernel
theorem dM_init_240 : decode cM_init 240 = .ok (.aload_n 0, 1) := by decide +kernel
theorem dM_init_241 : decode cM_init 241 = .ok (.sipush 3000, 3) := by decide +kernel
theorem dM_init_244 : decode cM_init 244 = .ok (.newarray .int, 2) := by decide +kernel
theorem dM_init_246 : decode cM_init 246 = .ok (.putfield 95, 3) := by decide +kernel
theorem dM_init_249 : decode cM_init 249 = .ok (.aload_n 0, 1) := by decide +kernel
theorem dM_init_250 : decode cM_init 250 = .ok (.sipush 3000, 3) := by decide +kernel
theorem dM_init_253 : decode cM_init 253 = .ok (.newarray .int, 2) := by decide +kernel
theorem dM_init_255 : decode cM_init 255 = .ok (.putfield 98, 3) := by decide +kernel
theorem dM_init_258 : decode cM_init 258 = .ok (.aload_n 0, 1) := by decide +kernel
theorem dM_init_259 : decode cM_init 259 = .ok (.sipush 3000, 3) := by decide +kernel
theorem dM_init_262 : decode cM_init 262 = .ok (.newarray .boolean, 2) := by decide +kernel
theorem dM_init_264 : decode cM_init 264 = .ok (.putfield 101, 3) := by decide +kernel
theorem dM_init_267 : decode cM_init 267 = .ok (.aload_n 0, 1) := by decide +kernel
theorem dM_init_268 : decode cM_init 268 = .ok (.bipush 64, 2) := by decide +kernel
theorem dM_init_270 : decode cM_init 270 = .ok (.newarray .int, 2) := by decide +kernel
theorem dM_init_272 : decode cM_init 272 = .ok (.putfield 104, 3) := by decide +kernel
theorem dM_init_275 : decode cM_init 275 = .ok (.aload_n 0, 1) := by decide +kernel
theorem dM_init_276 : decode cM_init 276 = .ok (.bipush 64, 2) := by decide +kernel
theorem dM_init_278 : decode cM_init 278 = .ok (.newarray .int, 2) := by decide +kernel
theorem dM_init_280 : decode cM_init 280 = .ok (.putfield 107, 3) := by decide +kernel
theorem dM_init_283 : decode cM_init 283 = .ok (.aload_n 0, 1) := by decide +kernel
theorem dM_init_284 : decode cM_init 284 = .ok (.bipush 64, 2) := by decide +kernel
theorem dM_init_286 : decode cM_init 286 = .ok (.newarray .int, 2) := by decide +kernel
theorem dM_init_288 : decode cM_init 288 = .ok (.putfield 110, 3) := by decide +kernel
theorem dM_init_291 : decode cM_init 291 = .ok (.return_, 1) := by decide +kernel
theorem dM_thrown_0 : decode cM_thrown 0 = .ok (.aload_n 0, 1) := by decide +kernel
theorem dM_thrown_1 : decode cM_thrown 1 = .ok (.getfield 113, 3) := by decide +kernel
theorem dM_thrown_4 : decode cM_thrown 4 = .ok (.ireturn, 1) := by decide +kernel
theorem dM_refuses_0 : decode cM_refuses 0 = .ok (.aload_n 0, 1) := by decide +kernel
theorem dM_refuses_1 : decode cM_refuses 1 = .ok (.iload_n 1, 1) := by decide +kernel
theorem dM_refuses_2 : decode cM_refuses 2 = .ok (.ifCond .eq 7, 3) := by decide +kernel
theorem dM_refuses_5 : decode cM_refuses 5 = .ok (.iconst 1, 1) := by decide +kernel
theorem dM_refuses_6 : decode cM_refuses 6 = .ok (.goto 12, 3) := by decide +kernel
theorem dM_refuses_9 : decode cM_refuses 9 = .ok (.iload_n 2, 1) := by decide +kernel
theorem dM_refuses_10 : decode cM_refuses 10 = .ok (.ifCond .eq 7, 3) := by decide +kernel
theorem dM_refuses_13 : decode cM_refuses 13 = .ok (.iconst 2, 1) := by decide +kernel
theorem dM_refuses_14 : decode cM_refuses 14 = .ok (.goto 4, 3) := by decide +kernel
theorem dM_refuses_17 : decode cM_refuses 17 = .ok (.iconst 0, 1) := by decide +kernel
theorem dM_refuses_18 : decode cM_refuses 18 = .ok (.putfield 113, 3) := by decide +kernel
theorem dM_refuses_21 : decode cM_refuses 21 = .ok (.aload_n 0, 1) := by decide +kernel
theorem dM_refuses_22 : decode cM_refuses 22 = .ok (.getfield 113, 3) := by decide +kernel
theorem dM_refuses_25 : decode cM_refuses 25 = .ok (.ifCond .le 7, 3) := by decide +kernel
theorem dM_refuses_28 : decode cM_refuses 28 = .ok (.iconst 1, 1) := by decide +kernel
theorem dM_refuses_29 : decode cM_refuses 29 = .ok (.goto 4, 3) := by decide +kernel
theorem dM_refuses_32 : decode cM_refuses 32 = .ok (.iconst 0, 1) := by decide +kernel
theorem dM_refuses_33 : decode cM_refuses 33 = .ok (.ireturn, 1) := by decide +kernel
theorem dM_isLibrary_0 : decode cM_isLibrary 0 = .ok (.iload_n 0, 1) := by decide +kernel
theorem dM_isLibrary_1 : decode cM_isLibrary 1 = .ok (.ifCond .lt 13, 3) := by decide +kernel
theorem dM_isLibrary_4 : decode cM_isLibrary 4 = .ok (.iload_n 0, 1) := by decide +kernel
theorem dM_isLibrary_5 : decode cM_isLibrary 5 = .ok (.bipush 6, 2) := by decide +kernel
theorem dM_isLibrary_7 : decode cM_isLibrary 7 = .ok (.if_icmp .ge 7, 3) := by decide +kernel
theorem dM_isLibrary_10 : decode cM_isLibrary 10 = .ok (.iconst 1, 1) := by decide +kernel
theorem dM_isLibrary_11 : decode cM_isLibrary 11 = .ok (.goto 4, 3) := by decide +kernel
theorem dM_isLibrary_14 : decode cM_isLibrary 14 = .ok (.iconst 0, 1) := by decide +kernel
theorem dM_isLibrary_15 : decode cM_isLibrary 15 = .ok (.ireturn, 1) := by decide +kernel
theorem dM_isTitle_0 : decode cM_isTitle 0 = .ok (.iload_n 0, 1) := by decide +kernel
theorem dM_isTitle_1 : decode cM_isTitle 1 = .ok (.ifCond .lt 13, 3) := by decide +kernel
theorem dM_isTitle_4 : decode cM_isTitle 4 = .ok (.iload_n 0, 1) := by decide +kernel
theorem dM_isTitle_5 : decode cM_isTitle 5 = .ok (.bipush 8, 2) := by decide +kernel
theorem dM_isTitle_7 : decode cM_isTitle 7 = .ok (.if_icmp .ge 7, 3) := by decide +kernel
theorem dM_isTitle_10 : decode cM_isTitle 10 = .ok (.iconst 1, 1) := by decide +kernel
theorem dM_isTitle_11 : decode cM_isTitle 11 = .ok (.goto 4, 3) := by decide +kernel
theorem dM_isTitle_14 : decode cM_isTitle 14 = .ok (.iconst 0, 1) := by decide +kernel
theorem dM_isTitle_15 : decode cM_isTitle 15 = .ok (.ireturn, 1) := by decide +kernel
theorem dM_isLoan_0 : decode cM_isLoan 0 = .ok (.iload_n 1, 1) := by decide +kernel
theorem dM_isLoan_1 : decode cM_isLoan 1 = .ok (.ifCond .lt 15, 3) := by decide +kernel
theorem dM_isLoan_4 : decode cM_isLoan 4 = .ok (.iload_n 1, 1) := by decide +kernel
theorem dM_isLoan_5 : decode cM_isLoan 5 = .ok (.aload_n 0, 1) := by decide +kernel
theorem dM_isLoan_6 : decode cM_isLoan 6 = .ok (.getfield 117, 3) := by decide +kernel
theorem dM_isLoan_9 : decode cM_isLoan 9 = .ok (.if_icmp .ge 7, 3) := by decide +kernel
theorem dM_isLoan_12 : decode cM_isLoan 12 = .ok (.iconst 1, 1) := by decide +kernel
theorem dM_isLoan_13 : decode cM_isLoan 13 = .ok (.goto 4, 3) := by decide +kernel
theorem dM_isLoan_16 : decode cM_isLoan 16 = .ok (.iconst 0, 1) := by decide +kernel
theorem dM_isLoan_17 : decode cM_isLoan 17 = .ok (.ireturn, 1) := by decide +kernel
theorem dM_lay_0 : decode cM_lay 0 = .ok (.aload_n 0, 1) := by decide +kernel
theorem dM_lay_1 : decode cM_lay 1 = .ok (.getfield 120, 3) := by decide +kernel
theorem dM_lay_4 : decode cM_lay 4 = .ok (.bipush 64, 2) := by decide +kernel
theorem dM_lay_6 : decode cM_lay 6 = .ok (.if_icmp .ne 8, 3) := by decide +kernel
theorem dM_lay_9 : decode cM_lay 9 = .ok (.aload_n 0, 1) := by decide +kernel
theorem dM_lay_10 : decode cM_lay 10 = .ok (.iconst 0, 1) := by decide +kernel
theorem dM_lay_11 : decode cM_lay 11 = .ok (.invokevirtual 123, 3) := by decide +kernel
theorem dM_lay_14 : decode cM_lay 14 = .ok (.aload_n 0, 1) := by decide +kernel
theorem dM_lay_15 : decode cM_lay 15 = .ok (.getfield 104, 3) := by decide +kernel
theorem dM_lay_18 : decode cM_lay 18 = .ok (.aload_n 0, 1) := by decide +kernel
theorem dM_lay_19 : decode cM_lay 19 = .ok (.getfield 120, 3) := by decide +kernel
theorem dM_lay_22 : decode cM_lay 22 = .ok (.iload_n 1, 1) := by decide +kernel
theorem dM_lay_23 : decode cM_lay 23 = .ok (.iastore, 1) := by decide +kernel
theorem dM_lay_24 : decode cM_lay 24 = .ok (.aload_n 0, 1) := by decide +kernel
theorem dM_lay_25 : decode cM_lay 25 = .ok (.getfield 107, 3) := by decide +kernel
theorem dM_lay_28 : decode cM_lay 28 = .ok (.aload_n 0, 1) := by decide +kernel
theorem dM_lay_29 : decode cM_lay 29 = .ok (.getfield 120, 3) := by decide +kernel
theorem dM_lay_32 : decode cM_lay 32 = .ok (.iload_n 2, 1) := by decide +kernel
theorem dM_lay_33 : decode cM_lay 33 = .ok (.iastore, 1) := by decide +kernel
theorem dM_lay_34 : decode cM_lay 34 = .ok (.aload_n 0, 1) := by decide +kernel
theorem dM_lay_35 : decode cM_lay 35 = .ok (.getfield 110, 3) := by decide +kernel
theorem dM_lay_38 : decode cM_lay 38 = .ok (.aload_n 0, 1) := by decide +kernel
theorem dM_lay_39 : decode cM_lay 39 = .ok (.getfield 120, 3) := by decide +kernel
theorem dM_lay_42 : decode cM_lay 42 = .ok (.aload_n 0, 1) := by decide +kernel
theorem dM_lay_43 : decode cM_lay 43 = .ok (.getfield 83, 3) := by decide +kernel
theorem dM_lay_46 : decode cM_lay 46 = .ok (.iload_n 2, 1) := by decide +kernel
theorem dM_lay_47 : decode cM_lay 47 = .ok (.iaload, 1) := by decide +kernel
theorem dM_lay_48 : decode cM_lay 48 = .ok (.iastore, 1) := by decide +kernel
theorem dM_lay_49 : decode cM_lay 49 = .ok (.aload_n 0, 1) := by decide +kernel
theorem dM_lay_50 : decode cM_lay 50 = .ok (.dup, 1) := by decide +kernel
theorem dM_lay_51 : decode cM_lay 51 = .ok (.getfield 120, 3) := by decide +kernel
theorem dM_lay_54 : decode cM_lay 54 = .ok (.iconst 1, 1) := by decide +kernel
theorem dM_lay_55 : decode cM_lay 55 = .ok (.iadd, 1) := by decide +kernel
theorem dM_lay_56 : decode cM_lay 56 = .ok (.putfield 120, 3) := by decide +kernel
theorem dM_lay_59 : decode cM_lay 59 = .ok (.return_, 1) := by decide +kernel
theorem dM_takeOut_0 : decode cM_takeOut 0 = .ok (.aload_n 0, 1) := by decide +kernel
theorem dM_takeOut_1 : decode cM_takeOut 1 = .ok (.dup, 1) := by decide +kernel
theorem dM_takeOut_2 : decode cM_takeOut 2 = .ok (.getfield 120, 3) := by decide +kernel
theorem dM_takeOut_5 : decode cM_takeOut 5 = .ok (.iconst 1, 1) := by decide +kernel
theorem dM_takeOut_6 : decode cM_takeOut 6 = .ok (.isub, 1) := by decide +kernel
theorem dM_takeOut_7 : decode cM_takeOut 7 = .ok (.putfield 120, 3) := by decide +kernel
theorem dM_takeOut_10 : decode cM_takeOut 10 = .ok (.iload_n 1, 1) := by decide +kernel
theorem dM_takeOut_11 : decode cM_takeOut 11 = .ok (.istore_n 2, 1) := by decide +kernel
theorem dM_takeOut_12 : decode cM_takeOut 12 = .ok (.iload_n 2, 1) := by decide +kernel
theorem dM_takeOut_13 : decode cM_takeOut 13 = .ok (.aload_n 0, 1) := by decide +kernel
theorem dM_takeOut_14 : decode cM_takeOut 14 = .ok (.getfield 120, 3) := by decide +kernel
theorem dM_takeOut_17 : decode cM_takeOut 17 = .ok (.if_icmp .ge 51, 3) := by decide +kernel
theorem dM_takeOut_20 : decode cM_takeOut 20 = .ok (.aload_n 0, 1) := by decide +kernel
theorem dM_takeOut_21 : decode cM_takeOut 21 = .ok (.getfield 104, 3) := by decide +kernel
theorem dM_takeOut_24 : decode cM_takeOut 24 = .ok (.iload_n 2, 1) := by decide +kernel
theorem dM_takeOut_25 : decode cM_takeOut 25 = .ok (.aload_n 0, 1) := by decide +kernel
theorem dM_takeOut_26 : decode cM_takeOut 26 = .ok (.getfield 104, 3) := by decide +kernel
theorem dM_takeOut_29 : decode cM_takeOut 29 = .ok (.iload_n 2, 1) := by decide +kernel
theorem dM_takeOut_30 : decode cM_takeOut 30 = .ok (.iconst 1, 1) := by decide +kernel
theorem dM_takeOut_31 : decode cM_takeOut 31 = .ok (.iadd, 1) := by decide +kernel
theorem dM_takeOut_32 : decode cM_takeOut 32 = .ok (.iaload, 1) := by decide +kernel
theorem dM_takeOut_33 : decode cM_takeOut 33 = .ok (.iastore, 1) := by decide +kernel
theorem dM_takeOut_34 : decode cM_takeOut 34 = .ok (.aload_n 0, 1) := by decide +kernel
theorem dM_takeOut_35 : decode cM_takeOut 35 = .ok (.getfield 107, 3) := by decide +kernel
theorem dM_takeOut_38 : decode cM_takeOut 38 = .ok (.iload_n 2, 1) := by decide +kernel
theorem dM_takeOut_39 : decode cM_takeOut 39 = .ok (.aload_n 0, 1) := by decide +kernel
theorem dM_takeOut_40 : decode cM_takeOut 40 = .ok (.getfield 107, 3) := by decide +kernel
theorem dM_takeOut_43 : decode cM_takeOut 43 = .ok (.iload_n 2, 1) := by decide +kernel
theorem dM_takeOut_44 : decode cM_takeOut 44 = .ok (.iconst 1, 1) := by decide +kernel
theorem dM_takeOut_45 : decode cM_takeOut 45 = .ok (.iadd, 1) := by decide +kernel
theorem dM_takeOut_46 : decode cM_takeOut 46 = .ok (.iaload, 1) := by decide +kernel
theorem dM_takeOut_47 : decode cM_takeOut 47 = .ok (.iastore, 1) := by decide +kernel
theorem dM_takeOut_48 : decode cM_takeOut 48 = .ok (.aload_n 0, 1) := by decide +kernel
theorem dM_takeOut_49 : decode cM_takeOut 49 = .ok (.getfield 110, 3) := by decide +kernel
theorem dM_takeOut_52 : decode cM_takeOut 52 = .ok (.iload_n 2, 1) := by decide +kernel
theorem dM_takeOut_53 : decode cM_takeOut 53 = .ok (.aload_n 0, 1) := by decide +kernel
theorem dM_takeOut_54 : decode cM_takeOut 54 = .ok (.getfield 110, 3) := by decide +kernel
theorem dM_takeOut_57 : decode cM_takeOut 57 = .ok (.iload_n 2, 1) := by decide +kernel
theorem dM_takeOut_58 : decode cM_takeOut 58 = .ok (.iconst 1, 1) := by decide +kernel
theorem dM_takeOut_59 : decode cM_takeOut 59 = .ok (.iadd, 1) := by decide +kernel
theorem dM_takeOut_60 : decode cM_takeOut 60 = .ok (.iaload, 1) := by decide +kernel
theorem dM_takeOut_61 : decode cM_takeOut 61 = .ok (.iastore, 1) := by decide +kernel
theorem dM_takeOut_62 : decode cM_takeOut 62 = .ok (.iinc 2 1, 3) := by decide +kernel
theorem dM_takeOut_65 : decode cM_takeOut 65 = .ok (.goto (-53), 3) := by decide +kernel
theorem dM_takeOut_68 : decode cM_takeOut 68 = .ok (.return_, 1) := by decide +kernel
theorem dM_write_0 : decode cM_write 0 = .ok (.aload_n 0, 1) := by decide +kernel
theorem dM_write_1 : decode cM_write 1 = .ok (.getfield 80, 3) := by decide +kernel
theorem dM_write_4 : decode cM_write 4 = .ok (.iload_n 1, 1) := by decide +kernel
theorem dM_write_5 : decode cM_write 5 = .ok (.dup2, 1) := by decide +kernel
theorem dM_write_6 : decode cM_write 6 = .ok (.iaload, 1) := by decide +kernel
theorem dM_write_7 : decode cM_write 7 = .ok (.iconst 1, 1) := by decide +kernel
theorem dM_write_8 : decode cM_write 8 = .ok (.iadd, 1) := by decide +kernel
theorem dM_write_9 : decode cM_write 9 = .ok (.iastore, 1) := by decide +kernel
theorem dM_write_10 : decode cM_write 10 = .ok (.aload_n 0, 1) := by decide +kernel
theorem dM_write_11 : decode cM_write 11 = .ok (.getfield 89, 3) := by decide +kernel
theorem dM_write_14 : decode cM_write 14 = .ok (.aload_n 0, 1) := by decide +kernel
theorem dM_write_15 : decode cM_write 15 = .ok (.getfield 127, 3) := by decide +kernel
theorem dM_write_18 : decode cM_write 18 = .ok (.iload_n 1, 1) := by decide +kernel
theorem dM_write_19 : decode cM_write 19 = .ok (.iastore, 1) := by decide +kernel
theorem dM_write_20 : decode cM_write 20 = .ok (.aload_n 0, 1) := by decide +kernel
theorem dM_write_21 : decode cM_write 21 = .ok (.getfield 92, 3) := by decide +kernel
theorem dM_write_24 : decode cM_write 24 = .ok (.aload_n 0, 1) := by decide +kernel
theorem dM_write_25 : decode cM_write 25 = .ok (.getfield 127, 3) := by decide +kernel
theorem dM_write_28 : decode cM_write 28 = .ok (.aload_n 0, 1) := by decide +kernel
theorem dM_write_29 : decode cM_write 29 = .ok (.getfield 80, 3) := by decide +kernel
theorem dM_write_32 : decode cM_write 32 = .ok (.iload_n 1, 1) := by decide +kernel
theorem dM_write_33 : decode cM_write 33 = .ok (.iaload, 1) := by decide +kernel
theorem dM_write_34 : decode cM_write 34 = .ok (.iastore, 1) := by decide +kernel
theorem dM_write_35 : decode cM_write 35 = .ok (.aload_n 0, 1) := by decide +kernel
theorem dM_write_36 : decode cM_write 36 = .ok (.getfield 95, 3) := by decide +kernel
theorem dM_write_39 : decode cM_write 39 = .ok (.aload_n 0, 1) := by decide +kernel
theorem dM_write_40 : decode cM_write 40 = .ok (.getfield 127, 3) := by decide +kernel
theorem dM_write_43 : decode cM_write 43 = .ok (.iload_n 2, 1) := by decide +kernel
theorem dM_write_44 : decode cM_write 44 = .ok (.iastore, 1) := by decide +kernel
theorem dM_write_45 : decode cM_write 45 = .ok (.aload_n 0, 1) := by decide +kernel
theorem dM_write_46 : decode cM_write 46 = .ok (.getfield 98, 3) := by decide +kernel
theorem dM_write_49 : decode cM_write 49 = .ok (.aload_n 0, 1) := by decide +kernel
theorem dM_write_50 : decode cM_write 50 = .ok (.getfield 127, 3) := by decide +kernel
theorem dM_write_53 : decode cM_write 53 = .ok (.iload_n 3, 1) := by decide +kernel
theorem dM_write_54 : decode cM_write 54 = .ok (.iastore, 1) := by decide +kernel
theorem dM_write_55 : decode cM_write 55 = .ok (.aload_n 0, 1) := by decide +kernel
theorem dM_write_56 : decode cM_write 56 = .ok (.getfield 101, 3) := by decide +kernel
theorem dM_write_59 : decode cM_write 59 = .ok (.aload_n 0, 1) := by decide +kernel
theorem dM_write_60 : decode cM_write 60 = .ok (.getfield 127, 3) := by decide +kernel
theorem dM_write_63 : decode cM_write 63 = .ok (.iconst 0, 1) := by decide +kernel
theorem dM_write_64 : decode cM_write 64 = .ok (.bastore, 1) := by decide +kernel
theorem dM_write_65 : decode cM_write 65 = .ok (.aload_n 0, 1) := by decide +kernel
theorem dM_write_66 : decode cM_write 66 = .ok (.aload_n 0, 1) := by decide +kernel
theorem dM_write_67 : decode cM_write 67 = .ok (.getfield 127, 3) := by decide +kernel
theorem dM_write_70 : decode cM_write 70 = .ok (.iload_n 1, 1) := by decide +kernel
theorem dM_write_71 : decode cM_write 71 = .ok (.invokevirtual 130, 3) := by decide +kernel
theorem dM_write_74 : decode cM_write 74 = .ok (.aload_n 0, 1) := by decide +kernel
theorem dM_write_75 : decode cM_write 75 = .ok (.dup, 1) := by decide +kernel
theorem dM_write_76 : decode cM_write 76 = .ok (.getfield 127, 3) := by decide +kernel
theorem dM_write_79 : decode cM_write 79 = .ok (.iconst 1, 1) := by decide +kernel
theorem dM_write_80 : decode cM_write 80 = .ok (.iadd, 1) := by decide +kernel
theorem dM_write_81 : decode cM_write 81 = .ok (.putfield 127, 3) := by decide +kernel
theorem dM_write_84 : decode cM_write 84 = .ok (.return_, 1) := by decide +kernel
theorem dM_find_0 : decode cM_find 0 = .ok (.iconst 0, 1) := by decide +kernel
theorem dM_find_1 : decode cM_find 1 = .ok (.istore_n 3, 1) := by decide +kernel
theorem dM_find_2 : decode cM_find 2 = .ok (.iload_n 3, 1) := by decide +kernel
theorem dM_find_3 : decode cM_find 3 = .ok (.aload_n 0, 1) := by decide +kernel
theorem dM_find_4 : decode cM_find 4 = .ok (.getfield 127, 3) := by decide +kernel
theorem dM_find_7 : decode cM_find 7 = .ok (.if_icmp .ge 29, 3) := by decide +kernel
theorem dM_find_10 : decode cM_find 10 = .ok (.aload_n 0, 1) := by decide +kernel
theorem dM_find_11 : decode cM_find 11 = .ok (.getfield 89, 3) := by decide +kernel
theorem dM_find_14 : decode cM_find 14 = .ok (.iload_n 3, 1) := by decide +kernel
theorem dM_find_15 : decode cM_find 15 = .ok (.iaload, 1) := by decide +kernel
theorem dM_find_16 : decode cM_find 16 = .ok (.iload_n 1, 1) := by decide +kernel
theorem dM_find_17 : decode cM_find 17 = .ok (.if_icmp .ne 13, 3) := by decide +kernel
theorem dM_find_20 : decode cM_find 20 = .ok (.aload_n 0, 1) := by decide +kernel
theorem dM_find_21 : decode cM_find 21 = .ok (.getfield 92, 3) := by decide +kernel
theorem dM_find_24 : decode cM_find 24 = .ok (.iload_n 3, 1) := by decide +kernel
theorem dM_find_25 : decode cM_find 25 = .ok (.iaload, 1) := by decide +kernel
theorem dM_find_26 : decode cM_find 26 = .ok (.iload_n 2, 1) := by decide +kernel
theorem dM_find_27 : decode cM_find 27 = .ok (.if_icmp .eq 9, 3) := by decide +kernel
theorem dM_find_30 : decode cM_find 30 = .ok (.iinc 3 1, 3) := by decide +kernel
theorem dM_find_33 : decode cM_find 33 = .ok (.goto (-31), 3) := by decide +kernel
theorem dM_find_36 : decode cM_find 36 = .ok (.iload_n 3, 1) := by decide +kernel
theorem dM_find_37 : decode cM_find 37 = .ok (.aload_n 0, 1) := by decide +kernel
theorem dM_find_38 : decode cM_find 38 = .ok (.getfield 127, 3) := by decide +kernel
theorem dM_find_41 : decode cM_find 41 = .ok (.if_icmp .ge 7, 3) := by decide +kernel
theorem dM_find_44 : decode cM_find 44 = .ok (.iload_n 3, 1) := by decide +kernel
theorem dM_find_45 : decode cM_find 45 = .ok (.goto 4, 3) := by decide +kernel
theorem dM_find_48 : decode cM_find 48 = .ok (.iconst (-1), 1) := by decide +kernel
theorem dM_find_49 : decode cM_find 49 = .ok (.ireturn, 1) := by decide +kernel
theorem dM_endOf_0 : decode cM_endOf 0 = .ok (.iconst 2, 1) := by decide +kernel
theorem dM_endOf_1 : decode cM_endOf 1 = .ok (.bipush 6, 2) := by decide +kernel
theorem dM_endOf_3 : decode cM_endOf 3 = .ok (.iload_n 1, 1) := by decide +kernel
theorem dM_endOf_4 : decode cM_endOf 4 = .ok (.imul, 1) := by decide +kernel
theorem dM_endOf_5 : decode cM_endOf 5 = .ok (.aload_n 0, 1) := by decide +kernel
theorem dM_endOf_6 : decode cM_endOf 6 = .ok (.getfield 40, 3) := by decide +kernel
theorem dM_endOf_9 : decode cM_endOf 9 = .ok (.iload_n 1, 1) := by decide +kernel
theorem dM_endOf_10 : decode cM_endOf 10 = .ok (.iaload, 1) := by decide +kernel
theorem dM_endOf_11 : decode cM_endOf 11 = .ok (.iadd, 1) := by decide +kernel
theorem dM_endOf_12 : decode cM_endOf 12 = .ok (.imul, 1) := by decide +kernel
theorem dM_endOf_13 : decode cM_endOf 13 = .ok (.ireturn, 1) := by decide +kernel
theorem dM_askNext_0 : decode cM_askNext 0 = .ok (.aload_n 0, 1) := by decide +kernel
theorem dM_askNext_1 : decode cM_askNext 1 = .ok (.getfield 49, 3) := by decide +kernel
theorem dM_askNext_4 : decode cM_askNext 4 = .ok (.iload_n 1, 1) := by decide +kernel
theorem dM_askNext_5 : decode cM_askNext 5 = .ok (.iconst 0, 1) := by decide +kernel
theorem dM_askNext_6 : decode cM_askNext 6 = .ok (.iastore, 1) := by decide +kernel
theorem dM_askNext_7 : decode cM_askNext 7 = .ok (.aload_n 0, 1) := by decide +kernel
theorem dM_askNext_8 : decode cM_askNext 8 = .ok (.getfield 52, 3) := by decide +kernel
theorem dM_askNext_11 : decode cM_askNext 11 = .ok (.iload_n 1, 1) := by decide +kernel
theorem dM_askNext_12 : decode cM_askNext 12 = .ok (.iconst 0, 1) := by decide +kernel
theorem dM_askNext_13 : decode cM_askNext 13 = .ok (.iastore, 1) := by decide +kernel
theorem dM_askNext_14 : decode cM_askNext 14 = .ok (.aload_n 0, 1) := by decide +kernel
theorem dM_askNext_15 : decode cM_askNext 15 = .ok (.getfield 55, 3) := by decide +kernel
theorem dM_askNext_18 : decode cM_askNext 18 = .ok (.iload_n 1, 1) := by decide +kernel
theorem dM_askNext_19 : decode cM_askNext 19 = .ok (.iconst 0, 1) := by decide +kernel
theorem dM_askNext_20 : decode cM_askNext 20 = .ok (.iastore, 1) := by decide +kernel
theorem dM_askNext_21 : decode cM_askNext 21 = .ok (.aload_n 0, 1) := by decide +kernel
theorem dM_askNext_22 : decode cM_askNext 22 = .ok (.getfield 34, 3) := by decide +kernel
theorem dM_askNext_25 : decode cM_askNext 25 = .ok (.iload_n 1, 1) := by decide +kernel
theorem dM_askNext_26 : decode cM_askNext 26 = .ok (.iaload, 1) := by decide +kernel
theorem dM_askNext_27 : decode cM_askNext 27 = .ok (.aload_n 0, 1) := by decide +kernel
theorem dM_askNext_28 : decode cM_askNext 28 = .ok (.getfield 37, 3) := by decide +kernel
theorem dM_askNext_31 : decode cM_askNext 31 = .ok (.iload_n 1, 1) := by decide +kernel
theorem dM_askNext_32 : decode cM_askNext 32 = .ok (.iaload, 1) := by decide +kernel
theorem dM_askNext_33 : decode cM_askNext 33 = .ok (.iadd, 1) := by decide +kernel
theorem dM_askNext_34 : decode cM_askNext 34 = .ok (.bipush 6, 2) := by decide +kernel
theorem dM_askNext_36 : decode cM_askNext 36 = .ok (.irem, 1) := by decide +kernel
theorem dM_askNext_37 : decode cM_askNext 37 = .ok (.istore_n 2, 1) := by decide +kernel
theorem dM_askNext_38 : decode cM_askNext 38 = .ok (.iload_n 2, 1) := by decide +kernel
theorem dM_askNext_39 : decode cM_askNext 39 = .ok (.aload_n 0, 1) := by decide +kernel
theorem dM_askNext_40 : decode cM_askNext 40 = .ok (.getfield 25, 3) := by decide +kernel
theorem dM_askNext_43 : decode cM_askNext 43 = .ok (.iload_n 1, 1) := by decide +kernel
theorem dM_askNext_44 : decode cM_askNext 44 = .ok (.iaload, 1) := by decide +kernel
theorem dM_askNext_45 : decode cM_askNext 45 = .ok (.if_icmp .ne 30, 3) := by decide +kernel
theorem dM_askNext_48 : decode cM_askNext 48 = .ok (.aload_n 0, 1) := by decide +kernel
theorem dM_askNext_49 : decode cM_askNext 49 = .ok (.getfield 37, 3) := by decide +kernel
theorem dM_askNext_52 : decode cM_askNext 52 = .ok (.iload_n 1, 1) := by decide +kernel
theorem dM_askNext_53 : decode cM_askNext 53 = .ok (.dup2, 1) := by decide +kernel
theorem dM_askNext_54 : decode cM_askNext 54 = .ok (.iaload, 1) := by decide +kernel
theorem dM_askNext_55 : decode cM_askNext 55 = .ok (.iconst 1, 1) := by decide +kernel
theorem dM_askNext_56 : decode cM_askNext 56 = .ok (.iadd, 1) := by decide +kernel
