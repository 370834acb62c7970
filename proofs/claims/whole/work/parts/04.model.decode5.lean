theorem dM_book_28 : decode cM_book 28 = .ok (.iaload, 1) := by decide +kernel
theorem dM_book_29 : decode cM_book 29 = .ok (.if_icmp .ne 7, 3) := by decide +kernel
theorem dM_book_32 : decode cM_book 32 = .ok (.iconst 1, 1) := by decide +kernel
theorem dM_book_33 : decode cM_book 33 = .ok (.goto 4, 3) := by decide +kernel
theorem dM_book_36 : decode cM_book 36 = .ok (.iconst 0, 1) := by decide +kernel
theorem dM_book_37 : decode cM_book 37 = .ok (.istore 4, 2) := by decide +kernel
theorem dM_book_39 : decode cM_book 39 = .ok (.bipush 6, 2) := by decide +kernel
theorem dM_book_41 : decode cM_book 41 = .ok (.iload_n 2, 1) := by decide +kernel
theorem dM_book_42 : decode cM_book 42 = .ok (.imul, 1) := by decide +kernel
theorem dM_book_43 : decode cM_book 43 = .ok (.iload_n 1, 1) := by decide +kernel
theorem dM_book_44 : decode cM_book 44 = .ok (.iadd, 1) := by decide +kernel
theorem dM_book_45 : decode cM_book 45 = .ok (.istore 5, 2) := by decide +kernel
theorem dM_book_47 : decode cM_book 47 = .ok (.iload 4, 2) := by decide +kernel
theorem dM_book_49 : decode cM_book 49 = .ok (.ifCond .ne 15, 3) := by decide +kernel
theorem dM_book_52 : decode cM_book 52 = .ok (.aload_n 0, 1) := by decide +kernel
theorem dM_book_53 : decode cM_book 53 = .ok (.getfield 58, 3) := by decide +kernel
theorem dM_book_56 : decode cM_book 56 = .ok (.iload 5, 2) := by decide +kernel
theorem dM_book_58 : decode cM_book 58 = .ok (.baload, 1) := by decide +kernel
theorem dM_book_59 : decode cM_book 59 = .ok (.ifCond .ne 5, 3) := by decide +kernel
theorem dM_book_62 : decode cM_book 62 = .ok (.iconst (-1), 1) := by decide +kernel
theorem dM_book_63 : decode cM_book 63 = .ok (.ireturn, 1) := by decide +kernel
theorem dM_book_64 : decode cM_book 64 = .ok (.iload 4, 2) := by decide +kernel
theorem dM_book_66 : decode cM_book 66 = .ok (.ifCond .eq 11, 3) := by decide +kernel
theorem dM_book_69 : decode cM_book 69 = .ok (.aload_n 0, 1) := by decide +kernel
theorem dM_book_70 : decode cM_book 70 = .ok (.iload_n 2, 1) := by decide +kernel
theorem dM_book_71 : decode cM_book 71 = .ok (.invokevirtual 134, 3) := by decide +kernel
theorem dM_book_74 : decode cM_book 74 = .ok (.goto 9, 3) := by decide +kernel
theorem dM_book_77 : decode cM_book 77 = .ok (.iconst 2, 1) := by decide +kernel
theorem dM_book_78 : decode cM_book 78 = .ok (.iload 5, 2) := by decide +kernel
theorem dM_book_80 : decode cM_book 80 = .ok (.imul, 1) := by decide +kernel
theorem dM_book_81 : decode cM_book 81 = .ok (.iconst 1, 1) := by decide +kernel
theorem dM_book_82 : decode cM_book 82 = .ok (.iadd, 1) := by decide +kernel
theorem dM_book_83 : decode cM_book 83 = .ok (.istore 6, 2) := by decide +kernel
theorem dM_book_85 : decode cM_book 85 = .ok (.iload_n 3, 1) := by decide +kernel
theorem dM_book_86 : decode cM_book 86 = .ok (.tableswitch 191 0 7 #[46, 68, 90, 112, 134, 142, 150, 158], 46) := by decide +kernel
theorem dM_book_132 : decode cM_book 132 = .ok (.iload 4, 2) := by decide +kernel
theorem dM_book_134 : decode cM_book 134 = .ok (.ifCond .eq 12, 3) := by decide +kernel
theorem dM_book_137 : decode cM_book 137 = .ok (.aload_n 0, 1) := by decide +kernel
theorem dM_book_138 : decode cM_book 138 = .ok (.getfield 46, 3) := by decide +kernel
theorem dM_book_141 : decode cM_book 141 = .ok (.iload_n 2, 1) := by decide +kernel
theorem dM_book_142 : decode cM_book 142 = .ok (.iaload, 1) := by decide +kernel
theorem dM_book_143 : decode cM_book 143 = .ok (.goto 10, 3) := by decide +kernel
theorem dM_book_146 : decode cM_book 146 = .ok (.aload_n 0, 1) := by decide +kernel
theorem dM_book_147 : decode cM_book 147 = .ok (.getfield 62, 3) := by decide +kernel
theorem dM_book_150 : decode cM_book 150 = .ok (.iload 5, 2) := by decide +kernel
theorem dM_book_152 : decode cM_book 152 = .ok (.iaload, 1) := by decide +kernel
theorem dM_book_153 : decode cM_book 153 = .ok (.ireturn, 1) := by decide +kernel
theorem dM_book_154 : decode cM_book 154 = .ok (.iload 4, 2) := by decide +kernel
theorem dM_book_156 : decode cM_book 156 = .ok (.ifCond .eq 12, 3) := by decide +kernel
theorem dM_book_159 : decode cM_book 159 = .ok (.aload_n 0, 1) := by decide +kernel
theorem dM_book_160 : decode cM_book 160 = .ok (.getfield 49, 3) := by decide +kernel
theorem dM_book_163 : decode cM_book 163 = .ok (.iload_n 2, 1) := by decide +kernel
theorem dM_book_164 : decode cM_book 164 = .ok (.iaload, 1) := by decide +kernel
theorem dM_book_165 : decode cM_book 165 = .ok (.goto 10, 3) := by decide +kernel
theorem dM_book_168 : decode cM_book 168 = .ok (.aload_n 0, 1) := by decide +kernel
theorem dM_book_169 : decode cM_book 169 = .ok (.getfield 65, 3) := by decide +kernel
theorem dM_book_172 : decode cM_book 172 = .ok (.iload 5, 2) := by decide +kernel
theorem dM_book_174 : decode cM_book 174 = .ok (.iaload, 1) := by decide +kernel
theorem dM_book_175 : decode cM_book 175 = .ok (.ireturn, 1) := by decide +kernel
theorem dM_book_176 : decode cM_book 176 = .ok (.iload 4, 2) := by decide +kernel
theorem dM_book_178 : decode cM_book 178 = .ok (.ifCond .eq 12, 3) := by decide +kernel
theorem dM_book_181 : decode cM_book 181 = .ok (.aload_n 0, 1) := by decide +kernel
theorem dM_book_182 : decode cM_book 182 = .ok (.getfield 52, 3) := by decide +kernel
theorem dM_book_185 : decode cM_book 185 = .ok (.iload_n 2, 1) := by decide +kernel
theorem dM_book_186 : decode cM_book 186 = .ok (.iaload, 1) := by decide +kernel
theorem dM_book_187 : decode cM_book 187 = .ok (.goto 10, 3) := by decide +kernel
theorem dM_book_190 : decode cM_book 190 = .ok (.aload_n 0, 1) := by decide +kernel
theorem dM_book_191 : decode cM_book 191 = .ok (.getfield 68, 3) := by decide +kernel
theorem dM_book_194 : decode cM_book 194 = .ok (.iload 5, 2) := by decide +kernel
theorem dM_book_196 : decode cM_book 196 = .ok (.iaload, 1) := by decide +kernel
theorem dM_book_197 : decode cM_book 197 = .ok (.ireturn, 1) := by decide +kernel
theorem dM_book_198 : decode cM_book 198 = .ok (.iload 4, 2) := by decide +kernel
theorem dM_book_200 : decode cM_book 200 = .ok (.ifCond .eq 12, 3) := by decide +kernel
theorem dM_book_203 : decode cM_book 203 = .ok (.aload_n 0, 1) := by decide +kernel
theorem dM_book_204 : decode cM_book 204 = .ok (.getfield 55, 3) := by decide +kernel
theorem dM_book_207 : decode cM_book 207 = .ok (.iload_n 2, 1) := by decide +kernel
theorem dM_book_208 : decode cM_book 208 = .ok (.iaload, 1) := by decide +kernel
theorem dM_book_209 : decode cM_book 209 = .ok (.goto 10, 3) := by decide +kernel
theorem dM_book_212 : decode cM_book 212 = .ok (.aload_n 0, 1) := by decide +kernel
theorem dM_book_213 : decode cM_book 213 = .ok (.getfield 71, 3) := by decide +kernel
theorem dM_book_216 : decode cM_book 216 = .ok (.iload 5, 2) := by decide +kernel
theorem dM_book_218 : decode cM_book 218 = .ok (.iaload, 1) := by decide +kernel
theorem dM_book_219 : decode cM_book 219 = .ok (.ireturn, 1) := by decide +kernel
theorem dM_book_220 : decode cM_book 220 = .ok (.aload_n 0, 1) := by decide +kernel
theorem dM_book_221 : decode cM_book 221 = .ok (.getfield 80, 3) := by decide +kernel
theorem dM_book_224 : decode cM_book 224 = .ok (.iload 6, 2) := by decide +kernel
theorem dM_book_226 : decode cM_book 226 = .ok (.iaload, 1) := by decide +kernel
theorem dM_book_227 : decode cM_book 227 = .ok (.ireturn, 1) := by decide +kernel
theorem dM_book_228 : decode cM_book 228 = .ok (.aload_n 0, 1) := by decide +kernel
theorem dM_book_229 : decode cM_book 229 = .ok (.getfield 83, 3) := by decide +kernel
theorem dM_book_232 : decode cM_book 232 = .ok (.iload 6, 2) := by decide +kernel
theorem dM_book_234 : decode cM_book 234 = .ok (.iaload, 1) := by decide +kernel
theorem dM_book_235 : decode cM_book 235 = .ok (.ireturn, 1) := by decide +kernel
theorem dM_book_236 : decode cM_book 236 = .ok (.aload_n 0, 1) := by decide +kernel
theorem dM_book_237 : decode cM_book 237 = .ok (.getfield 86, 3) := by decide +kernel
theorem dM_book_240 : decode cM_book 240 = .ok (.iload 6, 2) := by decide +kernel
theorem dM_book_242 : decode cM_book 242 = .ok (.iaload, 1) := by decide +kernel
theorem dM_book_243 : decode cM_book 243 = .ok (.ireturn, 1) := by decide +kernel
theorem dM_book_244 : decode cM_book 244 = .ok (.iload 4, 2) := by decide +kernel
theorem dM_book_246 : decode cM_book 246 = .ok (.ifCond .eq 14, 3) := by decide +kernel
theorem dM_book_249 : decode cM_book 249 = .ok (.aload_n 0, 1) := by decide +kernel
theorem dM_book_250 : decode cM_book 250 = .ok (.iload_n 2, 1) := by decide +kernel
theorem dM_book_251 : decode cM_book 251 = .ok (.invokevirtual 159, 3) := by decide +kernel
theorem dM_book_254 : decode cM_book 254 = .ok (.ifCond .eq 21, 3) := by decide +kernel
theorem dM_book_257 : decode cM_book 257 = .ok (.goto 14, 3) := by decide +kernel
theorem dM_book_260 : decode cM_book 260 = .ok (.aload_n 0, 1) := by decide +kernel
theorem dM_book_261 : decode cM_book 261 = .ok (.getfield 62, 3) := by decide +kernel
theorem dM_book_264 : decode cM_book 264 = .ok (.iload 5, 2) := by decide +kernel
theorem dM_book_266 : decode cM_book 266 = .ok (.iaload, 1) := by decide +kernel
theorem dM_book_267 : decode cM_book 267 = .ok (.iconst 3, 1) := by decide +kernel
theorem dM_book_268 : decode cM_book 268 = .ok (.if_icmp .ne 7, 3) := by decide +kernel
theorem dM_book_271 : decode cM_book 271 = .ok (.iconst 1, 1) := by decide +kernel
theorem dM_book_272 : decode cM_book 272 = .ok (.goto 4, 3) := by decide +kernel
theorem dM_book_275 : decode cM_book 275 = .ok (.iconst 0, 1) := by decide +kernel
theorem dM_book_276 : decode cM_book 276 = .ok (.ireturn, 1) := by decide +kernel
theorem dM_book_277 : decode cM_book 277 = .ok (.iconst (-1), 1) := by decide +kernel
theorem dM_book_278 : decode cM_book 278 = .ok (.ireturn, 1) := by decide +kernel
theorem dM_supplier_0 : decode cM_supplier 0 = .ok (.aload_n 0, 1) := by decide +kernel
theorem dM_supplier_1 : decode cM_supplier 1 = .ok (.iconst 0, 1) := by decide +kernel
theorem dM_supplier_2 : decode cM_supplier 2 = .ok (.putfield 113, 3) := by decide +kernel
theorem dM_supplier_5 : decode cM_supplier 5 = .ok (.aload_n 0, 1) := by decide +kernel
theorem dM_supplier_6 : decode cM_supplier 6 = .ok (.iload_n 1, 1) := by decide +kernel
theorem dM_supplier_7 : decode cM_supplier 7 = .ok (.invokevirtual 172, 3) := by decide +kernel
theorem dM_supplier_10 : decode cM_supplier 10 = .ok (.ifCond .eq 12, 3) := by decide +kernel
theorem dM_supplier_13 : decode cM_supplier 13 = .ok (.aload_n 0, 1) := by decide +kernel
theorem dM_supplier_14 : decode cM_supplier 14 = .ok (.getfield 40, 3) := by decide +kernel
theorem dM_supplier_17 : decode cM_supplier 17 = .ok (.iload_n 1, 1) := by decide +kernel
theorem dM_supplier_18 : decode cM_supplier 18 = .ok (.iaload, 1) := by decide +kernel
theorem dM_supplier_19 : decode cM_supplier 19 = .ok (.goto 4, 3) := by decide +kernel
theorem dM_supplier_22 : decode cM_supplier 22 = .ok (.iconst (-1), 1) := by decide +kernel
theorem dM_supplier_23 : decode cM_supplier 23 = .ok (.ireturn, 1) := by decide +kernel
theorem dM_holder_0 : decode cM_holder 0 = .ok (.aload_n 0, 1) := by decide +kernel
theorem dM_holder_1 : decode cM_holder 1 = .ok (.iconst 0, 1) := by decide +kernel
theorem dM_holder_2 : decode cM_holder 2 = .ok (.putfield 113, 3) := by decide +kernel
theorem dM_holder_5 : decode cM_holder 5 = .ok (.iload_n 1, 1) := by decide +kernel
theorem dM_holder_6 : decode cM_holder 6 = .ok (.ifCond .lt 11, 3) := by decide +kernel
theorem dM_holder_9 : decode cM_holder 9 = .ok (.iload_n 1, 1) := by decide +kernel
theorem dM_holder_10 : decode cM_holder 10 = .ok (.aload_n 0, 1) := by decide +kernel
theorem dM_holder_11 : decode cM_holder 11 = .ok (.getfield 149, 3) := by decide +kernel
theorem dM_holder_14 : decode cM_holder 14 = .ok (.if_icmp .lt 7, 3) := by decide +kernel
theorem dM_holder_17 : decode cM_holder 17 = .ok (.iconst (-1), 1) := by decide +kernel
theorem dM_holder_18 : decode cM_holder 18 = .ok (.goto 9, 3) := by decide +kernel
theorem dM_holder_21 : decode cM_holder 21 = .ok (.aload_n 0, 1) := by decide +kernel
theorem dM_holder_22 : decode cM_holder 22 = .ok (.getfield 19, 3) := by decide +kernel
theorem dM_holder_25 : decode cM_holder 25 = .ok (.iload_n 1, 1) := by decide +kernel
theorem dM_holder_26 : decode cM_holder 26 = .ok (.iaload, 1) := by decide +kernel
theorem dM_holder_27 : decode cM_holder 27 = .ok (.ireturn, 1) := by decide +kernel
theorem dM_promised_0 : decode cM_promised 0 = .ok (.aload_n 0, 1) := by decide +kernel
theorem dM_promised_1 : decode cM_promised 1 = .ok (.iconst 0, 1) := by decide +kernel
theorem dM_promised_2 : decode cM_promised 2 = .ok (.putfield 113, 3) := by decide +kernel
theorem dM_promised_5 : decode cM_promised 5 = .ok (.iload_n 1, 1) := by decide +kernel
theorem dM_promised_6 : decode cM_promised 6 = .ok (.ifCond .lt 11, 3) := by decide +kernel
theorem dM_promised_9 : decode cM_promised 9 = .ok (.iload_n 1, 1) := by decide +kernel
theorem dM_promised_10 : decode cM_promised 10 = .ok (.aload_n 0, 1) := by decide +kernel
theorem dM_promised_11 : decode cM_promised 11 = .ok (.getfield 149, 3) := by decide +kernel
theorem dM_promised_14 : decode cM_promised 14 = .ok (.if_icmp .lt 7, 3) := by decide +kernel
theorem dM_promised_17 : decode cM_promised 17 = .ok (.iconst (-1), 1) := by decide +kernel
theorem dM_promised_18 : decode cM_promised 18 = .ok (.goto 9, 3) := by decide +kernel
theorem dM_promised_21 : decode cM_promised 21 = .ok (.aload_n 0, 1) := by decide +kernel
theorem dM_promised_22 : decode cM_promised 22 = .ok (.getfield 22, 3) := by decide +kernel
theorem dM_promised_25 : decode cM_promised 25 = .ok (.iload_n 1, 1) := by decide +kernel
theorem dM_promised_26 : decode cM_promised 26 = .ok (.iaload, 1) := by decide +kernel
theorem dM_promised_27 : decode cM_promised 27 = .ok (.ireturn, 1) := by decide +kernel
theorem dM_balance_0 : decode cM_balance 0 = .ok (.aload_n 0, 1) := by decide +kernel
theorem dM_balance_1 : decode cM_balance 1 = .ok (.iconst 0, 1) := by decide +kernel
theorem dM_balance_2 : decode cM_balance 2 = .ok (.putfield 113, 3) := by decide +kernel
theorem dM_balance_5 : decode cM_balance 5 = .ok (.iload_n 1, 1) := by decide +kernel
theorem dM_balance_6 : decode cM_balance 6 = .ok (.invokestatic 142, 3) := by decide +kernel
theorem dM_balance_9 : decode cM_balance 9 = .ok (.ifCond .eq 12, 3) := by decide +kernel
theorem dM_balance_12 : decode cM_balance 12 = .ok (.aload_n 0, 1) := by decide +kernel
theorem dM_balance_13 : decode cM_balance 13 = .ok (.getfield 7, 3) := by decide +kernel
theorem dM_balance_16 : decode cM_balance 16 = .ok (.iload_n 1, 1) := by decide +kernel
theorem dM_balance_17 : decode cM_balance 17 = .ok (.iaload, 1) := by decide +kernel
theorem dM_balance_18 : decode cM_balance 18 = .ok (.goto 4, 3) := by decide +kernel
theorem dM_balance_21 : decode cM_balance 21 = .ok (.iconst 0, 1) := by decide +kernel
theorem dM_balance_22 : decode cM_balance 22 = .ok (.ireturn, 1) := by decide +kernel
theorem dM_queue_0 : decode cM_queue 0 = .ok (.aload_n 0, 1) := by decide +kernel
theorem dM_queue_1 : decode cM_queue 1 = .ok (.iconst 0, 1) := by decide +kernel
theorem dM_queue_2 : decode cM_queue 2 = .ok (.putfield 113, 3) := by decide +kernel
theorem dM_queue_5 : decode cM_queue 5 = .ok (.iload_n 1, 1) := by decide +kernel
theorem dM_queue_6 : decode cM_queue 6 = .ok (.invokestatic 142, 3) := by decide +kernel
theorem dM_queue_9 : decode cM_queue 9 = .ok (.ifCond .eq 10, 3) := by decide +kernel
theorem dM_queue_12 : decode cM_queue 12 = .ok (.iload_n 2, 1) := by decide +kernel
theorem dM_queue_13 : decode cM_queue 13 = .ok (.invokestatic 146, 3) := by decide +kernel
theorem dM_queue_16 : decode cM_queue 16 = .ok (.ifCond .ne 5, 3) := by decide +kernel
theorem dM_queue_19 : decode cM_queue 19 = .ok (.iconst (-1), 1) := by decide +kernel
theorem dM_queue_20 : decode cM_queue 20 = .ok (.ireturn, 1) := by decide +kernel
theorem dM_queue_21 : decode cM_queue 21 = .ok (.iconst 0, 1) := by decide +kernel
theorem dM_queue_22 : decode cM_queue 22 = .ok (.istore_n 3, 1) := by decide +kernel
theorem dM_queue_23 : decode cM_queue 23 = .ok (.iconst 0, 1) := by decide +kernel
theorem dM_queue_24 : decode cM_queue 24 = .ok (.istore 4, 2) := by decide +kernel
theorem dM_queue_26 : decode cM_queue 26 = .ok (.iload 4, 2) := by decide +kernel
theorem dM_queue_28 : decode cM_queue 28 = .ok (.aload_n 0, 1) := by decide +kernel
theorem dM_queue_29 : decode cM_queue 29 = .ok (.getfield 117, 3) := by decide +kernel
theorem dM_queue_32 : decode cM_queue 32 = .ok (.if_icmp .ge 59, 3) := by decide +kernel
theorem dM_queue_35 : decode cM_queue 35 = .ok (.iload_n 3, 1) := by decide +kernel
theorem dM_queue_36 : decode cM_queue 36 = .ok (.aload_n 0, 1) := by decide +kernel
theorem dM_queue_37 : decode cM_queue 37 = .ok (.getfield 28, 3) := by decide +kernel
theorem dM_queue_40 : decode cM_queue 40 = .ok (.iload 4, 2) := by decide +kernel
theorem dM_queue_42 : decode cM_queue 42 = .ok (.iaload, 1) := by decide +kernel
theorem dM_queue_43 : decode cM_queue 43 = .ok (.iload_n 2, 1) := by decide +kernel
theorem dM_queue_44 : decode cM_queue 44 = .ok (.if_icmp .ne 38, 3) := by decide +kernel
theorem dM_queue_47 : decode cM_queue 47 = .ok (.aload_n 0, 1) := by decide +kernel
theorem dM_queue_48 : decode cM_queue 48 = .ok (.getfield 58, 3) := by decide +kernel
theorem dM_queue_51 : decode cM_queue 51 = .ok (.bipush 6, 2) := by decide +kernel
theorem dM_queue_53 : decode cM_queue 53 = .ok (.iload 4, 2) := by decide +kernel
theorem dM_queue_55 : decode cM_queue 55 = .ok (.imul, 1) := by decide +kernel
theorem dM_queue_56 : decode cM_queue 56 = .ok (.iload_n 1, 1) := by decide +kernel
theorem dM_queue_57 : decode cM_queue 57 = .ok (.iadd, 1) := by decide +kernel
theorem dM_queue_58 : decode cM_queue 58 = .ok (.baload, 1) := by decide +kernel
theorem dM_queue_59 : decode cM_queue 59 = .ok (.ifCond .eq 23, 3) := by decide +kernel
theorem dM_queue_62 : decode cM_queue 62 = .ok (.aload_n 0, 1) := by decide +kernel
theorem dM_queue_63 : decode cM_queue 63 = .ok (.getfield 62, 3) := by decide +kernel
theorem dM_queue_66 : decode cM_queue 66 = .ok (.bipush 6, 2) := by decide +kernel
theorem dM_queue_68 : decode cM_queue 68 = .ok (.iload 4, 2) := by decide +kernel
theorem dM_queue_70 : decode cM_queue 70 = .ok (.imul, 1) := by decide +kernel
theorem dM_queue_71 : decode cM_queue 71 = .ok (.iload_n 1, 1) := by decide +kernel
theorem dM_queue_72 : decode cM_queue 72 = .ok (.iadd, 1) := by decide +kernel
theorem dM_queue_73 : decode cM_queue 73 = .ok (.iaload, 1) := by decide +kernel
theorem dM_queue_74 : decode cM_queue 74 = .ok (.iconst 1, 1) := by decide +kernel
theorem dM_queue_75 : decode cM_queue 75 = .ok (.if_icmp .ne 7, 3) := by decide +kernel
theorem dM_queue_78 : decode cM_queue 78 = .ok (.iconst 1, 1) := by decide +kernel
theorem dM_queue_79 : decode cM_queue 79 = .ok (.goto 4, 3) := by decide +kernel
theorem dM_queue_82 : decode cM_queue 82 = .ok (.iconst 0, 1) := by decide +kernel
theorem dM_queue_83 : decode cM_queue 83 = .ok (.iadd, 1) := by decide +kernel
theorem dM_queue_84 : decode cM_queue 84 = .ok (.istore_n 3, 1) := by decide +kernel
theorem dM_queue_85 : decode cM_queue 85 = .ok (.iinc 4 1, 3) := by decide +kernel
theorem dM_queue_88 : decode cM_queue 88 = .ok (.goto (-62), 3) := by decide +kernel
theorem dM_queue_91 : decode cM_queue 91 = .ok (.iload_n 3, 1) := by decide +kernel
theorem dM_queue_92 : decode cM_queue 92 = .ok (.ireturn, 1) := by decide +kernel
theorem dM_settled_0 : decode cM_settled 0 = .ok (.aload_n 0, 1) := by decide +kernel
theorem dM_settled_1 : decode cM_settled 1 = .ok (.iconst 0, 1) := by decide +kernel
theorem dM_settled_2 : decode cM_settled 2 = .ok (.putfield 113, 3) := by decide +kernel
theorem dM_settled_5 : decode cM_settled 5 = .ok (.aload_n 0, 1) := by decide +kernel
theorem dM_settled_6 : decode cM_settled 6 = .ok (.iload_n 1, 1) := by decide +kernel
theorem dM_settled_7 : decode cM_settled 7 = .ok (.invokevirtual 172, 3) := by decide +kernel
theorem dM_settled_10 : decode cM_settled 10 = .ok (.ifCond .ne 5, 3) := by decide +kernel
theorem dM_settled_13 : decode cM_settled 13 = .ok (.iconst 0, 1) := by decide +kernel
theorem dM_settled_14 : decode cM_settled 14 = .ok (.ireturn, 1) := by decide +kernel
theorem dM_settled_15 : decode cM_settled 15 = .ok (.aload_n 0, 1) := by decide +kernel
theorem dM_settled_16 : decode cM_settled 16 = .ok (.iload_n 1, 1) := by decide +kernel
theorem dM_settled_17 : decode cM_settled 17 = .ok (.invokevirtual 134, 3) := by decide +kernel
theorem dM_settled_20 : decode cM_settled 20 = .ok (.istore_n 2, 1) := by decide +kernel
theorem dM_settled_21 : decode cM_settled 21 = .ok (.iload_n 2, 1) := by decide +kernel
theorem dM_settled_22 : decode cM_settled 22 = .ok (.iconst 1, 1) := by decide +kernel
theorem dM_settled_23 : decode cM_settled 23 = .ok (.iadd, 1) := by decide +kernel
theorem dM_settled_24 : decode cM_settled 24 = .ok (.istore_n 3, 1) := by decide +kernel
theorem dM_settled_25 : decode cM_settled 25 = .ok (.aload_n 0, 1) := by decide +kernel
theorem dM_settled_26 : decode cM_settled 26 = .ok (.getfield 80, 3) := by decide +kernel
theorem dM_settled_29 : decode cM_settled 29 = .ok (.iload_n 2, 1) := by decide +kernel
theorem dM_settled_30 : decode cM_settled 30 = .ok (.iaload, 1) := by decide +kernel
theorem dM_settled_31 : decode cM_settled 31 = .ok (.aload_n 0, 1) := by decide +kernel
theorem dM_settled_32 : decode cM_settled 32 = .ok (.getfield 86, 3) := by decide +kernel
theorem dM_settled_35 : decode cM_settled 35 = .ok (.iload_n 2, 1) := by decide +kernel
theorem dM_settled_36 : decode cM_settled 36 = .ok (.iaload, 1) := by decide +kernel
theorem dM_settled_37 : decode cM_settled 37 = .ok (.if_icmp .ne 52, 3) := by decide +kernel
theorem dM_settled_40 : decode cM_settled 40 = .ok (.aload_n 0, 1) := by decide +kernel
theorem dM_settled_41 : decode cM_settled 41 = .ok (.getfield 80, 3) := by decide +kernel
theorem dM_settled_44 : decode cM_settled 44 = .ok (.iload_n 3, 1) := by decide +kernel
theorem dM_settled_45 : decode cM_settled 45 = .ok (.iaload, 1) := by decide +kernel
theorem dM_settled_46 : decode cM_settled 46 = .ok (.aload_n 0, 1) := by decide +kernel
theorem dM_settled_47 : decode cM_settled 47 = .ok (.getfield 86, 3) := by decide +kernel
theorem dM_settled_50 : decode cM_settled 50 = .ok (.iload_n 3, 1) := by decide +kernel
theorem dM_settled_51 : decode cM_settled 51 = .ok (.iaload, 1) := by decide +kernel
theorem dM_settled_52 : decode cM_settled 52 = .ok (.if_icmp .ne 37, 3) := by decide +kernel
theorem dM_settled_55 : decode cM_settled 55 = .ok (.aload_n 0, 1) := by decide +kernel
theorem dM_settled_56 : decode cM_settled 56 = .ok (.getfield 80, 3) := by decide +kernel
theorem dM_settled_59 : decode cM_settled 59 = .ok (.iload_n 2, 1) := by decide +kernel
theorem dM_settled_60 : decode cM_settled 60 = .ok (.iaload, 1) := by decide +kernel
theorem dM_settled_61 : decode cM_settled 61 = .ok (.aload_n 0, 1) := by decide +kernel
theorem dM_settled_62 : decode cM_settled 62 = .ok (.getfield 83, 3) := by decide +kernel
theorem dM_settled_65 : decode cM_settled 65 = .ok (.iload_n 3, 1) := by decide +kernel
theorem dM_settled_66 : decode cM_settled 66 = .ok (.iaload, 1) := by decide +kernel
theorem dM_settled_67 : decode cM_settled 67 = .ok (.if_icmp .ne 22, 3) := by decide +kernel
theorem dM_settled_70 : decode cM_settled 70 = .ok (.aload_n 0, 1) := by decide +kernel
theorem dM_settled_71 : decode cM_settled 71 = .ok (.getfield 80, 3) := by decide +kernel
theorem dM_settled_74 : decode cM_settled 74 = .ok (.iload_n 3, 1) := by decide +kernel
theorem dM_settled_75 : decode cM_settled 75 = .ok (.iaload, 1) := by decide +kernel
theorem dM_settled_76 : decode cM_settled 76 = .ok (.aload_n 0, 1) := by decide +kernel
theorem dM_settled_77 : decode cM_settled 77 = .ok (.getfield 83, 3) := by decide +kernel
theorem dM_settled_80 : decode cM_settled 80 = .ok (.iload_n 2, 1) := by decide +kernel
theorem dM_settled_81 : decode cM_settled 81 = .ok (.iaload, 1) := by decide +kernel
theorem dM_settled_82 : decode cM_settled 82 = .ok (.if_icmp .ne 7, 3) := by decide +kernel
theorem dM_settled_85 : decode cM_settled 85 = .ok (.iconst 1, 1) := by decide +kernel
theorem dM_settled_86 : decode cM_settled 86 = .ok (.goto 4, 3) := by decide +kernel
theorem dM_settled_89 : decode cM_settled 89 = .ok (.iconst 0, 1) := by decide +kernel
theorem dM_settled_90 : decode cM_settled 90 = .ok (.ireturn, 1) := by decide +kernel
