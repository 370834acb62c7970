theorem dL_carry_81 : decode cL_carry 81 = .ok (.goto 8, 3) := by decide +kernel
theorem dL_carry_84 : decode cL_carry 84 = .ok (.aload 4, 2) := by decide +kernel
theorem dL_carry_86 : decode cL_carry 86 = .ok (.getfield 173, 3) := by decide +kernel
theorem dL_carry_89 : decode cL_carry 89 = .ok (.astore 5, 2) := by decide +kernel
theorem dL_carry_91 : decode cL_carry 91 = .ok (.iload_n 3, 1) := by decide +kernel
theorem dL_carry_92 : decode cL_carry 92 = .ok (.ifCond .eq 11, 3) := by decide +kernel
theorem dL_carry_95 : decode cL_carry 95 = .ok (.aload 4, 2) := by decide +kernel
theorem dL_carry_97 : decode cL_carry 97 = .ok (.getfield 173, 3) := by decide +kernel
theorem dL_carry_100 : decode cL_carry 100 = .ok (.goto 8, 3) := by decide +kernel
theorem dL_carry_103 : decode cL_carry 103 = .ok (.aload 4, 2) := by decide +kernel
theorem dL_carry_105 : decode cL_carry 105 = .ok (.getfield 169, 3) := by decide +kernel
theorem dL_carry_108 : decode cL_carry 108 = .ok (.astore 6, 2) := by decide +kernel
theorem dL_carry_110 : decode cL_carry 110 = .ok (.aload 5, 2) := by decide +kernel
theorem dL_carry_112 : decode cL_carry 112 = .ok (.aload 5, 2) := by decide +kernel
theorem dL_carry_114 : decode cL_carry 114 = .ok (.getfield 140, 3) := by decide +kernel
theorem dL_carry_117 : decode cL_carry 117 = .ok (.aload_n 0, 1) := by decide +kernel
theorem dL_carry_118 : decode cL_carry 118 = .ok (.getfield 28, 3) := by decide +kernel
theorem dL_carry_121 : decode cL_carry 121 = .ok (.iload_n 1, 1) := by decide +kernel
theorem dL_carry_122 : decode cL_carry 122 = .ok (.iconst 4, 1) := by decide +kernel
theorem dL_carry_123 : decode cL_carry 123 = .ok (.invokevirtual 165, 3) := by decide +kernel
theorem dL_carry_126 : decode cL_carry 126 = .ok (.invokestatic 176, 3) := by decide +kernel
theorem dL_carry_129 : decode cL_carry 129 = .ok (.putfield 140, 3) := by decide +kernel
theorem dL_carry_132 : decode cL_carry 132 = .ok (.aload 6, 2) := by decide +kernel
theorem dL_carry_134 : decode cL_carry 134 = .ok (.aload_n 0, 1) := by decide +kernel
theorem dL_carry_135 : decode cL_carry 135 = .ok (.getfield 28, 3) := by decide +kernel
theorem dL_carry_138 : decode cL_carry 138 = .ok (.iload_n 1, 1) := by decide +kernel
theorem dL_carry_139 : decode cL_carry 139 = .ok (.iconst 3, 1) := by decide +kernel
theorem dL_carry_140 : decode cL_carry 140 = .ok (.invokevirtual 165, 3) := by decide +kernel
theorem dL_carry_143 : decode cL_carry 143 = .ok (.invokevirtual 181, 3) := by decide +kernel
theorem dL_carry_146 : decode cL_carry 146 = .ok (.aload 5, 2) := by decide +kernel
theorem dL_carry_148 : decode cL_carry 148 = .ok (.getfield 185, 3) := by decide +kernel
theorem dL_carry_151 : decode cL_carry 151 = .ok (.istore 7, 2) := by decide +kernel
theorem dL_carry_153 : decode cL_carry 153 = .ok (.aload 6, 2) := by decide +kernel
theorem dL_carry_155 : decode cL_carry 155 = .ok (.getfield 145, 3) := by decide +kernel
theorem dL_carry_158 : decode cL_carry 158 = .ok (.invokevirtual 149, 3) := by decide +kernel
theorem dL_carry_161 : decode cL_carry 161 = .ok (.istore 8, 2) := by decide +kernel
theorem dL_carry_163 : decode cL_carry 163 = .ok (.iload 7, 2) := by decide +kernel
theorem dL_carry_165 : decode cL_carry 165 = .ok (.istore 9, 2) := by decide +kernel
theorem dL_carry_167 : decode cL_carry 167 = .ok (.iload 9, 2) := by decide +kernel
theorem dL_carry_169 : decode cL_carry 169 = .ok (.iload 8, 2) := by decide +kernel
theorem dL_carry_171 : decode cL_carry 171 = .ok (.if_icmp .ge 85, 3) := by decide +kernel
theorem dL_carry_174 : decode cL_carry 174 = .ok (.aload 6, 2) := by decide +kernel
theorem dL_carry_176 : decode cL_carry 176 = .ok (.getfield 145, 3) := by decide +kernel
theorem dL_carry_179 : decode cL_carry 179 = .ok (.iload 9, 2) := by decide +kernel
theorem dL_carry_181 : decode cL_carry 181 = .ok (.invokevirtual 155, 3) := by decide +kernel
theorem dL_carry_184 : decode cL_carry 184 = .ok (.checkcast 32, 3) := by decide +kernel
theorem dL_carry_187 : decode cL_carry 187 = .ok (.getfield 188, 3) := by decide +kernel
theorem dL_carry_190 : decode cL_carry 190 = .ok (.ifCond .eq 66, 3) := by decide +kernel
theorem dL_carry_193 : decode cL_carry 193 = .ok (.aload 5, 2) := by decide +kernel
theorem dL_carry_195 : decode cL_carry 195 = .ok (.dup, 1) := by decide +kernel
theorem dL_carry_196 : decode cL_carry 196 = .ok (.getfield 185, 3) := by decide +kernel
theorem dL_carry_199 : decode cL_carry 199 = .ok (.iconst 1, 1) := by decide +kernel
theorem dL_carry_200 : decode cL_carry 200 = .ok (.iadd, 1) := by decide +kernel
theorem dL_carry_201 : decode cL_carry 201 = .ok (.putfield 185, 3) := by decide +kernel
theorem dL_carry_204 : decode cL_carry 204 = .ok (.iload_n 3, 1) := by decide +kernel
theorem dL_carry_205 : decode cL_carry 205 = .ok (.ifCond .eq 26, 3) := by decide +kernel
theorem dL_carry_208 : decode cL_carry 208 = .ok (.aload_n 0, 1) := by decide +kernel
theorem dL_carry_209 : decode cL_carry 209 = .ok (.aload_n 2, 1) := by decide +kernel
theorem dL_carry_210 : decode cL_carry 210 = .ok (.aload 4, 2) := by decide +kernel
theorem dL_carry_212 : decode cL_carry 212 = .ok (.aload 6, 2) := by decide +kernel
theorem dL_carry_214 : decode cL_carry 214 = .ok (.getfield 145, 3) := by decide +kernel
theorem dL_carry_217 : decode cL_carry 217 = .ok (.iload 9, 2) := by decide +kernel
theorem dL_carry_219 : decode cL_carry 219 = .ok (.invokevirtual 155, 3) := by decide +kernel
theorem dL_carry_222 : decode cL_carry 222 = .ok (.checkcast 32, 3) := by decide +kernel
theorem dL_carry_225 : decode cL_carry 225 = .ok (.invokevirtual 192, 3) := by decide +kernel
theorem dL_carry_228 : decode cL_carry 228 = .ok (.goto 22, 3) := by decide +kernel
theorem dL_carry_231 : decode cL_carry 231 = .ok (.aload_n 0, 1) := by decide +kernel
theorem dL_carry_232 : decode cL_carry 232 = .ok (.aload 4, 2) := by decide +kernel
theorem dL_carry_234 : decode cL_carry 234 = .ok (.aload 6, 2) := by decide +kernel
theorem dL_carry_236 : decode cL_carry 236 = .ok (.getfield 145, 3) := by decide +kernel
theorem dL_carry_239 : decode cL_carry 239 = .ok (.iload 9, 2) := by decide +kernel
theorem dL_carry_241 : decode cL_carry 241 = .ok (.invokevirtual 155, 3) := by decide +kernel
theorem dL_carry_244 : decode cL_carry 244 = .ok (.checkcast 32, 3) := by decide +kernel
theorem dL_carry_247 : decode cL_carry 247 = .ok (.invokevirtual 196, 3) := by decide +kernel
theorem dL_carry_250 : decode cL_carry 250 = .ok (.iinc 9 1, 3) := by decide +kernel
theorem dL_carry_253 : decode cL_carry 253 = .ok (.goto (-86), 3) := by decide +kernel
theorem dL_carry_256 : decode cL_carry 256 = .ok (.aload 5, 2) := by decide +kernel
theorem dL_carry_258 : decode cL_carry 258 = .ok (.getfield 185, 3) := by decide +kernel
theorem dL_carry_261 : decode cL_carry 261 = .ok (.iload 7, 2) := by decide +kernel
theorem dL_carry_263 : decode cL_carry 263 = .ok (.isub, 1) := by decide +kernel
theorem dL_carry_264 : decode cL_carry 264 = .ok (.ireturn, 1) := by decide +kernel
theorem dL_drop_0 : decode cL_drop 0 = .ok (.aload_n 0, 1) := by decide +kernel
theorem dL_drop_1 : decode cL_drop 1 = .ok (.getfield 28, 3) := by decide +kernel
theorem dL_drop_4 : decode cL_drop 4 = .ok (.iload_n 1, 1) := by decide +kernel
theorem dL_drop_5 : decode cL_drop 5 = .ok (.invokevirtual 200, 3) := by decide +kernel
theorem dL_drop_8 : decode cL_drop 8 = .ok (.ireturn, 1) := by decide +kernel
theorem dL_letter_0 : decode cL_letter 0 = .ok (.aload_n 0, 1) := by decide +kernel
theorem dL_letter_1 : decode cL_letter 1 = .ok (.getfield 28, 3) := by decide +kernel
theorem dL_letter_4 : decode cL_letter 4 = .ok (.iload_n 1, 1) := by decide +kernel
theorem dL_letter_5 : decode cL_letter 5 = .ok (.iload_n 2, 1) := by decide +kernel
theorem dL_letter_6 : decode cL_letter 6 = .ok (.invokevirtual 165, 3) := by decide +kernel
theorem dL_letter_9 : decode cL_letter 9 = .ok (.ireturn, 1) := by decide +kernel
theorem dL_book_0 : decode cL_book 0 = .ok (.aload_n 0, 1) := by decide +kernel
theorem dL_book_1 : decode cL_book 1 = .ok (.iload_n 2, 1) := by decide +kernel
theorem dL_book_2 : decode cL_book 2 = .ok (.invokevirtual 88, 3) := by decide +kernel
theorem dL_book_5 : decode cL_book 5 = .ok (.astore 4, 2) := by decide +kernel
theorem dL_book_7 : decode cL_book 7 = .ok (.aload 4, 2) := by decide +kernel
theorem dL_book_9 : decode cL_book 9 = .ok (.iload_n 1, 1) := by decide +kernel
theorem dL_book_10 : decode cL_book 10 = .ok (.invokestatic 134, 3) := by decide +kernel
theorem dL_book_13 : decode cL_book 13 = .ok (.astore 5, 2) := by decide +kernel
theorem dL_book_15 : decode cL_book 15 = .ok (.aload 4, 2) := by decide +kernel
theorem dL_book_17 : decode cL_book 17 = .ok (.ifnull 8, 3) := by decide +kernel
theorem dL_book_20 : decode cL_book 20 = .ok (.aload 5, 2) := by decide +kernel
theorem dL_book_22 : decode cL_book 22 = .ok (.ifnonnull 5, 3) := by decide +kernel
theorem dL_book_25 : decode cL_book 25 = .ok (.iconst (-1), 1) := by decide +kernel
theorem dL_book_26 : decode cL_book 26 = .ok (.ireturn, 1) := by decide +kernel
theorem dL_book_27 : decode cL_book 27 = .ok (.iload_n 1, 1) := by decide +kernel
theorem dL_book_28 : decode cL_book 28 = .ok (.aload 4, 2) := by decide +kernel
theorem dL_book_30 : decode cL_book 30 = .ok (.getfield 96, 3) := by decide +kernel
theorem dL_book_33 : decode cL_book 33 = .ok (.if_icmp .ne 26, 3) := by decide +kernel
theorem dL_book_36 : decode cL_book 36 = .ok (.aload 4, 2) := by decide +kernel
theorem dL_book_38 : decode cL_book 38 = .ok (.getfield 107, 3) := by decide +kernel
theorem dL_book_41 : decode cL_book 41 = .ok (.aload 5, 2) := by decide +kernel
theorem dL_book_43 : decode cL_book 43 = .ok (.aload 4, 2) := by decide +kernel
theorem dL_book_45 : decode cL_book 45 = .ok (.getfield 107, 3) := by decide +kernel
theorem dL_book_48 : decode cL_book 48 = .ok (.getfield 111, 3) := by decide +kernel
theorem dL_book_51 : decode cL_book 51 = .ok (.invokestatic 203, 3) := by decide +kernel
theorem dL_book_54 : decode cL_book 54 = .ok (.iload_n 3, 1) := by decide +kernel
theorem dL_book_55 : decode cL_book 55 = .ok (.invokestatic 206, 3) := by decide +kernel
theorem dL_book_58 : decode cL_book 58 = .ok (.ireturn, 1) := by decide +kernel
theorem dL_book_59 : decode cL_book 59 = .ok (.aload 4, 2) := by decide +kernel
theorem dL_book_61 : decode cL_book 61 = .ok (.iload_n 1, 1) := by decide +kernel
theorem dL_book_62 : decode cL_book 62 = .ok (.invokevirtual 116, 3) := by decide +kernel
theorem dL_book_65 : decode cL_book 65 = .ok (.astore 6, 2) := by decide +kernel
theorem dL_book_67 : decode cL_book 67 = .ok (.aload 6, 2) := by decide +kernel
theorem dL_book_69 : decode cL_book 69 = .ok (.ifnonnull 7, 3) := by decide +kernel
theorem dL_book_72 : decode cL_book 72 = .ok (.iconst (-1), 1) := by decide +kernel
theorem dL_book_73 : decode cL_book 73 = .ok (.goto 31, 3) := by decide +kernel
theorem dL_book_76 : decode cL_book 76 = .ok (.aload 6, 2) := by decide +kernel
theorem dL_book_78 : decode cL_book 78 = .ok (.getfield 128, 3) := by decide +kernel
theorem dL_book_81 : decode cL_book 81 = .ok (.aload 5, 2) := by decide +kernel
theorem dL_book_83 : decode cL_book 83 = .ok (.aload 6, 2) := by decide +kernel
theorem dL_book_85 : decode cL_book 85 = .ok (.getfield 128, 3) := by decide +kernel
theorem dL_book_88 : decode cL_book 88 = .ok (.getfield 111, 3) := by decide +kernel
theorem dL_book_91 : decode cL_book 91 = .ok (.iconst 3, 1) := by decide +kernel
theorem dL_book_92 : decode cL_book 92 = .ok (.if_icmp .ne 7, 3) := by decide +kernel
theorem dL_book_95 : decode cL_book 95 = .ok (.iconst 1, 1) := by decide +kernel
theorem dL_book_96 : decode cL_book 96 = .ok (.goto 4, 3) := by decide +kernel
theorem dL_book_99 : decode cL_book 99 = .ok (.iconst 0, 1) := by decide +kernel
theorem dL_book_100 : decode cL_book 100 = .ok (.iload_n 3, 1) := by decide +kernel
theorem dL_book_101 : decode cL_book 101 = .ok (.invokestatic 206, 3) := by decide +kernel
theorem dL_book_104 : decode cL_book 104 = .ok (.ireturn, 1) := by decide +kernel
theorem dL_supplier_0 : decode cL_supplier 0 = .ok (.aload_n 0, 1) := by decide +kernel
theorem dL_supplier_1 : decode cL_supplier 1 = .ok (.iload_n 1, 1) := by decide +kernel
theorem dL_supplier_2 : decode cL_supplier 2 = .ok (.invokevirtual 88, 3) := by decide +kernel
theorem dL_supplier_5 : decode cL_supplier 5 = .ok (.astore_n 2, 1) := by decide +kernel
theorem dL_supplier_6 : decode cL_supplier 6 = .ok (.aload_n 2, 1) := by decide +kernel
theorem dL_supplier_7 : decode cL_supplier 7 = .ok (.ifnonnull 7, 3) := by decide +kernel
theorem dL_supplier_10 : decode cL_supplier 10 = .ok (.iconst (-1), 1) := by decide +kernel
theorem dL_supplier_11 : decode cL_supplier 11 = .ok (.goto 10, 3) := by decide +kernel
theorem dL_supplier_14 : decode cL_supplier 14 = .ok (.aload_n 2, 1) := by decide +kernel
theorem dL_supplier_15 : decode cL_supplier 15 = .ok (.getfield 212, 3) := by decide +kernel
theorem dL_supplier_18 : decode cL_supplier 18 = .ok (.getfield 216, 3) := by decide +kernel
theorem dL_supplier_21 : decode cL_supplier 21 = .ok (.ireturn, 1) := by decide +kernel
theorem dL_holder_0 : decode cL_holder 0 = .ok (.aload_n 0, 1) := by decide +kernel
theorem dL_holder_1 : decode cL_holder 1 = .ok (.iload_n 1, 1) := by decide +kernel
theorem dL_holder_2 : decode cL_holder 2 = .ok (.invokevirtual 219, 3) := by decide +kernel
theorem dL_holder_5 : decode cL_holder 5 = .ok (.astore_n 2, 1) := by decide +kernel
theorem dL_holder_6 : decode cL_holder 6 = .ok (.aload_n 2, 1) := by decide +kernel
theorem dL_holder_7 : decode cL_holder 7 = .ok (.ifnonnull 7, 3) := by decide +kernel
theorem dL_holder_10 : decode cL_holder 10 = .ok (.iconst (-1), 1) := by decide +kernel
theorem dL_holder_11 : decode cL_holder 11 = .ok (.goto 7, 3) := by decide +kernel
theorem dL_holder_14 : decode cL_holder 14 = .ok (.aload_n 2, 1) := by decide +kernel
theorem dL_holder_15 : decode cL_holder 15 = .ok (.getfield 223, 3) := by decide +kernel
theorem dL_holder_18 : decode cL_holder 18 = .ok (.ireturn, 1) := by decide +kernel
theorem dL_promised_0 : decode cL_promised 0 = .ok (.aload_n 0, 1) := by decide +kernel
theorem dL_promised_1 : decode cL_promised 1 = .ok (.iload_n 1, 1) := by decide +kernel
theorem dL_promised_2 : decode cL_promised 2 = .ok (.invokevirtual 219, 3) := by decide +kernel
theorem dL_promised_5 : decode cL_promised 5 = .ok (.astore_n 2, 1) := by decide +kernel
theorem dL_promised_6 : decode cL_promised 6 = .ok (.aload_n 2, 1) := by decide +kernel
theorem dL_promised_7 : decode cL_promised 7 = .ok (.ifnonnull 7, 3) := by decide +kernel
theorem dL_promised_10 : decode cL_promised 10 = .ok (.iconst (-1), 1) := by decide +kernel
theorem dL_promised_11 : decode cL_promised 11 = .ok (.goto 7, 3) := by decide +kernel
theorem dL_promised_14 : decode cL_promised 14 = .ok (.aload_n 2, 1) := by decide +kernel
theorem dL_promised_15 : decode cL_promised 15 = .ok (.getfield 226, 3) := by decide +kernel
theorem dL_promised_18 : decode cL_promised 18 = .ok (.ireturn, 1) := by decide +kernel
theorem dL_balance_0 : decode cL_balance 0 = .ok (.iload_n 1, 1) := by decide +kernel
theorem dL_balance_1 : decode cL_balance 1 = .ok (.invokestatic 43, 3) := by decide +kernel
theorem dL_balance_4 : decode cL_balance 4 = .ok (.ifCond .eq 12, 3) := by decide +kernel
theorem dL_balance_7 : decode cL_balance 7 = .ok (.aload_n 0, 1) := by decide +kernel
theorem dL_balance_8 : decode cL_balance 8 = .ok (.getfield 21, 3) := by decide +kernel
theorem dL_balance_11 : decode cL_balance 11 = .ok (.iload_n 1, 1) := by decide +kernel
theorem dL_balance_12 : decode cL_balance 12 = .ok (.iaload, 1) := by decide +kernel
theorem dL_balance_13 : decode cL_balance 13 = .ok (.goto 4, 3) := by decide +kernel
theorem dL_balance_16 : decode cL_balance 16 = .ok (.iconst 0, 1) := by decide +kernel
theorem dL_balance_17 : decode cL_balance 17 = .ok (.ireturn, 1) := by decide +kernel
theorem dL_queue_0 : decode cL_queue 0 = .ok (.iload_n 1, 1) := by decide +kernel
theorem dL_queue_1 : decode cL_queue 1 = .ok (.invokestatic 43, 3) := by decide +kernel
theorem dL_queue_4 : decode cL_queue 4 = .ok (.ifCond .eq 10, 3) := by decide +kernel
theorem dL_queue_7 : decode cL_queue 7 = .ok (.iload_n 2, 1) := by decide +kernel
theorem dL_queue_8 : decode cL_queue 8 = .ok (.invokestatic 47, 3) := by decide +kernel
theorem dL_queue_11 : decode cL_queue 11 = .ok (.ifCond .ne 5, 3) := by decide +kernel
theorem dL_queue_14 : decode cL_queue 14 = .ok (.iconst (-1), 1) := by decide +kernel
theorem dL_queue_15 : decode cL_queue 15 = .ok (.ireturn, 1) := by decide +kernel
theorem dL_queue_16 : decode cL_queue 16 = .ok (.iconst 0, 1) := by decide +kernel
theorem dL_queue_17 : decode cL_queue 17 = .ok (.istore_n 3, 1) := by decide +kernel
theorem dL_queue_18 : decode cL_queue 18 = .ok (.iconst 0, 1) := by decide +kernel
theorem dL_queue_19 : decode cL_queue 19 = .ok (.istore 4, 2) := by decide +kernel
theorem dL_queue_21 : decode cL_queue 21 = .ok (.iload 4, 2) := by decide +kernel
theorem dL_queue_23 : decode cL_queue 23 = .ok (.aload_n 0, 1) := by decide +kernel
theorem dL_queue_24 : decode cL_queue 24 = .ok (.getfield 71, 3) := by decide +kernel
theorem dL_queue_27 : decode cL_queue 27 = .ok (.if_icmp .ge 26, 3) := by decide +kernel
theorem dL_queue_30 : decode cL_queue 30 = .ok (.iload_n 1, 1) := by decide +kernel
theorem dL_queue_31 : decode cL_queue 31 = .ok (.iload_n 2, 1) := by decide +kernel
theorem dL_queue_32 : decode cL_queue 32 = .ok (.aload_n 0, 1) := by decide +kernel
theorem dL_queue_33 : decode cL_queue 33 = .ok (.iload 4, 2) := by decide +kernel
theorem dL_queue_35 : decode cL_queue 35 = .ok (.invokevirtual 88, 3) := by decide +kernel
theorem dL_queue_38 : decode cL_queue 38 = .ok (.invokestatic 229, 3) := by decide +kernel
theorem dL_queue_41 : decode cL_queue 41 = .ok (.ifCond .eq 6, 3) := by decide +kernel
theorem dL_queue_44 : decode cL_queue 44 = .ok (.iinc 3 1, 3) := by decide +kernel
theorem dL_queue_47 : decode cL_queue 47 = .ok (.iinc 4 1, 3) := by decide +kernel
theorem dL_queue_50 : decode cL_queue 50 = .ok (.goto (-29), 3) := by decide +kernel
theorem dL_queue_53 : decode cL_queue 53 = .ok (.iload_n 3, 1) := by decide +kernel
theorem dL_queue_54 : decode cL_queue 54 = .ok (.ireturn, 1) := by decide +kernel
theorem dL_settled_0 : decode cL_settled 0 = .ok (.aload_n 0, 1) := by decide +kernel
theorem dL_settled_1 : decode cL_settled 1 = .ok (.iload_n 1, 1) := by decide +kernel
theorem dL_settled_2 : decode cL_settled 2 = .ok (.invokevirtual 88, 3) := by decide +kernel
theorem dL_settled_5 : decode cL_settled 5 = .ok (.astore_n 2, 1) := by decide +kernel
theorem dL_settled_6 : decode cL_settled 6 = .ok (.aload_n 2, 1) := by decide +kernel
theorem dL_settled_7 : decode cL_settled 7 = .ok (.ifnonnull 5, 3) := by decide +kernel
theorem dL_settled_10 : decode cL_settled 10 = .ok (.iconst 0, 1) := by decide +kernel
theorem dL_settled_11 : decode cL_settled 11 = .ok (.ireturn, 1) := by decide +kernel
theorem dL_settled_12 : decode cL_settled 12 = .ok (.aload_n 2, 1) := by decide +kernel
theorem dL_settled_13 : decode cL_settled 13 = .ok (.getfield 212, 3) := by decide +kernel
theorem dL_settled_16 : decode cL_settled 16 = .ok (.getfield 169, 3) := by decide +kernel
theorem dL_settled_19 : decode cL_settled 19 = .ok (.astore_n 3, 1) := by decide +kernel
theorem dL_settled_20 : decode cL_settled 20 = .ok (.aload_n 2, 1) := by decide +kernel
theorem dL_settled_21 : decode cL_settled 21 = .ok (.getfield 212, 3) := by decide +kernel
theorem dL_settled_24 : decode cL_settled 24 = .ok (.getfield 173, 3) := by decide +kernel
theorem dL_settled_27 : decode cL_settled 27 = .ok (.astore 4, 2) := by decide +kernel
theorem dL_settled_29 : decode cL_settled 29 = .ok (.aload_n 3, 1) := by decide +kernel
theorem dL_settled_30 : decode cL_settled 30 = .ok (.aload 4, 2) := by decide +kernel
theorem dL_settled_32 : decode cL_settled 32 = .ok (.invokevirtual 233, 3) := by decide +kernel
theorem dL_settled_35 : decode cL_settled 35 = .ok (.ifCond .eq 16, 3) := by decide +kernel
theorem dL_settled_38 : decode cL_settled 38 = .ok (.aload 4, 2) := by decide +kernel
theorem dL_settled_40 : decode cL_settled 40 = .ok (.aload_n 3, 1) := by decide +kernel
theorem dL_settled_41 : decode cL_settled 41 = .ok (.invokevirtual 233, 3) := by decide +kernel
theorem dL_settled_44 : decode cL_settled 44 = .ok (.ifCond .eq 7, 3) := by decide +kernel
theorem dL_settled_47 : decode cL_settled 47 = .ok (.iconst 1, 1) := by decide +kernel
theorem dL_settled_48 : decode cL_settled 48 = .ok (.goto 4, 3) := by decide +kernel
theorem dL_settled_51 : decode cL_settled 51 = .ok (.iconst 0, 1) := by decide +kernel
theorem dL_settled_52 : decode cL_settled 52 = .ok (.ireturn, 1) := by decide +kernel
theorem dL_isLibrary_0 : decode cL_isLibrary 0 = .ok (.iload_n 0, 1) := by decide +kernel
theorem dL_isLibrary_1 : decode cL_isLibrary 1 = .ok (.ifCond .lt 13, 3) := by decide +kernel
theorem dL_isLibrary_4 : decode cL_isLibrary 4 = .ok (.iload_n 0, 1) := by decide +kernel
theorem dL_isLibrary_5 : decode cL_isLibrary 5 = .ok (.bipush 6, 2) := by decide +kernel
theorem dL_isLibrary_7 : decode cL_isLibrary 7 = .ok (.if_icmp .ge 7, 3) := by decide +kernel
theorem dL_isLibrary_10 : decode cL_isLibrary 10 = .ok (.iconst 1, 1) := by decide +kernel
theorem dL_isLibrary_11 : decode cL_isLibrary 11 = .ok (.goto 4, 3) := by decide +kernel
theorem dL_isLibrary_14 : decode cL_isLibrary 14 = .ok (.iconst 0, 1) := by decide +kernel
theorem dL_isLibrary_15 : decode cL_isLibrary 15 = .ok (.ireturn, 1) := by decide +kernel
theorem dL_isTitle_0 : decode cL_isTitle 0 = .ok (.iload_n 0, 1) := by decide +kernel
theorem dL_isTitle_1 : decode cL_isTitle 1 = .ok (.ifCond .lt 13, 3) := by decide +kernel
theorem dL_isTitle_4 : decode cL_isTitle 4 = .ok (.iload_n 0, 1) := by decide +kernel
theorem dL_isTitle_5 : decode cL_isTitle 5 = .ok (.bipush 8, 2) := by decide +kernel
theorem dL_isTitle_7 : decode cL_isTitle 7 = .ok (.if_icmp .ge 7, 3) := by decide +kernel
theorem dL_isTitle_10 : decode cL_isTitle 10 = .ok (.iconst 1, 1) := by decide +kernel
theorem dL_isTitle_11 : decode cL_isTitle 11 = .ok (.goto 4, 3) := by decide +kernel
theorem dL_isTitle_14 : decode cL_isTitle 14 = .ok (.iconst 0, 1) := by decide +kernel
theorem dL_isTitle_15 : decode cL_isTitle 15 = .ok (.ireturn, 1) := by decide +kernel
theorem dL_loanAt_0 : decode cL_loanAt 0 = .ok (.iload_n 1, 1) := by decide +kernel
theorem dL_loanAt_1 : decode cL_loanAt 1 = .ok (.ifCond .lt 20, 3) := by decide +kernel
theorem dL_loanAt_4 : decode cL_loanAt 4 = .ok (.iload_n 1, 1) := by decide +kernel
theorem dL_loanAt_5 : decode cL_loanAt 5 = .ok (.aload_n 0, 1) := by decide +kernel
theorem dL_loanAt_6 : decode cL_loanAt 6 = .ok (.getfield 71, 3) := by decide +kernel
theorem dL_loanAt_9 : decode cL_loanAt 9 = .ok (.if_icmp .ge 12, 3) := by decide +kernel
theorem dL_loanAt_12 : decode cL_loanAt 12 = .ok (.aload_n 0, 1) := by decide +kernel
theorem dL_loanAt_13 : decode cL_loanAt 13 = .ok (.getfield 17, 3) := by decide +kernel
theorem dL_loanAt_16 : decode cL_loanAt 16 = .ok (.iload_n 1, 1) := by decide +kernel
theorem dL_loanAt_17 : decode cL_loanAt 17 = .ok (.aaload, 1) := by decide +kernel
theorem dL_loanAt_18 : decode cL_loanAt 18 = .ok (.goto 4, 3) := by decide +kernel
theorem dL_loanAt_21 : decode cL_loanAt 21 = .ok (.aconst_null, 1) := by decide +kernel
theorem dL_loanAt_22 : decode cL_loanAt 22 = .ok (.areturn, 1) := by decide +kernel
theorem dL_copyAt_0 : decode cL_copyAt 0 = .ok (.iload_n 1, 1) := by decide +kernel
theorem dL_copyAt_1 : decode cL_copyAt 1 = .ok (.ifCond .lt 20, 3) := by decide +kernel
theorem dL_copyAt_4 : decode cL_copyAt 4 = .ok (.iload_n 1, 1) := by decide +kernel
theorem dL_copyAt_5 : decode cL_copyAt 5 = .ok (.aload_n 0, 1) := by decide +kernel
theorem dL_copyAt_6 : decode cL_copyAt 6 = .ok (.getfield 57, 3) := by decide +kernel
theorem dL_copyAt_9 : decode cL_copyAt 9 = .ok (.if_icmp .ge 12, 3) := by decide +kernel
theorem dL_copyAt_12 : decode cL_copyAt 12 = .ok (.aload_n 0, 1) := by decide +kernel
theorem dL_copyAt_13 : decode cL_copyAt 13 = .ok (.getfield 11, 3) := by decide +kernel
theorem dL_copyAt_16 : decode cL_copyAt 16 = .ok (.iload_n 1, 1) := by decide +kernel
theorem dL_copyAt_17 : decode cL_copyAt 17 = .ok (.aaload, 1) := by decide +kernel
theorem dL_copyAt_18 : decode cL_copyAt 18 = .ok (.goto 4, 3) := by decide +kernel
theorem dL_copyAt_21 : decode cL_copyAt 21 = .ok (.aconst_null, 1) := by decide +kernel
theorem dL_copyAt_22 : decode cL_copyAt 22 = .ok (.areturn, 1) := by decide +kernel
theorem dL_waitsAt_0 : decode cL_waitsAt 0 = .ok (.aload_n 2, 1) := by decide +kernel
theorem dL_waitsAt_1 : decode cL_waitsAt 1 = .ok (.ifnull 11, 3) := by decide +kernel
theorem dL_waitsAt_4 : decode cL_waitsAt 4 = .ok (.aload_n 2, 1) := by decide +kernel
theorem dL_waitsAt_5 : decode cL_waitsAt 5 = .ok (.getfield 237, 3) := by decide +kernel
theorem dL_waitsAt_8 : decode cL_waitsAt 8 = .ok (.iload_n 1, 1) := by decide +kernel
theorem dL_waitsAt_9 : decode cL_waitsAt 9 = .ok (.if_icmp .eq 7, 3) := by decide +kernel
theorem dL_waitsAt_12 : decode cL_waitsAt 12 = .ok (.aconst_null, 1) := by decide +kernel
theorem dL_waitsAt_13 : decode cL_waitsAt 13 = .ok (.goto 8, 3) := by decide +kernel
theorem dL_waitsAt_16 : decode cL_waitsAt 16 = .ok (.aload_n 2, 1) := by decide +kernel
theorem dL_waitsAt_17 : decode cL_waitsAt 17 = .ok (.iload_n 0, 1) := by decide +kernel
theorem dL_waitsAt_18 : decode cL_waitsAt 18 = .ok (.invokevirtual 116, 3) := by decide +kernel
theorem dL_waitsAt_21 : decode cL_waitsAt 21 = .ok (.astore_n 3, 1) := by decide +kernel
theorem dL_waitsAt_22 : decode cL_waitsAt 22 = .ok (.aload_n 3, 1) := by decide +kernel
theorem dL_waitsAt_23 : decode cL_waitsAt 23 = .ok (.ifnull 18, 3) := by decide +kernel
theorem dL_waitsAt_26 : decode cL_waitsAt 26 = .ok (.aload_n 3, 1) := by decide +kernel
theorem dL_waitsAt_27 : decode cL_waitsAt 27 = .ok (.getfield 128, 3) := by decide +kernel
theorem dL_waitsAt_30 : decode cL_waitsAt 30 = .ok (.getfield 111, 3) := by decide +kernel
theorem dL_waitsAt_33 : decode cL_waitsAt 33 = .ok (.iconst 1, 1) := by decide +kernel
theorem dL_waitsAt_34 : decode cL_waitsAt 34 = .ok (.if_icmp .ne 7, 3) := by decide +kernel
theorem dL_waitsAt_37 : decode cL_waitsAt 37 = .ok (.iconst 1, 1) := by decide +kernel
theorem dL_waitsAt_38 : decode cL_waitsAt 38 = .ok (.goto 4, 3) := by decide +kernel
theorem dL_waitsAt_41 : decode cL_waitsAt 41 = .ok (.iconst 0, 1) := by decide +kernel
theorem dL_waitsAt_42 : decode cL_waitsAt 42 = .ok (.ireturn, 1) := by decide +kernel
theorem dL_sideOf_0 : decode cL_sideOf 0 = .ok (.aload_n 0, 1) := by decide +kernel
theorem dL_sideOf_1 : decode cL_sideOf 1 = .ok (.ifnonnull 5, 3) := by decide +kernel
theorem dL_sideOf_4 : decode cL_sideOf 4 = .ok (.aconst_null, 1) := by decide +kernel
theorem dL_sideOf_5 : decode cL_sideOf 5 = .ok (.areturn, 1) := by decide +kernel
theorem dL_sideOf_6 : decode cL_sideOf 6 = .ok (.iload_n 1, 1) := by decide +kernel
theorem dL_sideOf_7 : decode cL_sideOf 7 = .ok (.aload_n 0, 1) := by decide +kernel
theorem dL_sideOf_8 : decode cL_sideOf 8 = .ok (.getfield 96, 3) := by decide +kernel
theorem dL_sideOf_11 : decode cL_sideOf 11 = .ok (.if_icmp .ne 11, 3) := by decide +kernel
theorem dL_sideOf_14 : decode cL_sideOf 14 = .ok (.aload_n 0, 1) := by decide +kernel
theorem dL_sideOf_15 : decode cL_sideOf 15 = .ok (.getfield 212, 3) := by decide +kernel
theorem dL_sideOf_18 : decode cL_sideOf 18 = .ok (.getfield 169, 3) := by decide +kernel
theorem dL_sideOf_21 : decode cL_sideOf 21 = .ok (.areturn, 1) := by decide +kernel
theorem dL_sideOf_22 : decode cL_sideOf 22 = .ok (.aload_n 0, 1) := by decide +kernel
theorem dL_sideOf_23 : decode cL_sideOf 23 = .ok (.iload_n 1, 1) := by decide +kernel
theorem dL_sideOf_24 : decode cL_sideOf 24 = .ok (.invokevirtual 116, 3) := by decide +kernel
theorem dL_sideOf_27 : decode cL_sideOf 27 = .ok (.astore_n 2, 1) := by decide +kernel
theorem dL_sideOf_28 : decode cL_sideOf 28 = .ok (.aload_n 2, 1) := by decide +kernel
theorem dL_sideOf_29 : decode cL_sideOf 29 = .ok (.ifnonnull 7, 3) := by decide +kernel
theorem dL_sideOf_32 : decode cL_sideOf 32 = .ok (.aconst_null, 1) := by decide +kernel
theorem dL_sideOf_33 : decode cL_sideOf 33 = .ok (.goto 7, 3) := by decide +kernel
theorem dL_sideOf_36 : decode cL_sideOf 36 = .ok (.aload_n 2, 1) := by decide +kernel
theorem dL_sideOf_37 : decode cL_sideOf 37 = .ok (.getfield 173, 3) := by decide +kernel
theorem dL_sideOf_40 : decode cL_sideOf 40 = .ok (.areturn, 1) := by decide +kernel
theorem dL_entry_0 : decode cL_entry 0 = .ok (.iload_n 3, 1) := by decide +kernel
theorem dL_entry_1 : decode cL_entry 1 = .ok (.tableswitch 95 0 7 #[47, 52, 57, 62, 67, 75, 80, 85], 47) := by decide +kernel
theorem dL_entry_48 : decode cL_entry 48 = .ok (.aload_n 0, 1) := by decide +kernel
theorem dL_entry_49 : decode cL_entry 49 = .ok (.getfield 111, 3) := by decide +kernel
theorem dL_entry_52 : decode cL_entry 52 = .ok (.ireturn, 1) := by decide +kernel
theorem dL_entry_53 : decode cL_entry 53 = .ok (.aload_n 0, 1) := by decide +kernel
theorem dL_entry_54 : decode cL_entry 54 = .ok (.getfield 240, 3) := by decide +kernel
theorem dL_entry_57 : decode cL_entry 57 = .ok (.ireturn, 1) := by decide +kernel
theorem dL_entry_58 : decode cL_entry 58 = .ok (.aload_n 0, 1) := by decide +kernel
theorem dL_entry_59 : decode cL_entry 59 = .ok (.getfield 243, 3) := by decide +kernel
theorem dL_entry_62 : decode cL_entry 62 = .ok (.ireturn, 1) := by decide +kernel
theorem dL_entry_63 : decode cL_entry 63 = .ok (.aload_n 0, 1) := by decide +kernel
theorem dL_entry_64 : decode cL_entry 64 = .ok (.getfield 246, 3) := by decide +kernel
theorem dL_entry_67 : decode cL_entry 67 = .ok (.ireturn, 1) := by decide +kernel
theorem dL_entry_68 : decode cL_entry 68 = .ok (.aload_n 1, 1) := by decide +kernel
theorem dL_entry_69 : decode cL_entry 69 = .ok (.getfield 145, 3) := by decide +kernel
theorem dL_entry_72 : decode cL_entry 72 = .ok (.invokevirtual 149, 3) := by decide +kernel
theorem dL_entry_75 : decode cL_entry 75 = .ok (.ireturn, 1) := by decide +kernel
theorem dL_entry_76 : decode cL_entry 76 = .ok (.aload_n 1, 1) := by decide +kernel
theorem dL_entry_77 : decode cL_entry 77 = .ok (.getfield 185, 3) := by decide +kernel
theorem dL_entry_80 : decode cL_entry 80 = .ok (.ireturn, 1) := by decide +kernel
theorem dL_entry_81 : decode cL_entry 81 = .ok (.aload_n 1, 1) := by decide +kernel
theorem dL_entry_82 : decode cL_entry 82 = .ok (.getfield 140, 3) := by decide +kernel
theorem dL_entry_85 : decode cL_entry 85 = .ok (.ireturn, 1) := by decide +kernel
theorem dL_entry_86 : decode cL_entry 86 = .ok (.iload_n 2, 1) := by decide +kernel
theorem dL_entry_87 : decode cL_entry 87 = .ok (.ifCond .eq 7, 3) := by decide +kernel
theorem dL_entry_90 : decode cL_entry 90 = .ok (.iconst 1, 1) := by decide +kernel
theorem dL_entry_91 : decode cL_entry 91 = .ok (.goto 4, 3) := by decide +kernel
theorem dL_entry_94 : decode cL_entry 94 = .ok (.iconst 0, 1) := by decide +kernel
theorem dL_entry_95 : decode cL_entry 95 = .ok (.ireturn, 1) := by decide +kernel
theorem dL_entry_96 : decode cL_entry 96 = .ok (.iconst (-1), 1) := by decide +kernel
theorem dL_entry_97 : decode cL_entry 97 = .ok (.ireturn, 1) := by decide +kernel
theorem dL_send_0 : decode cL_send 0 = .ok (.aload_n 1, 1) := by decide +kernel
theorem dL_send_1 : decode cL_send 1 = .ok (.invokevirtual 249, 3) := by decide +kernel
theorem dL_send_4 : decode cL_send 4 = .ok (.ifCond .ne 17, 3) := by decide +kernel
theorem dL_send_7 : decode cL_send 7 = .ok (.aload_n 0, 1) := by decide +kernel
theorem dL_send_8 : decode cL_send 8 = .ok (.getfield 28, 3) := by decide +kernel
theorem dL_send_11 : decode cL_send 11 = .ok (.aload_n 1, 1) := by decide +kernel
theorem dL_send_12 : decode cL_send 12 = .ok (.aload_n 1, 1) := by decide +kernel
theorem dL_send_13 : decode cL_send 13 = .ok (.iload_n 2, 1) := by decide +kernel
theorem dL_send_14 : decode cL_send 14 = .ok (.iload_n 3, 1) := by decide +kernel
theorem dL_send_15 : decode cL_send 15 = .ok (.invokevirtual 253, 3) := by decide +kernel
theorem dL_send_18 : decode cL_send 18 = .ok (.invokevirtual 159, 3) := by decide +kernel
theorem dL_send_21 : decode cL_send 21 = .ok (.return_, 1) := by decide +kernel
theorem dL_requesterWrites_0 : decode cL_requesterWrites 0 = .ok (.aload_n 1, 1) := by decide +kernel
theorem dL_requesterWrites_1 : decode cL_requesterWrites 1 = .ok (.getfield 107, 3) := by decide +kernel
theorem dL_requesterWrites_4 : decode cL_requesterWrites 4 = .ok (.iload_n 2, 1) := by decide +kernel
theorem dL_requesterWrites_5 : decode cL_requesterWrites 5 = .ok (.putfield 111, 3) := by decide +kernel
theorem dL_requesterWrites_8 : decode cL_requesterWrites 8 = .ok (.aload_n 0, 1) := by decide +kernel
theorem dL_requesterWrites_9 : decode cL_requesterWrites 9 = .ok (.aload_n 1, 1) := by decide +kernel
theorem dL_requesterWrites_10 : decode cL_requesterWrites 10 = .ok (.getfield 212, 3) := by decide +kernel
theorem dL_requesterWrites_13 : decode cL_requesterWrites 13 = .ok (.getfield 169, 3) := by decide +kernel
theorem dL_requesterWrites_16 : decode cL_requesterWrites 16 = .ok (.iload_n 3, 1) := by decide +kernel
theorem dL_requesterWrites_17 : decode cL_requesterWrites 17 = .ok (.iload 4, 2) := by decide +kernel
theorem dL_requesterWrites_19 : decode cL_requesterWrites 19 = .ok (.invokevirtual 257, 3) := by decide +kernel
theorem dL_requesterWrites_22 : decode cL_requesterWrites 22 = .ok (.iconst 1, 1) := by decide +kernel
theorem dL_requesterWrites_23 : decode cL_requesterWrites 23 = .ok (.ireturn, 1) := by decide +kernel
theorem dL_supplierWrites_0 : decode cL_supplierWrites 0 = .ok (.aload_n 1, 1) := by decide +kernel
theorem dL_supplierWrites_1 : decode cL_supplierWrites 1 = .ok (.getfield 128, 3) := by decide +kernel
theorem dL_supplierWrites_4 : decode cL_supplierWrites 4 = .ok (.iload_n 2, 1) := by decide +kernel
theorem dL_supplierWrites_5 : decode cL_supplierWrites 5 = .ok (.putfield 111, 3) := by decide +kernel
theorem dL_supplierWrites_8 : decode cL_supplierWrites 8 = .ok (.aload_n 0, 1) := by decide +kernel
theorem dL_supplierWrites_9 : decode cL_supplierWrites 9 = .ok (.aload_n 1, 1) := by decide +kernel
theorem dL_supplierWrites_10 : decode cL_supplierWrites 10 = .ok (.getfield 173, 3) := by decide +kernel
theorem dL_supplierWrites_13 : decode cL_supplierWrites 13 = .ok (.iload_n 3, 1) := by decide +kernel
theorem dL_supplierWrites_14 : decode cL_supplierWrites 14 = .ok (.iload 4, 2) := by decide +kernel
theorem dL_supplierWrites_16 : decode cL_supplierWrites 16 = .ok (.invokevirtual 257, 3) := by decide +kernel
theorem dL_supplierWrites_19 : decode cL_supplierWrites 19 = .ok (.iconst 1, 1) := by decide +kernel
