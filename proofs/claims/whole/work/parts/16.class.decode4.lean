theorem dL_recall_15 : decode cL_recall 15 = .ok (.getfield 111, 3) := by decide +kernel
theorem dL_recall_18 : decode cL_recall 18 = .ok (.bipush 6, 2) := by decide +kernel
theorem dL_recall_20 : decode cL_recall 20 = .ok (.if_icmp .eq 5, 3) := by decide +kernel
theorem dL_recall_23 : decode cL_recall 23 = .ok (.iconst 0, 1) := by decide +kernel
theorem dL_recall_24 : decode cL_recall 24 = .ok (.ireturn, 1) := by decide +kernel
theorem dL_recall_25 : decode cL_recall 25 = .ok (.aload_n 1, 1) := by decide +kernel
theorem dL_recall_26 : decode cL_recall 26 = .ok (.getfield 128, 3) := by decide +kernel
theorem dL_recall_29 : decode cL_recall 29 = .ok (.aload_n 1, 1) := by decide +kernel
theorem dL_recall_30 : decode cL_recall 30 = .ok (.getfield 128, 3) := by decide +kernel
theorem dL_recall_33 : decode cL_recall 33 = .ok (.getfield 240, 3) := by decide +kernel
theorem dL_recall_36 : decode cL_recall 36 = .ok (.aload_n 0, 1) := by decide +kernel
theorem dL_recall_37 : decode cL_recall 37 = .ok (.getfield 131, 3) := by decide +kernel
theorem dL_recall_40 : decode cL_recall 40 = .ok (.bipush 7, 2) := by decide +kernel
theorem dL_recall_42 : decode cL_recall 42 = .ok (.iadd, 1) := by decide +kernel
theorem dL_recall_43 : decode cL_recall 43 = .ok (.invokestatic 344, 3) := by decide +kernel
theorem dL_recall_46 : decode cL_recall 46 = .ok (.putfield 240, 3) := by decide +kernel
theorem dL_recall_49 : decode cL_recall 49 = .ok (.aload_n 0, 1) := by decide +kernel
theorem dL_recall_50 : decode cL_recall 50 = .ok (.aload_n 1, 1) := by decide +kernel
theorem dL_recall_51 : decode cL_recall 51 = .ok (.bipush 7, 2) := by decide +kernel
theorem dL_recall_53 : decode cL_recall 53 = .ok (.bipush 11, 2) := by decide +kernel
theorem dL_recall_55 : decode cL_recall 55 = .ok (.aload_n 1, 1) := by decide +kernel
theorem dL_recall_56 : decode cL_recall 56 = .ok (.getfield 128, 3) := by decide +kernel
theorem dL_recall_59 : decode cL_recall 59 = .ok (.getfield 240, 3) := by decide +kernel
theorem dL_recall_62 : decode cL_recall 62 = .ok (.invokevirtual 337, 3) := by decide +kernel
theorem dL_recall_65 : decode cL_recall 65 = .ok (.ireturn, 1) := by decide +kernel
theorem dL_checkIn_0 : decode cL_checkIn 0 = .ok (.aload_n 1, 1) := by decide +kernel
theorem dL_checkIn_1 : decode cL_checkIn 1 = .ok (.getfield 128, 3) := by decide +kernel
theorem dL_checkIn_4 : decode cL_checkIn 4 = .ok (.getfield 111, 3) := by decide +kernel
theorem dL_checkIn_7 : decode cL_checkIn 7 = .ok (.bipush 8, 2) := by decide +kernel
theorem dL_checkIn_9 : decode cL_checkIn 9 = .ok (.if_icmp .eq 5, 3) := by decide +kernel
theorem dL_checkIn_12 : decode cL_checkIn 12 = .ok (.iconst 0, 1) := by decide +kernel
theorem dL_checkIn_13 : decode cL_checkIn 13 = .ok (.ireturn, 1) := by decide +kernel
theorem dL_checkIn_14 : decode cL_checkIn 14 = .ok (.aload_n 1, 1) := by decide +kernel
theorem dL_checkIn_15 : decode cL_checkIn 15 = .ok (.invokevirtual 347, 3) := by decide +kernel
theorem dL_checkIn_18 : decode cL_checkIn 18 = .ok (.aload_n 1, 1) := by decide +kernel
theorem dL_checkIn_19 : decode cL_checkIn 19 = .ok (.getfield 128, 3) := by decide +kernel
theorem dL_checkIn_22 : decode cL_checkIn 22 = .ok (.bipush 10, 2) := by decide +kernel
theorem dL_checkIn_24 : decode cL_checkIn 24 = .ok (.iconst 0, 1) := by decide +kernel
theorem dL_checkIn_25 : decode cL_checkIn 25 = .ok (.aload_n 0, 1) := by decide +kernel
theorem dL_checkIn_26 : decode cL_checkIn 26 = .ok (.getfield 131, 3) := by decide +kernel
theorem dL_checkIn_29 : decode cL_checkIn 29 = .ok (.aload_n 1, 1) := by decide +kernel
theorem dL_checkIn_30 : decode cL_checkIn 30 = .ok (.getfield 128, 3) := by decide +kernel
theorem dL_checkIn_33 : decode cL_checkIn 33 = .ok (.getfield 240, 3) := by decide +kernel
theorem dL_checkIn_36 : decode cL_checkIn 36 = .ok (.isub, 1) := by decide +kernel
theorem dL_checkIn_37 : decode cL_checkIn 37 = .ok (.invokestatic 176, 3) := by decide +kernel
theorem dL_checkIn_40 : decode cL_checkIn 40 = .ok (.imul, 1) := by decide +kernel
theorem dL_checkIn_41 : decode cL_checkIn 41 = .ok (.aload_n 1, 1) := by decide +kernel
theorem dL_checkIn_42 : decode cL_checkIn 42 = .ok (.getfield 128, 3) := by decide +kernel
theorem dL_checkIn_45 : decode cL_checkIn 45 = .ok (.getfield 243, 3) := by decide +kernel
theorem dL_checkIn_48 : decode cL_checkIn 48 = .ok (.iadd, 1) := by decide +kernel
theorem dL_checkIn_49 : decode cL_checkIn 49 = .ok (.putfield 246, 3) := by decide +kernel
theorem dL_checkIn_52 : decode cL_checkIn 52 = .ok (.aload_n 0, 1) := by decide +kernel
theorem dL_checkIn_53 : decode cL_checkIn 53 = .ok (.aload_n 1, 1) := by decide +kernel
theorem dL_checkIn_54 : decode cL_checkIn 54 = .ok (.getfield 216, 3) := by decide +kernel
theorem dL_checkIn_57 : decode cL_checkIn 57 = .ok (.aload_n 1, 1) := by decide +kernel
theorem dL_checkIn_58 : decode cL_checkIn 58 = .ok (.getfield 128, 3) := by decide +kernel
theorem dL_checkIn_61 : decode cL_checkIn 61 = .ok (.getfield 246, 3) := by decide +kernel
theorem dL_checkIn_64 : decode cL_checkIn 64 = .ok (.invokevirtual 298, 3) := by decide +kernel
theorem dL_checkIn_67 : decode cL_checkIn 67 = .ok (.aload_n 0, 1) := by decide +kernel
theorem dL_checkIn_68 : decode cL_checkIn 68 = .ok (.aload_n 1, 1) := by decide +kernel
theorem dL_checkIn_69 : decode cL_checkIn 69 = .ok (.bipush 9, 2) := by decide +kernel
theorem dL_checkIn_71 : decode cL_checkIn 71 = .ok (.bipush 13, 2) := by decide +kernel
theorem dL_checkIn_73 : decode cL_checkIn 73 = .ok (.aload_n 1, 1) := by decide +kernel
theorem dL_checkIn_74 : decode cL_checkIn 74 = .ok (.getfield 128, 3) := by decide +kernel
theorem dL_checkIn_77 : decode cL_checkIn 77 = .ok (.getfield 246, 3) := by decide +kernel
theorem dL_checkIn_80 : decode cL_checkIn 80 = .ok (.invokevirtual 337, 3) := by decide +kernel
theorem dL_checkIn_83 : decode cL_checkIn 83 = .ok (.ireturn, 1) := by decide +kernel
theorem dL_supplierTakes_0 : decode cL_supplierTakes 0 = .ok (.aload_n 1, 1) := by decide +kernel
theorem dL_supplierTakes_1 : decode cL_supplierTakes 1 = .ok (.getfield 128, 3) := by decide +kernel
theorem dL_supplierTakes_4 : decode cL_supplierTakes 4 = .ok (.getfield 111, 3) := by decide +kernel
theorem dL_supplierTakes_7 : decode cL_supplierTakes 7 = .ok (.istore_n 3, 1) := by decide +kernel
theorem dL_supplierTakes_8 : decode cL_supplierTakes 8 = .ok (.aload_n 2, 1) := by decide +kernel
theorem dL_supplierTakes_9 : decode cL_supplierTakes 9 = .ok (.getfield 350, 3) := by decide +kernel
theorem dL_supplierTakes_12 : decode cL_supplierTakes 12 = .ok (.tableswitch 196 1 15 #[76, 196, 196, 196, 93, 111, 196, 138, 156, 196, 196, 175, 196, 188, 130], 76) := by decide +kernel
theorem dL_supplierTakes_88 : decode cL_supplierTakes 88 = .ok (.aload_n 1, 1) := by decide +kernel
theorem dL_supplierTakes_89 : decode cL_supplierTakes 89 = .ok (.iload_n 3, 1) := by decide +kernel
theorem dL_supplierTakes_90 : decode cL_supplierTakes 90 = .ok (.ifCond .ne 7, 3) := by decide +kernel
theorem dL_supplierTakes_93 : decode cL_supplierTakes 93 = .ok (.iconst 1, 1) := by decide +kernel
theorem dL_supplierTakes_94 : decode cL_supplierTakes 94 = .ok (.goto 4, 3) := by decide +kernel
theorem dL_supplierTakes_97 : decode cL_supplierTakes 97 = .ok (.iconst 0, 1) := by decide +kernel
theorem dL_supplierTakes_98 : decode cL_supplierTakes 98 = .ok (.iconst 1, 1) := by decide +kernel
theorem dL_supplierTakes_99 : decode cL_supplierTakes 99 = .ok (.invokevirtual 353, 3) := by decide +kernel
theorem dL_supplierTakes_102 : decode cL_supplierTakes 102 = .ok (.goto 106, 3) := by decide +kernel
theorem dL_supplierTakes_105 : decode cL_supplierTakes 105 = .ok (.aload_n 1, 1) := by decide +kernel
theorem dL_supplierTakes_106 : decode cL_supplierTakes 106 = .ok (.iload_n 3, 1) := by decide +kernel
theorem dL_supplierTakes_107 : decode cL_supplierTakes 107 = .ok (.iconst 2, 1) := by decide +kernel
theorem dL_supplierTakes_108 : decode cL_supplierTakes 108 = .ok (.if_icmp .ne 7, 3) := by decide +kernel
theorem dL_supplierTakes_111 : decode cL_supplierTakes 111 = .ok (.iconst 1, 1) := by decide +kernel
theorem dL_supplierTakes_112 : decode cL_supplierTakes 112 = .ok (.goto 4, 3) := by decide +kernel
theorem dL_supplierTakes_115 : decode cL_supplierTakes 115 = .ok (.iconst 0, 1) := by decide +kernel
theorem dL_supplierTakes_116 : decode cL_supplierTakes 116 = .ok (.iconst 1, 1) := by decide +kernel
theorem dL_supplierTakes_117 : decode cL_supplierTakes 117 = .ok (.invokevirtual 353, 3) := by decide +kernel
theorem dL_supplierTakes_120 : decode cL_supplierTakes 120 = .ok (.goto 88, 3) := by decide +kernel
theorem dL_supplierTakes_123 : decode cL_supplierTakes 123 = .ok (.aload_n 1, 1) := by decide +kernel
theorem dL_supplierTakes_124 : decode cL_supplierTakes 124 = .ok (.iload_n 3, 1) := by decide +kernel
theorem dL_supplierTakes_125 : decode cL_supplierTakes 125 = .ok (.iconst 2, 1) := by decide +kernel
theorem dL_supplierTakes_126 : decode cL_supplierTakes 126 = .ok (.if_icmp .ne 7, 3) := by decide +kernel
theorem dL_supplierTakes_129 : decode cL_supplierTakes 129 = .ok (.iconst 1, 1) := by decide +kernel
theorem dL_supplierTakes_130 : decode cL_supplierTakes 130 = .ok (.goto 4, 3) := by decide +kernel
theorem dL_supplierTakes_133 : decode cL_supplierTakes 133 = .ok (.iconst 0, 1) := by decide +kernel
theorem dL_supplierTakes_134 : decode cL_supplierTakes 134 = .ok (.bipush 10, 2) := by decide +kernel
theorem dL_supplierTakes_136 : decode cL_supplierTakes 136 = .ok (.invokevirtual 353, 3) := by decide +kernel
theorem dL_supplierTakes_139 : decode cL_supplierTakes 139 = .ok (.goto 69, 3) := by decide +kernel
theorem dL_supplierTakes_142 : decode cL_supplierTakes 142 = .ok (.aload_n 0, 1) := by decide +kernel
theorem dL_supplierTakes_143 : decode cL_supplierTakes 143 = .ok (.aload_n 1, 1) := by decide +kernel
theorem dL_supplierTakes_144 : decode cL_supplierTakes 144 = .ok (.invokevirtual 357, 3) := by decide +kernel
theorem dL_supplierTakes_147 : decode cL_supplierTakes 147 = .ok (.goto 61, 3) := by decide +kernel
theorem dL_supplierTakes_150 : decode cL_supplierTakes 150 = .ok (.aload_n 1, 1) := by decide +kernel
theorem dL_supplierTakes_151 : decode cL_supplierTakes 151 = .ok (.iload_n 3, 1) := by decide +kernel
theorem dL_supplierTakes_152 : decode cL_supplierTakes 152 = .ok (.iconst 4, 1) := by decide +kernel
theorem dL_supplierTakes_153 : decode cL_supplierTakes 153 = .ok (.if_icmp .ne 7, 3) := by decide +kernel
theorem dL_supplierTakes_156 : decode cL_supplierTakes 156 = .ok (.iconst 1, 1) := by decide +kernel
theorem dL_supplierTakes_157 : decode cL_supplierTakes 157 = .ok (.goto 4, 3) := by decide +kernel
theorem dL_supplierTakes_160 : decode cL_supplierTakes 160 = .ok (.iconst 0, 1) := by decide +kernel
theorem dL_supplierTakes_161 : decode cL_supplierTakes 161 = .ok (.iconst 5, 1) := by decide +kernel
theorem dL_supplierTakes_162 : decode cL_supplierTakes 162 = .ok (.invokevirtual 353, 3) := by decide +kernel
theorem dL_supplierTakes_165 : decode cL_supplierTakes 165 = .ok (.goto 43, 3) := by decide +kernel
theorem dL_supplierTakes_168 : decode cL_supplierTakes 168 = .ok (.aload_n 1, 1) := by decide +kernel
theorem dL_supplierTakes_169 : decode cL_supplierTakes 169 = .ok (.iload_n 3, 1) := by decide +kernel
theorem dL_supplierTakes_170 : decode cL_supplierTakes 170 = .ok (.iconst 5, 1) := by decide +kernel
theorem dL_supplierTakes_171 : decode cL_supplierTakes 171 = .ok (.if_icmp .ne 7, 3) := by decide +kernel
theorem dL_supplierTakes_174 : decode cL_supplierTakes 174 = .ok (.iconst 1, 1) := by decide +kernel
theorem dL_supplierTakes_175 : decode cL_supplierTakes 175 = .ok (.goto 4, 3) := by decide +kernel
theorem dL_supplierTakes_178 : decode cL_supplierTakes 178 = .ok (.iconst 0, 1) := by decide +kernel
theorem dL_supplierTakes_179 : decode cL_supplierTakes 179 = .ok (.bipush 6, 2) := by decide +kernel
theorem dL_supplierTakes_181 : decode cL_supplierTakes 181 = .ok (.invokevirtual 353, 3) := by decide +kernel
theorem dL_supplierTakes_184 : decode cL_supplierTakes 184 = .ok (.goto 24, 3) := by decide +kernel
theorem dL_supplierTakes_187 : decode cL_supplierTakes 187 = .ok (.aload_n 1, 1) := by decide +kernel
theorem dL_supplierTakes_188 : decode cL_supplierTakes 188 = .ok (.iload_n 3, 1) := by decide +kernel
theorem dL_supplierTakes_189 : decode cL_supplierTakes 189 = .ok (.invokestatic 361, 3) := by decide +kernel
theorem dL_supplierTakes_192 : decode cL_supplierTakes 192 = .ok (.bipush 8, 2) := by decide +kernel
theorem dL_supplierTakes_194 : decode cL_supplierTakes 194 = .ok (.invokevirtual 353, 3) := by decide +kernel
theorem dL_supplierTakes_197 : decode cL_supplierTakes 197 = .ok (.goto 11, 3) := by decide +kernel
theorem dL_supplierTakes_200 : decode cL_supplierTakes 200 = .ok (.aload_n 0, 1) := by decide +kernel
theorem dL_supplierTakes_201 : decode cL_supplierTakes 201 = .ok (.aload_n 1, 1) := by decide +kernel
theorem dL_supplierTakes_202 : decode cL_supplierTakes 202 = .ok (.invokevirtual 364, 3) := by decide +kernel
theorem dL_supplierTakes_205 : decode cL_supplierTakes 205 = .ok (.goto 3, 3) := by decide +kernel
theorem dL_supplierTakes_208 : decode cL_supplierTakes 208 = .ok (.return_, 1) := by decide +kernel
theorem dL_supplierIsCancelled_0 : decode cL_supplierIsCancelled 0 = .ok (.aload_n 1, 1) := by decide +kernel
theorem dL_supplierIsCancelled_1 : decode cL_supplierIsCancelled 1 = .ok (.getfield 128, 3) := by decide +kernel
theorem dL_supplierIsCancelled_4 : decode cL_supplierIsCancelled 4 = .ok (.getfield 111, 3) := by decide +kernel
theorem dL_supplierIsCancelled_7 : decode cL_supplierIsCancelled 7 = .ok (.istore_n 2, 1) := by decide +kernel
theorem dL_supplierIsCancelled_8 : decode cL_supplierIsCancelled 8 = .ok (.iload_n 2, 1) := by decide +kernel
theorem dL_supplierIsCancelled_9 : decode cL_supplierIsCancelled 9 = .ok (.iconst 1, 1) := by decide +kernel
theorem dL_supplierIsCancelled_10 : decode cL_supplierIsCancelled 10 = .ok (.if_icmp .eq 13, 3) := by decide +kernel
theorem dL_supplierIsCancelled_13 : decode cL_supplierIsCancelled 13 = .ok (.iload_n 2, 1) := by decide +kernel
theorem dL_supplierIsCancelled_14 : decode cL_supplierIsCancelled 14 = .ok (.iconst 2, 1) := by decide +kernel
theorem dL_supplierIsCancelled_15 : decode cL_supplierIsCancelled 15 = .ok (.if_icmp .eq 8, 3) := by decide +kernel
theorem dL_supplierIsCancelled_18 : decode cL_supplierIsCancelled 18 = .ok (.iload_n 2, 1) := by decide +kernel
theorem dL_supplierIsCancelled_19 : decode cL_supplierIsCancelled 19 = .ok (.iconst 3, 1) := by decide +kernel
theorem dL_supplierIsCancelled_20 : decode cL_supplierIsCancelled 20 = .ok (.if_icmp .ne 18, 3) := by decide +kernel
theorem dL_supplierIsCancelled_23 : decode cL_supplierIsCancelled 23 = .ok (.aload_n 1, 1) := by decide +kernel
theorem dL_supplierIsCancelled_24 : decode cL_supplierIsCancelled 24 = .ok (.invokevirtual 367, 3) := by decide +kernel
theorem dL_supplierIsCancelled_27 : decode cL_supplierIsCancelled 27 = .ok (.aload_n 0, 1) := by decide +kernel
theorem dL_supplierIsCancelled_28 : decode cL_supplierIsCancelled 28 = .ok (.aload_n 1, 1) := by decide +kernel
theorem dL_supplierIsCancelled_29 : decode cL_supplierIsCancelled 29 = .ok (.bipush 11, 2) := by decide +kernel
theorem dL_supplierIsCancelled_31 : decode cL_supplierIsCancelled 31 = .ok (.bipush 16, 2) := by decide +kernel
theorem dL_supplierIsCancelled_33 : decode cL_supplierIsCancelled 33 = .ok (.iconst 0, 1) := by decide +kernel
theorem dL_supplierIsCancelled_34 : decode cL_supplierIsCancelled 34 = .ok (.invokevirtual 337, 3) := by decide +kernel
theorem dL_supplierIsCancelled_37 : decode cL_supplierIsCancelled 37 = .ok (.pop, 1) := by decide +kernel
theorem dL_supplierIsCancelled_38 : decode cL_supplierIsCancelled 38 = .ok (.return_, 1) := by decide +kernel
theorem dL_supplierHearsOfLoss_0 : decode cL_supplierHearsOfLoss 0 = .ok (.aload_n 1, 1) := by decide +kernel
theorem dL_supplierHearsOfLoss_1 : decode cL_supplierHearsOfLoss 1 = .ok (.getfield 128, 3) := by decide +kernel
theorem dL_supplierHearsOfLoss_4 : decode cL_supplierHearsOfLoss 4 = .ok (.getfield 111, 3) := by decide +kernel
theorem dL_supplierHearsOfLoss_7 : decode cL_supplierHearsOfLoss 7 = .ok (.invokestatic 361, 3) := by decide +kernel
theorem dL_supplierHearsOfLoss_10 : decode cL_supplierHearsOfLoss 10 = .ok (.ifCond .eq 27, 3) := by decide +kernel
theorem dL_supplierHearsOfLoss_13 : decode cL_supplierHearsOfLoss 13 = .ok (.aload_n 1, 1) := by decide +kernel
theorem dL_supplierHearsOfLoss_14 : decode cL_supplierHearsOfLoss 14 = .ok (.invokevirtual 367, 3) := by decide +kernel
theorem dL_supplierHearsOfLoss_17 : decode cL_supplierHearsOfLoss 17 = .ok (.aload_n 1, 1) := by decide +kernel
theorem dL_supplierHearsOfLoss_18 : decode cL_supplierHearsOfLoss 18 = .ok (.getfield 128, 3) := by decide +kernel
theorem dL_supplierHearsOfLoss_21 : decode cL_supplierHearsOfLoss 21 = .ok (.bipush 12, 2) := by decide +kernel
theorem dL_supplierHearsOfLoss_23 : decode cL_supplierHearsOfLoss 23 = .ok (.putfield 111, 3) := by decide +kernel
theorem dL_supplierHearsOfLoss_26 : decode cL_supplierHearsOfLoss 26 = .ok (.aload_n 0, 1) := by decide +kernel
theorem dL_supplierHearsOfLoss_27 : decode cL_supplierHearsOfLoss 27 = .ok (.aload_n 1, 1) := by decide +kernel
theorem dL_supplierHearsOfLoss_28 : decode cL_supplierHearsOfLoss 28 = .ok (.getfield 216, 3) := by decide +kernel
theorem dL_supplierHearsOfLoss_31 : decode cL_supplierHearsOfLoss 31 = .ok (.sipush 4000, 3) := by decide +kernel
theorem dL_supplierHearsOfLoss_34 : decode cL_supplierHearsOfLoss 34 = .ok (.invokevirtual 298, 3) := by decide +kernel
theorem dL_supplierHearsOfLoss_37 : decode cL_supplierHearsOfLoss 37 = .ok (.return_, 1) := by decide +kernel
theorem dL_requesterTakes_0 : decode cL_requesterTakes 0 = .ok (.aload_n 2, 1) := by decide +kernel
theorem dL_requesterTakes_1 : decode cL_requesterTakes 1 = .ok (.aload_n 1, 1) := by decide +kernel
theorem dL_requesterTakes_2 : decode cL_requesterTakes 2 = .ok (.getfield 212, 3) := by decide +kernel
theorem dL_requesterTakes_5 : decode cL_requesterTakes 5 = .ok (.if_acmp .eq 4, 3) := by decide +kernel
theorem dL_requesterTakes_8 : decode cL_requesterTakes 8 = .ok (.return_, 1) := by decide +kernel
theorem dL_requesterTakes_9 : decode cL_requesterTakes 9 = .ok (.aload_n 3, 1) := by decide +kernel
theorem dL_requesterTakes_10 : decode cL_requesterTakes 10 = .ok (.getfield 350, 3) := by decide +kernel
theorem dL_requesterTakes_13 : decode cL_requesterTakes 13 = .ok (.tableswitch 107 2 16 #[75, 75, 75, 107, 107, 84, 107, 107, 84, 84, 107, 95, 107, 107, 75], 75) := by decide +kernel
theorem dL_requesterTakes_88 : decode cL_requesterTakes 88 = .ok (.aload_n 0, 1) := by decide +kernel
theorem dL_requesterTakes_89 : decode cL_requesterTakes 89 = .ok (.aload_n 1, 1) := by decide +kernel
theorem dL_requesterTakes_90 : decode cL_requesterTakes 90 = .ok (.aload_n 3, 1) := by decide +kernel
theorem dL_requesterTakes_91 : decode cL_requesterTakes 91 = .ok (.invokevirtual 370, 3) := by decide +kernel
theorem dL_requesterTakes_94 : decode cL_requesterTakes 94 = .ok (.goto 26, 3) := by decide +kernel
theorem dL_requesterTakes_97 : decode cL_requesterTakes 97 = .ok (.aload_n 1, 1) := by decide +kernel
theorem dL_requesterTakes_98 : decode cL_requesterTakes 98 = .ok (.getfield 107, 3) := by decide +kernel
theorem dL_requesterTakes_101 : decode cL_requesterTakes 101 = .ok (.aload_n 3, 1) := by decide +kernel
theorem dL_requesterTakes_102 : decode cL_requesterTakes 102 = .ok (.invokestatic 374, 3) := by decide +kernel
theorem dL_requesterTakes_105 : decode cL_requesterTakes 105 = .ok (.goto 15, 3) := by decide +kernel
theorem dL_requesterTakes_108 : decode cL_requesterTakes 108 = .ok (.aload_n 0, 1) := by decide +kernel
theorem dL_requesterTakes_109 : decode cL_requesterTakes 109 = .ok (.aload_n 1, 1) := by decide +kernel
theorem dL_requesterTakes_110 : decode cL_requesterTakes 110 = .ok (.aload_n 3, 1) := by decide +kernel
theorem dL_requesterTakes_111 : decode cL_requesterTakes 111 = .ok (.getfield 378, 3) := by decide +kernel
theorem dL_requesterTakes_114 : decode cL_requesterTakes 114 = .ok (.invokevirtual 380, 3) := by decide +kernel
theorem dL_requesterTakes_117 : decode cL_requesterTakes 117 = .ok (.goto 3, 3) := by decide +kernel
theorem dL_requesterTakes_120 : decode cL_requesterTakes 120 = .ok (.return_, 1) := by decide +kernel
theorem dL_requesterHearsAnswer_0 : decode cL_requesterHearsAnswer 0 = .ok (.aload_n 1, 1) := by decide +kernel
theorem dL_requesterHearsAnswer_1 : decode cL_requesterHearsAnswer 1 = .ok (.getfield 107, 3) := by decide +kernel
theorem dL_requesterHearsAnswer_4 : decode cL_requesterHearsAnswer 4 = .ok (.astore_n 3, 1) := by decide +kernel
theorem dL_requesterHearsAnswer_5 : decode cL_requesterHearsAnswer 5 = .ok (.aload_n 3, 1) := by decide +kernel
theorem dL_requesterHearsAnswer_6 : decode cL_requesterHearsAnswer 6 = .ok (.getfield 111, 3) := by decide +kernel
theorem dL_requesterHearsAnswer_9 : decode cL_requesterHearsAnswer 9 = .ok (.bipush 10, 2) := by decide +kernel
theorem dL_requesterHearsAnswer_11 : decode cL_requesterHearsAnswer 11 = .ok (.if_icmp .ne 29, 3) := by decide +kernel
theorem dL_requesterHearsAnswer_14 : decode cL_requesterHearsAnswer 14 = .ok (.aload_n 2, 1) := by decide +kernel
theorem dL_requesterHearsAnswer_15 : decode cL_requesterHearsAnswer 15 = .ok (.getfield 350, 3) := by decide +kernel
theorem dL_requesterHearsAnswer_18 : decode cL_requesterHearsAnswer 18 = .ok (.iconst 4, 1) := by decide +kernel
theorem dL_requesterHearsAnswer_19 : decode cL_requesterHearsAnswer 19 = .ok (.if_icmp .eq 12, 3) := by decide +kernel
theorem dL_requesterHearsAnswer_22 : decode cL_requesterHearsAnswer 22 = .ok (.aload_n 2, 1) := by decide +kernel
theorem dL_requesterHearsAnswer_23 : decode cL_requesterHearsAnswer 23 = .ok (.getfield 350, 3) := by decide +kernel
theorem dL_requesterHearsAnswer_26 : decode cL_requesterHearsAnswer 26 = .ok (.bipush 16, 2) := by decide +kernel
theorem dL_requesterHearsAnswer_28 : decode cL_requesterHearsAnswer 28 = .ok (.if_icmp .ne 73, 3) := by decide +kernel
theorem dL_requesterHearsAnswer_31 : decode cL_requesterHearsAnswer 31 = .ok (.aload_n 3, 1) := by decide +kernel
theorem dL_requesterHearsAnswer_32 : decode cL_requesterHearsAnswer 32 = .ok (.bipush 11, 2) := by decide +kernel
theorem dL_requesterHearsAnswer_34 : decode cL_requesterHearsAnswer 34 = .ok (.putfield 111, 3) := by decide +kernel
theorem dL_requesterHearsAnswer_37 : decode cL_requesterHearsAnswer 37 = .ok (.goto 64, 3) := by decide +kernel
theorem dL_requesterHearsAnswer_40 : decode cL_requesterHearsAnswer 40 = .ok (.aload_n 3, 1) := by decide +kernel
theorem dL_requesterHearsAnswer_41 : decode cL_requesterHearsAnswer 41 = .ok (.getfield 111, 3) := by decide +kernel
theorem dL_requesterHearsAnswer_44 : decode cL_requesterHearsAnswer 44 = .ok (.ifCond .ne 57, 3) := by decide +kernel
theorem dL_requesterHearsAnswer_47 : decode cL_requesterHearsAnswer 47 = .ok (.aload_n 2, 1) := by decide +kernel
theorem dL_requesterHearsAnswer_48 : decode cL_requesterHearsAnswer 48 = .ok (.getfield 350, 3) := by decide +kernel
theorem dL_requesterHearsAnswer_51 : decode cL_requesterHearsAnswer 51 = .ok (.iconst 2, 1) := by decide +kernel
theorem dL_requesterHearsAnswer_52 : decode cL_requesterHearsAnswer 52 = .ok (.if_icmp .ne 11, 3) := by decide +kernel
theorem dL_requesterHearsAnswer_55 : decode cL_requesterHearsAnswer 55 = .ok (.aload_n 3, 1) := by decide +kernel
theorem dL_requesterHearsAnswer_56 : decode cL_requesterHearsAnswer 56 = .ok (.iconst 2, 1) := by decide +kernel
theorem dL_requesterHearsAnswer_57 : decode cL_requesterHearsAnswer 57 = .ok (.putfield 111, 3) := by decide +kernel
theorem dL_requesterHearsAnswer_60 : decode cL_requesterHearsAnswer 60 = .ok (.goto 41, 3) := by decide +kernel
theorem dL_requesterHearsAnswer_63 : decode cL_requesterHearsAnswer 63 = .ok (.aload_n 2, 1) := by decide +kernel
theorem dL_requesterHearsAnswer_64 : decode cL_requesterHearsAnswer 64 = .ok (.getfield 350, 3) := by decide +kernel
theorem dL_requesterHearsAnswer_67 : decode cL_requesterHearsAnswer 67 = .ok (.iconst 3, 1) := by decide +kernel
theorem dL_requesterHearsAnswer_68 : decode cL_requesterHearsAnswer 68 = .ok (.if_icmp .ne 19, 3) := by decide +kernel
theorem dL_requesterHearsAnswer_71 : decode cL_requesterHearsAnswer 71 = .ok (.aload_n 3, 1) := by decide +kernel
theorem dL_requesterHearsAnswer_72 : decode cL_requesterHearsAnswer 72 = .ok (.iconst 1, 1) := by decide +kernel
theorem dL_requesterHearsAnswer_73 : decode cL_requesterHearsAnswer 73 = .ok (.putfield 111, 3) := by decide +kernel
theorem dL_requesterHearsAnswer_76 : decode cL_requesterHearsAnswer 76 = .ok (.aload_n 3, 1) := by decide +kernel
theorem dL_requesterHearsAnswer_77 : decode cL_requesterHearsAnswer 77 = .ok (.aload_n 2, 1) := by decide +kernel
theorem dL_requesterHearsAnswer_78 : decode cL_requesterHearsAnswer 78 = .ok (.getfield 378, 3) := by decide +kernel
theorem dL_requesterHearsAnswer_81 : decode cL_requesterHearsAnswer 81 = .ok (.putfield 243, 3) := by decide +kernel
theorem dL_requesterHearsAnswer_84 : decode cL_requesterHearsAnswer 84 = .ok (.goto 17, 3) := by decide +kernel
theorem dL_requesterHearsAnswer_87 : decode cL_requesterHearsAnswer 87 = .ok (.aload_n 2, 1) := by decide +kernel
theorem dL_requesterHearsAnswer_88 : decode cL_requesterHearsAnswer 88 = .ok (.getfield 350, 3) := by decide +kernel
theorem dL_requesterHearsAnswer_91 : decode cL_requesterHearsAnswer 91 = .ok (.iconst 4, 1) := by decide +kernel
theorem dL_requesterHearsAnswer_92 : decode cL_requesterHearsAnswer 92 = .ok (.if_icmp .ne 9, 3) := by decide +kernel
theorem dL_requesterHearsAnswer_95 : decode cL_requesterHearsAnswer 95 = .ok (.aload_n 0, 1) := by decide +kernel
theorem dL_requesterHearsAnswer_96 : decode cL_requesterHearsAnswer 96 = .ok (.aload_n 1, 1) := by decide +kernel
theorem dL_requesterHearsAnswer_97 : decode cL_requesterHearsAnswer 97 = .ok (.invokevirtual 283, 3) := by decide +kernel
theorem dL_requesterHearsAnswer_100 : decode cL_requesterHearsAnswer 100 = .ok (.pop, 1) := by decide +kernel
theorem dL_requesterHearsAnswer_101 : decode cL_requesterHearsAnswer 101 = .ok (.return_, 1) := by decide +kernel
theorem dL_requesterHearsOfDue_0 : decode cL_requesterHearsOfDue 0 = .ok (.aload_n 0, 1) := by decide +kernel
theorem dL_requesterHearsOfDue_1 : decode cL_requesterHearsOfDue 1 = .ok (.getfield 111, 3) := by decide +kernel
theorem dL_requesterHearsOfDue_4 : decode cL_requesterHearsOfDue 4 = .ok (.istore_n 2, 1) := by decide +kernel
theorem dL_requesterHearsOfDue_5 : decode cL_requesterHearsOfDue 5 = .ok (.aload_n 1, 1) := by decide +kernel
theorem dL_requesterHearsOfDue_6 : decode cL_requesterHearsOfDue 6 = .ok (.getfield 350, 3) := by decide +kernel
theorem dL_requesterHearsOfDue_9 : decode cL_requesterHearsOfDue 9 = .ok (.bipush 7, 2) := by decide +kernel
theorem dL_requesterHearsOfDue_11 : decode cL_requesterHearsOfDue 11 = .ok (.if_icmp .ne 30, 3) := by decide +kernel
theorem dL_requesterHearsOfDue_14 : decode cL_requesterHearsOfDue 14 = .ok (.iload_n 2, 1) := by decide +kernel
theorem dL_requesterHearsOfDue_15 : decode cL_requesterHearsOfDue 15 = .ok (.iconst 2, 1) := by decide +kernel
theorem dL_requesterHearsOfDue_16 : decode cL_requesterHearsOfDue 16 = .ok (.if_icmp .eq 9, 3) := by decide +kernel
theorem dL_requesterHearsOfDue_19 : decode cL_requesterHearsOfDue 19 = .ok (.iload_n 2, 1) := by decide +kernel
theorem dL_requesterHearsOfDue_20 : decode cL_requesterHearsOfDue 20 = .ok (.bipush 10, 2) := by decide +kernel
theorem dL_requesterHearsOfDue_22 : decode cL_requesterHearsOfDue 22 = .ok (.if_icmp .ne 19, 3) := by decide +kernel
theorem dL_requesterHearsOfDue_25 : decode cL_requesterHearsOfDue 25 = .ok (.aload_n 0, 1) := by decide +kernel
theorem dL_requesterHearsOfDue_26 : decode cL_requesterHearsOfDue 26 = .ok (.iconst 3, 1) := by decide +kernel
theorem dL_requesterHearsOfDue_27 : decode cL_requesterHearsOfDue 27 = .ok (.putfield 111, 3) := by decide +kernel
theorem dL_requesterHearsOfDue_30 : decode cL_requesterHearsOfDue 30 = .ok (.aload_n 0, 1) := by decide +kernel
theorem dL_requesterHearsOfDue_31 : decode cL_requesterHearsOfDue 31 = .ok (.aload_n 1, 1) := by decide +kernel
theorem dL_requesterHearsOfDue_32 : decode cL_requesterHearsOfDue 32 = .ok (.getfield 378, 3) := by decide +kernel
theorem dL_requesterHearsOfDue_35 : decode cL_requesterHearsOfDue 35 = .ok (.putfield 240, 3) := by decide +kernel
theorem dL_requesterHearsOfDue_38 : decode cL_requesterHearsOfDue 38 = .ok (.goto 80, 3) := by decide +kernel
theorem dL_requesterHearsOfDue_41 : decode cL_requesterHearsOfDue 41 = .ok (.aload_n 1, 1) := by decide +kernel
theorem dL_requesterHearsOfDue_42 : decode cL_requesterHearsOfDue 42 = .ok (.getfield 350, 3) := by decide +kernel
theorem dL_requesterHearsOfDue_45 : decode cL_requesterHearsOfDue 45 = .ok (.bipush 10, 2) := by decide +kernel
theorem dL_requesterHearsOfDue_47 : decode cL_requesterHearsOfDue 47 = .ok (.if_icmp .ne 38, 3) := by decide +kernel
theorem dL_requesterHearsOfDue_50 : decode cL_requesterHearsOfDue 50 = .ok (.iload_n 2, 1) := by decide +kernel
theorem dL_requesterHearsOfDue_51 : decode cL_requesterHearsOfDue 51 = .ok (.iconst 5, 1) := by decide +kernel
theorem dL_requesterHearsOfDue_52 : decode cL_requesterHearsOfDue 52 = .ok (.if_icmp .ne 33, 3) := by decide +kernel
theorem dL_requesterHearsOfDue_55 : decode cL_requesterHearsOfDue 55 = .ok (.aload_n 0, 1) := by decide +kernel
theorem dL_requesterHearsOfDue_56 : decode cL_requesterHearsOfDue 56 = .ok (.iconst 4, 1) := by decide +kernel
theorem dL_requesterHearsOfDue_57 : decode cL_requesterHearsOfDue 57 = .ok (.putfield 111, 3) := by decide +kernel
theorem dL_requesterHearsOfDue_60 : decode cL_requesterHearsOfDue 60 = .ok (.aload_n 0, 1) := by decide +kernel
theorem dL_requesterHearsOfDue_61 : decode cL_requesterHearsOfDue 61 = .ok (.aload_n 1, 1) := by decide +kernel
theorem dL_requesterHearsOfDue_62 : decode cL_requesterHearsOfDue 62 = .ok (.getfield 378, 3) := by decide +kernel
theorem dL_requesterHearsOfDue_65 : decode cL_requesterHearsOfDue 65 = .ok (.ifCond .eq 10, 3) := by decide +kernel
theorem dL_requesterHearsOfDue_68 : decode cL_requesterHearsOfDue 68 = .ok (.aload_n 1, 1) := by decide +kernel
theorem dL_requesterHearsOfDue_69 : decode cL_requesterHearsOfDue 69 = .ok (.getfield 378, 3) := by decide +kernel
theorem dL_requesterHearsOfDue_72 : decode cL_requesterHearsOfDue 72 = .ok (.goto 7, 3) := by decide +kernel
theorem dL_requesterHearsOfDue_75 : decode cL_requesterHearsOfDue 75 = .ok (.aload_n 0, 1) := by decide +kernel
theorem dL_requesterHearsOfDue_76 : decode cL_requesterHearsOfDue 76 = .ok (.getfield 240, 3) := by decide +kernel
theorem dL_requesterHearsOfDue_79 : decode cL_requesterHearsOfDue 79 = .ok (.putfield 240, 3) := by decide +kernel
theorem dL_requesterHearsOfDue_82 : decode cL_requesterHearsOfDue 82 = .ok (.goto 36, 3) := by decide +kernel
theorem dL_requesterHearsOfDue_85 : decode cL_requesterHearsOfDue 85 = .ok (.aload_n 1, 1) := by decide +kernel
theorem dL_requesterHearsOfDue_86 : decode cL_requesterHearsOfDue 86 = .ok (.getfield 350, 3) := by decide +kernel
theorem dL_requesterHearsOfDue_89 : decode cL_requesterHearsOfDue 89 = .ok (.bipush 11, 2) := by decide +kernel
theorem dL_requesterHearsOfDue_91 : decode cL_requesterHearsOfDue 91 = .ok (.if_icmp .ne 27, 3) := by decide +kernel
theorem dL_requesterHearsOfDue_94 : decode cL_requesterHearsOfDue 94 = .ok (.iload_n 2, 1) := by decide +kernel
theorem dL_requesterHearsOfDue_95 : decode cL_requesterHearsOfDue 95 = .ok (.iconst 4, 1) := by decide +kernel
theorem dL_requesterHearsOfDue_96 : decode cL_requesterHearsOfDue 96 = .ok (.if_icmp .eq 8, 3) := by decide +kernel
theorem dL_requesterHearsOfDue_99 : decode cL_requesterHearsOfDue 99 = .ok (.iload_n 2, 1) := by decide +kernel
theorem dL_requesterHearsOfDue_100 : decode cL_requesterHearsOfDue 100 = .ok (.iconst 5, 1) := by decide +kernel
theorem dL_requesterHearsOfDue_101 : decode cL_requesterHearsOfDue 101 = .ok (.if_icmp .ne 17, 3) := by decide +kernel
theorem dL_requesterHearsOfDue_104 : decode cL_requesterHearsOfDue 104 = .ok (.aload_n 0, 1) := by decide +kernel
theorem dL_requesterHearsOfDue_105 : decode cL_requesterHearsOfDue 105 = .ok (.bipush 6, 2) := by decide +kernel
theorem dL_requesterHearsOfDue_107 : decode cL_requesterHearsOfDue 107 = .ok (.putfield 111, 3) := by decide +kernel
theorem dL_requesterHearsOfDue_110 : decode cL_requesterHearsOfDue 110 = .ok (.aload_n 0, 1) := by decide +kernel
theorem dL_requesterHearsOfDue_111 : decode cL_requesterHearsOfDue 111 = .ok (.aload_n 1, 1) := by decide +kernel
theorem dL_requesterHearsOfDue_112 : decode cL_requesterHearsOfDue 112 = .ok (.getfield 378, 3) := by decide +kernel
theorem dL_requesterHearsOfDue_115 : decode cL_requesterHearsOfDue 115 = .ok (.putfield 240, 3) := by decide +kernel
theorem dL_requesterHearsOfDue_118 : decode cL_requesterHearsOfDue 118 = .ok (.return_, 1) := by decide +kernel
theorem dL_requesterIsCharged_0 : decode cL_requesterIsCharged 0 = .ok (.aload_n 1, 1) := by decide +kernel
theorem dL_requesterIsCharged_1 : decode cL_requesterIsCharged 1 = .ok (.getfield 107, 3) := by decide +kernel
theorem dL_requesterIsCharged_4 : decode cL_requesterIsCharged 4 = .ok (.getfield 111, 3) := by decide +kernel
theorem dL_requesterIsCharged_7 : decode cL_requesterIsCharged 7 = .ok (.bipush 7, 2) := by decide +kernel
theorem dL_requesterIsCharged_9 : decode cL_requesterIsCharged 9 = .ok (.if_icmp .ne 30, 3) := by decide +kernel
theorem dL_requesterIsCharged_12 : decode cL_requesterIsCharged 12 = .ok (.aload_n 1, 1) := by decide +kernel
theorem dL_requesterIsCharged_13 : decode cL_requesterIsCharged 13 = .ok (.getfield 107, 3) := by decide +kernel
theorem dL_requesterIsCharged_16 : decode cL_requesterIsCharged 16 = .ok (.bipush 8, 2) := by decide +kernel
theorem dL_requesterIsCharged_18 : decode cL_requesterIsCharged 18 = .ok (.putfield 111, 3) := by decide +kernel
theorem dL_requesterIsCharged_21 : decode cL_requesterIsCharged 21 = .ok (.aload_n 1, 1) := by decide +kernel
theorem dL_requesterIsCharged_22 : decode cL_requesterIsCharged 22 = .ok (.getfield 107, 3) := by decide +kernel
theorem dL_requesterIsCharged_25 : decode cL_requesterIsCharged 25 = .ok (.iload_n 2, 1) := by decide +kernel
theorem dL_requesterIsCharged_26 : decode cL_requesterIsCharged 26 = .ok (.putfield 246, 3) := by decide +kernel
theorem dL_requesterIsCharged_29 : decode cL_requesterIsCharged 29 = .ok (.aload_n 0, 1) := by decide +kernel
theorem dL_requesterIsCharged_30 : decode cL_requesterIsCharged 30 = .ok (.aload_n 1, 1) := by decide +kernel
theorem dL_requesterIsCharged_31 : decode cL_requesterIsCharged 31 = .ok (.getfield 96, 3) := by decide +kernel
theorem dL_requesterIsCharged_34 : decode cL_requesterIsCharged 34 = .ok (.iload_n 2, 1) := by decide +kernel
theorem dL_requesterIsCharged_35 : decode cL_requesterIsCharged 35 = .ok (.ineg, 1) := by decide +kernel
theorem dL_requesterIsCharged_36 : decode cL_requesterIsCharged 36 = .ok (.invokevirtual 298, 3) := by decide +kernel
theorem dL_requesterIsCharged_39 : decode cL_requesterIsCharged 39 = .ok (.return_, 1) := by decide +kernel
