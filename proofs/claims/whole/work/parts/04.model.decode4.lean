theorem dM_takeRequester_57 : decode cM_takeRequester 57 = .ok (.iconst 1, 1) := by decide +kernel
theorem dM_takeRequester_58 : decode cM_takeRequester 58 = .ok (.goto 4, 3) := by decide +kernel
theorem dM_takeRequester_61 : decode cM_takeRequester 61 = .ok (.iconst 0, 1) := by decide +kernel
theorem dM_takeRequester_62 : decode cM_takeRequester 62 = .ok (.istore 5, 2) := by decide +kernel
theorem dM_takeRequester_64 : decode cM_takeRequester 64 = .ok (.iload 5, 2) := by decide +kernel
theorem dM_takeRequester_66 : decode cM_takeRequester 66 = .ok (.ifCond .eq 42, 3) := by decide +kernel
theorem dM_takeRequester_69 : decode cM_takeRequester 69 = .ok (.aload_n 0, 1) := by decide +kernel
theorem dM_takeRequester_70 : decode cM_takeRequester 70 = .ok (.getfield 46, 3) := by decide +kernel
theorem dM_takeRequester_73 : decode cM_takeRequester 73 = .ok (.iload_n 1, 1) := by decide +kernel
theorem dM_takeRequester_74 : decode cM_takeRequester 74 = .ok (.iload_n 2, 1) := by decide +kernel
theorem dM_takeRequester_75 : decode cM_takeRequester 75 = .ok (.bipush 7, 2) := by decide +kernel
theorem dM_takeRequester_77 : decode cM_takeRequester 77 = .ok (.if_icmp .ne 7, 3) := by decide +kernel
theorem dM_takeRequester_80 : decode cM_takeRequester 80 = .ok (.iconst 3, 1) := by decide +kernel
theorem dM_takeRequester_81 : decode cM_takeRequester 81 = .ok (.goto 15, 3) := by decide +kernel
theorem dM_takeRequester_84 : decode cM_takeRequester 84 = .ok (.iload_n 2, 1) := by decide +kernel
theorem dM_takeRequester_85 : decode cM_takeRequester 85 = .ok (.bipush 10, 2) := by decide +kernel
theorem dM_takeRequester_87 : decode cM_takeRequester 87 = .ok (.if_icmp .ne 7, 3) := by decide +kernel
theorem dM_takeRequester_90 : decode cM_takeRequester 90 = .ok (.iconst 4, 1) := by decide +kernel
theorem dM_takeRequester_91 : decode cM_takeRequester 91 = .ok (.goto 5, 3) := by decide +kernel
theorem dM_takeRequester_94 : decode cM_takeRequester 94 = .ok (.bipush 6, 2) := by decide +kernel
theorem dM_takeRequester_96 : decode cM_takeRequester 96 = .ok (.iastore, 1) := by decide +kernel
theorem dM_takeRequester_97 : decode cM_takeRequester 97 = .ok (.iload_n 3, 1) := by decide +kernel
theorem dM_takeRequester_98 : decode cM_takeRequester 98 = .ok (.ifCond .eq 10, 3) := by decide +kernel
theorem dM_takeRequester_101 : decode cM_takeRequester 101 = .ok (.aload_n 0, 1) := by decide +kernel
theorem dM_takeRequester_102 : decode cM_takeRequester 102 = .ok (.getfield 49, 3) := by decide +kernel
theorem dM_takeRequester_105 : decode cM_takeRequester 105 = .ok (.iload_n 1, 1) := by decide +kernel
theorem dM_takeRequester_106 : decode cM_takeRequester 106 = .ok (.iload_n 3, 1) := by decide +kernel
theorem dM_takeRequester_107 : decode cM_takeRequester 107 = .ok (.iastore, 1) := by decide +kernel
theorem dM_takeRequester_108 : decode cM_takeRequester 108 = .ok (.iload_n 2, 1) := by decide +kernel
theorem dM_takeRequester_109 : decode cM_takeRequester 109 = .ok (.iconst 2, 1) := by decide +kernel
theorem dM_takeRequester_110 : decode cM_takeRequester 110 = .ok (.if_icmp .ne 15, 3) := by decide +kernel
theorem dM_takeRequester_113 : decode cM_takeRequester 113 = .ok (.iload 4, 2) := by decide +kernel
theorem dM_takeRequester_115 : decode cM_takeRequester 115 = .ok (.ifCond .ne 10, 3) := by decide +kernel
theorem dM_takeRequester_118 : decode cM_takeRequester 118 = .ok (.aload_n 0, 1) := by decide +kernel
theorem dM_takeRequester_119 : decode cM_takeRequester 119 = .ok (.getfield 46, 3) := by decide +kernel
theorem dM_takeRequester_122 : decode cM_takeRequester 122 = .ok (.iload_n 1, 1) := by decide +kernel
theorem dM_takeRequester_123 : decode cM_takeRequester 123 = .ok (.iconst 2, 1) := by decide +kernel
theorem dM_takeRequester_124 : decode cM_takeRequester 124 = .ok (.iastore, 1) := by decide +kernel
theorem dM_takeRequester_125 : decode cM_takeRequester 125 = .ok (.iload_n 2, 1) := by decide +kernel
theorem dM_takeRequester_126 : decode cM_takeRequester 126 = .ok (.iconst 3, 1) := by decide +kernel
theorem dM_takeRequester_127 : decode cM_takeRequester 127 = .ok (.if_icmp .ne 22, 3) := by decide +kernel
theorem dM_takeRequester_130 : decode cM_takeRequester 130 = .ok (.iload 4, 2) := by decide +kernel
theorem dM_takeRequester_132 : decode cM_takeRequester 132 = .ok (.ifCond .ne 17, 3) := by decide +kernel
theorem dM_takeRequester_135 : decode cM_takeRequester 135 = .ok (.aload_n 0, 1) := by decide +kernel
theorem dM_takeRequester_136 : decode cM_takeRequester 136 = .ok (.getfield 46, 3) := by decide +kernel
theorem dM_takeRequester_139 : decode cM_takeRequester 139 = .ok (.iload_n 1, 1) := by decide +kernel
theorem dM_takeRequester_140 : decode cM_takeRequester 140 = .ok (.iconst 1, 1) := by decide +kernel
theorem dM_takeRequester_141 : decode cM_takeRequester 141 = .ok (.iastore, 1) := by decide +kernel
theorem dM_takeRequester_142 : decode cM_takeRequester 142 = .ok (.aload_n 0, 1) := by decide +kernel
theorem dM_takeRequester_143 : decode cM_takeRequester 143 = .ok (.getfield 52, 3) := by decide +kernel
theorem dM_takeRequester_146 : decode cM_takeRequester 146 = .ok (.iload_n 1, 1) := by decide +kernel
theorem dM_takeRequester_147 : decode cM_takeRequester 147 = .ok (.iload_n 3, 1) := by decide +kernel
theorem dM_takeRequester_148 : decode cM_takeRequester 148 = .ok (.iastore, 1) := by decide +kernel
theorem dM_takeRequester_149 : decode cM_takeRequester 149 = .ok (.iload_n 2, 1) := by decide +kernel
theorem dM_takeRequester_150 : decode cM_takeRequester 150 = .ok (.iconst 4, 1) := by decide +kernel
theorem dM_takeRequester_151 : decode cM_takeRequester 151 = .ok (.if_icmp .eq 9, 3) := by decide +kernel
theorem dM_takeRequester_154 : decode cM_takeRequester 154 = .ok (.iload_n 2, 1) := by decide +kernel
theorem dM_takeRequester_155 : decode cM_takeRequester 155 = .ok (.bipush 16, 2) := by decide +kernel
theorem dM_takeRequester_157 : decode cM_takeRequester 157 = .ok (.if_icmp .ne 18, 3) := by decide +kernel
theorem dM_takeRequester_160 : decode cM_takeRequester 160 = .ok (.iload 4, 2) := by decide +kernel
theorem dM_takeRequester_162 : decode cM_takeRequester 162 = .ok (.bipush 10, 2) := by decide +kernel
theorem dM_takeRequester_164 : decode cM_takeRequester 164 = .ok (.if_icmp .ne 11, 3) := by decide +kernel
theorem dM_takeRequester_167 : decode cM_takeRequester 167 = .ok (.aload_n 0, 1) := by decide +kernel
theorem dM_takeRequester_168 : decode cM_takeRequester 168 = .ok (.getfield 46, 3) := by decide +kernel
theorem dM_takeRequester_171 : decode cM_takeRequester 171 = .ok (.iload_n 1, 1) := by decide +kernel
theorem dM_takeRequester_172 : decode cM_takeRequester 172 = .ok (.bipush 11, 2) := by decide +kernel
theorem dM_takeRequester_174 : decode cM_takeRequester 174 = .ok (.iastore, 1) := by decide +kernel
theorem dM_takeRequester_175 : decode cM_takeRequester 175 = .ok (.iload_n 2, 1) := by decide +kernel
theorem dM_takeRequester_176 : decode cM_takeRequester 176 = .ok (.bipush 13, 2) := by decide +kernel
theorem dM_takeRequester_178 : decode cM_takeRequester 178 = .ok (.if_icmp .ne 40, 3) := by decide +kernel
theorem dM_takeRequester_181 : decode cM_takeRequester 181 = .ok (.iload 4, 2) := by decide +kernel
theorem dM_takeRequester_183 : decode cM_takeRequester 183 = .ok (.bipush 7, 2) := by decide +kernel
theorem dM_takeRequester_185 : decode cM_takeRequester 185 = .ok (.if_icmp .ne 33, 3) := by decide +kernel
theorem dM_takeRequester_188 : decode cM_takeRequester 188 = .ok (.aload_n 0, 1) := by decide +kernel
theorem dM_takeRequester_189 : decode cM_takeRequester 189 = .ok (.getfield 46, 3) := by decide +kernel
theorem dM_takeRequester_192 : decode cM_takeRequester 192 = .ok (.iload_n 1, 1) := by decide +kernel
theorem dM_takeRequester_193 : decode cM_takeRequester 193 = .ok (.bipush 8, 2) := by decide +kernel
theorem dM_takeRequester_195 : decode cM_takeRequester 195 = .ok (.iastore, 1) := by decide +kernel
theorem dM_takeRequester_196 : decode cM_takeRequester 196 = .ok (.aload_n 0, 1) := by decide +kernel
theorem dM_takeRequester_197 : decode cM_takeRequester 197 = .ok (.getfield 55, 3) := by decide +kernel
theorem dM_takeRequester_200 : decode cM_takeRequester 200 = .ok (.iload_n 1, 1) := by decide +kernel
theorem dM_takeRequester_201 : decode cM_takeRequester 201 = .ok (.iload_n 3, 1) := by decide +kernel
theorem dM_takeRequester_202 : decode cM_takeRequester 202 = .ok (.iastore, 1) := by decide +kernel
theorem dM_takeRequester_203 : decode cM_takeRequester 203 = .ok (.aload_n 0, 1) := by decide +kernel
theorem dM_takeRequester_204 : decode cM_takeRequester 204 = .ok (.getfield 7, 3) := by decide +kernel
theorem dM_takeRequester_207 : decode cM_takeRequester 207 = .ok (.aload_n 0, 1) := by decide +kernel
theorem dM_takeRequester_208 : decode cM_takeRequester 208 = .ok (.getfield 25, 3) := by decide +kernel
theorem dM_takeRequester_211 : decode cM_takeRequester 211 = .ok (.iload_n 1, 1) := by decide +kernel
theorem dM_takeRequester_212 : decode cM_takeRequester 212 = .ok (.iaload, 1) := by decide +kernel
theorem dM_takeRequester_213 : decode cM_takeRequester 213 = .ok (.dup2, 1) := by decide +kernel
theorem dM_takeRequester_214 : decode cM_takeRequester 214 = .ok (.iaload, 1) := by decide +kernel
theorem dM_takeRequester_215 : decode cM_takeRequester 215 = .ok (.iload_n 3, 1) := by decide +kernel
theorem dM_takeRequester_216 : decode cM_takeRequester 216 = .ok (.isub, 1) := by decide +kernel
theorem dM_takeRequester_217 : decode cM_takeRequester 217 = .ok (.iastore, 1) := by decide +kernel
theorem dM_takeRequester_218 : decode cM_takeRequester 218 = .ok (.iload_n 2, 1) := by decide +kernel
theorem dM_takeRequester_219 : decode cM_takeRequester 219 = .ok (.iconst 4, 1) := by decide +kernel
theorem dM_takeRequester_220 : decode cM_takeRequester 220 = .ok (.if_icmp .ne 13, 3) := by decide +kernel
theorem dM_takeRequester_223 : decode cM_takeRequester 223 = .ok (.iload 4, 2) := by decide +kernel
theorem dM_takeRequester_225 : decode cM_takeRequester 225 = .ok (.ifCond .ne 8, 3) := by decide +kernel
theorem dM_takeRequester_228 : decode cM_takeRequester 228 = .ok (.aload_n 0, 1) := by decide +kernel
theorem dM_takeRequester_229 : decode cM_takeRequester 229 = .ok (.iload_n 1, 1) := by decide +kernel
theorem dM_takeRequester_230 : decode cM_takeRequester 230 = .ok (.invokevirtual 156, 3) := by decide +kernel
theorem dM_takeRequester_233 : decode cM_takeRequester 233 = .ok (.return_, 1) := by decide +kernel
theorem dM_letters_0 : decode cM_letters 0 = .ok (.aload_n 0, 1) := by decide +kernel
theorem dM_letters_1 : decode cM_letters 1 = .ok (.iconst 0, 1) := by decide +kernel
theorem dM_letters_2 : decode cM_letters 2 = .ok (.putfield 113, 3) := by decide +kernel
theorem dM_letters_5 : decode cM_letters 5 = .ok (.aload_n 0, 1) := by decide +kernel
theorem dM_letters_6 : decode cM_letters 6 = .ok (.getfield 120, 3) := by decide +kernel
theorem dM_letters_9 : decode cM_letters 9 = .ok (.ireturn, 1) := by decide +kernel
theorem dM_carry_0 : decode cM_carry 0 = .ok (.aload_n 0, 1) := by decide +kernel
theorem dM_carry_1 : decode cM_carry 1 = .ok (.iconst 0, 1) := by decide +kernel
theorem dM_carry_2 : decode cM_carry 2 = .ok (.putfield 113, 3) := by decide +kernel
theorem dM_carry_5 : decode cM_carry 5 = .ok (.iload_n 1, 1) := by decide +kernel
theorem dM_carry_6 : decode cM_carry 6 = .ok (.ifCond .lt 11, 3) := by decide +kernel
theorem dM_carry_9 : decode cM_carry 9 = .ok (.iload_n 1, 1) := by decide +kernel
theorem dM_carry_10 : decode cM_carry 10 = .ok (.aload_n 0, 1) := by decide +kernel
theorem dM_carry_11 : decode cM_carry 11 = .ok (.getfield 120, 3) := by decide +kernel
theorem dM_carry_14 : decode cM_carry 14 = .ok (.if_icmp .lt 5, 3) := by decide +kernel
theorem dM_carry_17 : decode cM_carry 17 = .ok (.iconst (-1), 1) := by decide +kernel
theorem dM_carry_18 : decode cM_carry 18 = .ok (.ireturn, 1) := by decide +kernel
theorem dM_carry_19 : decode cM_carry 19 = .ok (.aload_n 0, 1) := by decide +kernel
theorem dM_carry_20 : decode cM_carry 20 = .ok (.getfield 107, 3) := by decide +kernel
theorem dM_carry_23 : decode cM_carry 23 = .ok (.iload_n 1, 1) := by decide +kernel
theorem dM_carry_24 : decode cM_carry 24 = .ok (.iaload, 1) := by decide +kernel
theorem dM_carry_25 : decode cM_carry 25 = .ok (.istore_n 2, 1) := by decide +kernel
theorem dM_carry_26 : decode cM_carry 26 = .ok (.iload_n 2, 1) := by decide +kernel
theorem dM_carry_27 : decode cM_carry 27 = .ok (.iconst 2, 1) := by decide +kernel
theorem dM_carry_28 : decode cM_carry 28 = .ok (.irem, 1) := by decide +kernel
theorem dM_carry_29 : decode cM_carry 29 = .ok (.ifCond .ne 9, 3) := by decide +kernel
theorem dM_carry_32 : decode cM_carry 32 = .ok (.iload_n 2, 1) := by decide +kernel
theorem dM_carry_33 : decode cM_carry 33 = .ok (.iconst 1, 1) := by decide +kernel
theorem dM_carry_34 : decode cM_carry 34 = .ok (.iadd, 1) := by decide +kernel
theorem dM_carry_35 : decode cM_carry 35 = .ok (.goto 6, 3) := by decide +kernel
theorem dM_carry_38 : decode cM_carry 38 = .ok (.iload_n 2, 1) := by decide +kernel
theorem dM_carry_39 : decode cM_carry 39 = .ok (.iconst 1, 1) := by decide +kernel
theorem dM_carry_40 : decode cM_carry 40 = .ok (.isub, 1) := by decide +kernel
theorem dM_carry_41 : decode cM_carry 41 = .ok (.istore_n 3, 1) := by decide +kernel
theorem dM_carry_42 : decode cM_carry 42 = .ok (.aload_n 0, 1) := by decide +kernel
theorem dM_carry_43 : decode cM_carry 43 = .ok (.getfield 110, 3) := by decide +kernel
theorem dM_carry_46 : decode cM_carry 46 = .ok (.iload_n 1, 1) := by decide +kernel
theorem dM_carry_47 : decode cM_carry 47 = .ok (.iaload, 1) := by decide +kernel
theorem dM_carry_48 : decode cM_carry 48 = .ok (.aload_n 0, 1) := by decide +kernel
theorem dM_carry_49 : decode cM_carry 49 = .ok (.getfield 86, 3) := by decide +kernel
theorem dM_carry_52 : decode cM_carry 52 = .ok (.iload_n 3, 1) := by decide +kernel
theorem dM_carry_53 : decode cM_carry 53 = .ok (.iaload, 1) := by decide +kernel
theorem dM_carry_54 : decode cM_carry 54 = .ok (.if_icmp .le 15, 3) := by decide +kernel
theorem dM_carry_57 : decode cM_carry 57 = .ok (.aload_n 0, 1) := by decide +kernel
theorem dM_carry_58 : decode cM_carry 58 = .ok (.getfield 86, 3) := by decide +kernel
theorem dM_carry_61 : decode cM_carry 61 = .ok (.iload_n 3, 1) := by decide +kernel
theorem dM_carry_62 : decode cM_carry 62 = .ok (.aload_n 0, 1) := by decide +kernel
theorem dM_carry_63 : decode cM_carry 63 = .ok (.getfield 110, 3) := by decide +kernel
theorem dM_carry_66 : decode cM_carry 66 = .ok (.iload_n 1, 1) := by decide +kernel
theorem dM_carry_67 : decode cM_carry 67 = .ok (.iaload, 1) := by decide +kernel
theorem dM_carry_68 : decode cM_carry 68 = .ok (.iastore, 1) := by decide +kernel
theorem dM_carry_69 : decode cM_carry 69 = .ok (.aload_n 0, 1) := by decide +kernel
theorem dM_carry_70 : decode cM_carry 70 = .ok (.getfield 104, 3) := by decide +kernel
theorem dM_carry_73 : decode cM_carry 73 = .ok (.iload_n 1, 1) := by decide +kernel
theorem dM_carry_74 : decode cM_carry 74 = .ok (.iaload, 1) := by decide +kernel
theorem dM_carry_75 : decode cM_carry 75 = .ok (.iconst (-1), 1) := by decide +kernel
theorem dM_carry_76 : decode cM_carry 76 = .ok (.if_icmp .eq 35, 3) := by decide +kernel
theorem dM_carry_79 : decode cM_carry 79 = .ok (.aload_n 0, 1) := by decide +kernel
theorem dM_carry_80 : decode cM_carry 80 = .ok (.getfield 92, 3) := by decide +kernel
theorem dM_carry_83 : decode cM_carry 83 = .ok (.aload_n 0, 1) := by decide +kernel
theorem dM_carry_84 : decode cM_carry 84 = .ok (.getfield 104, 3) := by decide +kernel
theorem dM_carry_87 : decode cM_carry 87 = .ok (.iload_n 1, 1) := by decide +kernel
theorem dM_carry_88 : decode cM_carry 88 = .ok (.iaload, 1) := by decide +kernel
theorem dM_carry_89 : decode cM_carry 89 = .ok (.iaload, 1) := by decide +kernel
theorem dM_carry_90 : decode cM_carry 90 = .ok (.aload_n 0, 1) := by decide +kernel
theorem dM_carry_91 : decode cM_carry 91 = .ok (.getfield 83, 3) := by decide +kernel
theorem dM_carry_94 : decode cM_carry 94 = .ok (.iload_n 3, 1) := by decide +kernel
theorem dM_carry_95 : decode cM_carry 95 = .ok (.iaload, 1) := by decide +kernel
theorem dM_carry_96 : decode cM_carry 96 = .ok (.if_icmp .le 15, 3) := by decide +kernel
theorem dM_carry_99 : decode cM_carry 99 = .ok (.aload_n 0, 1) := by decide +kernel
theorem dM_carry_100 : decode cM_carry 100 = .ok (.getfield 101, 3) := by decide +kernel
theorem dM_carry_103 : decode cM_carry 103 = .ok (.aload_n 0, 1) := by decide +kernel
theorem dM_carry_104 : decode cM_carry 104 = .ok (.getfield 104, 3) := by decide +kernel
theorem dM_carry_107 : decode cM_carry 107 = .ok (.iload_n 1, 1) := by decide +kernel
theorem dM_carry_108 : decode cM_carry 108 = .ok (.iaload, 1) := by decide +kernel
theorem dM_carry_109 : decode cM_carry 109 = .ok (.iconst 1, 1) := by decide +kernel
theorem dM_carry_110 : decode cM_carry 110 = .ok (.bastore, 1) := by decide +kernel
theorem dM_carry_111 : decode cM_carry 111 = .ok (.iload_n 2, 1) := by decide +kernel
theorem dM_carry_112 : decode cM_carry 112 = .ok (.bipush 12, 2) := by decide +kernel
theorem dM_carry_114 : decode cM_carry 114 = .ok (.idiv, 1) := by decide +kernel
theorem dM_carry_115 : decode cM_carry 115 = .ok (.istore 4, 2) := by decide +kernel
theorem dM_carry_117 : decode cM_carry 117 = .ok (.iconst 0, 1) := by decide +kernel
theorem dM_carry_118 : decode cM_carry 118 = .ok (.istore 5, 2) := by decide +kernel
theorem dM_carry_120 : decode cM_carry 120 = .ok (.aload_n 0, 1) := by decide +kernel
theorem dM_carry_121 : decode cM_carry 121 = .ok (.iload_n 2, 1) := by decide +kernel
theorem dM_carry_122 : decode cM_carry 122 = .ok (.aload_n 0, 1) := by decide +kernel
theorem dM_carry_123 : decode cM_carry 123 = .ok (.getfield 83, 3) := by decide +kernel
theorem dM_carry_126 : decode cM_carry 126 = .ok (.iload_n 3, 1) := by decide +kernel
theorem dM_carry_127 : decode cM_carry 127 = .ok (.iaload, 1) := by decide +kernel
theorem dM_carry_128 : decode cM_carry 128 = .ok (.iconst 1, 1) := by decide +kernel
theorem dM_carry_129 : decode cM_carry 129 = .ok (.iadd, 1) := by decide +kernel
theorem dM_carry_130 : decode cM_carry 130 = .ok (.invokevirtual 190, 3) := by decide +kernel
theorem dM_carry_133 : decode cM_carry 133 = .ok (.istore 6, 2) := by decide +kernel
theorem dM_carry_135 : decode cM_carry 135 = .ok (.iload 6, 2) := by decide +kernel
theorem dM_carry_137 : decode cM_carry 137 = .ok (.iconst (-1), 1) := by decide +kernel
theorem dM_carry_138 : decode cM_carry 138 = .ok (.if_icmp .eq 109, 3) := by decide +kernel
theorem dM_carry_141 : decode cM_carry 141 = .ok (.aload_n 0, 1) := by decide +kernel
theorem dM_carry_142 : decode cM_carry 142 = .ok (.getfield 101, 3) := by decide +kernel
theorem dM_carry_145 : decode cM_carry 145 = .ok (.iload 6, 2) := by decide +kernel
theorem dM_carry_147 : decode cM_carry 147 = .ok (.baload, 1) := by decide +kernel
theorem dM_carry_148 : decode cM_carry 148 = .ok (.ifCond .eq 99, 3) := by decide +kernel
theorem dM_carry_151 : decode cM_carry 151 = .ok (.aload_n 0, 1) := by decide +kernel
theorem dM_carry_152 : decode cM_carry 152 = .ok (.getfield 83, 3) := by decide +kernel
theorem dM_carry_155 : decode cM_carry 155 = .ok (.iload_n 3, 1) := by decide +kernel
theorem dM_carry_156 : decode cM_carry 156 = .ok (.dup2, 1) := by decide +kernel
theorem dM_carry_157 : decode cM_carry 157 = .ok (.iaload, 1) := by decide +kernel
theorem dM_carry_158 : decode cM_carry 158 = .ok (.iconst 1, 1) := by decide +kernel
theorem dM_carry_159 : decode cM_carry 159 = .ok (.iadd, 1) := by decide +kernel
theorem dM_carry_160 : decode cM_carry 160 = .ok (.iastore, 1) := by decide +kernel
theorem dM_carry_161 : decode cM_carry 161 = .ok (.iinc 5 1, 3) := by decide +kernel
theorem dM_carry_164 : decode cM_carry 164 = .ok (.iload_n 3, 1) := by decide +kernel
theorem dM_carry_165 : decode cM_carry 165 = .ok (.iconst 2, 1) := by decide +kernel
theorem dM_carry_166 : decode cM_carry 166 = .ok (.irem, 1) := by decide +kernel
theorem dM_carry_167 : decode cM_carry 167 = .ok (.iconst 1, 1) := by decide +kernel
theorem dM_carry_168 : decode cM_carry 168 = .ok (.if_icmp .ne 22, 3) := by decide +kernel
theorem dM_carry_171 : decode cM_carry 171 = .ok (.aload_n 0, 1) := by decide +kernel
theorem dM_carry_172 : decode cM_carry 172 = .ok (.iload 4, 2) := by decide +kernel
theorem dM_carry_174 : decode cM_carry 174 = .ok (.iload_n 3, 1) := by decide +kernel
theorem dM_carry_175 : decode cM_carry 175 = .ok (.iconst 2, 1) := by decide +kernel
theorem dM_carry_176 : decode cM_carry 176 = .ok (.idiv, 1) := by decide +kernel
theorem dM_carry_177 : decode cM_carry 177 = .ok (.aload_n 0, 1) := by decide +kernel
theorem dM_carry_178 : decode cM_carry 178 = .ok (.getfield 95, 3) := by decide +kernel
theorem dM_carry_181 : decode cM_carry 181 = .ok (.iload 6, 2) := by decide +kernel
theorem dM_carry_183 : decode cM_carry 183 = .ok (.iaload, 1) := by decide +kernel
theorem dM_carry_184 : decode cM_carry 184 = .ok (.invokevirtual 194, 3) := by decide +kernel
theorem dM_carry_187 : decode cM_carry 187 = .ok (.goto 42, 3) := by decide +kernel
theorem dM_carry_190 : decode cM_carry 190 = .ok (.iload_n 3, 1) := by decide +kernel
theorem dM_carry_191 : decode cM_carry 191 = .ok (.iconst 2, 1) := by decide +kernel
theorem dM_carry_192 : decode cM_carry 192 = .ok (.idiv, 1) := by decide +kernel
theorem dM_carry_193 : decode cM_carry 193 = .ok (.bipush 6, 2) := by decide +kernel
theorem dM_carry_195 : decode cM_carry 195 = .ok (.iload 4, 2) := by decide +kernel
theorem dM_carry_197 : decode cM_carry 197 = .ok (.imul, 1) := by decide +kernel
theorem dM_carry_198 : decode cM_carry 198 = .ok (.isub, 1) := by decide +kernel
theorem dM_carry_199 : decode cM_carry 199 = .ok (.aload_n 0, 1) := by decide +kernel
theorem dM_carry_200 : decode cM_carry 200 = .ok (.getfield 40, 3) := by decide +kernel
theorem dM_carry_203 : decode cM_carry 203 = .ok (.iload 4, 2) := by decide +kernel
theorem dM_carry_205 : decode cM_carry 205 = .ok (.iaload, 1) := by decide +kernel
theorem dM_carry_206 : decode cM_carry 206 = .ok (.if_icmp .ne 23, 3) := by decide +kernel
theorem dM_carry_209 : decode cM_carry 209 = .ok (.aload_n 0, 1) := by decide +kernel
theorem dM_carry_210 : decode cM_carry 210 = .ok (.iload 4, 2) := by decide +kernel
theorem dM_carry_212 : decode cM_carry 212 = .ok (.aload_n 0, 1) := by decide +kernel
theorem dM_carry_213 : decode cM_carry 213 = .ok (.getfield 95, 3) := by decide +kernel
theorem dM_carry_216 : decode cM_carry 216 = .ok (.iload 6, 2) := by decide +kernel
theorem dM_carry_218 : decode cM_carry 218 = .ok (.iaload, 1) := by decide +kernel
theorem dM_carry_219 : decode cM_carry 219 = .ok (.aload_n 0, 1) := by decide +kernel
theorem dM_carry_220 : decode cM_carry 220 = .ok (.getfield 98, 3) := by decide +kernel
theorem dM_carry_223 : decode cM_carry 223 = .ok (.iload 6, 2) := by decide +kernel
theorem dM_carry_225 : decode cM_carry 225 = .ok (.iaload, 1) := by decide +kernel
theorem dM_carry_226 : decode cM_carry 226 = .ok (.invokevirtual 197, 3) := by decide +kernel
theorem dM_carry_229 : decode cM_carry 229 = .ok (.aload_n 0, 1) := by decide +kernel
theorem dM_carry_230 : decode cM_carry 230 = .ok (.iload_n 2, 1) := by decide +kernel
theorem dM_carry_231 : decode cM_carry 231 = .ok (.aload_n 0, 1) := by decide +kernel
theorem dM_carry_232 : decode cM_carry 232 = .ok (.getfield 83, 3) := by decide +kernel
theorem dM_carry_235 : decode cM_carry 235 = .ok (.iload_n 3, 1) := by decide +kernel
theorem dM_carry_236 : decode cM_carry 236 = .ok (.iaload, 1) := by decide +kernel
theorem dM_carry_237 : decode cM_carry 237 = .ok (.iconst 1, 1) := by decide +kernel
theorem dM_carry_238 : decode cM_carry 238 = .ok (.iadd, 1) := by decide +kernel
theorem dM_carry_239 : decode cM_carry 239 = .ok (.invokevirtual 190, 3) := by decide +kernel
theorem dM_carry_242 : decode cM_carry 242 = .ok (.istore 6, 2) := by decide +kernel
theorem dM_carry_244 : decode cM_carry 244 = .ok (.goto (-109), 3) := by decide +kernel
theorem dM_carry_247 : decode cM_carry 247 = .ok (.iload 5, 2) := by decide +kernel
theorem dM_carry_249 : decode cM_carry 249 = .ok (.ireturn, 1) := by decide +kernel
theorem dM_drop_0 : decode cM_drop 0 = .ok (.aload_n 0, 1) := by decide +kernel
theorem dM_drop_1 : decode cM_drop 1 = .ok (.iconst 0, 1) := by decide +kernel
theorem dM_drop_2 : decode cM_drop 2 = .ok (.putfield 113, 3) := by decide +kernel
theorem dM_drop_5 : decode cM_drop 5 = .ok (.iload_n 1, 1) := by decide +kernel
theorem dM_drop_6 : decode cM_drop 6 = .ok (.ifCond .lt 11, 3) := by decide +kernel
theorem dM_drop_9 : decode cM_drop 9 = .ok (.iload_n 1, 1) := by decide +kernel
theorem dM_drop_10 : decode cM_drop 10 = .ok (.aload_n 0, 1) := by decide +kernel
theorem dM_drop_11 : decode cM_drop 11 = .ok (.getfield 120, 3) := by decide +kernel
theorem dM_drop_14 : decode cM_drop 14 = .ok (.if_icmp .lt 5, 3) := by decide +kernel
theorem dM_drop_17 : decode cM_drop 17 = .ok (.iconst 0, 1) := by decide +kernel
theorem dM_drop_18 : decode cM_drop 18 = .ok (.ireturn, 1) := by decide +kernel
theorem dM_drop_19 : decode cM_drop 19 = .ok (.aload_n 0, 1) := by decide +kernel
theorem dM_drop_20 : decode cM_drop 20 = .ok (.iload_n 1, 1) := by decide +kernel
theorem dM_drop_21 : decode cM_drop 21 = .ok (.invokevirtual 123, 3) := by decide +kernel
theorem dM_drop_24 : decode cM_drop 24 = .ok (.iconst 1, 1) := by decide +kernel
theorem dM_drop_25 : decode cM_drop 25 = .ok (.ireturn, 1) := by decide +kernel
theorem dM_letter_0 : decode cM_letter 0 = .ok (.aload_n 0, 1) := by decide +kernel
theorem dM_letter_1 : decode cM_letter 1 = .ok (.iconst 0, 1) := by decide +kernel
theorem dM_letter_2 : decode cM_letter 2 = .ok (.putfield 113, 3) := by decide +kernel
theorem dM_letter_5 : decode cM_letter 5 = .ok (.iload_n 1, 1) := by decide +kernel
theorem dM_letter_6 : decode cM_letter 6 = .ok (.ifCond .lt 11, 3) := by decide +kernel
theorem dM_letter_9 : decode cM_letter 9 = .ok (.iload_n 1, 1) := by decide +kernel
theorem dM_letter_10 : decode cM_letter 10 = .ok (.aload_n 0, 1) := by decide +kernel
theorem dM_letter_11 : decode cM_letter 11 = .ok (.getfield 120, 3) := by decide +kernel
theorem dM_letter_14 : decode cM_letter 14 = .ok (.if_icmp .lt 5, 3) := by decide +kernel
theorem dM_letter_17 : decode cM_letter 17 = .ok (.iconst (-1), 1) := by decide +kernel
theorem dM_letter_18 : decode cM_letter 18 = .ok (.ireturn, 1) := by decide +kernel
theorem dM_letter_19 : decode cM_letter 19 = .ok (.aload_n 0, 1) := by decide +kernel
theorem dM_letter_20 : decode cM_letter 20 = .ok (.getfield 107, 3) := by decide +kernel
theorem dM_letter_23 : decode cM_letter 23 = .ok (.iload_n 1, 1) := by decide +kernel
theorem dM_letter_24 : decode cM_letter 24 = .ok (.iaload, 1) := by decide +kernel
theorem dM_letter_25 : decode cM_letter 25 = .ok (.bipush 12, 2) := by decide +kernel
theorem dM_letter_27 : decode cM_letter 27 = .ok (.idiv, 1) := by decide +kernel
theorem dM_letter_28 : decode cM_letter 28 = .ok (.istore_n 3, 1) := by decide +kernel
theorem dM_letter_29 : decode cM_letter 29 = .ok (.aload_n 0, 1) := by decide +kernel
theorem dM_letter_30 : decode cM_letter 30 = .ok (.getfield 107, 3) := by decide +kernel
theorem dM_letter_33 : decode cM_letter 33 = .ok (.iload_n 1, 1) := by decide +kernel
theorem dM_letter_34 : decode cM_letter 34 = .ok (.iaload, 1) := by decide +kernel
theorem dM_letter_35 : decode cM_letter 35 = .ok (.iconst 2, 1) := by decide +kernel
theorem dM_letter_36 : decode cM_letter 36 = .ok (.idiv, 1) := by decide +kernel
theorem dM_letter_37 : decode cM_letter 37 = .ok (.bipush 6, 2) := by decide +kernel
theorem dM_letter_39 : decode cM_letter 39 = .ok (.irem, 1) := by decide +kernel
theorem dM_letter_40 : decode cM_letter 40 = .ok (.istore 4, 2) := by decide +kernel
theorem dM_letter_42 : decode cM_letter 42 = .ok (.aload_n 0, 1) := by decide +kernel
theorem dM_letter_43 : decode cM_letter 43 = .ok (.getfield 107, 3) := by decide +kernel
theorem dM_letter_46 : decode cM_letter 46 = .ok (.iload_n 1, 1) := by decide +kernel
theorem dM_letter_47 : decode cM_letter 47 = .ok (.iaload, 1) := by decide +kernel
theorem dM_letter_48 : decode cM_letter 48 = .ok (.iconst 2, 1) := by decide +kernel
theorem dM_letter_49 : decode cM_letter 49 = .ok (.irem, 1) := by decide +kernel
theorem dM_letter_50 : decode cM_letter 50 = .ok (.iconst 1, 1) := by decide +kernel
theorem dM_letter_51 : decode cM_letter 51 = .ok (.if_icmp .ne 7, 3) := by decide +kernel
theorem dM_letter_54 : decode cM_letter 54 = .ok (.iconst 1, 1) := by decide +kernel
theorem dM_letter_55 : decode cM_letter 55 = .ok (.goto 4, 3) := by decide +kernel
theorem dM_letter_58 : decode cM_letter 58 = .ok (.iconst 0, 1) := by decide +kernel
theorem dM_letter_59 : decode cM_letter 59 = .ok (.istore 5, 2) := by decide +kernel
theorem dM_letter_61 : decode cM_letter 61 = .ok (.aload_n 0, 1) := by decide +kernel
theorem dM_letter_62 : decode cM_letter 62 = .ok (.getfield 104, 3) := by decide +kernel
theorem dM_letter_65 : decode cM_letter 65 = .ok (.iload_n 1, 1) := by decide +kernel
theorem dM_letter_66 : decode cM_letter 66 = .ok (.iaload, 1) := by decide +kernel
theorem dM_letter_67 : decode cM_letter 67 = .ok (.istore 6, 2) := by decide +kernel
theorem dM_letter_69 : decode cM_letter 69 = .ok (.iload_n 2, 1) := by decide +kernel
theorem dM_letter_70 : decode cM_letter 70 = .ok (.tableswitch 139 0 6 #[42, 44, 61, 78, 96, 103, 121], 42) := by decide +kernel
theorem dM_letter_112 : decode cM_letter 112 = .ok (.iload_n 3, 1) := by decide +kernel
theorem dM_letter_113 : decode cM_letter 113 = .ok (.ireturn, 1) := by decide +kernel
theorem dM_letter_114 : decode cM_letter 114 = .ok (.iload 5, 2) := by decide +kernel
theorem dM_letter_116 : decode cM_letter 116 = .ok (.ifCond .eq 8, 3) := by decide +kernel
theorem dM_letter_119 : decode cM_letter 119 = .ok (.iload 4, 2) := by decide +kernel
theorem dM_letter_121 : decode cM_letter 121 = .ok (.goto 9, 3) := by decide +kernel
theorem dM_letter_124 : decode cM_letter 124 = .ok (.aload_n 0, 1) := by decide +kernel
theorem dM_letter_125 : decode cM_letter 125 = .ok (.getfield 25, 3) := by decide +kernel
theorem dM_letter_128 : decode cM_letter 128 = .ok (.iload_n 3, 1) := by decide +kernel
theorem dM_letter_129 : decode cM_letter 129 = .ok (.iaload, 1) := by decide +kernel
theorem dM_letter_130 : decode cM_letter 130 = .ok (.ireturn, 1) := by decide +kernel
theorem dM_letter_131 : decode cM_letter 131 = .ok (.iload 5, 2) := by decide +kernel
theorem dM_letter_133 : decode cM_letter 133 = .ok (.ifCond .eq 12, 3) := by decide +kernel
theorem dM_letter_136 : decode cM_letter 136 = .ok (.aload_n 0, 1) := by decide +kernel
theorem dM_letter_137 : decode cM_letter 137 = .ok (.getfield 25, 3) := by decide +kernel
theorem dM_letter_140 : decode cM_letter 140 = .ok (.iload_n 3, 1) := by decide +kernel
theorem dM_letter_141 : decode cM_letter 141 = .ok (.iaload, 1) := by decide +kernel
theorem dM_letter_142 : decode cM_letter 142 = .ok (.goto 5, 3) := by decide +kernel
theorem dM_letter_145 : decode cM_letter 145 = .ok (.iload 4, 2) := by decide +kernel
theorem dM_letter_147 : decode cM_letter 147 = .ok (.ireturn, 1) := by decide +kernel
theorem dM_letter_148 : decode cM_letter 148 = .ok (.iload 6, 2) := by decide +kernel
theorem dM_letter_150 : decode cM_letter 150 = .ok (.iconst (-1), 1) := by decide +kernel
theorem dM_letter_151 : decode cM_letter 151 = .ok (.if_icmp .ne 7, 3) := by decide +kernel
theorem dM_letter_154 : decode cM_letter 154 = .ok (.iconst 0, 1) := by decide +kernel
theorem dM_letter_155 : decode cM_letter 155 = .ok (.goto 10, 3) := by decide +kernel
theorem dM_letter_158 : decode cM_letter 158 = .ok (.aload_n 0, 1) := by decide +kernel
theorem dM_letter_159 : decode cM_letter 159 = .ok (.getfield 92, 3) := by decide +kernel
theorem dM_letter_162 : decode cM_letter 162 = .ok (.iload 6, 2) := by decide +kernel
theorem dM_letter_164 : decode cM_letter 164 = .ok (.iaload, 1) := by decide +kernel
theorem dM_letter_165 : decode cM_letter 165 = .ok (.ireturn, 1) := by decide +kernel
theorem dM_letter_166 : decode cM_letter 166 = .ok (.aload_n 0, 1) := by decide +kernel
theorem dM_letter_167 : decode cM_letter 167 = .ok (.getfield 110, 3) := by decide +kernel
theorem dM_letter_170 : decode cM_letter 170 = .ok (.iload_n 1, 1) := by decide +kernel
theorem dM_letter_171 : decode cM_letter 171 = .ok (.iaload, 1) := by decide +kernel
theorem dM_letter_172 : decode cM_letter 172 = .ok (.ireturn, 1) := by decide +kernel
theorem dM_letter_173 : decode cM_letter 173 = .ok (.iload 6, 2) := by decide +kernel
theorem dM_letter_175 : decode cM_letter 175 = .ok (.iconst (-1), 1) := by decide +kernel
theorem dM_letter_176 : decode cM_letter 176 = .ok (.if_icmp .ne 7, 3) := by decide +kernel
theorem dM_letter_179 : decode cM_letter 179 = .ok (.iconst 0, 1) := by decide +kernel
theorem dM_letter_180 : decode cM_letter 180 = .ok (.goto 10, 3) := by decide +kernel
theorem dM_letter_183 : decode cM_letter 183 = .ok (.aload_n 0, 1) := by decide +kernel
theorem dM_letter_184 : decode cM_letter 184 = .ok (.getfield 95, 3) := by decide +kernel
theorem dM_letter_187 : decode cM_letter 187 = .ok (.iload 6, 2) := by decide +kernel
theorem dM_letter_189 : decode cM_letter 189 = .ok (.iaload, 1) := by decide +kernel
theorem dM_letter_190 : decode cM_letter 190 = .ok (.ireturn, 1) := by decide +kernel
theorem dM_letter_191 : decode cM_letter 191 = .ok (.iload 6, 2) := by decide +kernel
theorem dM_letter_193 : decode cM_letter 193 = .ok (.iconst (-1), 1) := by decide +kernel
theorem dM_letter_194 : decode cM_letter 194 = .ok (.if_icmp .ne 7, 3) := by decide +kernel
theorem dM_letter_197 : decode cM_letter 197 = .ok (.iconst 0, 1) := by decide +kernel
theorem dM_letter_198 : decode cM_letter 198 = .ok (.goto 10, 3) := by decide +kernel
theorem dM_letter_201 : decode cM_letter 201 = .ok (.aload_n 0, 1) := by decide +kernel
theorem dM_letter_202 : decode cM_letter 202 = .ok (.getfield 98, 3) := by decide +kernel
theorem dM_letter_205 : decode cM_letter 205 = .ok (.iload 6, 2) := by decide +kernel
theorem dM_letter_207 : decode cM_letter 207 = .ok (.iaload, 1) := by decide +kernel
theorem dM_letter_208 : decode cM_letter 208 = .ok (.ireturn, 1) := by decide +kernel
theorem dM_letter_209 : decode cM_letter 209 = .ok (.iconst (-1), 1) := by decide +kernel
theorem dM_letter_210 : decode cM_letter 210 = .ok (.ireturn, 1) := by decide +kernel
theorem dM_book_0 : decode cM_book 0 = .ok (.aload_n 0, 1) := by decide +kernel
theorem dM_book_1 : decode cM_book 1 = .ok (.iconst 0, 1) := by decide +kernel
theorem dM_book_2 : decode cM_book 2 = .ok (.putfield 113, 3) := by decide +kernel
theorem dM_book_5 : decode cM_book 5 = .ok (.aload_n 0, 1) := by decide +kernel
theorem dM_book_6 : decode cM_book 6 = .ok (.iload_n 2, 1) := by decide +kernel
theorem dM_book_7 : decode cM_book 7 = .ok (.invokevirtual 172, 3) := by decide +kernel
theorem dM_book_10 : decode cM_book 10 = .ok (.ifCond .eq 10, 3) := by decide +kernel
theorem dM_book_13 : decode cM_book 13 = .ok (.iload_n 1, 1) := by decide +kernel
theorem dM_book_14 : decode cM_book 14 = .ok (.invokestatic 142, 3) := by decide +kernel
theorem dM_book_17 : decode cM_book 17 = .ok (.ifCond .ne 5, 3) := by decide +kernel
theorem dM_book_20 : decode cM_book 20 = .ok (.iconst (-1), 1) := by decide +kernel
theorem dM_book_21 : decode cM_book 21 = .ok (.ireturn, 1) := by decide +kernel
theorem dM_book_22 : decode cM_book 22 = .ok (.iload_n 1, 1) := by decide +kernel
theorem dM_book_23 : decode cM_book 23 = .ok (.aload_n 0, 1) := by decide +kernel
theorem dM_book_24 : decode cM_book 24 = .ok (.getfield 25, 3) := by decide +kernel
theorem dM_book_27 : decode cM_book 27 = .ok (.iload_n 2, 1) := by decide +kernel
