theorem dM_mayPromise_6 : decode cM_mayPromise 6 = .ok (.getfield 149, 3) := by decide +kernel
theorem dM_mayPromise_9 : decode cM_mayPromise 9 = .ok (.if_icmp .ge 52, 3) := by decide +kernel
theorem dM_mayPromise_12 : decode cM_mayPromise 12 = .ok (.aload_n 0, 1) := by decide +kernel
theorem dM_mayPromise_13 : decode cM_mayPromise 13 = .ok (.getfield 13, 3) := by decide +kernel
theorem dM_mayPromise_16 : decode cM_mayPromise 16 = .ok (.iload_n 3, 1) := by decide +kernel
theorem dM_mayPromise_17 : decode cM_mayPromise 17 = .ok (.iaload, 1) := by decide +kernel
theorem dM_mayPromise_18 : decode cM_mayPromise 18 = .ok (.aload_n 0, 1) := by decide +kernel
theorem dM_mayPromise_19 : decode cM_mayPromise 19 = .ok (.getfield 28, 3) := by decide +kernel
theorem dM_mayPromise_22 : decode cM_mayPromise 22 = .ok (.iload_n 1, 1) := by decide +kernel
theorem dM_mayPromise_23 : decode cM_mayPromise 23 = .ok (.iaload, 1) := by decide +kernel
theorem dM_mayPromise_24 : decode cM_mayPromise 24 = .ok (.if_icmp .ne 37, 3) := by decide +kernel
theorem dM_mayPromise_27 : decode cM_mayPromise 27 = .ok (.aload_n 0, 1) := by decide +kernel
theorem dM_mayPromise_28 : decode cM_mayPromise 28 = .ok (.getfield 16, 3) := by decide +kernel
theorem dM_mayPromise_31 : decode cM_mayPromise 31 = .ok (.iload_n 3, 1) := by decide +kernel
theorem dM_mayPromise_32 : decode cM_mayPromise 32 = .ok (.iaload, 1) := by decide +kernel
theorem dM_mayPromise_33 : decode cM_mayPromise 33 = .ok (.iload_n 2, 1) := by decide +kernel
theorem dM_mayPromise_34 : decode cM_mayPromise 34 = .ok (.if_icmp .ne 27, 3) := by decide +kernel
theorem dM_mayPromise_37 : decode cM_mayPromise 37 = .ok (.aload_n 0, 1) := by decide +kernel
theorem dM_mayPromise_38 : decode cM_mayPromise 38 = .ok (.getfield 19, 3) := by decide +kernel
theorem dM_mayPromise_41 : decode cM_mayPromise 41 = .ok (.iload_n 3, 1) := by decide +kernel
theorem dM_mayPromise_42 : decode cM_mayPromise 42 = .ok (.iaload, 1) := by decide +kernel
theorem dM_mayPromise_43 : decode cM_mayPromise 43 = .ok (.iload_n 2, 1) := by decide +kernel
theorem dM_mayPromise_44 : decode cM_mayPromise 44 = .ok (.if_icmp .ne 17, 3) := by decide +kernel
theorem dM_mayPromise_47 : decode cM_mayPromise 47 = .ok (.aload_n 0, 1) := by decide +kernel
theorem dM_mayPromise_48 : decode cM_mayPromise 48 = .ok (.getfield 22, 3) := by decide +kernel
theorem dM_mayPromise_51 : decode cM_mayPromise 51 = .ok (.iload_n 3, 1) := by decide +kernel
theorem dM_mayPromise_52 : decode cM_mayPromise 52 = .ok (.iaload, 1) := by decide +kernel
theorem dM_mayPromise_53 : decode cM_mayPromise 53 = .ok (.iconst (-1), 1) := by decide +kernel
theorem dM_mayPromise_54 : decode cM_mayPromise 54 = .ok (.if_icmp .ne 7, 3) := by decide +kernel
theorem dM_mayPromise_57 : decode cM_mayPromise 57 = .ok (.iconst 1, 1) := by decide +kernel
theorem dM_mayPromise_58 : decode cM_mayPromise 58 = .ok (.goto 4, 3) := by decide +kernel
theorem dM_mayPromise_61 : decode cM_mayPromise 61 = .ok (.iconst 0, 1) := by decide +kernel
theorem dM_mayPromise_62 : decode cM_mayPromise 62 = .ok (.ireturn, 1) := by decide +kernel
theorem dM_maySupplier_0 : decode cM_maySupplier 0 = .ok (.bipush 6, 2) := by decide +kernel
theorem dM_maySupplier_2 : decode cM_maySupplier 2 = .ok (.iload_n 1, 1) := by decide +kernel
theorem dM_maySupplier_3 : decode cM_maySupplier 3 = .ok (.imul, 1) := by decide +kernel
theorem dM_maySupplier_4 : decode cM_maySupplier 4 = .ok (.iload_n 2, 1) := by decide +kernel
theorem dM_maySupplier_5 : decode cM_maySupplier 5 = .ok (.iadd, 1) := by decide +kernel
theorem dM_maySupplier_6 : decode cM_maySupplier 6 = .ok (.istore 5, 2) := by decide +kernel
theorem dM_maySupplier_8 : decode cM_maySupplier 8 = .ok (.aload_n 0, 1) := by decide +kernel
theorem dM_maySupplier_9 : decode cM_maySupplier 9 = .ok (.getfield 62, 3) := by decide +kernel
theorem dM_maySupplier_12 : decode cM_maySupplier 12 = .ok (.iload 5, 2) := by decide +kernel
theorem dM_maySupplier_14 : decode cM_maySupplier 14 = .ok (.iaload, 1) := by decide +kernel
theorem dM_maySupplier_15 : decode cM_maySupplier 15 = .ok (.istore 6, 2) := by decide +kernel
theorem dM_maySupplier_17 : decode cM_maySupplier 17 = .ok (.iload_n 3, 1) := by decide +kernel
theorem dM_maySupplier_18 : decode cM_maySupplier 18 = .ok (.tableswitch 181 7 13 #[42, 65, 101, 113, 125, 149, 162], 42) := by decide +kernel
theorem dM_maySupplier_60 : decode cM_maySupplier 60 = .ok (.iload 6, 2) := by decide +kernel
theorem dM_maySupplier_62 : decode cM_maySupplier 62 = .ok (.iconst 1, 1) := by decide +kernel
theorem dM_maySupplier_63 : decode cM_maySupplier 63 = .ok (.if_icmp .ne 18, 3) := by decide +kernel
theorem dM_maySupplier_66 : decode cM_maySupplier 66 = .ok (.aload_n 0, 1) := by decide +kernel
theorem dM_maySupplier_67 : decode cM_maySupplier 67 = .ok (.iload_n 1, 1) := by decide +kernel
theorem dM_maySupplier_68 : decode cM_maySupplier 68 = .ok (.iload_n 2, 1) := by decide +kernel
theorem dM_maySupplier_69 : decode cM_maySupplier 69 = .ok (.iload 4, 2) := by decide +kernel
theorem dM_maySupplier_71 : decode cM_maySupplier 71 = .ok (.invokevirtual 162, 3) := by decide +kernel
theorem dM_maySupplier_74 : decode cM_maySupplier 74 = .ok (.ifCond .eq 7, 3) := by decide +kernel
theorem dM_maySupplier_77 : decode cM_maySupplier 77 = .ok (.iconst 1, 1) := by decide +kernel
theorem dM_maySupplier_78 : decode cM_maySupplier 78 = .ok (.goto 4, 3) := by decide +kernel
theorem dM_maySupplier_81 : decode cM_maySupplier 81 = .ok (.iconst 0, 1) := by decide +kernel
theorem dM_maySupplier_82 : decode cM_maySupplier 82 = .ok (.ireturn, 1) := by decide +kernel
theorem dM_maySupplier_83 : decode cM_maySupplier 83 = .ok (.iload 6, 2) := by decide +kernel
theorem dM_maySupplier_85 : decode cM_maySupplier 85 = .ok (.iconst 1, 1) := by decide +kernel
theorem dM_maySupplier_86 : decode cM_maySupplier 86 = .ok (.if_icmp .ne 31, 3) := by decide +kernel
theorem dM_maySupplier_89 : decode cM_maySupplier 89 = .ok (.aload_n 0, 1) := by decide +kernel
theorem dM_maySupplier_90 : decode cM_maySupplier 90 = .ok (.getfield 68, 3) := by decide +kernel
theorem dM_maySupplier_93 : decode cM_maySupplier 93 = .ok (.iload 5, 2) := by decide +kernel
theorem dM_maySupplier_95 : decode cM_maySupplier 95 = .ok (.iaload, 1) := by decide +kernel
theorem dM_maySupplier_96 : decode cM_maySupplier 96 = .ok (.ifCond .ne 21, 3) := by decide +kernel
theorem dM_maySupplier_99 : decode cM_maySupplier 99 = .ok (.iload 4, 2) := by decide +kernel
theorem dM_maySupplier_101 : decode cM_maySupplier 101 = .ok (.iconst 1, 1) := by decide +kernel
theorem dM_maySupplier_102 : decode cM_maySupplier 102 = .ok (.if_icmp .lt 15, 3) := by decide +kernel
theorem dM_maySupplier_105 : decode cM_maySupplier 105 = .ok (.iload 4, 2) := by decide +kernel
theorem dM_maySupplier_107 : decode cM_maySupplier 107 = .ok (.sipush 1000, 3) := by decide +kernel
theorem dM_maySupplier_110 : decode cM_maySupplier 110 = .ok (.if_icmp .gt 7, 3) := by decide +kernel
theorem dM_maySupplier_113 : decode cM_maySupplier 113 = .ok (.iconst 1, 1) := by decide +kernel
theorem dM_maySupplier_114 : decode cM_maySupplier 114 = .ok (.goto 4, 3) := by decide +kernel
theorem dM_maySupplier_117 : decode cM_maySupplier 117 = .ok (.iconst 0, 1) := by decide +kernel
theorem dM_maySupplier_118 : decode cM_maySupplier 118 = .ok (.ireturn, 1) := by decide +kernel
theorem dM_maySupplier_119 : decode cM_maySupplier 119 = .ok (.iload 6, 2) := by decide +kernel
theorem dM_maySupplier_121 : decode cM_maySupplier 121 = .ok (.iconst 1, 1) := by decide +kernel
theorem dM_maySupplier_122 : decode cM_maySupplier 122 = .ok (.if_icmp .ne 7, 3) := by decide +kernel
theorem dM_maySupplier_125 : decode cM_maySupplier 125 = .ok (.iconst 1, 1) := by decide +kernel
theorem dM_maySupplier_126 : decode cM_maySupplier 126 = .ok (.goto 4, 3) := by decide +kernel
theorem dM_maySupplier_129 : decode cM_maySupplier 129 = .ok (.iconst 0, 1) := by decide +kernel
theorem dM_maySupplier_130 : decode cM_maySupplier 130 = .ok (.ireturn, 1) := by decide +kernel
theorem dM_maySupplier_131 : decode cM_maySupplier 131 = .ok (.iload 6, 2) := by decide +kernel
theorem dM_maySupplier_133 : decode cM_maySupplier 133 = .ok (.iconst 3, 1) := by decide +kernel
theorem dM_maySupplier_134 : decode cM_maySupplier 134 = .ok (.if_icmp .ne 7, 3) := by decide +kernel
theorem dM_maySupplier_137 : decode cM_maySupplier 137 = .ok (.iconst 1, 1) := by decide +kernel
theorem dM_maySupplier_138 : decode cM_maySupplier 138 = .ok (.goto 4, 3) := by decide +kernel
theorem dM_maySupplier_141 : decode cM_maySupplier 141 = .ok (.iconst 0, 1) := by decide +kernel
theorem dM_maySupplier_142 : decode cM_maySupplier 142 = .ok (.ireturn, 1) := by decide +kernel
theorem dM_maySupplier_143 : decode cM_maySupplier 143 = .ok (.iload 6, 2) := by decide +kernel
theorem dM_maySupplier_145 : decode cM_maySupplier 145 = .ok (.bipush 6, 2) := by decide +kernel
theorem dM_maySupplier_147 : decode cM_maySupplier 147 = .ok (.if_icmp .ne 18, 3) := by decide +kernel
theorem dM_maySupplier_150 : decode cM_maySupplier 150 = .ok (.aload_n 0, 1) := by decide +kernel
theorem dM_maySupplier_151 : decode cM_maySupplier 151 = .ok (.getfield 74, 3) := by decide +kernel
theorem dM_maySupplier_154 : decode cM_maySupplier 154 = .ok (.iload 5, 2) := by decide +kernel
theorem dM_maySupplier_156 : decode cM_maySupplier 156 = .ok (.iaload, 1) := by decide +kernel
theorem dM_maySupplier_157 : decode cM_maySupplier 157 = .ok (.iconst 3, 1) := by decide +kernel
theorem dM_maySupplier_158 : decode cM_maySupplier 158 = .ok (.if_icmp .ge 7, 3) := by decide +kernel
theorem dM_maySupplier_161 : decode cM_maySupplier 161 = .ok (.iconst 1, 1) := by decide +kernel
theorem dM_maySupplier_162 : decode cM_maySupplier 162 = .ok (.goto 4, 3) := by decide +kernel
theorem dM_maySupplier_165 : decode cM_maySupplier 165 = .ok (.iconst 0, 1) := by decide +kernel
theorem dM_maySupplier_166 : decode cM_maySupplier 166 = .ok (.ireturn, 1) := by decide +kernel
theorem dM_maySupplier_167 : decode cM_maySupplier 167 = .ok (.iload 6, 2) := by decide +kernel
theorem dM_maySupplier_169 : decode cM_maySupplier 169 = .ok (.bipush 6, 2) := by decide +kernel
theorem dM_maySupplier_171 : decode cM_maySupplier 171 = .ok (.if_icmp .ne 7, 3) := by decide +kernel
theorem dM_maySupplier_174 : decode cM_maySupplier 174 = .ok (.iconst 1, 1) := by decide +kernel
theorem dM_maySupplier_175 : decode cM_maySupplier 175 = .ok (.goto 4, 3) := by decide +kernel
theorem dM_maySupplier_178 : decode cM_maySupplier 178 = .ok (.iconst 0, 1) := by decide +kernel
theorem dM_maySupplier_179 : decode cM_maySupplier 179 = .ok (.ireturn, 1) := by decide +kernel
theorem dM_maySupplier_180 : decode cM_maySupplier 180 = .ok (.iload 6, 2) := by decide +kernel
theorem dM_maySupplier_182 : decode cM_maySupplier 182 = .ok (.iconst 5, 1) := by decide +kernel
theorem dM_maySupplier_183 : decode cM_maySupplier 183 = .ok (.if_icmp .eq 10, 3) := by decide +kernel
theorem dM_maySupplier_186 : decode cM_maySupplier 186 = .ok (.iload 6, 2) := by decide +kernel
theorem dM_maySupplier_188 : decode cM_maySupplier 188 = .ok (.bipush 6, 2) := by decide +kernel
theorem dM_maySupplier_190 : decode cM_maySupplier 190 = .ok (.if_icmp .ne 7, 3) := by decide +kernel
theorem dM_maySupplier_193 : decode cM_maySupplier 193 = .ok (.iconst 1, 1) := by decide +kernel
theorem dM_maySupplier_194 : decode cM_maySupplier 194 = .ok (.goto 4, 3) := by decide +kernel
theorem dM_maySupplier_197 : decode cM_maySupplier 197 = .ok (.iconst 0, 1) := by decide +kernel
theorem dM_maySupplier_198 : decode cM_maySupplier 198 = .ok (.ireturn, 1) := by decide +kernel
theorem dM_maySupplier_199 : decode cM_maySupplier 199 = .ok (.iload 6, 2) := by decide +kernel
theorem dM_maySupplier_201 : decode cM_maySupplier 201 = .ok (.bipush 8, 2) := by decide +kernel
theorem dM_maySupplier_203 : decode cM_maySupplier 203 = .ok (.if_icmp .ne 7, 3) := by decide +kernel
theorem dM_maySupplier_206 : decode cM_maySupplier 206 = .ok (.iconst 1, 1) := by decide +kernel
theorem dM_maySupplier_207 : decode cM_maySupplier 207 = .ok (.goto 4, 3) := by decide +kernel
theorem dM_maySupplier_210 : decode cM_maySupplier 210 = .ok (.iconst 0, 1) := by decide +kernel
theorem dM_maySupplier_211 : decode cM_maySupplier 211 = .ok (.ireturn, 1) := by decide +kernel
theorem dM_stepSupplier_0 : decode cM_stepSupplier 0 = .ok (.bipush 6, 2) := by decide +kernel
theorem dM_stepSupplier_2 : decode cM_stepSupplier 2 = .ok (.iload_n 1, 1) := by decide +kernel
theorem dM_stepSupplier_3 : decode cM_stepSupplier 3 = .ok (.imul, 1) := by decide +kernel
theorem dM_stepSupplier_4 : decode cM_stepSupplier 4 = .ok (.iload_n 2, 1) := by decide +kernel
theorem dM_stepSupplier_5 : decode cM_stepSupplier 5 = .ok (.iadd, 1) := by decide +kernel
theorem dM_stepSupplier_6 : decode cM_stepSupplier 6 = .ok (.istore 5, 2) := by decide +kernel
theorem dM_stepSupplier_8 : decode cM_stepSupplier 8 = .ok (.iconst 0, 1) := by decide +kernel
theorem dM_stepSupplier_9 : decode cM_stepSupplier 9 = .ok (.istore 6, 2) := by decide +kernel
theorem dM_stepSupplier_11 : decode cM_stepSupplier 11 = .ok (.iconst 0, 1) := by decide +kernel
theorem dM_stepSupplier_12 : decode cM_stepSupplier 12 = .ok (.istore 7, 2) := by decide +kernel
theorem dM_stepSupplier_14 : decode cM_stepSupplier 14 = .ok (.iload_n 3, 1) := by decide +kernel
theorem dM_stepSupplier_15 : decode cM_stepSupplier 15 = .ok (.bipush 7, 2) := by decide +kernel
theorem dM_stepSupplier_17 : decode cM_stepSupplier 17 = .ok (.if_icmp .ne 42, 3) := by decide +kernel
theorem dM_stepSupplier_20 : decode cM_stepSupplier 20 = .ok (.aload_n 0, 1) := by decide +kernel
theorem dM_stepSupplier_21 : decode cM_stepSupplier 21 = .ok (.getfield 77, 3) := by decide +kernel
theorem dM_stepSupplier_24 : decode cM_stepSupplier 24 = .ok (.iload 5, 2) := by decide +kernel
theorem dM_stepSupplier_26 : decode cM_stepSupplier 26 = .ok (.iload 4, 2) := by decide +kernel
theorem dM_stepSupplier_28 : decode cM_stepSupplier 28 = .ok (.iastore, 1) := by decide +kernel
theorem dM_stepSupplier_29 : decode cM_stepSupplier 29 = .ok (.aload_n 0, 1) := by decide +kernel
theorem dM_stepSupplier_30 : decode cM_stepSupplier 30 = .ok (.getfield 22, 3) := by decide +kernel
theorem dM_stepSupplier_33 : decode cM_stepSupplier 33 = .ok (.iload 4, 2) := by decide +kernel
theorem dM_stepSupplier_35 : decode cM_stepSupplier 35 = .ok (.iload_n 1, 1) := by decide +kernel
theorem dM_stepSupplier_36 : decode cM_stepSupplier 36 = .ok (.iastore, 1) := by decide +kernel
theorem dM_stepSupplier_37 : decode cM_stepSupplier 37 = .ok (.aload_n 0, 1) := by decide +kernel
theorem dM_stepSupplier_38 : decode cM_stepSupplier 38 = .ok (.getfield 43, 3) := by decide +kernel
theorem dM_stepSupplier_41 : decode cM_stepSupplier 41 = .ok (.iload_n 1, 1) := by decide +kernel
theorem dM_stepSupplier_42 : decode cM_stepSupplier 42 = .ok (.iload 4, 2) := by decide +kernel
theorem dM_stepSupplier_44 : decode cM_stepSupplier 44 = .ok (.iastore, 1) := by decide +kernel
theorem dM_stepSupplier_45 : decode cM_stepSupplier 45 = .ok (.aload_n 0, 1) := by decide +kernel
theorem dM_stepSupplier_46 : decode cM_stepSupplier 46 = .ok (.getfield 62, 3) := by decide +kernel
theorem dM_stepSupplier_49 : decode cM_stepSupplier 49 = .ok (.iload 5, 2) := by decide +kernel
theorem dM_stepSupplier_51 : decode cM_stepSupplier 51 = .ok (.iconst 3, 1) := by decide +kernel
theorem dM_stepSupplier_52 : decode cM_stepSupplier 52 = .ok (.iastore, 1) := by decide +kernel
theorem dM_stepSupplier_53 : decode cM_stepSupplier 53 = .ok (.iconst 2, 1) := by decide +kernel
theorem dM_stepSupplier_54 : decode cM_stepSupplier 54 = .ok (.istore 6, 2) := by decide +kernel
theorem dM_stepSupplier_56 : decode cM_stepSupplier 56 = .ok (.goto 390, 3) := by decide +kernel
theorem dM_stepSupplier_59 : decode cM_stepSupplier 59 = .ok (.iload_n 3, 1) := by decide +kernel
theorem dM_stepSupplier_60 : decode cM_stepSupplier 60 = .ok (.bipush 8, 2) := by decide +kernel
theorem dM_stepSupplier_62 : decode cM_stepSupplier 62 = .ok (.if_icmp .ne 30, 3) := by decide +kernel
theorem dM_stepSupplier_65 : decode cM_stepSupplier 65 = .ok (.aload_n 0, 1) := by decide +kernel
theorem dM_stepSupplier_66 : decode cM_stepSupplier 66 = .ok (.getfield 68, 3) := by decide +kernel
theorem dM_stepSupplier_69 : decode cM_stepSupplier 69 = .ok (.iload 5, 2) := by decide +kernel
theorem dM_stepSupplier_71 : decode cM_stepSupplier 71 = .ok (.iload 4, 2) := by decide +kernel
theorem dM_stepSupplier_73 : decode cM_stepSupplier 73 = .ok (.iastore, 1) := by decide +kernel
theorem dM_stepSupplier_74 : decode cM_stepSupplier 74 = .ok (.aload_n 0, 1) := by decide +kernel
theorem dM_stepSupplier_75 : decode cM_stepSupplier 75 = .ok (.getfield 62, 3) := by decide +kernel
theorem dM_stepSupplier_78 : decode cM_stepSupplier 78 = .ok (.iload 5, 2) := by decide +kernel
theorem dM_stepSupplier_80 : decode cM_stepSupplier 80 = .ok (.iconst 2, 1) := by decide +kernel
theorem dM_stepSupplier_81 : decode cM_stepSupplier 81 = .ok (.iastore, 1) := by decide +kernel
theorem dM_stepSupplier_82 : decode cM_stepSupplier 82 = .ok (.iconst 3, 1) := by decide +kernel
theorem dM_stepSupplier_83 : decode cM_stepSupplier 83 = .ok (.istore 6, 2) := by decide +kernel
theorem dM_stepSupplier_85 : decode cM_stepSupplier 85 = .ok (.iload 4, 2) := by decide +kernel
theorem dM_stepSupplier_87 : decode cM_stepSupplier 87 = .ok (.istore 7, 2) := by decide +kernel
theorem dM_stepSupplier_89 : decode cM_stepSupplier 89 = .ok (.goto 357, 3) := by decide +kernel
theorem dM_stepSupplier_92 : decode cM_stepSupplier 92 = .ok (.iload_n 3, 1) := by decide +kernel
theorem dM_stepSupplier_93 : decode cM_stepSupplier 93 = .ok (.bipush 9, 2) := by decide +kernel
theorem dM_stepSupplier_95 : decode cM_stepSupplier 95 = .ok (.if_icmp .ne 18, 3) := by decide +kernel
theorem dM_stepSupplier_98 : decode cM_stepSupplier 98 = .ok (.aload_n 0, 1) := by decide +kernel
theorem dM_stepSupplier_99 : decode cM_stepSupplier 99 = .ok (.getfield 62, 3) := by decide +kernel
theorem dM_stepSupplier_102 : decode cM_stepSupplier 102 = .ok (.iload 5, 2) := by decide +kernel
theorem dM_stepSupplier_104 : decode cM_stepSupplier 104 = .ok (.bipush 10, 2) := by decide +kernel
theorem dM_stepSupplier_106 : decode cM_stepSupplier 106 = .ok (.iastore, 1) := by decide +kernel
theorem dM_stepSupplier_107 : decode cM_stepSupplier 107 = .ok (.iconst 4, 1) := by decide +kernel
theorem dM_stepSupplier_108 : decode cM_stepSupplier 108 = .ok (.istore 6, 2) := by decide +kernel
theorem dM_stepSupplier_110 : decode cM_stepSupplier 110 = .ok (.goto 336, 3) := by decide +kernel
theorem dM_stepSupplier_113 : decode cM_stepSupplier 113 = .ok (.iload_n 3, 1) := by decide +kernel
theorem dM_stepSupplier_114 : decode cM_stepSupplier 114 = .ok (.bipush 10, 2) := by decide +kernel
theorem dM_stepSupplier_116 : decode cM_stepSupplier 116 = .ok (.if_icmp .ne 59, 3) := by decide +kernel
theorem dM_stepSupplier_119 : decode cM_stepSupplier 119 = .ok (.aload_n 0, 1) := by decide +kernel
theorem dM_stepSupplier_120 : decode cM_stepSupplier 120 = .ok (.getfield 65, 3) := by decide +kernel
theorem dM_stepSupplier_123 : decode cM_stepSupplier 123 = .ok (.iload 5, 2) := by decide +kernel
theorem dM_stepSupplier_125 : decode cM_stepSupplier 125 = .ok (.aload_n 0, 1) := by decide +kernel
theorem dM_stepSupplier_126 : decode cM_stepSupplier 126 = .ok (.getfield 166, 3) := by decide +kernel
theorem dM_stepSupplier_129 : decode cM_stepSupplier 129 = .ok (.aload_n 0, 1) := by decide +kernel
theorem dM_stepSupplier_130 : decode cM_stepSupplier 130 = .ok (.getfield 31, 3) := by decide +kernel
theorem dM_stepSupplier_133 : decode cM_stepSupplier 133 = .ok (.iload_n 1, 1) := by decide +kernel
theorem dM_stepSupplier_134 : decode cM_stepSupplier 134 = .ok (.iaload, 1) := by decide +kernel
theorem dM_stepSupplier_135 : decode cM_stepSupplier 135 = .ok (.iadd, 1) := by decide +kernel
theorem dM_stepSupplier_136 : decode cM_stepSupplier 136 = .ok (.iastore, 1) := by decide +kernel
theorem dM_stepSupplier_137 : decode cM_stepSupplier 137 = .ok (.aload_n 0, 1) := by decide +kernel
theorem dM_stepSupplier_138 : decode cM_stepSupplier 138 = .ok (.getfield 19, 3) := by decide +kernel
theorem dM_stepSupplier_141 : decode cM_stepSupplier 141 = .ok (.aload_n 0, 1) := by decide +kernel
theorem dM_stepSupplier_142 : decode cM_stepSupplier 142 = .ok (.getfield 77, 3) := by decide +kernel
theorem dM_stepSupplier_145 : decode cM_stepSupplier 145 = .ok (.iload 5, 2) := by decide +kernel
theorem dM_stepSupplier_147 : decode cM_stepSupplier 147 = .ok (.iaload, 1) := by decide +kernel
theorem dM_stepSupplier_148 : decode cM_stepSupplier 148 = .ok (.bipush 6, 2) := by decide +kernel
theorem dM_stepSupplier_150 : decode cM_stepSupplier 150 = .ok (.iastore, 1) := by decide +kernel
theorem dM_stepSupplier_151 : decode cM_stepSupplier 151 = .ok (.aload_n 0, 1) := by decide +kernel
theorem dM_stepSupplier_152 : decode cM_stepSupplier 152 = .ok (.getfield 62, 3) := by decide +kernel
theorem dM_stepSupplier_155 : decode cM_stepSupplier 155 = .ok (.iload 5, 2) := by decide +kernel
theorem dM_stepSupplier_157 : decode cM_stepSupplier 157 = .ok (.iconst 4, 1) := by decide +kernel
theorem dM_stepSupplier_158 : decode cM_stepSupplier 158 = .ok (.iastore, 1) := by decide +kernel
theorem dM_stepSupplier_159 : decode cM_stepSupplier 159 = .ok (.bipush 7, 2) := by decide +kernel
theorem dM_stepSupplier_161 : decode cM_stepSupplier 161 = .ok (.istore 6, 2) := by decide +kernel
theorem dM_stepSupplier_163 : decode cM_stepSupplier 163 = .ok (.aload_n 0, 1) := by decide +kernel
theorem dM_stepSupplier_164 : decode cM_stepSupplier 164 = .ok (.getfield 65, 3) := by decide +kernel
theorem dM_stepSupplier_167 : decode cM_stepSupplier 167 = .ok (.iload 5, 2) := by decide +kernel
theorem dM_stepSupplier_169 : decode cM_stepSupplier 169 = .ok (.iaload, 1) := by decide +kernel
theorem dM_stepSupplier_170 : decode cM_stepSupplier 170 = .ok (.istore 7, 2) := by decide +kernel
theorem dM_stepSupplier_172 : decode cM_stepSupplier 172 = .ok (.goto 274, 3) := by decide +kernel
theorem dM_stepSupplier_175 : decode cM_stepSupplier 175 = .ok (.iload_n 3, 1) := by decide +kernel
theorem dM_stepSupplier_176 : decode cM_stepSupplier 176 = .ok (.bipush 11, 2) := by decide +kernel
theorem dM_stepSupplier_178 : decode cM_stepSupplier 178 = .ok (.if_icmp .eq 9, 3) := by decide +kernel
theorem dM_stepSupplier_181 : decode cM_stepSupplier 181 = .ok (.iload_n 3, 1) := by decide +kernel
theorem dM_stepSupplier_182 : decode cM_stepSupplier 182 = .ok (.bipush 12, 2) := by decide +kernel
theorem dM_stepSupplier_184 : decode cM_stepSupplier 184 = .ok (.if_icmp .ne 84, 3) := by decide +kernel
theorem dM_stepSupplier_187 : decode cM_stepSupplier 187 = .ok (.aload_n 0, 1) := by decide +kernel
theorem dM_stepSupplier_188 : decode cM_stepSupplier 188 = .ok (.getfield 74, 3) := by decide +kernel
theorem dM_stepSupplier_191 : decode cM_stepSupplier 191 = .ok (.iload 5, 2) := by decide +kernel
theorem dM_stepSupplier_193 : decode cM_stepSupplier 193 = .ok (.dup2, 1) := by decide +kernel
theorem dM_stepSupplier_194 : decode cM_stepSupplier 194 = .ok (.iaload, 1) := by decide +kernel
theorem dM_stepSupplier_195 : decode cM_stepSupplier 195 = .ok (.iload_n 3, 1) := by decide +kernel
theorem dM_stepSupplier_196 : decode cM_stepSupplier 196 = .ok (.bipush 11, 2) := by decide +kernel
theorem dM_stepSupplier_198 : decode cM_stepSupplier 198 = .ok (.if_icmp .ne 7, 3) := by decide +kernel
theorem dM_stepSupplier_201 : decode cM_stepSupplier 201 = .ok (.iconst 1, 1) := by decide +kernel
theorem dM_stepSupplier_202 : decode cM_stepSupplier 202 = .ok (.goto 4, 3) := by decide +kernel
theorem dM_stepSupplier_205 : decode cM_stepSupplier 205 = .ok (.iconst 0, 1) := by decide +kernel
theorem dM_stepSupplier_206 : decode cM_stepSupplier 206 = .ok (.iadd, 1) := by decide +kernel
theorem dM_stepSupplier_207 : decode cM_stepSupplier 207 = .ok (.iastore, 1) := by decide +kernel
theorem dM_stepSupplier_208 : decode cM_stepSupplier 208 = .ok (.aload_n 0, 1) := by decide +kernel
theorem dM_stepSupplier_209 : decode cM_stepSupplier 209 = .ok (.getfield 65, 3) := by decide +kernel
theorem dM_stepSupplier_212 : decode cM_stepSupplier 212 = .ok (.iload 5, 2) := by decide +kernel
theorem dM_stepSupplier_214 : decode cM_stepSupplier 214 = .ok (.dup2, 1) := by decide +kernel
theorem dM_stepSupplier_215 : decode cM_stepSupplier 215 = .ok (.iaload, 1) := by decide +kernel
theorem dM_stepSupplier_216 : decode cM_stepSupplier 216 = .ok (.iload_n 3, 1) := by decide +kernel
theorem dM_stepSupplier_217 : decode cM_stepSupplier 217 = .ok (.bipush 11, 2) := by decide +kernel
theorem dM_stepSupplier_219 : decode cM_stepSupplier 219 = .ok (.if_icmp .ne 12, 3) := by decide +kernel
theorem dM_stepSupplier_222 : decode cM_stepSupplier 222 = .ok (.aload_n 0, 1) := by decide +kernel
theorem dM_stepSupplier_223 : decode cM_stepSupplier 223 = .ok (.getfield 31, 3) := by decide +kernel
theorem dM_stepSupplier_226 : decode cM_stepSupplier 226 = .ok (.iload_n 1, 1) := by decide +kernel
theorem dM_stepSupplier_227 : decode cM_stepSupplier 227 = .ok (.iaload, 1) := by decide +kernel
theorem dM_stepSupplier_228 : decode cM_stepSupplier 228 = .ok (.goto 4, 3) := by decide +kernel
theorem dM_stepSupplier_231 : decode cM_stepSupplier 231 = .ok (.iconst 0, 1) := by decide +kernel
theorem dM_stepSupplier_232 : decode cM_stepSupplier 232 = .ok (.iadd, 1) := by decide +kernel
theorem dM_stepSupplier_233 : decode cM_stepSupplier 233 = .ok (.iastore, 1) := by decide +kernel
theorem dM_stepSupplier_234 : decode cM_stepSupplier 234 = .ok (.aload_n 0, 1) := by decide +kernel
theorem dM_stepSupplier_235 : decode cM_stepSupplier 235 = .ok (.getfield 62, 3) := by decide +kernel
theorem dM_stepSupplier_238 : decode cM_stepSupplier 238 = .ok (.iload 5, 2) := by decide +kernel
theorem dM_stepSupplier_240 : decode cM_stepSupplier 240 = .ok (.iconst 5, 1) := by decide +kernel
theorem dM_stepSupplier_241 : decode cM_stepSupplier 241 = .ok (.iastore, 1) := by decide +kernel
theorem dM_stepSupplier_242 : decode cM_stepSupplier 242 = .ok (.bipush 10, 2) := by decide +kernel
theorem dM_stepSupplier_244 : decode cM_stepSupplier 244 = .ok (.istore 6, 2) := by decide +kernel
theorem dM_stepSupplier_246 : decode cM_stepSupplier 246 = .ok (.iload_n 3, 1) := by decide +kernel
theorem dM_stepSupplier_247 : decode cM_stepSupplier 247 = .ok (.bipush 11, 2) := by decide +kernel
theorem dM_stepSupplier_249 : decode cM_stepSupplier 249 = .ok (.if_icmp .ne 13, 3) := by decide +kernel
theorem dM_stepSupplier_252 : decode cM_stepSupplier 252 = .ok (.aload_n 0, 1) := by decide +kernel
theorem dM_stepSupplier_253 : decode cM_stepSupplier 253 = .ok (.getfield 65, 3) := by decide +kernel
theorem dM_stepSupplier_256 : decode cM_stepSupplier 256 = .ok (.iload 5, 2) := by decide +kernel
theorem dM_stepSupplier_258 : decode cM_stepSupplier 258 = .ok (.iaload, 1) := by decide +kernel
theorem dM_stepSupplier_259 : decode cM_stepSupplier 259 = .ok (.goto 4, 3) := by decide +kernel
theorem dM_stepSupplier_262 : decode cM_stepSupplier 262 = .ok (.iconst 0, 1) := by decide +kernel
theorem dM_stepSupplier_263 : decode cM_stepSupplier 263 = .ok (.istore 7, 2) := by decide +kernel
theorem dM_stepSupplier_265 : decode cM_stepSupplier 265 = .ok (.goto 181, 3) := by decide +kernel
theorem dM_stepSupplier_268 : decode cM_stepSupplier 268 = .ok (.iload_n 3, 1) := by decide +kernel
theorem dM_stepSupplier_269 : decode cM_stepSupplier 269 = .ok (.bipush 13, 2) := by decide +kernel
theorem dM_stepSupplier_271 : decode cM_stepSupplier 271 = .ok (.if_icmp .ne 59, 3) := by decide +kernel
theorem dM_stepSupplier_274 : decode cM_stepSupplier 274 = .ok (.aload_n 0, 1) := by decide +kernel
theorem dM_stepSupplier_275 : decode cM_stepSupplier 275 = .ok (.getfield 166, 3) := by decide +kernel
theorem dM_stepSupplier_278 : decode cM_stepSupplier 278 = .ok (.bipush 7, 2) := by decide +kernel
theorem dM_stepSupplier_280 : decode cM_stepSupplier 280 = .ok (.iadd, 1) := by decide +kernel
theorem dM_stepSupplier_281 : decode cM_stepSupplier 281 = .ok (.aload_n 0, 1) := by decide +kernel
theorem dM_stepSupplier_282 : decode cM_stepSupplier 282 = .ok (.getfield 65, 3) := by decide +kernel
theorem dM_stepSupplier_285 : decode cM_stepSupplier 285 = .ok (.iload 5, 2) := by decide +kernel
theorem dM_stepSupplier_287 : decode cM_stepSupplier 287 = .ok (.iaload, 1) := by decide +kernel
theorem dM_stepSupplier_288 : decode cM_stepSupplier 288 = .ok (.if_icmp .ge 17, 3) := by decide +kernel
theorem dM_stepSupplier_291 : decode cM_stepSupplier 291 = .ok (.aload_n 0, 1) := by decide +kernel
theorem dM_stepSupplier_292 : decode cM_stepSupplier 292 = .ok (.getfield 65, 3) := by decide +kernel
theorem dM_stepSupplier_295 : decode cM_stepSupplier 295 = .ok (.iload 5, 2) := by decide +kernel
theorem dM_stepSupplier_297 : decode cM_stepSupplier 297 = .ok (.aload_n 0, 1) := by decide +kernel
theorem dM_stepSupplier_298 : decode cM_stepSupplier 298 = .ok (.getfield 166, 3) := by decide +kernel
theorem dM_stepSupplier_301 : decode cM_stepSupplier 301 = .ok (.bipush 7, 2) := by decide +kernel
theorem dM_stepSupplier_303 : decode cM_stepSupplier 303 = .ok (.iadd, 1) := by decide +kernel
theorem dM_stepSupplier_304 : decode cM_stepSupplier 304 = .ok (.iastore, 1) := by decide +kernel
theorem dM_stepSupplier_305 : decode cM_stepSupplier 305 = .ok (.aload_n 0, 1) := by decide +kernel
theorem dM_stepSupplier_306 : decode cM_stepSupplier 306 = .ok (.getfield 62, 3) := by decide +kernel
theorem dM_stepSupplier_309 : decode cM_stepSupplier 309 = .ok (.iload 5, 2) := by decide +kernel
theorem dM_stepSupplier_311 : decode cM_stepSupplier 311 = .ok (.bipush 7, 2) := by decide +kernel
theorem dM_stepSupplier_313 : decode cM_stepSupplier 313 = .ok (.iastore, 1) := by decide +kernel
theorem dM_stepSupplier_314 : decode cM_stepSupplier 314 = .ok (.bipush 11, 2) := by decide +kernel
theorem dM_stepSupplier_316 : decode cM_stepSupplier 316 = .ok (.istore 6, 2) := by decide +kernel
theorem dM_stepSupplier_318 : decode cM_stepSupplier 318 = .ok (.aload_n 0, 1) := by decide +kernel
theorem dM_stepSupplier_319 : decode cM_stepSupplier 319 = .ok (.getfield 65, 3) := by decide +kernel
theorem dM_stepSupplier_322 : decode cM_stepSupplier 322 = .ok (.iload 5, 2) := by decide +kernel
theorem dM_stepSupplier_324 : decode cM_stepSupplier 324 = .ok (.iaload, 1) := by decide +kernel
theorem dM_stepSupplier_325 : decode cM_stepSupplier 325 = .ok (.istore 7, 2) := by decide +kernel
theorem dM_stepSupplier_327 : decode cM_stepSupplier 327 = .ok (.goto 119, 3) := by decide +kernel
theorem dM_stepSupplier_330 : decode cM_stepSupplier 330 = .ok (.aload_n 0, 1) := by decide +kernel
theorem dM_stepSupplier_331 : decode cM_stepSupplier 331 = .ok (.getfield 71, 3) := by decide +kernel
theorem dM_stepSupplier_334 : decode cM_stepSupplier 334 = .ok (.iload 5, 2) := by decide +kernel
theorem dM_stepSupplier_336 : decode cM_stepSupplier 336 = .ok (.aload_n 0, 1) := by decide +kernel
theorem dM_stepSupplier_337 : decode cM_stepSupplier 337 = .ok (.getfield 68, 3) := by decide +kernel
theorem dM_stepSupplier_340 : decode cM_stepSupplier 340 = .ok (.iload 5, 2) := by decide +kernel
theorem dM_stepSupplier_342 : decode cM_stepSupplier 342 = .ok (.iaload, 1) := by decide +kernel
theorem dM_stepSupplier_343 : decode cM_stepSupplier 343 = .ok (.aload_n 0, 1) := by decide +kernel
theorem dM_stepSupplier_344 : decode cM_stepSupplier 344 = .ok (.getfield 166, 3) := by decide +kernel
theorem dM_stepSupplier_347 : decode cM_stepSupplier 347 = .ok (.aload_n 0, 1) := by decide +kernel
theorem dM_stepSupplier_348 : decode cM_stepSupplier 348 = .ok (.getfield 65, 3) := by decide +kernel
theorem dM_stepSupplier_351 : decode cM_stepSupplier 351 = .ok (.iload 5, 2) := by decide +kernel
theorem dM_stepSupplier_353 : decode cM_stepSupplier 353 = .ok (.iaload, 1) := by decide +kernel
theorem dM_stepSupplier_354 : decode cM_stepSupplier 354 = .ok (.if_icmp .le 21, 3) := by decide +kernel
theorem dM_stepSupplier_357 : decode cM_stepSupplier 357 = .ok (.bipush 10, 2) := by decide +kernel
theorem dM_stepSupplier_359 : decode cM_stepSupplier 359 = .ok (.aload_n 0, 1) := by decide +kernel
theorem dM_stepSupplier_360 : decode cM_stepSupplier 360 = .ok (.getfield 166, 3) := by decide +kernel
theorem dM_stepSupplier_363 : decode cM_stepSupplier 363 = .ok (.aload_n 0, 1) := by decide +kernel
theorem dM_stepSupplier_364 : decode cM_stepSupplier 364 = .ok (.getfield 65, 3) := by decide +kernel
theorem dM_stepSupplier_367 : decode cM_stepSupplier 367 = .ok (.iload 5, 2) := by decide +kernel
theorem dM_stepSupplier_369 : decode cM_stepSupplier 369 = .ok (.iaload, 1) := by decide +kernel
theorem dM_stepSupplier_370 : decode cM_stepSupplier 370 = .ok (.isub, 1) := by decide +kernel
theorem dM_stepSupplier_371 : decode cM_stepSupplier 371 = .ok (.imul, 1) := by decide +kernel
theorem dM_stepSupplier_372 : decode cM_stepSupplier 372 = .ok (.goto 4, 3) := by decide +kernel
theorem dM_stepSupplier_375 : decode cM_stepSupplier 375 = .ok (.iconst 0, 1) := by decide +kernel
theorem dM_stepSupplier_376 : decode cM_stepSupplier 376 = .ok (.iadd, 1) := by decide +kernel
theorem dM_stepSupplier_377 : decode cM_stepSupplier 377 = .ok (.iastore, 1) := by decide +kernel
theorem dM_stepSupplier_378 : decode cM_stepSupplier 378 = .ok (.aload_n 0, 1) := by decide +kernel
theorem dM_stepSupplier_379 : decode cM_stepSupplier 379 = .ok (.getfield 7, 3) := by decide +kernel
theorem dM_stepSupplier_382 : decode cM_stepSupplier 382 = .ok (.iload_n 2, 1) := by decide +kernel
theorem dM_stepSupplier_383 : decode cM_stepSupplier 383 = .ok (.dup2, 1) := by decide +kernel
theorem dM_stepSupplier_384 : decode cM_stepSupplier 384 = .ok (.iaload, 1) := by decide +kernel
theorem dM_stepSupplier_385 : decode cM_stepSupplier 385 = .ok (.aload_n 0, 1) := by decide +kernel
theorem dM_stepSupplier_386 : decode cM_stepSupplier 386 = .ok (.getfield 71, 3) := by decide +kernel
theorem dM_stepSupplier_389 : decode cM_stepSupplier 389 = .ok (.iload 5, 2) := by decide +kernel
theorem dM_stepSupplier_391 : decode cM_stepSupplier 391 = .ok (.iaload, 1) := by decide +kernel
theorem dM_stepSupplier_392 : decode cM_stepSupplier 392 = .ok (.iadd, 1) := by decide +kernel
theorem dM_stepSupplier_393 : decode cM_stepSupplier 393 = .ok (.iastore, 1) := by decide +kernel
theorem dM_stepSupplier_394 : decode cM_stepSupplier 394 = .ok (.aload_n 0, 1) := by decide +kernel
theorem dM_stepSupplier_395 : decode cM_stepSupplier 395 = .ok (.getfield 19, 3) := by decide +kernel
theorem dM_stepSupplier_398 : decode cM_stepSupplier 398 = .ok (.aload_n 0, 1) := by decide +kernel
theorem dM_stepSupplier_399 : decode cM_stepSupplier 399 = .ok (.getfield 77, 3) := by decide +kernel
theorem dM_stepSupplier_402 : decode cM_stepSupplier 402 = .ok (.iload 5, 2) := by decide +kernel
theorem dM_stepSupplier_404 : decode cM_stepSupplier 404 = .ok (.iaload, 1) := by decide +kernel
theorem dM_stepSupplier_405 : decode cM_stepSupplier 405 = .ok (.aload_n 0, 1) := by decide +kernel
theorem dM_stepSupplier_406 : decode cM_stepSupplier 406 = .ok (.getfield 16, 3) := by decide +kernel
theorem dM_stepSupplier_409 : decode cM_stepSupplier 409 = .ok (.aload_n 0, 1) := by decide +kernel
theorem dM_stepSupplier_410 : decode cM_stepSupplier 410 = .ok (.getfield 77, 3) := by decide +kernel
theorem dM_stepSupplier_413 : decode cM_stepSupplier 413 = .ok (.iload 5, 2) := by decide +kernel
theorem dM_stepSupplier_415 : decode cM_stepSupplier 415 = .ok (.iaload, 1) := by decide +kernel
theorem dM_stepSupplier_416 : decode cM_stepSupplier 416 = .ok (.iaload, 1) := by decide +kernel
theorem dM_stepSupplier_417 : decode cM_stepSupplier 417 = .ok (.iastore, 1) := by decide +kernel
theorem dM_stepSupplier_418 : decode cM_stepSupplier 418 = .ok (.aload_n 0, 1) := by decide +kernel
theorem dM_stepSupplier_419 : decode cM_stepSupplier 419 = .ok (.iload 5, 2) := by decide +kernel
theorem dM_stepSupplier_421 : decode cM_stepSupplier 421 = .ok (.invokevirtual 169, 3) := by decide +kernel
theorem dM_stepSupplier_424 : decode cM_stepSupplier 424 = .ok (.aload_n 0, 1) := by decide +kernel
theorem dM_stepSupplier_425 : decode cM_stepSupplier 425 = .ok (.getfield 62, 3) := by decide +kernel
theorem dM_stepSupplier_428 : decode cM_stepSupplier 428 = .ok (.iload 5, 2) := by decide +kernel
theorem dM_stepSupplier_430 : decode cM_stepSupplier 430 = .ok (.bipush 9, 2) := by decide +kernel
theorem dM_stepSupplier_432 : decode cM_stepSupplier 432 = .ok (.iastore, 1) := by decide +kernel
theorem dM_stepSupplier_433 : decode cM_stepSupplier 433 = .ok (.bipush 13, 2) := by decide +kernel
theorem dM_stepSupplier_435 : decode cM_stepSupplier 435 = .ok (.istore 6, 2) := by decide +kernel
theorem dM_stepSupplier_437 : decode cM_stepSupplier 437 = .ok (.aload_n 0, 1) := by decide +kernel
theorem dM_stepSupplier_438 : decode cM_stepSupplier 438 = .ok (.getfield 71, 3) := by decide +kernel
theorem dM_stepSupplier_441 : decode cM_stepSupplier 441 = .ok (.iload 5, 2) := by decide +kernel
theorem dM_stepSupplier_443 : decode cM_stepSupplier 443 = .ok (.iaload, 1) := by decide +kernel
theorem dM_stepSupplier_444 : decode cM_stepSupplier 444 = .ok (.istore 7, 2) := by decide +kernel
theorem dM_stepSupplier_446 : decode cM_stepSupplier 446 = .ok (.aload_n 0, 1) := by decide +kernel
theorem dM_stepSupplier_447 : decode cM_stepSupplier 447 = .ok (.iconst 2, 1) := by decide +kernel
theorem dM_stepSupplier_448 : decode cM_stepSupplier 448 = .ok (.iload 5, 2) := by decide +kernel
theorem dM_stepSupplier_450 : decode cM_stepSupplier 450 = .ok (.imul, 1) := by decide +kernel
theorem dM_stepSupplier_451 : decode cM_stepSupplier 451 = .ok (.iconst 1, 1) := by decide +kernel
theorem dM_stepSupplier_452 : decode cM_stepSupplier 452 = .ok (.iadd, 1) := by decide +kernel
theorem dM_stepSupplier_453 : decode cM_stepSupplier 453 = .ok (.iload 6, 2) := by decide +kernel
theorem dM_stepSupplier_455 : decode cM_stepSupplier 455 = .ok (.iload 7, 2) := by decide +kernel
theorem dM_stepSupplier_457 : decode cM_stepSupplier 457 = .ok (.invokevirtual 138, 3) := by decide +kernel
theorem dM_stepSupplier_460 : decode cM_stepSupplier 460 = .ok (.return_, 1) := by decide +kernel
theorem dM_letGo_0 : decode cM_letGo 0 = .ok (.aload_n 0, 1) := by decide +kernel
theorem dM_letGo_1 : decode cM_letGo 1 = .ok (.getfield 77, 3) := by decide +kernel
theorem dM_letGo_4 : decode cM_letGo 4 = .ok (.iload_n 1, 1) := by decide +kernel
theorem dM_letGo_5 : decode cM_letGo 5 = .ok (.iaload, 1) := by decide +kernel
theorem dM_letGo_6 : decode cM_letGo 6 = .ok (.iconst (-1), 1) := by decide +kernel
theorem dM_letGo_7 : decode cM_letGo 7 = .ok (.if_icmp .eq 15, 3) := by decide +kernel
theorem dM_letGo_10 : decode cM_letGo 10 = .ok (.aload_n 0, 1) := by decide +kernel
theorem dM_letGo_11 : decode cM_letGo 11 = .ok (.getfield 22, 3) := by decide +kernel
theorem dM_letGo_14 : decode cM_letGo 14 = .ok (.aload_n 0, 1) := by decide +kernel
