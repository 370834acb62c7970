theorem dM_letGo_15 : decode cM_letGo 15 = .ok (.getfield 77, 3) := by decide +kernel
theorem dM_letGo_18 : decode cM_letGo 18 = .ok (.iload_n 1, 1) := by decide +kernel
theorem dM_letGo_19 : decode cM_letGo 19 = .ok (.iaload, 1) := by decide +kernel
theorem dM_letGo_20 : decode cM_letGo 20 = .ok (.iconst (-1), 1) := by decide +kernel
theorem dM_letGo_21 : decode cM_letGo 21 = .ok (.iastore, 1) := by decide +kernel
theorem dM_letGo_22 : decode cM_letGo 22 = .ok (.aload_n 0, 1) := by decide +kernel
theorem dM_letGo_23 : decode cM_letGo 23 = .ok (.getfield 77, 3) := by decide +kernel
theorem dM_letGo_26 : decode cM_letGo 26 = .ok (.iload_n 1, 1) := by decide +kernel
theorem dM_letGo_27 : decode cM_letGo 27 = .ok (.iconst (-1), 1) := by decide +kernel
theorem dM_letGo_28 : decode cM_letGo 28 = .ok (.iastore, 1) := by decide +kernel
theorem dM_letGo_29 : decode cM_letGo 29 = .ok (.return_, 1) := by decide +kernel
theorem dM_act_0 : decode cM_act 0 = .ok (.aload_n 0, 1) := by decide +kernel
theorem dM_act_1 : decode cM_act 1 = .ok (.iload_n 2, 1) := by decide +kernel
theorem dM_act_2 : decode cM_act 2 = .ok (.invokevirtual 172, 3) := by decide +kernel
theorem dM_act_5 : decode cM_act 5 = .ok (.ifCond .eq 24, 3) := by decide +kernel
theorem dM_act_8 : decode cM_act 8 = .ok (.iload_n 1, 1) := by decide +kernel
theorem dM_act_9 : decode cM_act 9 = .ok (.invokestatic 142, 3) := by decide +kernel
theorem dM_act_12 : decode cM_act 12 = .ok (.ifCond .eq 17, 3) := by decide +kernel
theorem dM_act_15 : decode cM_act 15 = .ok (.iload_n 1, 1) := by decide +kernel
theorem dM_act_16 : decode cM_act 16 = .ok (.aload_n 0, 1) := by decide +kernel
theorem dM_act_17 : decode cM_act 17 = .ok (.getfield 25, 3) := by decide +kernel
theorem dM_act_20 : decode cM_act 20 = .ok (.iload_n 2, 1) := by decide +kernel
theorem dM_act_21 : decode cM_act 21 = .ok (.iaload, 1) := by decide +kernel
theorem dM_act_22 : decode cM_act 22 = .ok (.if_icmp .ne 7, 3) := by decide +kernel
theorem dM_act_25 : decode cM_act 25 = .ok (.iconst 1, 1) := by decide +kernel
theorem dM_act_26 : decode cM_act 26 = .ok (.goto 4, 3) := by decide +kernel
theorem dM_act_29 : decode cM_act 29 = .ok (.iconst 0, 1) := by decide +kernel
theorem dM_act_30 : decode cM_act 30 = .ok (.istore 5, 2) := by decide +kernel
theorem dM_act_32 : decode cM_act 32 = .ok (.aload_n 0, 1) := by decide +kernel
theorem dM_act_33 : decode cM_act 33 = .ok (.iload_n 2, 1) := by decide +kernel
theorem dM_act_34 : decode cM_act 34 = .ok (.invokevirtual 172, 3) := by decide +kernel
theorem dM_act_37 : decode cM_act 37 = .ok (.ifCond .eq 28, 3) := by decide +kernel
theorem dM_act_40 : decode cM_act 40 = .ok (.iload_n 1, 1) := by decide +kernel
theorem dM_act_41 : decode cM_act 41 = .ok (.invokestatic 142, 3) := by decide +kernel
theorem dM_act_44 : decode cM_act 44 = .ok (.ifCond .eq 21, 3) := by decide +kernel
theorem dM_act_47 : decode cM_act 47 = .ok (.aload_n 0, 1) := by decide +kernel
theorem dM_act_48 : decode cM_act 48 = .ok (.getfield 58, 3) := by decide +kernel
theorem dM_act_51 : decode cM_act 51 = .ok (.bipush 6, 2) := by decide +kernel
theorem dM_act_53 : decode cM_act 53 = .ok (.iload_n 2, 1) := by decide +kernel
theorem dM_act_54 : decode cM_act 54 = .ok (.imul, 1) := by decide +kernel
theorem dM_act_55 : decode cM_act 55 = .ok (.iload_n 1, 1) := by decide +kernel
theorem dM_act_56 : decode cM_act 56 = .ok (.iadd, 1) := by decide +kernel
theorem dM_act_57 : decode cM_act 57 = .ok (.baload, 1) := by decide +kernel
theorem dM_act_58 : decode cM_act 58 = .ok (.ifCond .eq 7, 3) := by decide +kernel
theorem dM_act_61 : decode cM_act 61 = .ok (.iconst 1, 1) := by decide +kernel
theorem dM_act_62 : decode cM_act 62 = .ok (.goto 4, 3) := by decide +kernel
theorem dM_act_65 : decode cM_act 65 = .ok (.iconst 0, 1) := by decide +kernel
theorem dM_act_66 : decode cM_act 66 = .ok (.istore 6, 2) := by decide +kernel
theorem dM_act_68 : decode cM_act 68 = .ok (.iload_n 3, 1) := by decide +kernel
theorem dM_act_69 : decode cM_act 69 = .ok (.ifCond .lt 14, 3) := by decide +kernel
theorem dM_act_72 : decode cM_act 72 = .ok (.iload_n 3, 1) := by decide +kernel
theorem dM_act_73 : decode cM_act 73 = .ok (.bipush 7, 2) := by decide +kernel
theorem dM_act_75 : decode cM_act 75 = .ok (.if_icmp .ge 8, 3) := by decide +kernel
theorem dM_act_78 : decode cM_act 78 = .ok (.iload 5, 2) := by decide +kernel
theorem dM_act_80 : decode cM_act 80 = .ok (.ifCond .ne 20, 3) := by decide +kernel
theorem dM_act_83 : decode cM_act 83 = .ok (.iload_n 3, 1) := by decide +kernel
theorem dM_act_84 : decode cM_act 84 = .ok (.bipush 6, 2) := by decide +kernel
theorem dM_act_86 : decode cM_act 86 = .ok (.if_icmp .le 18, 3) := by decide +kernel
theorem dM_act_89 : decode cM_act 89 = .ok (.iload_n 3, 1) := by decide +kernel
theorem dM_act_90 : decode cM_act 90 = .ok (.bipush 15, 2) := by decide +kernel
theorem dM_act_92 : decode cM_act 92 = .ok (.if_icmp .ge 12, 3) := by decide +kernel
theorem dM_act_95 : decode cM_act 95 = .ok (.iload 6, 2) := by decide +kernel
theorem dM_act_97 : decode cM_act 97 = .ok (.ifCond .eq 7, 3) := by decide +kernel
theorem dM_act_100 : decode cM_act 100 = .ok (.iconst 1, 1) := by decide +kernel
theorem dM_act_101 : decode cM_act 101 = .ok (.goto 4, 3) := by decide +kernel
theorem dM_act_104 : decode cM_act 104 = .ok (.iconst 0, 1) := by decide +kernel
theorem dM_act_105 : decode cM_act 105 = .ok (.istore 7, 2) := by decide +kernel
theorem dM_act_107 : decode cM_act 107 = .ok (.aload_n 0, 1) := by decide +kernel
theorem dM_act_108 : decode cM_act 108 = .ok (.iload 7, 2) := by decide +kernel
theorem dM_act_110 : decode cM_act 110 = .ok (.ifCond .ne 7, 3) := by decide +kernel
theorem dM_act_113 : decode cM_act 113 = .ok (.iconst 1, 1) := by decide +kernel
theorem dM_act_114 : decode cM_act 114 = .ok (.goto 4, 3) := by decide +kernel
theorem dM_act_117 : decode cM_act 117 = .ok (.iconst 0, 1) := by decide +kernel
theorem dM_act_118 : decode cM_act 118 = .ok (.iload 7, 2) := by decide +kernel
theorem dM_act_120 : decode cM_act 120 = .ok (.ifCond .eq 36, 3) := by decide +kernel
theorem dM_act_123 : decode cM_act 123 = .ok (.iload 5, 2) := by decide +kernel
theorem dM_act_125 : decode cM_act 125 = .ok (.ifCond .eq 15, 3) := by decide +kernel
theorem dM_act_128 : decode cM_act 128 = .ok (.aload_n 0, 1) := by decide +kernel
theorem dM_act_129 : decode cM_act 129 = .ok (.iload_n 2, 1) := by decide +kernel
theorem dM_act_130 : decode cM_act 130 = .ok (.iload_n 3, 1) := by decide +kernel
theorem dM_act_131 : decode cM_act 131 = .ok (.invokevirtual 175, 3) := by decide +kernel
theorem dM_act_134 : decode cM_act 134 = .ok (.ifCond .ne 22, 3) := by decide +kernel
theorem dM_act_137 : decode cM_act 137 = .ok (.goto 15, 3) := by decide +kernel
theorem dM_act_140 : decode cM_act 140 = .ok (.aload_n 0, 1) := by decide +kernel
theorem dM_act_141 : decode cM_act 141 = .ok (.iload_n 2, 1) := by decide +kernel
theorem dM_act_142 : decode cM_act 142 = .ok (.iload_n 1, 1) := by decide +kernel
theorem dM_act_143 : decode cM_act 143 = .ok (.iload_n 3, 1) := by decide +kernel
theorem dM_act_144 : decode cM_act 144 = .ok (.iload 4, 2) := by decide +kernel
theorem dM_act_146 : decode cM_act 146 = .ok (.invokevirtual 179, 3) := by decide +kernel
theorem dM_act_149 : decode cM_act 149 = .ok (.ifCond .ne 7, 3) := by decide +kernel
theorem dM_act_152 : decode cM_act 152 = .ok (.iconst 1, 1) := by decide +kernel
theorem dM_act_153 : decode cM_act 153 = .ok (.goto 4, 3) := by decide +kernel
theorem dM_act_156 : decode cM_act 156 = .ok (.iconst 0, 1) := by decide +kernel
theorem dM_act_157 : decode cM_act 157 = .ok (.invokevirtual 152, 3) := by decide +kernel
theorem dM_act_160 : decode cM_act 160 = .ok (.ifCond .eq 5, 3) := by decide +kernel
theorem dM_act_163 : decode cM_act 163 = .ok (.iconst 0, 1) := by decide +kernel
theorem dM_act_164 : decode cM_act 164 = .ok (.ireturn, 1) := by decide +kernel
theorem dM_act_165 : decode cM_act 165 = .ok (.iload 5, 2) := by decide +kernel
theorem dM_act_167 : decode cM_act 167 = .ok (.ifCond .eq 12, 3) := by decide +kernel
theorem dM_act_170 : decode cM_act 170 = .ok (.aload_n 0, 1) := by decide +kernel
theorem dM_act_171 : decode cM_act 171 = .ok (.iload_n 2, 1) := by decide +kernel
theorem dM_act_172 : decode cM_act 172 = .ok (.iload_n 3, 1) := by decide +kernel
theorem dM_act_173 : decode cM_act 173 = .ok (.invokevirtual 183, 3) := by decide +kernel
theorem dM_act_176 : decode cM_act 176 = .ok (.goto 12, 3) := by decide +kernel
theorem dM_act_179 : decode cM_act 179 = .ok (.aload_n 0, 1) := by decide +kernel
theorem dM_act_180 : decode cM_act 180 = .ok (.iload_n 2, 1) := by decide +kernel
theorem dM_act_181 : decode cM_act 181 = .ok (.iload_n 1, 1) := by decide +kernel
theorem dM_act_182 : decode cM_act 182 = .ok (.iload_n 3, 1) := by decide +kernel
theorem dM_act_183 : decode cM_act 183 = .ok (.iload 4, 2) := by decide +kernel
theorem dM_act_185 : decode cM_act 185 = .ok (.invokevirtual 186, 3) := by decide +kernel
theorem dM_act_188 : decode cM_act 188 = .ok (.iload 5, 2) := by decide +kernel
theorem dM_act_190 : decode cM_act 190 = .ok (.ifCond .eq 12, 3) := by decide +kernel
theorem dM_act_193 : decode cM_act 193 = .ok (.aload_n 0, 1) := by decide +kernel
theorem dM_act_194 : decode cM_act 194 = .ok (.getfield 46, 3) := by decide +kernel
theorem dM_act_197 : decode cM_act 197 = .ok (.iload_n 2, 1) := by decide +kernel
theorem dM_act_198 : decode cM_act 198 = .ok (.iaload, 1) := by decide +kernel
theorem dM_act_199 : decode cM_act 199 = .ok (.goto 14, 3) := by decide +kernel
theorem dM_act_202 : decode cM_act 202 = .ok (.aload_n 0, 1) := by decide +kernel
theorem dM_act_203 : decode cM_act 203 = .ok (.getfield 62, 3) := by decide +kernel
theorem dM_act_206 : decode cM_act 206 = .ok (.bipush 6, 2) := by decide +kernel
theorem dM_act_208 : decode cM_act 208 = .ok (.iload_n 2, 1) := by decide +kernel
theorem dM_act_209 : decode cM_act 209 = .ok (.imul, 1) := by decide +kernel
theorem dM_act_210 : decode cM_act 210 = .ok (.iload_n 1, 1) := by decide +kernel
theorem dM_act_211 : decode cM_act 211 = .ok (.iadd, 1) := by decide +kernel
theorem dM_act_212 : decode cM_act 212 = .ok (.iaload, 1) := by decide +kernel
theorem dM_act_213 : decode cM_act 213 = .ok (.ireturn, 1) := by decide +kernel
theorem dM_pass_0 : decode cM_pass 0 = .ok (.aload_n 0, 1) := by decide +kernel
theorem dM_pass_1 : decode cM_pass 1 = .ok (.iconst 0, 1) := by decide +kernel
theorem dM_pass_2 : decode cM_pass 2 = .ok (.putfield 113, 3) := by decide +kernel
theorem dM_pass_5 : decode cM_pass 5 = .ok (.iload_n 1, 1) := by decide +kernel
theorem dM_pass_6 : decode cM_pass 6 = .ok (.iconst 1, 1) := by decide +kernel
theorem dM_pass_7 : decode cM_pass 7 = .ok (.if_icmp .lt 10, 3) := by decide +kernel
theorem dM_pass_10 : decode cM_pass 10 = .ok (.iload_n 1, 1) := by decide +kernel
theorem dM_pass_11 : decode cM_pass 11 = .ok (.sipush 1000, 3) := by decide +kernel
theorem dM_pass_14 : decode cM_pass 14 = .ok (.if_icmp .le 5, 3) := by decide +kernel
theorem dM_pass_17 : decode cM_pass 17 = .ok (.iconst 0, 1) := by decide +kernel
theorem dM_pass_18 : decode cM_pass 18 = .ok (.ireturn, 1) := by decide +kernel
theorem dM_pass_19 : decode cM_pass 19 = .ok (.aload_n 0, 1) := by decide +kernel
theorem dM_pass_20 : decode cM_pass 20 = .ok (.dup, 1) := by decide +kernel
theorem dM_pass_21 : decode cM_pass 21 = .ok (.getfield 166, 3) := by decide +kernel
theorem dM_pass_24 : decode cM_pass 24 = .ok (.iload_n 1, 1) := by decide +kernel
theorem dM_pass_25 : decode cM_pass 25 = .ok (.iadd, 1) := by decide +kernel
theorem dM_pass_26 : decode cM_pass 26 = .ok (.putfield 166, 3) := by decide +kernel
theorem dM_pass_29 : decode cM_pass 29 = .ok (.iconst 1, 1) := by decide +kernel
theorem dM_pass_30 : decode cM_pass 30 = .ok (.ireturn, 1) := by decide +kernel
theorem dM_resend_0 : decode cM_resend 0 = .ok (.aload_n 0, 1) := by decide +kernel
theorem dM_resend_1 : decode cM_resend 1 = .ok (.iload_n 2, 1) := by decide +kernel
theorem dM_resend_2 : decode cM_resend 2 = .ok (.invokevirtual 172, 3) := by decide +kernel
theorem dM_resend_5 : decode cM_resend 5 = .ok (.ifCond .eq 24, 3) := by decide +kernel
theorem dM_resend_8 : decode cM_resend 8 = .ok (.iload_n 1, 1) := by decide +kernel
theorem dM_resend_9 : decode cM_resend 9 = .ok (.invokestatic 142, 3) := by decide +kernel
theorem dM_resend_12 : decode cM_resend 12 = .ok (.ifCond .eq 17, 3) := by decide +kernel
theorem dM_resend_15 : decode cM_resend 15 = .ok (.iload_n 1, 1) := by decide +kernel
theorem dM_resend_16 : decode cM_resend 16 = .ok (.aload_n 0, 1) := by decide +kernel
theorem dM_resend_17 : decode cM_resend 17 = .ok (.getfield 25, 3) := by decide +kernel
theorem dM_resend_20 : decode cM_resend 20 = .ok (.iload_n 2, 1) := by decide +kernel
theorem dM_resend_21 : decode cM_resend 21 = .ok (.iaload, 1) := by decide +kernel
theorem dM_resend_22 : decode cM_resend 22 = .ok (.if_icmp .ne 7, 3) := by decide +kernel
theorem dM_resend_25 : decode cM_resend 25 = .ok (.iconst 1, 1) := by decide +kernel
theorem dM_resend_26 : decode cM_resend 26 = .ok (.goto 4, 3) := by decide +kernel
theorem dM_resend_29 : decode cM_resend 29 = .ok (.iconst 0, 1) := by decide +kernel
theorem dM_resend_30 : decode cM_resend 30 = .ok (.istore_n 3, 1) := by decide +kernel
theorem dM_resend_31 : decode cM_resend 31 = .ok (.aload_n 0, 1) := by decide +kernel
theorem dM_resend_32 : decode cM_resend 32 = .ok (.iload_n 3, 1) := by decide +kernel
theorem dM_resend_33 : decode cM_resend 33 = .ok (.ifCond .ne 36, 3) := by decide +kernel
theorem dM_resend_36 : decode cM_resend 36 = .ok (.aload_n 0, 1) := by decide +kernel
theorem dM_resend_37 : decode cM_resend 37 = .ok (.iload_n 2, 1) := by decide +kernel
theorem dM_resend_38 : decode cM_resend 38 = .ok (.invokevirtual 172, 3) := by decide +kernel
theorem dM_resend_41 : decode cM_resend 41 = .ok (.ifCond .eq 24, 3) := by decide +kernel
theorem dM_resend_44 : decode cM_resend 44 = .ok (.iload_n 1, 1) := by decide +kernel
theorem dM_resend_45 : decode cM_resend 45 = .ok (.invokestatic 142, 3) := by decide +kernel
theorem dM_resend_48 : decode cM_resend 48 = .ok (.ifCond .eq 17, 3) := by decide +kernel
theorem dM_resend_51 : decode cM_resend 51 = .ok (.aload_n 0, 1) := by decide +kernel
theorem dM_resend_52 : decode cM_resend 52 = .ok (.getfield 58, 3) := by decide +kernel
theorem dM_resend_55 : decode cM_resend 55 = .ok (.bipush 6, 2) := by decide +kernel
theorem dM_resend_57 : decode cM_resend 57 = .ok (.iload_n 2, 1) := by decide +kernel
theorem dM_resend_58 : decode cM_resend 58 = .ok (.imul, 1) := by decide +kernel
theorem dM_resend_59 : decode cM_resend 59 = .ok (.iload_n 1, 1) := by decide +kernel
theorem dM_resend_60 : decode cM_resend 60 = .ok (.iadd, 1) := by decide +kernel
theorem dM_resend_61 : decode cM_resend 61 = .ok (.baload, 1) := by decide +kernel
theorem dM_resend_62 : decode cM_resend 62 = .ok (.ifCond .ne 7, 3) := by decide +kernel
theorem dM_resend_65 : decode cM_resend 65 = .ok (.iconst 1, 1) := by decide +kernel
theorem dM_resend_66 : decode cM_resend 66 = .ok (.goto 4, 3) := by decide +kernel
theorem dM_resend_69 : decode cM_resend 69 = .ok (.iconst 0, 1) := by decide +kernel
theorem dM_resend_70 : decode cM_resend 70 = .ok (.iconst 0, 1) := by decide +kernel
theorem dM_resend_71 : decode cM_resend 71 = .ok (.invokevirtual 152, 3) := by decide +kernel
theorem dM_resend_74 : decode cM_resend 74 = .ok (.ifCond .eq 5, 3) := by decide +kernel
theorem dM_resend_77 : decode cM_resend 77 = .ok (.iconst 0, 1) := by decide +kernel
theorem dM_resend_78 : decode cM_resend 78 = .ok (.ireturn, 1) := by decide +kernel
theorem dM_resend_79 : decode cM_resend 79 = .ok (.iload_n 3, 1) := by decide +kernel
theorem dM_resend_80 : decode cM_resend 80 = .ok (.ifCond .eq 11, 3) := by decide +kernel
theorem dM_resend_83 : decode cM_resend 83 = .ok (.aload_n 0, 1) := by decide +kernel
theorem dM_resend_84 : decode cM_resend 84 = .ok (.iload_n 2, 1) := by decide +kernel
theorem dM_resend_85 : decode cM_resend 85 = .ok (.invokevirtual 134, 3) := by decide +kernel
theorem dM_resend_88 : decode cM_resend 88 = .ok (.goto 13, 3) := by decide +kernel
theorem dM_resend_91 : decode cM_resend 91 = .ok (.iconst 2, 1) := by decide +kernel
theorem dM_resend_92 : decode cM_resend 92 = .ok (.bipush 6, 2) := by decide +kernel
theorem dM_resend_94 : decode cM_resend 94 = .ok (.iload_n 2, 1) := by decide +kernel
theorem dM_resend_95 : decode cM_resend 95 = .ok (.imul, 1) := by decide +kernel
theorem dM_resend_96 : decode cM_resend 96 = .ok (.iload_n 1, 1) := by decide +kernel
theorem dM_resend_97 : decode cM_resend 97 = .ok (.iadd, 1) := by decide +kernel
theorem dM_resend_98 : decode cM_resend 98 = .ok (.imul, 1) := by decide +kernel
theorem dM_resend_99 : decode cM_resend 99 = .ok (.iconst 1, 1) := by decide +kernel
theorem dM_resend_100 : decode cM_resend 100 = .ok (.iadd, 1) := by decide +kernel
theorem dM_resend_101 : decode cM_resend 101 = .ok (.istore 4, 2) := by decide +kernel
theorem dM_resend_103 : decode cM_resend 103 = .ok (.aload_n 0, 1) := by decide +kernel
theorem dM_resend_104 : decode cM_resend 104 = .ok (.getfield 86, 3) := by decide +kernel
theorem dM_resend_107 : decode cM_resend 107 = .ok (.iload 4, 2) := by decide +kernel
theorem dM_resend_109 : decode cM_resend 109 = .ok (.iaload, 1) := by decide +kernel
theorem dM_resend_110 : decode cM_resend 110 = .ok (.iconst 1, 1) := by decide +kernel
theorem dM_resend_111 : decode cM_resend 111 = .ok (.iadd, 1) := by decide +kernel
theorem dM_resend_112 : decode cM_resend 112 = .ok (.istore 5, 2) := by decide +kernel
theorem dM_resend_114 : decode cM_resend 114 = .ok (.iload 5, 2) := by decide +kernel
theorem dM_resend_116 : decode cM_resend 116 = .ok (.aload_n 0, 1) := by decide +kernel
theorem dM_resend_117 : decode cM_resend 117 = .ok (.getfield 80, 3) := by decide +kernel
theorem dM_resend_120 : decode cM_resend 120 = .ok (.iload 4, 2) := by decide +kernel
theorem dM_resend_122 : decode cM_resend 122 = .ok (.iaload, 1) := by decide +kernel
theorem dM_resend_123 : decode cM_resend 123 = .ok (.if_icmp .gt 23, 3) := by decide +kernel
theorem dM_resend_126 : decode cM_resend 126 = .ok (.aload_n 0, 1) := by decide +kernel
theorem dM_resend_127 : decode cM_resend 127 = .ok (.aload_n 0, 1) := by decide +kernel
theorem dM_resend_128 : decode cM_resend 128 = .ok (.iload 4, 2) := by decide +kernel
theorem dM_resend_130 : decode cM_resend 130 = .ok (.iload 5, 2) := by decide +kernel
theorem dM_resend_132 : decode cM_resend 132 = .ok (.invokevirtual 190, 3) := by decide +kernel
theorem dM_resend_135 : decode cM_resend 135 = .ok (.iload 4, 2) := by decide +kernel
theorem dM_resend_137 : decode cM_resend 137 = .ok (.invokevirtual 130, 3) := by decide +kernel
theorem dM_resend_140 : decode cM_resend 140 = .ok (.iinc 5 1, 3) := by decide +kernel
theorem dM_resend_143 : decode cM_resend 143 = .ok (.goto (-29), 3) := by decide +kernel
theorem dM_resend_146 : decode cM_resend 146 = .ok (.aload_n 0, 1) := by decide +kernel
theorem dM_resend_147 : decode cM_resend 147 = .ok (.iconst (-1), 1) := by decide +kernel
theorem dM_resend_148 : decode cM_resend 148 = .ok (.iload 4, 2) := by decide +kernel
theorem dM_resend_150 : decode cM_resend 150 = .ok (.invokevirtual 130, 3) := by decide +kernel
theorem dM_resend_153 : decode cM_resend 153 = .ok (.aload_n 0, 1) := by decide +kernel
theorem dM_resend_154 : decode cM_resend 154 = .ok (.getfield 80, 3) := by decide +kernel
theorem dM_resend_157 : decode cM_resend 157 = .ok (.iload 4, 2) := by decide +kernel
theorem dM_resend_159 : decode cM_resend 159 = .ok (.iaload, 1) := by decide +kernel
theorem dM_resend_160 : decode cM_resend 160 = .ok (.aload_n 0, 1) := by decide +kernel
theorem dM_resend_161 : decode cM_resend 161 = .ok (.getfield 86, 3) := by decide +kernel
theorem dM_resend_164 : decode cM_resend 164 = .ok (.iload 4, 2) := by decide +kernel
theorem dM_resend_166 : decode cM_resend 166 = .ok (.iaload, 1) := by decide +kernel
theorem dM_resend_167 : decode cM_resend 167 = .ok (.isub, 1) := by decide +kernel
theorem dM_resend_168 : decode cM_resend 168 = .ok (.iconst 1, 1) := by decide +kernel
theorem dM_resend_169 : decode cM_resend 169 = .ok (.iadd, 1) := by decide +kernel
theorem dM_resend_170 : decode cM_resend 170 = .ok (.ireturn, 1) := by decide +kernel
theorem dM_takeSupplier_0 : decode cM_takeSupplier 0 = .ok (.aload_n 0, 1) := by decide +kernel
theorem dM_takeSupplier_1 : decode cM_takeSupplier 1 = .ok (.getfield 62, 3) := by decide +kernel
theorem dM_takeSupplier_4 : decode cM_takeSupplier 4 = .ok (.iload_n 2, 1) := by decide +kernel
theorem dM_takeSupplier_5 : decode cM_takeSupplier 5 = .ok (.iaload, 1) := by decide +kernel
theorem dM_takeSupplier_6 : decode cM_takeSupplier 6 = .ok (.istore 4, 2) := by decide +kernel
theorem dM_takeSupplier_8 : decode cM_takeSupplier 8 = .ok (.iload 4, 2) := by decide +kernel
theorem dM_takeSupplier_10 : decode cM_takeSupplier 10 = .ok (.iconst 5, 1) := by decide +kernel
theorem dM_takeSupplier_11 : decode cM_takeSupplier 11 = .ok (.if_icmp .eq 17, 3) := by decide +kernel
theorem dM_takeSupplier_14 : decode cM_takeSupplier 14 = .ok (.iload 4, 2) := by decide +kernel
theorem dM_takeSupplier_16 : decode cM_takeSupplier 16 = .ok (.bipush 6, 2) := by decide +kernel
theorem dM_takeSupplier_18 : decode cM_takeSupplier 18 = .ok (.if_icmp .eq 10, 3) := by decide +kernel
theorem dM_takeSupplier_21 : decode cM_takeSupplier 21 = .ok (.iload 4, 2) := by decide +kernel
theorem dM_takeSupplier_23 : decode cM_takeSupplier 23 = .ok (.bipush 7, 2) := by decide +kernel
theorem dM_takeSupplier_25 : decode cM_takeSupplier 25 = .ok (.if_icmp .ne 7, 3) := by decide +kernel
theorem dM_takeSupplier_28 : decode cM_takeSupplier 28 = .ok (.iconst 1, 1) := by decide +kernel
theorem dM_takeSupplier_29 : decode cM_takeSupplier 29 = .ok (.goto 4, 3) := by decide +kernel
theorem dM_takeSupplier_32 : decode cM_takeSupplier 32 = .ok (.iconst 0, 1) := by decide +kernel
theorem dM_takeSupplier_33 : decode cM_takeSupplier 33 = .ok (.istore 5, 2) := by decide +kernel
theorem dM_takeSupplier_35 : decode cM_takeSupplier 35 = .ok (.iload_n 3, 1) := by decide +kernel
theorem dM_takeSupplier_36 : decode cM_takeSupplier 36 = .ok (.iconst 1, 1) := by decide +kernel
theorem dM_takeSupplier_37 : decode cM_takeSupplier 37 = .ok (.if_icmp .ne 8, 3) := by decide +kernel
theorem dM_takeSupplier_40 : decode cM_takeSupplier 40 = .ok (.iload 4, 2) := by decide +kernel
theorem dM_takeSupplier_42 : decode cM_takeSupplier 42 = .ok (.ifCond .eq 14, 3) := by decide +kernel
theorem dM_takeSupplier_45 : decode cM_takeSupplier 45 = .ok (.iload_n 3, 1) := by decide +kernel
theorem dM_takeSupplier_46 : decode cM_takeSupplier 46 = .ok (.iconst 5, 1) := by decide +kernel
theorem dM_takeSupplier_47 : decode cM_takeSupplier 47 = .ok (.if_icmp .ne 16, 3) := by decide +kernel
theorem dM_takeSupplier_50 : decode cM_takeSupplier 50 = .ok (.iload 4, 2) := by decide +kernel
theorem dM_takeSupplier_52 : decode cM_takeSupplier 52 = .ok (.iconst 2, 1) := by decide +kernel
theorem dM_takeSupplier_53 : decode cM_takeSupplier 53 = .ok (.if_icmp .ne 10, 3) := by decide +kernel
theorem dM_takeSupplier_56 : decode cM_takeSupplier 56 = .ok (.aload_n 0, 1) := by decide +kernel
theorem dM_takeSupplier_57 : decode cM_takeSupplier 57 = .ok (.getfield 62, 3) := by decide +kernel
theorem dM_takeSupplier_60 : decode cM_takeSupplier 60 = .ok (.iload_n 2, 1) := by decide +kernel
theorem dM_takeSupplier_61 : decode cM_takeSupplier 61 = .ok (.iconst 1, 1) := by decide +kernel
theorem dM_takeSupplier_62 : decode cM_takeSupplier 62 = .ok (.iastore, 1) := by decide +kernel
theorem dM_takeSupplier_63 : decode cM_takeSupplier 63 = .ok (.iload_n 3, 1) := by decide +kernel
theorem dM_takeSupplier_64 : decode cM_takeSupplier 64 = .ok (.bipush 6, 2) := by decide +kernel
theorem dM_takeSupplier_66 : decode cM_takeSupplier 66 = .ok (.if_icmp .ne 17, 3) := by decide +kernel
theorem dM_takeSupplier_69 : decode cM_takeSupplier 69 = .ok (.iload 4, 2) := by decide +kernel
theorem dM_takeSupplier_71 : decode cM_takeSupplier 71 = .ok (.iconst 2, 1) := by decide +kernel
theorem dM_takeSupplier_72 : decode cM_takeSupplier 72 = .ok (.if_icmp .ne 11, 3) := by decide +kernel
theorem dM_takeSupplier_75 : decode cM_takeSupplier 75 = .ok (.aload_n 0, 1) := by decide +kernel
theorem dM_takeSupplier_76 : decode cM_takeSupplier 76 = .ok (.getfield 62, 3) := by decide +kernel
theorem dM_takeSupplier_79 : decode cM_takeSupplier 79 = .ok (.iload_n 2, 1) := by decide +kernel
theorem dM_takeSupplier_80 : decode cM_takeSupplier 80 = .ok (.bipush 10, 2) := by decide +kernel
theorem dM_takeSupplier_82 : decode cM_takeSupplier 82 = .ok (.iastore, 1) := by decide +kernel
theorem dM_takeSupplier_83 : decode cM_takeSupplier 83 = .ok (.iload_n 3, 1) := by decide +kernel
theorem dM_takeSupplier_84 : decode cM_takeSupplier 84 = .ok (.bipush 8, 2) := by decide +kernel
theorem dM_takeSupplier_86 : decode cM_takeSupplier 86 = .ok (.if_icmp .ne 16, 3) := by decide +kernel
theorem dM_takeSupplier_89 : decode cM_takeSupplier 89 = .ok (.iload 4, 2) := by decide +kernel
theorem dM_takeSupplier_91 : decode cM_takeSupplier 91 = .ok (.iconst 4, 1) := by decide +kernel
theorem dM_takeSupplier_92 : decode cM_takeSupplier 92 = .ok (.if_icmp .ne 10, 3) := by decide +kernel
theorem dM_takeSupplier_95 : decode cM_takeSupplier 95 = .ok (.aload_n 0, 1) := by decide +kernel
theorem dM_takeSupplier_96 : decode cM_takeSupplier 96 = .ok (.getfield 62, 3) := by decide +kernel
theorem dM_takeSupplier_99 : decode cM_takeSupplier 99 = .ok (.iload_n 2, 1) := by decide +kernel
theorem dM_takeSupplier_100 : decode cM_takeSupplier 100 = .ok (.iconst 5, 1) := by decide +kernel
theorem dM_takeSupplier_101 : decode cM_takeSupplier 101 = .ok (.iastore, 1) := by decide +kernel
theorem dM_takeSupplier_102 : decode cM_takeSupplier 102 = .ok (.iload_n 3, 1) := by decide +kernel
theorem dM_takeSupplier_103 : decode cM_takeSupplier 103 = .ok (.bipush 9, 2) := by decide +kernel
theorem dM_takeSupplier_105 : decode cM_takeSupplier 105 = .ok (.if_icmp .ne 17, 3) := by decide +kernel
theorem dM_takeSupplier_108 : decode cM_takeSupplier 108 = .ok (.iload 4, 2) := by decide +kernel
theorem dM_takeSupplier_110 : decode cM_takeSupplier 110 = .ok (.iconst 5, 1) := by decide +kernel
theorem dM_takeSupplier_111 : decode cM_takeSupplier 111 = .ok (.if_icmp .ne 11, 3) := by decide +kernel
theorem dM_takeSupplier_114 : decode cM_takeSupplier 114 = .ok (.aload_n 0, 1) := by decide +kernel
theorem dM_takeSupplier_115 : decode cM_takeSupplier 115 = .ok (.getfield 62, 3) := by decide +kernel
theorem dM_takeSupplier_118 : decode cM_takeSupplier 118 = .ok (.iload_n 2, 1) := by decide +kernel
theorem dM_takeSupplier_119 : decode cM_takeSupplier 119 = .ok (.bipush 6, 2) := by decide +kernel
theorem dM_takeSupplier_121 : decode cM_takeSupplier 121 = .ok (.iastore, 1) := by decide +kernel
theorem dM_takeSupplier_122 : decode cM_takeSupplier 122 = .ok (.iload_n 3, 1) := by decide +kernel
theorem dM_takeSupplier_123 : decode cM_takeSupplier 123 = .ok (.bipush 12, 2) := by decide +kernel
theorem dM_takeSupplier_125 : decode cM_takeSupplier 125 = .ok (.if_icmp .ne 16, 3) := by decide +kernel
theorem dM_takeSupplier_128 : decode cM_takeSupplier 128 = .ok (.iload 5, 2) := by decide +kernel
theorem dM_takeSupplier_130 : decode cM_takeSupplier 130 = .ok (.ifCond .eq 11, 3) := by decide +kernel
theorem dM_takeSupplier_133 : decode cM_takeSupplier 133 = .ok (.aload_n 0, 1) := by decide +kernel
theorem dM_takeSupplier_134 : decode cM_takeSupplier 134 = .ok (.getfield 62, 3) := by decide +kernel
theorem dM_takeSupplier_137 : decode cM_takeSupplier 137 = .ok (.iload_n 2, 1) := by decide +kernel
theorem dM_takeSupplier_138 : decode cM_takeSupplier 138 = .ok (.bipush 8, 2) := by decide +kernel
theorem dM_takeSupplier_140 : decode cM_takeSupplier 140 = .ok (.iastore, 1) := by decide +kernel
theorem dM_takeSupplier_141 : decode cM_takeSupplier 141 = .ok (.iload_n 3, 1) := by decide +kernel
theorem dM_takeSupplier_142 : decode cM_takeSupplier 142 = .ok (.bipush 14, 2) := by decide +kernel
theorem dM_takeSupplier_144 : decode cM_takeSupplier 144 = .ok (.if_icmp .ne 38, 3) := by decide +kernel
theorem dM_takeSupplier_147 : decode cM_takeSupplier 147 = .ok (.iload 5, 2) := by decide +kernel
theorem dM_takeSupplier_149 : decode cM_takeSupplier 149 = .ok (.ifCond .eq 33, 3) := by decide +kernel
theorem dM_takeSupplier_152 : decode cM_takeSupplier 152 = .ok (.aload_n 0, 1) := by decide +kernel
theorem dM_takeSupplier_153 : decode cM_takeSupplier 153 = .ok (.getfield 62, 3) := by decide +kernel
theorem dM_takeSupplier_156 : decode cM_takeSupplier 156 = .ok (.iload_n 2, 1) := by decide +kernel
theorem dM_takeSupplier_157 : decode cM_takeSupplier 157 = .ok (.bipush 12, 2) := by decide +kernel
theorem dM_takeSupplier_159 : decode cM_takeSupplier 159 = .ok (.iastore, 1) := by decide +kernel
theorem dM_takeSupplier_160 : decode cM_takeSupplier 160 = .ok (.aload_n 0, 1) := by decide +kernel
theorem dM_takeSupplier_161 : decode cM_takeSupplier 161 = .ok (.getfield 7, 3) := by decide +kernel
theorem dM_takeSupplier_164 : decode cM_takeSupplier 164 = .ok (.iload_n 2, 1) := by decide +kernel
theorem dM_takeSupplier_165 : decode cM_takeSupplier 165 = .ok (.bipush 6, 2) := by decide +kernel
theorem dM_takeSupplier_167 : decode cM_takeSupplier 167 = .ok (.iload_n 1, 1) := by decide +kernel
theorem dM_takeSupplier_168 : decode cM_takeSupplier 168 = .ok (.imul, 1) := by decide +kernel
theorem dM_takeSupplier_169 : decode cM_takeSupplier 169 = .ok (.isub, 1) := by decide +kernel
theorem dM_takeSupplier_170 : decode cM_takeSupplier 170 = .ok (.dup2, 1) := by decide +kernel
theorem dM_takeSupplier_171 : decode cM_takeSupplier 171 = .ok (.iaload, 1) := by decide +kernel
theorem dM_takeSupplier_172 : decode cM_takeSupplier 172 = .ok (.sipush 4000, 3) := by decide +kernel
theorem dM_takeSupplier_175 : decode cM_takeSupplier 175 = .ok (.iadd, 1) := by decide +kernel
theorem dM_takeSupplier_176 : decode cM_takeSupplier 176 = .ok (.iastore, 1) := by decide +kernel
theorem dM_takeSupplier_177 : decode cM_takeSupplier 177 = .ok (.aload_n 0, 1) := by decide +kernel
theorem dM_takeSupplier_178 : decode cM_takeSupplier 178 = .ok (.iload_n 2, 1) := by decide +kernel
theorem dM_takeSupplier_179 : decode cM_takeSupplier 179 = .ok (.invokevirtual 169, 3) := by decide +kernel
theorem dM_takeSupplier_182 : decode cM_takeSupplier 182 = .ok (.iload_n 3, 1) := by decide +kernel
theorem dM_takeSupplier_183 : decode cM_takeSupplier 183 = .ok (.bipush 15, 2) := by decide +kernel
theorem dM_takeSupplier_185 : decode cM_takeSupplier 185 = .ok (.if_icmp .ne 39, 3) := by decide +kernel
theorem dM_takeSupplier_188 : decode cM_takeSupplier 188 = .ok (.iload 4, 2) := by decide +kernel
theorem dM_takeSupplier_190 : decode cM_takeSupplier 190 = .ok (.ifCond .le 34, 3) := by decide +kernel
theorem dM_takeSupplier_193 : decode cM_takeSupplier 193 = .ok (.iload 4, 2) := by decide +kernel
theorem dM_takeSupplier_195 : decode cM_takeSupplier 195 = .ok (.iconst 4, 1) := by decide +kernel
theorem dM_takeSupplier_196 : decode cM_takeSupplier 196 = .ok (.if_icmp .ge 28, 3) := by decide +kernel
theorem dM_takeSupplier_199 : decode cM_takeSupplier 199 = .ok (.aload_n 0, 1) := by decide +kernel
theorem dM_takeSupplier_200 : decode cM_takeSupplier 200 = .ok (.iload_n 2, 1) := by decide +kernel
theorem dM_takeSupplier_201 : decode cM_takeSupplier 201 = .ok (.invokevirtual 169, 3) := by decide +kernel
theorem dM_takeSupplier_204 : decode cM_takeSupplier 204 = .ok (.aload_n 0, 1) := by decide +kernel
theorem dM_takeSupplier_205 : decode cM_takeSupplier 205 = .ok (.getfield 62, 3) := by decide +kernel
theorem dM_takeSupplier_208 : decode cM_takeSupplier 208 = .ok (.iload_n 2, 1) := by decide +kernel
theorem dM_takeSupplier_209 : decode cM_takeSupplier 209 = .ok (.bipush 11, 2) := by decide +kernel
theorem dM_takeSupplier_211 : decode cM_takeSupplier 211 = .ok (.iastore, 1) := by decide +kernel
theorem dM_takeSupplier_212 : decode cM_takeSupplier 212 = .ok (.aload_n 0, 1) := by decide +kernel
theorem dM_takeSupplier_213 : decode cM_takeSupplier 213 = .ok (.iconst 2, 1) := by decide +kernel
theorem dM_takeSupplier_214 : decode cM_takeSupplier 214 = .ok (.iload_n 2, 1) := by decide +kernel
theorem dM_takeSupplier_215 : decode cM_takeSupplier 215 = .ok (.imul, 1) := by decide +kernel
theorem dM_takeSupplier_216 : decode cM_takeSupplier 216 = .ok (.iconst 1, 1) := by decide +kernel
theorem dM_takeSupplier_217 : decode cM_takeSupplier 217 = .ok (.iadd, 1) := by decide +kernel
theorem dM_takeSupplier_218 : decode cM_takeSupplier 218 = .ok (.bipush 16, 2) := by decide +kernel
theorem dM_takeSupplier_220 : decode cM_takeSupplier 220 = .ok (.iconst 0, 1) := by decide +kernel
theorem dM_takeSupplier_221 : decode cM_takeSupplier 221 = .ok (.invokevirtual 138, 3) := by decide +kernel
theorem dM_takeSupplier_224 : decode cM_takeSupplier 224 = .ok (.return_, 1) := by decide +kernel
theorem dM_takeRequester_0 : decode cM_takeRequester 0 = .ok (.aload_n 0, 1) := by decide +kernel
theorem dM_takeRequester_1 : decode cM_takeRequester 1 = .ok (.getfield 46, 3) := by decide +kernel
theorem dM_takeRequester_4 : decode cM_takeRequester 4 = .ok (.iload_n 1, 1) := by decide +kernel
theorem dM_takeRequester_5 : decode cM_takeRequester 5 = .ok (.iaload, 1) := by decide +kernel
theorem dM_takeRequester_6 : decode cM_takeRequester 6 = .ok (.istore 4, 2) := by decide +kernel
theorem dM_takeRequester_8 : decode cM_takeRequester 8 = .ok (.iload_n 2, 1) := by decide +kernel
theorem dM_takeRequester_9 : decode cM_takeRequester 9 = .ok (.bipush 7, 2) := by decide +kernel
theorem dM_takeRequester_11 : decode cM_takeRequester 11 = .ok (.if_icmp .ne 16, 3) := by decide +kernel
theorem dM_takeRequester_14 : decode cM_takeRequester 14 = .ok (.iload 4, 2) := by decide +kernel
theorem dM_takeRequester_16 : decode cM_takeRequester 16 = .ok (.iconst 2, 1) := by decide +kernel
theorem dM_takeRequester_17 : decode cM_takeRequester 17 = .ok (.if_icmp .eq 40, 3) := by decide +kernel
theorem dM_takeRequester_20 : decode cM_takeRequester 20 = .ok (.iload 4, 2) := by decide +kernel
theorem dM_takeRequester_22 : decode cM_takeRequester 22 = .ok (.bipush 10, 2) := by decide +kernel
theorem dM_takeRequester_24 : decode cM_takeRequester 24 = .ok (.if_icmp .eq 33, 3) := by decide +kernel
theorem dM_takeRequester_27 : decode cM_takeRequester 27 = .ok (.iload_n 2, 1) := by decide +kernel
theorem dM_takeRequester_28 : decode cM_takeRequester 28 = .ok (.bipush 10, 2) := by decide +kernel
theorem dM_takeRequester_30 : decode cM_takeRequester 30 = .ok (.if_icmp .ne 9, 3) := by decide +kernel
theorem dM_takeRequester_33 : decode cM_takeRequester 33 = .ok (.iload 4, 2) := by decide +kernel
theorem dM_takeRequester_35 : decode cM_takeRequester 35 = .ok (.iconst 5, 1) := by decide +kernel
theorem dM_takeRequester_36 : decode cM_takeRequester 36 = .ok (.if_icmp .eq 21, 3) := by decide +kernel
theorem dM_takeRequester_39 : decode cM_takeRequester 39 = .ok (.iload_n 2, 1) := by decide +kernel
theorem dM_takeRequester_40 : decode cM_takeRequester 40 = .ok (.bipush 11, 2) := by decide +kernel
theorem dM_takeRequester_42 : decode cM_takeRequester 42 = .ok (.if_icmp .ne 19, 3) := by decide +kernel
theorem dM_takeRequester_45 : decode cM_takeRequester 45 = .ok (.iload 4, 2) := by decide +kernel
theorem dM_takeRequester_47 : decode cM_takeRequester 47 = .ok (.iconst 4, 1) := by decide +kernel
theorem dM_takeRequester_48 : decode cM_takeRequester 48 = .ok (.if_icmp .eq 9, 3) := by decide +kernel
theorem dM_takeRequester_51 : decode cM_takeRequester 51 = .ok (.iload 4, 2) := by decide +kernel
theorem dM_takeRequester_53 : decode cM_takeRequester 53 = .ok (.iconst 5, 1) := by decide +kernel
theorem dM_takeRequester_54 : decode cM_takeRequester 54 = .ok (.if_icmp .ne 7, 3) := by decide +kernel
