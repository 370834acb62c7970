theorem dM_askNext_57 : decode cM_askNext 57 = .ok (.iastore, 1) := by decide +kernel
theorem dM_askNext_58 : decode cM_askNext 58 = .ok (.aload_n 0, 1) := by decide +kernel
theorem dM_askNext_59 : decode cM_askNext 59 = .ok (.getfield 34, 3) := by decide +kernel
theorem dM_askNext_62 : decode cM_askNext 62 = .ok (.iload_n 1, 1) := by decide +kernel
theorem dM_askNext_63 : decode cM_askNext 63 = .ok (.iaload, 1) := by decide +kernel
theorem dM_askNext_64 : decode cM_askNext 64 = .ok (.aload_n 0, 1) := by decide +kernel
theorem dM_askNext_65 : decode cM_askNext 65 = .ok (.getfield 37, 3) := by decide +kernel
theorem dM_askNext_68 : decode cM_askNext 68 = .ok (.iload_n 1, 1) := by decide +kernel
theorem dM_askNext_69 : decode cM_askNext 69 = .ok (.iaload, 1) := by decide +kernel
theorem dM_askNext_70 : decode cM_askNext 70 = .ok (.iadd, 1) := by decide +kernel
theorem dM_askNext_71 : decode cM_askNext 71 = .ok (.bipush 6, 2) := by decide +kernel
theorem dM_askNext_73 : decode cM_askNext 73 = .ok (.irem, 1) := by decide +kernel
theorem dM_askNext_74 : decode cM_askNext 74 = .ok (.istore_n 2, 1) := by decide +kernel
theorem dM_askNext_75 : decode cM_askNext 75 = .ok (.aload_n 0, 1) := by decide +kernel
theorem dM_askNext_76 : decode cM_askNext 76 = .ok (.getfield 46, 3) := by decide +kernel
theorem dM_askNext_79 : decode cM_askNext 79 = .ok (.iload_n 1, 1) := by decide +kernel
theorem dM_askNext_80 : decode cM_askNext 80 = .ok (.bipush 9, 2) := by decide +kernel
theorem dM_askNext_82 : decode cM_askNext 82 = .ok (.iastore, 1) := by decide +kernel
theorem dM_askNext_83 : decode cM_askNext 83 = .ok (.aload_n 0, 1) := by decide +kernel
theorem dM_askNext_84 : decode cM_askNext 84 = .ok (.getfield 37, 3) := by decide +kernel
theorem dM_askNext_87 : decode cM_askNext 87 = .ok (.iload_n 1, 1) := by decide +kernel
theorem dM_askNext_88 : decode cM_askNext 88 = .ok (.iaload, 1) := by decide +kernel
theorem dM_askNext_89 : decode cM_askNext 89 = .ok (.bipush 6, 2) := by decide +kernel
theorem dM_askNext_91 : decode cM_askNext 91 = .ok (.if_icmp .lt 4, 3) := by decide +kernel
theorem dM_askNext_94 : decode cM_askNext 94 = .ok (.return_, 1) := by decide +kernel
theorem dM_askNext_95 : decode cM_askNext 95 = .ok (.aload_n 0, 1) := by decide +kernel
theorem dM_askNext_96 : decode cM_askNext 96 = .ok (.getfield 37, 3) := by decide +kernel
theorem dM_askNext_99 : decode cM_askNext 99 = .ok (.iload_n 1, 1) := by decide +kernel
theorem dM_askNext_100 : decode cM_askNext 100 = .ok (.dup2, 1) := by decide +kernel
theorem dM_askNext_101 : decode cM_askNext 101 = .ok (.iaload, 1) := by decide +kernel
theorem dM_askNext_102 : decode cM_askNext 102 = .ok (.iconst 1, 1) := by decide +kernel
theorem dM_askNext_103 : decode cM_askNext 103 = .ok (.iadd, 1) := by decide +kernel
theorem dM_askNext_104 : decode cM_askNext 104 = .ok (.iastore, 1) := by decide +kernel
theorem dM_askNext_105 : decode cM_askNext 105 = .ok (.aload_n 0, 1) := by decide +kernel
theorem dM_askNext_106 : decode cM_askNext 106 = .ok (.getfield 40, 3) := by decide +kernel
theorem dM_askNext_109 : decode cM_askNext 109 = .ok (.iload_n 1, 1) := by decide +kernel
theorem dM_askNext_110 : decode cM_askNext 110 = .ok (.iload_n 2, 1) := by decide +kernel
theorem dM_askNext_111 : decode cM_askNext 111 = .ok (.iastore, 1) := by decide +kernel
theorem dM_askNext_112 : decode cM_askNext 112 = .ok (.aload_n 0, 1) := by decide +kernel
theorem dM_askNext_113 : decode cM_askNext 113 = .ok (.getfield 58, 3) := by decide +kernel
theorem dM_askNext_116 : decode cM_askNext 116 = .ok (.bipush 6, 2) := by decide +kernel
theorem dM_askNext_118 : decode cM_askNext 118 = .ok (.iload_n 1, 1) := by decide +kernel
theorem dM_askNext_119 : decode cM_askNext 119 = .ok (.imul, 1) := by decide +kernel
theorem dM_askNext_120 : decode cM_askNext 120 = .ok (.iload_n 2, 1) := by decide +kernel
theorem dM_askNext_121 : decode cM_askNext 121 = .ok (.iadd, 1) := by decide +kernel
theorem dM_askNext_122 : decode cM_askNext 122 = .ok (.iconst 1, 1) := by decide +kernel
theorem dM_askNext_123 : decode cM_askNext 123 = .ok (.bastore, 1) := by decide +kernel
theorem dM_askNext_124 : decode cM_askNext 124 = .ok (.aload_n 0, 1) := by decide +kernel
theorem dM_askNext_125 : decode cM_askNext 125 = .ok (.getfield 77, 3) := by decide +kernel
theorem dM_askNext_128 : decode cM_askNext 128 = .ok (.bipush 6, 2) := by decide +kernel
theorem dM_askNext_130 : decode cM_askNext 130 = .ok (.iload_n 1, 1) := by decide +kernel
theorem dM_askNext_131 : decode cM_askNext 131 = .ok (.imul, 1) := by decide +kernel
theorem dM_askNext_132 : decode cM_askNext 132 = .ok (.iload_n 2, 1) := by decide +kernel
theorem dM_askNext_133 : decode cM_askNext 133 = .ok (.iadd, 1) := by decide +kernel
theorem dM_askNext_134 : decode cM_askNext 134 = .ok (.iconst (-1), 1) := by decide +kernel
theorem dM_askNext_135 : decode cM_askNext 135 = .ok (.iastore, 1) := by decide +kernel
theorem dM_askNext_136 : decode cM_askNext 136 = .ok (.aload_n 0, 1) := by decide +kernel
theorem dM_askNext_137 : decode cM_askNext 137 = .ok (.getfield 46, 3) := by decide +kernel
theorem dM_askNext_140 : decode cM_askNext 140 = .ok (.iload_n 1, 1) := by decide +kernel
theorem dM_askNext_141 : decode cM_askNext 141 = .ok (.iconst 0, 1) := by decide +kernel
theorem dM_askNext_142 : decode cM_askNext 142 = .ok (.iastore, 1) := by decide +kernel
theorem dM_askNext_143 : decode cM_askNext 143 = .ok (.aload_n 0, 1) := by decide +kernel
theorem dM_askNext_144 : decode cM_askNext 144 = .ok (.aload_n 0, 1) := by decide +kernel
theorem dM_askNext_145 : decode cM_askNext 145 = .ok (.iload_n 1, 1) := by decide +kernel
theorem dM_askNext_146 : decode cM_askNext 146 = .ok (.invokevirtual 134, 3) := by decide +kernel
theorem dM_askNext_149 : decode cM_askNext 149 = .ok (.iconst 1, 1) := by decide +kernel
theorem dM_askNext_150 : decode cM_askNext 150 = .ok (.aload_n 0, 1) := by decide +kernel
theorem dM_askNext_151 : decode cM_askNext 151 = .ok (.getfield 31, 3) := by decide +kernel
theorem dM_askNext_154 : decode cM_askNext 154 = .ok (.iload_n 1, 1) := by decide +kernel
theorem dM_askNext_155 : decode cM_askNext 155 = .ok (.iaload, 1) := by decide +kernel
theorem dM_askNext_156 : decode cM_askNext 156 = .ok (.invokevirtual 138, 3) := by decide +kernel
theorem dM_askNext_159 : decode cM_askNext 159 = .ok (.return_, 1) := by decide +kernel
theorem dM_addCopy_0 : decode cM_addCopy 0 = .ok (.aload_n 0, 1) := by decide +kernel
theorem dM_addCopy_1 : decode cM_addCopy 1 = .ok (.iload_n 1, 1) := by decide +kernel
theorem dM_addCopy_2 : decode cM_addCopy 2 = .ok (.invokestatic 142, 3) := by decide +kernel
theorem dM_addCopy_5 : decode cM_addCopy 5 = .ok (.ifCond .eq 10, 3) := by decide +kernel
theorem dM_addCopy_8 : decode cM_addCopy 8 = .ok (.iload_n 2, 1) := by decide +kernel
theorem dM_addCopy_9 : decode cM_addCopy 9 = .ok (.invokestatic 146, 3) := by decide +kernel
theorem dM_addCopy_12 : decode cM_addCopy 12 = .ok (.ifCond .ne 7, 3) := by decide +kernel
theorem dM_addCopy_15 : decode cM_addCopy 15 = .ok (.iconst 1, 1) := by decide +kernel
theorem dM_addCopy_16 : decode cM_addCopy 16 = .ok (.goto 4, 3) := by decide +kernel
theorem dM_addCopy_19 : decode cM_addCopy 19 = .ok (.iconst 0, 1) := by decide +kernel
theorem dM_addCopy_20 : decode cM_addCopy 20 = .ok (.aload_n 0, 1) := by decide +kernel
theorem dM_addCopy_21 : decode cM_addCopy 21 = .ok (.getfield 149, 3) := by decide +kernel
theorem dM_addCopy_24 : decode cM_addCopy 24 = .ok (.bipush 32, 2) := by decide +kernel
theorem dM_addCopy_26 : decode cM_addCopy 26 = .ok (.if_icmp .ne 7, 3) := by decide +kernel
theorem dM_addCopy_29 : decode cM_addCopy 29 = .ok (.iconst 1, 1) := by decide +kernel
theorem dM_addCopy_30 : decode cM_addCopy 30 = .ok (.goto 4, 3) := by decide +kernel
theorem dM_addCopy_33 : decode cM_addCopy 33 = .ok (.iconst 0, 1) := by decide +kernel
theorem dM_addCopy_34 : decode cM_addCopy 34 = .ok (.invokevirtual 152, 3) := by decide +kernel
theorem dM_addCopy_37 : decode cM_addCopy 37 = .ok (.ifCond .eq 5, 3) := by decide +kernel
theorem dM_addCopy_40 : decode cM_addCopy 40 = .ok (.iconst 0, 1) := by decide +kernel
theorem dM_addCopy_41 : decode cM_addCopy 41 = .ok (.ireturn, 1) := by decide +kernel
theorem dM_addCopy_42 : decode cM_addCopy 42 = .ok (.aload_n 0, 1) := by decide +kernel
theorem dM_addCopy_43 : decode cM_addCopy 43 = .ok (.getfield 13, 3) := by decide +kernel
theorem dM_addCopy_46 : decode cM_addCopy 46 = .ok (.aload_n 0, 1) := by decide +kernel
theorem dM_addCopy_47 : decode cM_addCopy 47 = .ok (.getfield 149, 3) := by decide +kernel
theorem dM_addCopy_50 : decode cM_addCopy 50 = .ok (.iload_n 2, 1) := by decide +kernel
theorem dM_addCopy_51 : decode cM_addCopy 51 = .ok (.iastore, 1) := by decide +kernel
theorem dM_addCopy_52 : decode cM_addCopy 52 = .ok (.aload_n 0, 1) := by decide +kernel
theorem dM_addCopy_53 : decode cM_addCopy 53 = .ok (.getfield 16, 3) := by decide +kernel
theorem dM_addCopy_56 : decode cM_addCopy 56 = .ok (.aload_n 0, 1) := by decide +kernel
theorem dM_addCopy_57 : decode cM_addCopy 57 = .ok (.getfield 149, 3) := by decide +kernel
theorem dM_addCopy_60 : decode cM_addCopy 60 = .ok (.iload_n 1, 1) := by decide +kernel
theorem dM_addCopy_61 : decode cM_addCopy 61 = .ok (.iastore, 1) := by decide +kernel
theorem dM_addCopy_62 : decode cM_addCopy 62 = .ok (.aload_n 0, 1) := by decide +kernel
theorem dM_addCopy_63 : decode cM_addCopy 63 = .ok (.getfield 19, 3) := by decide +kernel
theorem dM_addCopy_66 : decode cM_addCopy 66 = .ok (.aload_n 0, 1) := by decide +kernel
theorem dM_addCopy_67 : decode cM_addCopy 67 = .ok (.getfield 149, 3) := by decide +kernel
theorem dM_addCopy_70 : decode cM_addCopy 70 = .ok (.iload_n 1, 1) := by decide +kernel
theorem dM_addCopy_71 : decode cM_addCopy 71 = .ok (.iastore, 1) := by decide +kernel
theorem dM_addCopy_72 : decode cM_addCopy 72 = .ok (.aload_n 0, 1) := by decide +kernel
theorem dM_addCopy_73 : decode cM_addCopy 73 = .ok (.getfield 22, 3) := by decide +kernel
theorem dM_addCopy_76 : decode cM_addCopy 76 = .ok (.aload_n 0, 1) := by decide +kernel
theorem dM_addCopy_77 : decode cM_addCopy 77 = .ok (.getfield 149, 3) := by decide +kernel
theorem dM_addCopy_80 : decode cM_addCopy 80 = .ok (.iconst (-1), 1) := by decide +kernel
theorem dM_addCopy_81 : decode cM_addCopy 81 = .ok (.iastore, 1) := by decide +kernel
theorem dM_addCopy_82 : decode cM_addCopy 82 = .ok (.aload_n 0, 1) := by decide +kernel
theorem dM_addCopy_83 : decode cM_addCopy 83 = .ok (.dup, 1) := by decide +kernel
theorem dM_addCopy_84 : decode cM_addCopy 84 = .ok (.getfield 149, 3) := by decide +kernel
theorem dM_addCopy_87 : decode cM_addCopy 87 = .ok (.iconst 1, 1) := by decide +kernel
theorem dM_addCopy_88 : decode cM_addCopy 88 = .ok (.iadd, 1) := by decide +kernel
theorem dM_addCopy_89 : decode cM_addCopy 89 = .ok (.putfield 149, 3) := by decide +kernel
theorem dM_addCopy_92 : decode cM_addCopy 92 = .ok (.aload_n 0, 1) := by decide +kernel
theorem dM_addCopy_93 : decode cM_addCopy 93 = .ok (.getfield 149, 3) := by decide +kernel
theorem dM_addCopy_96 : decode cM_addCopy 96 = .ok (.iconst 1, 1) := by decide +kernel
theorem dM_addCopy_97 : decode cM_addCopy 97 = .ok (.isub, 1) := by decide +kernel
theorem dM_addCopy_98 : decode cM_addCopy 98 = .ok (.ireturn, 1) := by decide +kernel
theorem dM_request_0 : decode cM_request 0 = .ok (.aload_n 0, 1) := by decide +kernel
theorem dM_request_1 : decode cM_request 1 = .ok (.iload_n 1, 1) := by decide +kernel
theorem dM_request_2 : decode cM_request 2 = .ok (.invokestatic 142, 3) := by decide +kernel
theorem dM_request_5 : decode cM_request 5 = .ok (.ifCond .eq 30, 3) := by decide +kernel
theorem dM_request_8 : decode cM_request 8 = .ok (.iload_n 2, 1) := by decide +kernel
theorem dM_request_9 : decode cM_request 9 = .ok (.invokestatic 146, 3) := by decide +kernel
theorem dM_request_12 : decode cM_request 12 = .ok (.ifCond .eq 23, 3) := by decide +kernel
theorem dM_request_15 : decode cM_request 15 = .ok (.iload_n 3, 1) := by decide +kernel
theorem dM_request_16 : decode cM_request 16 = .ok (.invokestatic 142, 3) := by decide +kernel
theorem dM_request_19 : decode cM_request 19 = .ok (.ifCond .eq 16, 3) := by decide +kernel
theorem dM_request_22 : decode cM_request 22 = .ok (.iload 4, 2) := by decide +kernel
theorem dM_request_24 : decode cM_request 24 = .ok (.iconst 1, 1) := by decide +kernel
theorem dM_request_25 : decode cM_request 25 = .ok (.if_icmp .lt 10, 3) := by decide +kernel
theorem dM_request_28 : decode cM_request 28 = .ok (.iload 4, 2) := by decide +kernel
theorem dM_request_30 : decode cM_request 30 = .ok (.bipush 99, 2) := by decide +kernel
theorem dM_request_32 : decode cM_request 32 = .ok (.if_icmp .le 7, 3) := by decide +kernel
theorem dM_request_35 : decode cM_request 35 = .ok (.iconst 1, 1) := by decide +kernel
theorem dM_request_36 : decode cM_request 36 = .ok (.goto 4, 3) := by decide +kernel
theorem dM_request_39 : decode cM_request 39 = .ok (.iconst 0, 1) := by decide +kernel
theorem dM_request_40 : decode cM_request 40 = .ok (.aload_n 0, 1) := by decide +kernel
theorem dM_request_41 : decode cM_request 41 = .ok (.getfield 117, 3) := by decide +kernel
theorem dM_request_44 : decode cM_request 44 = .ok (.bipush 32, 2) := by decide +kernel
theorem dM_request_46 : decode cM_request 46 = .ok (.if_icmp .ne 7, 3) := by decide +kernel
theorem dM_request_49 : decode cM_request 49 = .ok (.iconst 1, 1) := by decide +kernel
theorem dM_request_50 : decode cM_request 50 = .ok (.goto 4, 3) := by decide +kernel
theorem dM_request_53 : decode cM_request 53 = .ok (.iconst 0, 1) := by decide +kernel
theorem dM_request_54 : decode cM_request 54 = .ok (.invokevirtual 152, 3) := by decide +kernel
theorem dM_request_57 : decode cM_request 57 = .ok (.ifCond .eq 5, 3) := by decide +kernel
theorem dM_request_60 : decode cM_request 60 = .ok (.iconst 0, 1) := by decide +kernel
theorem dM_request_61 : decode cM_request 61 = .ok (.ireturn, 1) := by decide +kernel
theorem dM_request_62 : decode cM_request 62 = .ok (.aload_n 0, 1) := by decide +kernel
theorem dM_request_63 : decode cM_request 63 = .ok (.getfield 25, 3) := by decide +kernel
theorem dM_request_66 : decode cM_request 66 = .ok (.aload_n 0, 1) := by decide +kernel
theorem dM_request_67 : decode cM_request 67 = .ok (.getfield 117, 3) := by decide +kernel
theorem dM_request_70 : decode cM_request 70 = .ok (.iload_n 1, 1) := by decide +kernel
theorem dM_request_71 : decode cM_request 71 = .ok (.iastore, 1) := by decide +kernel
theorem dM_request_72 : decode cM_request 72 = .ok (.aload_n 0, 1) := by decide +kernel
theorem dM_request_73 : decode cM_request 73 = .ok (.getfield 28, 3) := by decide +kernel
theorem dM_request_76 : decode cM_request 76 = .ok (.aload_n 0, 1) := by decide +kernel
theorem dM_request_77 : decode cM_request 77 = .ok (.getfield 117, 3) := by decide +kernel
theorem dM_request_80 : decode cM_request 80 = .ok (.iload_n 2, 1) := by decide +kernel
theorem dM_request_81 : decode cM_request 81 = .ok (.iastore, 1) := by decide +kernel
theorem dM_request_82 : decode cM_request 82 = .ok (.aload_n 0, 1) := by decide +kernel
theorem dM_request_83 : decode cM_request 83 = .ok (.getfield 34, 3) := by decide +kernel
theorem dM_request_86 : decode cM_request 86 = .ok (.aload_n 0, 1) := by decide +kernel
theorem dM_request_87 : decode cM_request 87 = .ok (.getfield 117, 3) := by decide +kernel
theorem dM_request_90 : decode cM_request 90 = .ok (.iload_n 3, 1) := by decide +kernel
theorem dM_request_91 : decode cM_request 91 = .ok (.iastore, 1) := by decide +kernel
theorem dM_request_92 : decode cM_request 92 = .ok (.aload_n 0, 1) := by decide +kernel
theorem dM_request_93 : decode cM_request 93 = .ok (.getfield 31, 3) := by decide +kernel
theorem dM_request_96 : decode cM_request 96 = .ok (.aload_n 0, 1) := by decide +kernel
theorem dM_request_97 : decode cM_request 97 = .ok (.getfield 117, 3) := by decide +kernel
theorem dM_request_100 : decode cM_request 100 = .ok (.iload 4, 2) := by decide +kernel
theorem dM_request_102 : decode cM_request 102 = .ok (.iastore, 1) := by decide +kernel
theorem dM_request_103 : decode cM_request 103 = .ok (.aload_n 0, 1) := by decide +kernel
theorem dM_request_104 : decode cM_request 104 = .ok (.getfield 43, 3) := by decide +kernel
theorem dM_request_107 : decode cM_request 107 = .ok (.aload_n 0, 1) := by decide +kernel
theorem dM_request_108 : decode cM_request 108 = .ok (.getfield 117, 3) := by decide +kernel
theorem dM_request_111 : decode cM_request 111 = .ok (.iconst (-1), 1) := by decide +kernel
theorem dM_request_112 : decode cM_request 112 = .ok (.iastore, 1) := by decide +kernel
theorem dM_request_113 : decode cM_request 113 = .ok (.aload_n 0, 1) := by decide +kernel
theorem dM_request_114 : decode cM_request 114 = .ok (.dup, 1) := by decide +kernel
theorem dM_request_115 : decode cM_request 115 = .ok (.getfield 117, 3) := by decide +kernel
theorem dM_request_118 : decode cM_request 118 = .ok (.iconst 1, 1) := by decide +kernel
theorem dM_request_119 : decode cM_request 119 = .ok (.iadd, 1) := by decide +kernel
theorem dM_request_120 : decode cM_request 120 = .ok (.putfield 117, 3) := by decide +kernel
theorem dM_request_123 : decode cM_request 123 = .ok (.aload_n 0, 1) := by decide +kernel
theorem dM_request_124 : decode cM_request 124 = .ok (.aload_n 0, 1) := by decide +kernel
theorem dM_request_125 : decode cM_request 125 = .ok (.getfield 117, 3) := by decide +kernel
theorem dM_request_128 : decode cM_request 128 = .ok (.iconst 1, 1) := by decide +kernel
theorem dM_request_129 : decode cM_request 129 = .ok (.isub, 1) := by decide +kernel
theorem dM_request_130 : decode cM_request 130 = .ok (.invokevirtual 156, 3) := by decide +kernel
theorem dM_request_133 : decode cM_request 133 = .ok (.aload_n 0, 1) := by decide +kernel
theorem dM_request_134 : decode cM_request 134 = .ok (.getfield 117, 3) := by decide +kernel
theorem dM_request_137 : decode cM_request 137 = .ok (.iconst 1, 1) := by decide +kernel
theorem dM_request_138 : decode cM_request 138 = .ok (.isub, 1) := by decide +kernel
theorem dM_request_139 : decode cM_request 139 = .ok (.ireturn, 1) := by decide +kernel
theorem dM_hasIt_0 : decode cM_hasIt 0 = .ok (.aload_n 0, 1) := by decide +kernel
theorem dM_hasIt_1 : decode cM_hasIt 1 = .ok (.getfield 46, 3) := by decide +kernel
theorem dM_hasIt_4 : decode cM_hasIt 4 = .ok (.iload_n 1, 1) := by decide +kernel
theorem dM_hasIt_5 : decode cM_hasIt 5 = .ok (.iaload, 1) := by decide +kernel
theorem dM_hasIt_6 : decode cM_hasIt 6 = .ok (.iconst 4, 1) := by decide +kernel
theorem dM_hasIt_7 : decode cM_hasIt 7 = .ok (.if_icmp .eq 24, 3) := by decide +kernel
theorem dM_hasIt_10 : decode cM_hasIt 10 = .ok (.aload_n 0, 1) := by decide +kernel
theorem dM_hasIt_11 : decode cM_hasIt 11 = .ok (.getfield 46, 3) := by decide +kernel
theorem dM_hasIt_14 : decode cM_hasIt 14 = .ok (.iload_n 1, 1) := by decide +kernel
theorem dM_hasIt_15 : decode cM_hasIt 15 = .ok (.iaload, 1) := by decide +kernel
theorem dM_hasIt_16 : decode cM_hasIt 16 = .ok (.iconst 5, 1) := by decide +kernel
theorem dM_hasIt_17 : decode cM_hasIt 17 = .ok (.if_icmp .eq 14, 3) := by decide +kernel
theorem dM_hasIt_20 : decode cM_hasIt 20 = .ok (.aload_n 0, 1) := by decide +kernel
theorem dM_hasIt_21 : decode cM_hasIt 21 = .ok (.getfield 46, 3) := by decide +kernel
theorem dM_hasIt_24 : decode cM_hasIt 24 = .ok (.iload_n 1, 1) := by decide +kernel
theorem dM_hasIt_25 : decode cM_hasIt 25 = .ok (.iaload, 1) := by decide +kernel
theorem dM_hasIt_26 : decode cM_hasIt 26 = .ok (.bipush 6, 2) := by decide +kernel
theorem dM_hasIt_28 : decode cM_hasIt 28 = .ok (.if_icmp .ne 7, 3) := by decide +kernel
theorem dM_hasIt_31 : decode cM_hasIt 31 = .ok (.iconst 1, 1) := by decide +kernel
theorem dM_hasIt_32 : decode cM_hasIt 32 = .ok (.goto 4, 3) := by decide +kernel
theorem dM_hasIt_35 : decode cM_hasIt 35 = .ok (.iconst 0, 1) := by decide +kernel
theorem dM_hasIt_36 : decode cM_hasIt 36 = .ok (.ireturn, 1) := by decide +kernel
theorem dM_mayRequester_0 : decode cM_mayRequester 0 = .ok (.aload_n 0, 1) := by decide +kernel
theorem dM_mayRequester_1 : decode cM_mayRequester 1 = .ok (.getfield 46, 3) := by decide +kernel
theorem dM_mayRequester_4 : decode cM_mayRequester 4 = .ok (.iload_n 1, 1) := by decide +kernel
theorem dM_mayRequester_5 : decode cM_mayRequester 5 = .ok (.iaload, 1) := by decide +kernel
theorem dM_mayRequester_6 : decode cM_mayRequester 6 = .ok (.istore_n 3, 1) := by decide +kernel
theorem dM_mayRequester_7 : decode cM_mayRequester 7 = .ok (.iload_n 2, 1) := by decide +kernel
theorem dM_mayRequester_8 : decode cM_mayRequester 8 = .ok (.tableswitch 80 0 4 #[36, 36, 47, 58, 69], 36) := by decide +kernel
theorem dM_mayRequester_44 : decode cM_mayRequester 44 = .ok (.iload_n 3, 1) := by decide +kernel
theorem dM_mayRequester_45 : decode cM_mayRequester 45 = .ok (.iconst 1, 1) := by decide +kernel
theorem dM_mayRequester_46 : decode cM_mayRequester 46 = .ok (.if_icmp .ne 7, 3) := by decide +kernel
theorem dM_mayRequester_49 : decode cM_mayRequester 49 = .ok (.iconst 1, 1) := by decide +kernel
theorem dM_mayRequester_50 : decode cM_mayRequester 50 = .ok (.goto 4, 3) := by decide +kernel
theorem dM_mayRequester_53 : decode cM_mayRequester 53 = .ok (.iconst 0, 1) := by decide +kernel
theorem dM_mayRequester_54 : decode cM_mayRequester 54 = .ok (.ireturn, 1) := by decide +kernel
theorem dM_mayRequester_55 : decode cM_mayRequester 55 = .ok (.iload_n 3, 1) := by decide +kernel
theorem dM_mayRequester_56 : decode cM_mayRequester 56 = .ok (.iconst 3, 1) := by decide +kernel
theorem dM_mayRequester_57 : decode cM_mayRequester 57 = .ok (.if_icmp .ge 7, 3) := by decide +kernel
theorem dM_mayRequester_60 : decode cM_mayRequester 60 = .ok (.iconst 1, 1) := by decide +kernel
theorem dM_mayRequester_61 : decode cM_mayRequester 61 = .ok (.goto 4, 3) := by decide +kernel
theorem dM_mayRequester_64 : decode cM_mayRequester 64 = .ok (.iconst 0, 1) := by decide +kernel
theorem dM_mayRequester_65 : decode cM_mayRequester 65 = .ok (.ireturn, 1) := by decide +kernel
theorem dM_mayRequester_66 : decode cM_mayRequester 66 = .ok (.iload_n 3, 1) := by decide +kernel
theorem dM_mayRequester_67 : decode cM_mayRequester 67 = .ok (.iconst 3, 1) := by decide +kernel
theorem dM_mayRequester_68 : decode cM_mayRequester 68 = .ok (.if_icmp .ne 7, 3) := by decide +kernel
theorem dM_mayRequester_71 : decode cM_mayRequester 71 = .ok (.iconst 1, 1) := by decide +kernel
theorem dM_mayRequester_72 : decode cM_mayRequester 72 = .ok (.goto 4, 3) := by decide +kernel
theorem dM_mayRequester_75 : decode cM_mayRequester 75 = .ok (.iconst 0, 1) := by decide +kernel
theorem dM_mayRequester_76 : decode cM_mayRequester 76 = .ok (.ireturn, 1) := by decide +kernel
theorem dM_mayRequester_77 : decode cM_mayRequester 77 = .ok (.iload_n 3, 1) := by decide +kernel
theorem dM_mayRequester_78 : decode cM_mayRequester 78 = .ok (.iconst 4, 1) := by decide +kernel
theorem dM_mayRequester_79 : decode cM_mayRequester 79 = .ok (.if_icmp .ne 7, 3) := by decide +kernel
theorem dM_mayRequester_82 : decode cM_mayRequester 82 = .ok (.iconst 1, 1) := by decide +kernel
theorem dM_mayRequester_83 : decode cM_mayRequester 83 = .ok (.goto 4, 3) := by decide +kernel
theorem dM_mayRequester_86 : decode cM_mayRequester 86 = .ok (.iconst 0, 1) := by decide +kernel
theorem dM_mayRequester_87 : decode cM_mayRequester 87 = .ok (.ireturn, 1) := by decide +kernel
theorem dM_mayRequester_88 : decode cM_mayRequester 88 = .ok (.aload_n 0, 1) := by decide +kernel
theorem dM_mayRequester_89 : decode cM_mayRequester 89 = .ok (.iload_n 1, 1) := by decide +kernel
theorem dM_mayRequester_90 : decode cM_mayRequester 90 = .ok (.invokevirtual 159, 3) := by decide +kernel
theorem dM_mayRequester_93 : decode cM_mayRequester 93 = .ok (.ireturn, 1) := by decide +kernel
theorem dM_stepRequester_0 : decode cM_stepRequester 0 = .ok (.aload_n 0, 1) := by decide +kernel
theorem dM_stepRequester_1 : decode cM_stepRequester 1 = .ok (.iload_n 1, 1) := by decide +kernel
theorem dM_stepRequester_2 : decode cM_stepRequester 2 = .ok (.invokevirtual 134, 3) := by decide +kernel
theorem dM_stepRequester_5 : decode cM_stepRequester 5 = .ok (.istore_n 3, 1) := by decide +kernel
theorem dM_stepRequester_6 : decode cM_stepRequester 6 = .ok (.iload_n 2, 1) := by decide +kernel
theorem dM_stepRequester_7 : decode cM_stepRequester 7 = .ok (.ifCond .ne 7, 3) := by decide +kernel
theorem dM_stepRequester_10 : decode cM_stepRequester 10 = .ok (.iconst 0, 1) := by decide +kernel
theorem dM_stepRequester_11 : decode cM_stepRequester 11 = .ok (.goto 52, 3) := by decide +kernel
theorem dM_stepRequester_14 : decode cM_stepRequester 14 = .ok (.iload_n 2, 1) := by decide +kernel
theorem dM_stepRequester_15 : decode cM_stepRequester 15 = .ok (.iconst 1, 1) := by decide +kernel
theorem dM_stepRequester_16 : decode cM_stepRequester 16 = .ok (.if_icmp .ne 7, 3) := by decide +kernel
theorem dM_stepRequester_19 : decode cM_stepRequester 19 = .ok (.iconst 0, 1) := by decide +kernel
theorem dM_stepRequester_20 : decode cM_stepRequester 20 = .ok (.goto 43, 3) := by decide +kernel
theorem dM_stepRequester_23 : decode cM_stepRequester 23 = .ok (.iload_n 2, 1) := by decide +kernel
theorem dM_stepRequester_24 : decode cM_stepRequester 24 = .ok (.iconst 2, 1) := by decide +kernel
theorem dM_stepRequester_25 : decode cM_stepRequester 25 = .ok (.if_icmp .ne 8, 3) := by decide +kernel
theorem dM_stepRequester_28 : decode cM_stepRequester 28 = .ok (.bipush 10, 2) := by decide +kernel
theorem dM_stepRequester_30 : decode cM_stepRequester 30 = .ok (.goto 33, 3) := by decide +kernel
theorem dM_stepRequester_33 : decode cM_stepRequester 33 = .ok (.iload_n 2, 1) := by decide +kernel
theorem dM_stepRequester_34 : decode cM_stepRequester 34 = .ok (.iconst 3, 1) := by decide +kernel
theorem dM_stepRequester_35 : decode cM_stepRequester 35 = .ok (.if_icmp .ne 7, 3) := by decide +kernel
theorem dM_stepRequester_38 : decode cM_stepRequester 38 = .ok (.iconst 4, 1) := by decide +kernel
theorem dM_stepRequester_39 : decode cM_stepRequester 39 = .ok (.goto 24, 3) := by decide +kernel
theorem dM_stepRequester_42 : decode cM_stepRequester 42 = .ok (.iload_n 2, 1) := by decide +kernel
theorem dM_stepRequester_43 : decode cM_stepRequester 43 = .ok (.iconst 4, 1) := by decide +kernel
theorem dM_stepRequester_44 : decode cM_stepRequester 44 = .ok (.if_icmp .ne 7, 3) := by decide +kernel
theorem dM_stepRequester_47 : decode cM_stepRequester 47 = .ok (.iconst 5, 1) := by decide +kernel
theorem dM_stepRequester_48 : decode cM_stepRequester 48 = .ok (.goto 15, 3) := by decide +kernel
theorem dM_stepRequester_51 : decode cM_stepRequester 51 = .ok (.iload_n 2, 1) := by decide +kernel
theorem dM_stepRequester_52 : decode cM_stepRequester 52 = .ok (.iconst 5, 1) := by decide +kernel
theorem dM_stepRequester_53 : decode cM_stepRequester 53 = .ok (.if_icmp .ne 8, 3) := by decide +kernel
theorem dM_stepRequester_56 : decode cM_stepRequester 56 = .ok (.bipush 7, 2) := by decide +kernel
theorem dM_stepRequester_58 : decode cM_stepRequester 58 = .ok (.goto 5, 3) := by decide +kernel
theorem dM_stepRequester_61 : decode cM_stepRequester 61 = .ok (.bipush 12, 2) := by decide +kernel
theorem dM_stepRequester_63 : decode cM_stepRequester 63 = .ok (.istore 4, 2) := by decide +kernel
theorem dM_stepRequester_65 : decode cM_stepRequester 65 = .ok (.iload_n 2, 1) := by decide +kernel
theorem dM_stepRequester_66 : decode cM_stepRequester 66 = .ok (.ifCond .ne 7, 3) := by decide +kernel
theorem dM_stepRequester_69 : decode cM_stepRequester 69 = .ok (.iconst 5, 1) := by decide +kernel
theorem dM_stepRequester_70 : decode cM_stepRequester 70 = .ok (.goto 55, 3) := by decide +kernel
theorem dM_stepRequester_73 : decode cM_stepRequester 73 = .ok (.iload_n 2, 1) := by decide +kernel
theorem dM_stepRequester_74 : decode cM_stepRequester 74 = .ok (.iconst 1, 1) := by decide +kernel
theorem dM_stepRequester_75 : decode cM_stepRequester 75 = .ok (.if_icmp .ne 8, 3) := by decide +kernel
theorem dM_stepRequester_78 : decode cM_stepRequester 78 = .ok (.bipush 6, 2) := by decide +kernel
theorem dM_stepRequester_80 : decode cM_stepRequester 80 = .ok (.goto 45, 3) := by decide +kernel
theorem dM_stepRequester_83 : decode cM_stepRequester 83 = .ok (.iload_n 2, 1) := by decide +kernel
theorem dM_stepRequester_84 : decode cM_stepRequester 84 = .ok (.iconst 2, 1) := by decide +kernel
theorem dM_stepRequester_85 : decode cM_stepRequester 85 = .ok (.if_icmp .ne 8, 3) := by decide +kernel
theorem dM_stepRequester_88 : decode cM_stepRequester 88 = .ok (.bipush 15, 2) := by decide +kernel
theorem dM_stepRequester_90 : decode cM_stepRequester 90 = .ok (.goto 35, 3) := by decide +kernel
theorem dM_stepRequester_93 : decode cM_stepRequester 93 = .ok (.iload_n 2, 1) := by decide +kernel
theorem dM_stepRequester_94 : decode cM_stepRequester 94 = .ok (.iconst 3, 1) := by decide +kernel
theorem dM_stepRequester_95 : decode cM_stepRequester 95 = .ok (.if_icmp .ne 8, 3) := by decide +kernel
theorem dM_stepRequester_98 : decode cM_stepRequester 98 = .ok (.bipush 8, 2) := by decide +kernel
theorem dM_stepRequester_100 : decode cM_stepRequester 100 = .ok (.goto 25, 3) := by decide +kernel
theorem dM_stepRequester_103 : decode cM_stepRequester 103 = .ok (.iload_n 2, 1) := by decide +kernel
theorem dM_stepRequester_104 : decode cM_stepRequester 104 = .ok (.iconst 4, 1) := by decide +kernel
theorem dM_stepRequester_105 : decode cM_stepRequester 105 = .ok (.if_icmp .ne 8, 3) := by decide +kernel
theorem dM_stepRequester_108 : decode cM_stepRequester 108 = .ok (.bipush 9, 2) := by decide +kernel
theorem dM_stepRequester_110 : decode cM_stepRequester 110 = .ok (.goto 15, 3) := by decide +kernel
theorem dM_stepRequester_113 : decode cM_stepRequester 113 = .ok (.iload_n 2, 1) := by decide +kernel
theorem dM_stepRequester_114 : decode cM_stepRequester 114 = .ok (.iconst 5, 1) := by decide +kernel
theorem dM_stepRequester_115 : decode cM_stepRequester 115 = .ok (.if_icmp .ne 8, 3) := by decide +kernel
theorem dM_stepRequester_118 : decode cM_stepRequester 118 = .ok (.bipush 12, 2) := by decide +kernel
theorem dM_stepRequester_120 : decode cM_stepRequester 120 = .ok (.goto 5, 3) := by decide +kernel
theorem dM_stepRequester_123 : decode cM_stepRequester 123 = .ok (.bipush 14, 2) := by decide +kernel
theorem dM_stepRequester_125 : decode cM_stepRequester 125 = .ok (.istore 5, 2) := by decide +kernel
theorem dM_stepRequester_127 : decode cM_stepRequester 127 = .ok (.iload_n 2, 1) := by decide +kernel
theorem dM_stepRequester_128 : decode cM_stepRequester 128 = .ok (.iconst 3, 1) := by decide +kernel
theorem dM_stepRequester_129 : decode cM_stepRequester 129 = .ok (.if_icmp .ne 20, 3) := by decide +kernel
theorem dM_stepRequester_132 : decode cM_stepRequester 132 = .ok (.aload_n 0, 1) := by decide +kernel
theorem dM_stepRequester_133 : decode cM_stepRequester 133 = .ok (.getfield 19, 3) := by decide +kernel
theorem dM_stepRequester_136 : decode cM_stepRequester 136 = .ok (.aload_n 0, 1) := by decide +kernel
theorem dM_stepRequester_137 : decode cM_stepRequester 137 = .ok (.getfield 43, 3) := by decide +kernel
theorem dM_stepRequester_140 : decode cM_stepRequester 140 = .ok (.iload_n 1, 1) := by decide +kernel
theorem dM_stepRequester_141 : decode cM_stepRequester 141 = .ok (.iaload, 1) := by decide +kernel
theorem dM_stepRequester_142 : decode cM_stepRequester 142 = .ok (.aload_n 0, 1) := by decide +kernel
theorem dM_stepRequester_143 : decode cM_stepRequester 143 = .ok (.getfield 25, 3) := by decide +kernel
theorem dM_stepRequester_146 : decode cM_stepRequester 146 = .ok (.iload_n 1, 1) := by decide +kernel
theorem dM_stepRequester_147 : decode cM_stepRequester 147 = .ok (.iaload, 1) := by decide +kernel
theorem dM_stepRequester_148 : decode cM_stepRequester 148 = .ok (.iastore, 1) := by decide +kernel
theorem dM_stepRequester_149 : decode cM_stepRequester 149 = .ok (.iload_n 2, 1) := by decide +kernel
theorem dM_stepRequester_150 : decode cM_stepRequester 150 = .ok (.iconst 5, 1) := by decide +kernel
theorem dM_stepRequester_151 : decode cM_stepRequester 151 = .ok (.if_icmp .ne 16, 3) := by decide +kernel
theorem dM_stepRequester_154 : decode cM_stepRequester 154 = .ok (.aload_n 0, 1) := by decide +kernel
theorem dM_stepRequester_155 : decode cM_stepRequester 155 = .ok (.getfield 19, 3) := by decide +kernel
theorem dM_stepRequester_158 : decode cM_stepRequester 158 = .ok (.aload_n 0, 1) := by decide +kernel
theorem dM_stepRequester_159 : decode cM_stepRequester 159 = .ok (.getfield 43, 3) := by decide +kernel
theorem dM_stepRequester_162 : decode cM_stepRequester 162 = .ok (.iload_n 1, 1) := by decide +kernel
theorem dM_stepRequester_163 : decode cM_stepRequester 163 = .ok (.iaload, 1) := by decide +kernel
theorem dM_stepRequester_164 : decode cM_stepRequester 164 = .ok (.bipush 6, 2) := by decide +kernel
theorem dM_stepRequester_166 : decode cM_stepRequester 166 = .ok (.iastore, 1) := by decide +kernel
theorem dM_stepRequester_167 : decode cM_stepRequester 167 = .ok (.iload_n 2, 1) := by decide +kernel
theorem dM_stepRequester_168 : decode cM_stepRequester 168 = .ok (.bipush 6, 2) := by decide +kernel
theorem dM_stepRequester_170 : decode cM_stepRequester 170 = .ok (.if_icmp .ne 33, 3) := by decide +kernel
theorem dM_stepRequester_173 : decode cM_stepRequester 173 = .ok (.aload_n 0, 1) := by decide +kernel
theorem dM_stepRequester_174 : decode cM_stepRequester 174 = .ok (.getfield 19, 3) := by decide +kernel
theorem dM_stepRequester_177 : decode cM_stepRequester 177 = .ok (.aload_n 0, 1) := by decide +kernel
theorem dM_stepRequester_178 : decode cM_stepRequester 178 = .ok (.getfield 43, 3) := by decide +kernel
theorem dM_stepRequester_181 : decode cM_stepRequester 181 = .ok (.iload_n 1, 1) := by decide +kernel
theorem dM_stepRequester_182 : decode cM_stepRequester 182 = .ok (.iaload, 1) := by decide +kernel
theorem dM_stepRequester_183 : decode cM_stepRequester 183 = .ok (.bipush 7, 2) := by decide +kernel
theorem dM_stepRequester_185 : decode cM_stepRequester 185 = .ok (.iastore, 1) := by decide +kernel
theorem dM_stepRequester_186 : decode cM_stepRequester 186 = .ok (.aload_n 0, 1) := by decide +kernel
theorem dM_stepRequester_187 : decode cM_stepRequester 187 = .ok (.getfield 7, 3) := by decide +kernel
theorem dM_stepRequester_190 : decode cM_stepRequester 190 = .ok (.aload_n 0, 1) := by decide +kernel
theorem dM_stepRequester_191 : decode cM_stepRequester 191 = .ok (.getfield 25, 3) := by decide +kernel
theorem dM_stepRequester_194 : decode cM_stepRequester 194 = .ok (.iload_n 1, 1) := by decide +kernel
theorem dM_stepRequester_195 : decode cM_stepRequester 195 = .ok (.iaload, 1) := by decide +kernel
theorem dM_stepRequester_196 : decode cM_stepRequester 196 = .ok (.dup2, 1) := by decide +kernel
theorem dM_stepRequester_197 : decode cM_stepRequester 197 = .ok (.iaload, 1) := by decide +kernel
theorem dM_stepRequester_198 : decode cM_stepRequester 198 = .ok (.sipush 4000, 3) := by decide +kernel
theorem dM_stepRequester_201 : decode cM_stepRequester 201 = .ok (.isub, 1) := by decide +kernel
theorem dM_stepRequester_202 : decode cM_stepRequester 202 = .ok (.iastore, 1) := by decide +kernel
theorem dM_stepRequester_203 : decode cM_stepRequester 203 = .ok (.aload_n 0, 1) := by decide +kernel
theorem dM_stepRequester_204 : decode cM_stepRequester 204 = .ok (.getfield 46, 3) := by decide +kernel
theorem dM_stepRequester_207 : decode cM_stepRequester 207 = .ok (.iload_n 1, 1) := by decide +kernel
theorem dM_stepRequester_208 : decode cM_stepRequester 208 = .ok (.iload 4, 2) := by decide +kernel
theorem dM_stepRequester_210 : decode cM_stepRequester 210 = .ok (.iastore, 1) := by decide +kernel
theorem dM_stepRequester_211 : decode cM_stepRequester 211 = .ok (.aload_n 0, 1) := by decide +kernel
theorem dM_stepRequester_212 : decode cM_stepRequester 212 = .ok (.iload_n 3, 1) := by decide +kernel
theorem dM_stepRequester_213 : decode cM_stepRequester 213 = .ok (.iload 5, 2) := by decide +kernel
theorem dM_stepRequester_215 : decode cM_stepRequester 215 = .ok (.iconst 0, 1) := by decide +kernel
theorem dM_stepRequester_216 : decode cM_stepRequester 216 = .ok (.invokevirtual 138, 3) := by decide +kernel
theorem dM_stepRequester_219 : decode cM_stepRequester 219 = .ok (.iload_n 2, 1) := by decide +kernel
theorem dM_stepRequester_220 : decode cM_stepRequester 220 = .ok (.iconst 1, 1) := by decide +kernel
theorem dM_stepRequester_221 : decode cM_stepRequester 221 = .ok (.if_icmp .ne 8, 3) := by decide +kernel
theorem dM_stepRequester_224 : decode cM_stepRequester 224 = .ok (.aload_n 0, 1) := by decide +kernel
theorem dM_stepRequester_225 : decode cM_stepRequester 225 = .ok (.iload_n 1, 1) := by decide +kernel
theorem dM_stepRequester_226 : decode cM_stepRequester 226 = .ok (.invokevirtual 156, 3) := by decide +kernel
theorem dM_stepRequester_229 : decode cM_stepRequester 229 = .ok (.return_, 1) := by decide +kernel
theorem dM_mayPromise_0 : decode cM_mayPromise 0 = .ok (.iload_n 3, 1) := by decide +kernel
theorem dM_mayPromise_1 : decode cM_mayPromise 1 = .ok (.ifCond .lt 60, 3) := by decide +kernel
theorem dM_mayPromise_4 : decode cM_mayPromise 4 = .ok (.iload_n 3, 1) := by decide +kernel
theorem dM_mayPromise_5 : decode cM_mayPromise 5 = .ok (.aload_n 0, 1) := by decide +kernel
