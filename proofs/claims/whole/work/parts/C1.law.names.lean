/-! The law: its names, its rows, its words -/
def yW_addCopy : MethodName := ⟨"LoanLettersLaw", "addCopy", "(LLoanLetters;II[J)I"⟩
abbrev hhW_addCopy : List (Nat × Nat × Nat × Nat) := [(0, 10, 13, 13), (0, 10, 17, 15)]
abbrev wsW_addCopy : List Cond := .codeWith yW_addCopy method_3_code 5 (some .int) hhW_addCopy :: WS
theorem kww_addCopy : Cond.codeWith yW_addCopy method_3_code 5 (some .int) hhW_addCopy ∈ WS := WS_of (List.mem_append_right _ (List.mem_of_getElem? (i := 468) (by decide +kernel))) (by decide +kernel)
theorem kwl_addCopy : Cond.methodLink "LoanLettersLaw" 31 yW_addCopy ∈ WS := kw_466
theorem kws_addCopy : Cond.static yW_addCopy ∈ WS := kw_467
def yW_request : MethodName := ⟨"LoanLettersLaw", "request", "(LLoanLetters;IIII[J)I"⟩
abbrev hhW_request : List (Nat × Nat × Nat × Nat) := [(0, 14, 17, 13), (0, 14, 21, 15)]
abbrev wsW_request : List Cond := .codeWith yW_request method_4_code 7 (some .int) hhW_request :: WS
theorem kww_request : Cond.codeWith yW_request method_4_code 7 (some .int) hhW_request ∈ WS := WS_of (List.mem_append_right _ (List.mem_of_getElem? (i := 583) (by decide +kernel))) (by decide +kernel)
theorem kwl_request : Cond.methodLink "LoanLettersLaw" 41 yW_request ∈ WS := kw_581
theorem kws_request : Cond.static yW_request ∈ WS := kw_582
def yW_act : MethodName := ⟨"LoanLettersLaw", "act", "(LLoanLetters;IIII[J)I"⟩
abbrev hhW_act : List (Nat × Nat × Nat × Nat) := [(0, 14, 17, 13), (0, 14, 21, 15)]
abbrev wsW_act : List Cond := .codeWith yW_act method_5_code 7 (some .int) hhW_act :: WS
theorem kww_act : Cond.codeWith yW_act method_5_code 7 (some .int) hhW_act ∈ WS := WS_of (List.mem_append_right _ (List.mem_of_getElem? (i := 635) (by decide +kernel))) (by decide +kernel)
theorem kwl_act : Cond.methodLink "LoanLettersLaw" 45 yW_act ∈ WS := kw_633
theorem kws_act : Cond.static yW_act ∈ WS := kw_634
def yW_resend : MethodName := ⟨"LoanLettersLaw", "resend", "(LLoanLetters;II[J)I"⟩
abbrev hhW_resend : List (Nat × Nat × Nat × Nat) := [(0, 10, 13, 13)]
abbrev wsW_resend : List Cond := .codeWith yW_resend method_6_code 5 (some .int) hhW_resend :: WS
theorem kww_resend : Cond.codeWith yW_resend method_6_code 5 (some .int) hhW_resend ∈ WS := WS_of (List.mem_append_right _ (List.mem_of_getElem? (i := 728) (by decide +kernel))) (by decide +kernel)
theorem kwl_resend : Cond.methodLink "LoanLettersLaw" 53 yW_resend ∈ WS := kw_726
theorem kws_resend : Cond.static yW_resend ∈ WS := kw_727
theorem gJ_7 : GoodIn WS (wsV "LoanLettersLaw" 7 "LoanLetters" yL_addCopy wsL_addCopy) := WS_V kw_471 kw_472 kw_473 kw_1 kw_474
theorem gJ_17 : GoodIn WS (wsV "LoanLettersLaw" 17 "LoanLetters" yL_request wsL_request) := WS_V kw_584 kw_585 kw_586 kw_1 kw_587
theorem gJ_21 : GoodIn WS (wsV "LoanLettersLaw" 21 "LoanLetters" yL_act wsL_act) := WS_V kw_636 kw_637 kw_638 kw_1 kw_639
theorem gJ_24 : GoodIn WS (wsV "LoanLettersLaw" 24 "LoanLetters" yL_resend wsL_resend) := WS_V kw_729 kw_730 kw_731 kw_1 kw_732
theorem gJ_36 : GoodIn WS (wsV "LoanLettersLaw" 36 "LoanLettersModel" yM_addCopy wsM_addCopy) := WS_V kw_866 kw_867 kw_868 kw_4 kw_869
theorem gJ_37 : GoodIn WS (wsV "LoanLettersLaw" 37 "LoanLettersModel" yM_thrown wsM_thrown) := WS_V kw_862 kw_863 kw_864 kw_4 kw_865
theorem gJ_44 : GoodIn WS (wsV "LoanLettersLaw" 44 "LoanLettersModel" yM_request wsM_request) := WS_V kw_880 kw_881 kw_882 kw_4 kw_883
theorem gJ_47 : GoodIn WS (wsV "LoanLettersLaw" 47 "LoanLettersModel" yM_act wsM_act) := WS_V kw_904 kw_905 kw_906 kw_4 kw_907
theorem gJ_48 : GoodIn WS (wsV "LoanLettersLaw" 48 "LoanLetters" yL_pass wsL_pass) := WS_V kw_103 kw_104 kw_105 kw_1 kw_106
theorem gJ_52 : GoodIn WS (wsV "LoanLettersLaw" 52 "LoanLettersModel" yM_pass wsM_pass) := WS_V kw_940 kw_941 kw_942 kw_4 kw_943
theorem gJ_55 : GoodIn WS (wsV "LoanLettersLaw" 55 "LoanLettersModel" yM_resend wsM_resend) := WS_V kw_944 kw_945 kw_946 kw_4 kw_947
theorem gJ_56 : GoodIn WS (wsV "LoanLettersLaw" 56 "LoanLetters" yL_letters wsL_letters) := WS_V kw_107 kw_108 kw_109 kw_1 kw_110
theorem gJ_59 : GoodIn WS (wsV "LoanLettersLaw" 59 "LoanLettersModel" yM_letters wsM_letters) := WS_V kw_952 kw_953 kw_954 kw_4 kw_955
theorem gJ_60 : GoodIn WS (wsV "LoanLettersLaw" 60 "LoanLetters" yL_carry wsL_carry) := WS_V kw_111 kw_112 kw_113 kw_1 kw_114
theorem gJ_64 : GoodIn WS (wsV "LoanLettersLaw" 64 "LoanLettersModel" yM_carry wsM_carry) := WS_V kw_956 kw_957 kw_958 kw_4 kw_959
theorem gJ_65 : GoodIn WS (wsV "LoanLettersLaw" 65 "LoanLetters" yL_drop wsL_drop) := WS_V kw_403 kw_404 kw_405 kw_1 kw_406
theorem gJ_68 : GoodIn WS (wsV "LoanLettersLaw" 68 "LoanLettersModel" yM_drop wsM_drop) := WS_V kw_968 kw_969 kw_970 kw_4 kw_971
theorem gJ_69 : GoodIn WS (wsV "LoanLettersLaw" 69 "LoanLetters" yL_letter wsL_letter) := WS_V kw_411 kw_412 kw_413 kw_1 kw_414
theorem gJ_72 : GoodIn WS (wsV "LoanLettersLaw" 72 "LoanLettersModel" yM_letter wsM_letter) := WS_V kw_972 kw_973 kw_974 kw_4 kw_975
theorem gJ_73 : GoodIn WS (wsV "LoanLettersLaw" 73 "LoanLetters" yL_book wsL_book) := WS_V kw_415 kw_416 kw_417 kw_1 kw_418
theorem gJ_77 : GoodIn WS (wsV "LoanLettersLaw" 77 "LoanLettersModel" yM_book wsM_book) := WS_V kw_976 kw_977 kw_978 kw_4 kw_979
theorem gJ_78 : GoodIn WS (wsV "LoanLettersLaw" 78 "LoanLetters" yL_supplier wsL_supplier) := WS_V kw_428 kw_429 kw_430 kw_1 kw_431
theorem gJ_81 : GoodIn WS (wsV "LoanLettersLaw" 81 "LoanLettersModel" yM_supplier wsM_supplier) := WS_V kw_980 kw_981 kw_982 kw_4 kw_983
theorem gJ_82 : GoodIn WS (wsV "LoanLettersLaw" 82 "LoanLetters" yL_holder wsL_holder) := WS_V kw_432 kw_433 kw_434 kw_1 kw_435
theorem gJ_85 : GoodIn WS (wsV "LoanLettersLaw" 85 "LoanLettersModel" yM_holder wsM_holder) := WS_V kw_984 kw_985 kw_986 kw_4 kw_987
theorem gJ_86 : GoodIn WS (wsV "LoanLettersLaw" 86 "LoanLetters" yL_promised wsL_promised) := WS_V kw_440 kw_441 kw_442 kw_1 kw_443
theorem gJ_89 : GoodIn WS (wsV "LoanLettersLaw" 89 "LoanLettersModel" yM_promised wsM_promised) := WS_V kw_988 kw_989 kw_990 kw_4 kw_991
theorem gJ_90 : GoodIn WS (wsV "LoanLettersLaw" 90 "LoanLetters" yL_balance wsL_balance) := WS_V kw_444 kw_445 kw_446 kw_1 kw_447
theorem gJ_93 : GoodIn WS (wsV "LoanLettersLaw" 93 "LoanLettersModel" yM_balance wsM_balance) := WS_V kw_992 kw_993 kw_994 kw_4 kw_995
theorem gJ_94 : GoodIn WS (wsV "LoanLettersLaw" 94 "LoanLetters" yL_queue wsL_queue) := WS_V kw_448 kw_449 kw_450 kw_1 kw_451
theorem gJ_97 : GoodIn WS (wsV "LoanLettersLaw" 97 "LoanLettersModel" yM_queue wsM_queue) := WS_V kw_996 kw_997 kw_998 kw_4 kw_999
theorem gJ_98 : GoodIn WS (wsV "LoanLettersLaw" 98 "LoanLetters" yL_settled wsL_settled) := WS_V kw_458 kw_459 kw_460 kw_1 kw_461
theorem gJ_101 : GoodIn WS (wsV "LoanLettersLaw" 101 "LoanLettersModel" yM_settled wsM_settled) := WS_V kw_1000 kw_1001 kw_1002 kw_4 kw_1003
theorem dW_addCopy_0 : decode method_3_code 0 = .ok (.aload_n 3, 1) := by decide +kernel
theorem dW_addCopy_1 : decode method_3_code 1 = .ok (.iconst 0, 1) := by decide +kernel
theorem dW_addCopy_2 : decode method_3_code 2 = .ok (.aload_n 0, 1) := by decide +kernel
theorem dW_addCopy_3 : decode method_3_code 3 = .ok (.iload_n 1, 1) := by decide +kernel
theorem dW_addCopy_4 : decode method_3_code 4 = .ok (.iload_n 2, 1) := by decide +kernel
theorem dW_addCopy_5 : decode method_3_code 5 = .ok (.invokevirtual 7, 3) := by decide +kernel
theorem dW_addCopy_8 : decode method_3_code 8 = .ok (.i2l, 1) := by decide +kernel
theorem dW_addCopy_9 : decode method_3_code 9 = .ok (.lastore, 1) := by decide +kernel
theorem dW_addCopy_10 : decode method_3_code 10 = .ok (.goto 11, 3) := by decide +kernel
theorem dW_addCopy_13 : decode method_3_code 13 = .ok (.astore 4, 2) := by decide +kernel
theorem dW_addCopy_15 : decode method_3_code 15 = .ok (.iconst 1, 1) := by decide +kernel
theorem dW_addCopy_16 : decode method_3_code 16 = .ok (.ireturn, 1) := by decide +kernel
theorem dW_addCopy_17 : decode method_3_code 17 = .ok (.astore 4, 2) := by decide +kernel
theorem dW_addCopy_19 : decode method_3_code 19 = .ok (.iconst 2, 1) := by decide +kernel
theorem dW_addCopy_20 : decode method_3_code 20 = .ok (.ireturn, 1) := by decide +kernel
theorem dW_addCopy_21 : decode method_3_code 21 = .ok (.iconst 0, 1) := by decide +kernel
theorem dW_addCopy_22 : decode method_3_code 22 = .ok (.ireturn, 1) := by decide +kernel
theorem dW_request_0 : decode method_4_code 0 = .ok (.aload 5, 2) := by decide +kernel
theorem dW_request_2 : decode method_4_code 2 = .ok (.iconst 0, 1) := by decide +kernel
theorem dW_request_3 : decode method_4_code 3 = .ok (.aload_n 0, 1) := by decide +kernel
theorem dW_request_4 : decode method_4_code 4 = .ok (.iload_n 1, 1) := by decide +kernel
theorem dW_request_5 : decode method_4_code 5 = .ok (.iload_n 2, 1) := by decide +kernel
theorem dW_request_6 : decode method_4_code 6 = .ok (.iload_n 3, 1) := by decide +kernel
theorem dW_request_7 : decode method_4_code 7 = .ok (.iload 4, 2) := by decide +kernel
theorem dW_request_9 : decode method_4_code 9 = .ok (.invokevirtual 17, 3) := by decide +kernel
theorem dW_request_12 : decode method_4_code 12 = .ok (.i2l, 1) := by decide +kernel
theorem dW_request_13 : decode method_4_code 13 = .ok (.lastore, 1) := by decide +kernel
theorem dW_request_14 : decode method_4_code 14 = .ok (.goto 11, 3) := by decide +kernel
theorem dW_request_17 : decode method_4_code 17 = .ok (.astore 6, 2) := by decide +kernel
theorem dW_request_19 : decode method_4_code 19 = .ok (.iconst 1, 1) := by decide +kernel
theorem dW_request_20 : decode method_4_code 20 = .ok (.ireturn, 1) := by decide +kernel
theorem dW_request_21 : decode method_4_code 21 = .ok (.astore 6, 2) := by decide +kernel
theorem dW_request_23 : decode method_4_code 23 = .ok (.iconst 2, 1) := by decide +kernel
theorem dW_request_24 : decode method_4_code 24 = .ok (.ireturn, 1) := by decide +kernel
theorem dW_request_25 : decode method_4_code 25 = .ok (.iconst 0, 1) := by decide +kernel
theorem dW_request_26 : decode method_4_code 26 = .ok (.ireturn, 1) := by decide +kernel
theorem dW_act_0 : decode method_5_code 0 = .ok (.aload 5, 2) := by decide +kernel
theorem dW_act_2 : decode method_5_code 2 = .ok (.iconst 0, 1) := by decide +kernel
theorem dW_act_3 : decode method_5_code 3 = .ok (.aload_n 0, 1) := by decide +kernel
theorem dW_act_4 : decode method_5_code 4 = .ok (.iload_n 1, 1) := by decide +kernel
theorem dW_act_5 : decode method_5_code 5 = .ok (.iload_n 2, 1) := by decide +kernel
theorem dW_act_6 : decode method_5_code 6 = .ok (.iload_n 3, 1) := by decide +kernel
theorem dW_act_7 : decode method_5_code 7 = .ok (.iload 4, 2) := by decide +kernel
theorem dW_act_9 : decode method_5_code 9 = .ok (.invokevirtual 21, 3) := by decide +kernel
theorem dW_act_12 : decode method_5_code 12 = .ok (.i2l, 1) := by decide +kernel
theorem dW_act_13 : decode method_5_code 13 = .ok (.lastore, 1) := by decide +kernel
theorem dW_act_14 : decode method_5_code 14 = .ok (.goto 11, 3) := by decide +kernel
theorem dW_act_17 : decode method_5_code 17 = .ok (.astore 6, 2) := by decide +kernel
theorem dW_act_19 : decode method_5_code 19 = .ok (.iconst 1, 1) := by decide +kernel
theorem dW_act_20 : decode method_5_code 20 = .ok (.ireturn, 1) := by decide +kernel
theorem dW_act_21 : decode method_5_code 21 = .ok (.astore 6, 2) := by decide +kernel
theorem dW_act_23 : decode method_5_code 23 = .ok (.iconst 2, 1) := by decide +kernel
theorem dW_act_24 : decode method_5_code 24 = .ok (.ireturn, 1) := by decide +kernel
theorem dW_act_25 : decode method_5_code 25 = .ok (.iconst 0, 1) := by decide +kernel
theorem dW_act_26 : decode method_5_code 26 = .ok (.ireturn, 1) := by decide +kernel
theorem dW_resend_0 : decode method_6_code 0 = .ok (.aload_n 3, 1) := by decide +kernel
theorem dW_resend_1 : decode method_6_code 1 = .ok (.iconst 0, 1) := by decide +kernel
theorem dW_resend_2 : decode method_6_code 2 = .ok (.aload_n 0, 1) := by decide +kernel
theorem dW_resend_3 : decode method_6_code 3 = .ok (.iload_n 1, 1) := by decide +kernel
theorem dW_resend_4 : decode method_6_code 4 = .ok (.iload_n 2, 1) := by decide +kernel
theorem dW_resend_5 : decode method_6_code 5 = .ok (.invokevirtual 24, 3) := by decide +kernel
theorem dW_resend_8 : decode method_6_code 8 = .ok (.i2l, 1) := by decide +kernel
theorem dW_resend_9 : decode method_6_code 9 = .ok (.lastore, 1) := by decide +kernel
theorem dW_resend_10 : decode method_6_code 10 = .ok (.goto 7, 3) := by decide +kernel
theorem dW_resend_13 : decode method_6_code 13 = .ok (.astore 4, 2) := by decide +kernel
theorem dW_resend_15 : decode method_6_code 15 = .ok (.iconst 1, 1) := by decide +kernel
theorem dW_resend_16 : decode method_6_code 16 = .ok (.ireturn, 1) := by decide +kernel
theorem dW_resend_17 : decode method_6_code 17 = .ok (.iconst 0, 1) := by decide +kernel
theorem dW_resend_18 : decode method_6_code 18 = .ok (.ireturn, 1) := by decide +kernel
theorem dJ_0 : decode code 0 = .ok (.new 8, 3) := by decide +kernel
theorem dJ_3 : decode code 3 = .ok (.dup, 1) := by decide +kernel
theorem dJ_4 : decode code 4 = .ok (.invokespecial 27, 3) := by decide +kernel
theorem dJ_7 : decode code 7 = .ok (.astore_n 1, 1) := by decide +kernel
theorem dJ_8 : decode code 8 = .ok (.new 28, 3) := by decide +kernel
theorem dJ_11 : decode code 11 = .ok (.dup, 1) := by decide +kernel
theorem dJ_12 : decode code 12 = .ok (.invokespecial 30, 3) := by decide +kernel
theorem dJ_15 : decode code 15 = .ok (.astore_n 2, 1) := by decide +kernel
theorem dJ_16 : decode code 16 = .ok (.iconst 1, 1) := by decide +kernel
theorem dJ_17 : decode code 17 = .ok (.newarray .long, 2) := by decide +kernel
theorem dJ_19 : decode code 19 = .ok (.astore_n 3, 1) := by decide +kernel
theorem dJ_20 : decode code 20 = .ok (.iconst 0, 1) := by decide +kernel
theorem dJ_21 : decode code 21 = .ok (.istore 4, 2) := by decide +kernel
theorem dJ_23 : decode code 23 = .ok (.iload 4, 2) := by decide +kernel
theorem dJ_25 : decode code 25 = .ok (.aload_n 0, 1) := by decide +kernel
theorem dJ_26 : decode code 26 = .ok (.arraylength, 1) := by decide +kernel
theorem dJ_27 : decode code 27 = .ok (.iconst 5, 1) := by decide +kernel
theorem dJ_28 : decode code 28 = .ok (.isub, 1) := by decide +kernel
theorem dJ_29 : decode code 29 = .ok (.if_icmp .gt 749, 3) := by decide +kernel
theorem dJ_32 : decode code 32 = .ok (.aload_n 0, 1) := by decide +kernel
theorem dJ_33 : decode code 33 = .ok (.iload 4, 2) := by decide +kernel
theorem dJ_35 : decode code 35 = .ok (.iaload, 1) := by decide +kernel
theorem dJ_36 : decode code 36 = .ok (.bipush 15, 2) := by decide +kernel
theorem dJ_38 : decode code 38 = .ok (.iand, 1) := by decide +kernel
theorem dJ_39 : decode code 39 = .ok (.tableswitch 733 0 15 #[77, 145, 237, 329, 354, 422, 435, 460, 485, 522, 571, 596, 621, 646, 671, 708], 77) := by decide +kernel
theorem dJ_116 : decode code 116 = .ok (.aload_n 1, 1) := by decide +kernel
theorem dJ_117 : decode code 117 = .ok (.aload_n 0, 1) := by decide +kernel
theorem dJ_118 : decode code 118 = .ok (.iload 4, 2) := by decide +kernel
theorem dJ_120 : decode code 120 = .ok (.iconst 1, 1) := by decide +kernel
theorem dJ_121 : decode code 121 = .ok (.iadd, 1) := by decide +kernel
theorem dJ_122 : decode code 122 = .ok (.iaload, 1) := by decide +kernel
theorem dJ_123 : decode code 123 = .ok (.aload_n 0, 1) := by decide +kernel
theorem dJ_124 : decode code 124 = .ok (.iload 4, 2) := by decide +kernel
theorem dJ_126 : decode code 126 = .ok (.iconst 2, 1) := by decide +kernel
theorem dJ_127 : decode code 127 = .ok (.iadd, 1) := by decide +kernel
theorem dJ_128 : decode code 128 = .ok (.iaload, 1) := by decide +kernel
theorem dJ_129 : decode code 129 = .ok (.aload_n 3, 1) := by decide +kernel
theorem dJ_130 : decode code 130 = .ok (.invokestatic 31, 3) := by decide +kernel
theorem dJ_133 : decode code 133 = .ok (.istore 5, 2) := by decide +kernel
theorem dJ_135 : decode code 135 = .ok (.aload_n 2, 1) := by decide +kernel
theorem dJ_136 : decode code 136 = .ok (.aload_n 0, 1) := by decide +kernel
theorem dJ_137 : decode code 137 = .ok (.iload 4, 2) := by decide +kernel
theorem dJ_139 : decode code 139 = .ok (.iconst 1, 1) := by decide +kernel
theorem dJ_140 : decode code 140 = .ok (.iadd, 1) := by decide +kernel
theorem dJ_141 : decode code 141 = .ok (.iaload, 1) := by decide +kernel
theorem dJ_142 : decode code 142 = .ok (.aload_n 0, 1) := by decide +kernel
theorem dJ_143 : decode code 143 = .ok (.iload 4, 2) := by decide +kernel
theorem dJ_145 : decode code 145 = .ok (.iconst 2, 1) := by decide +kernel
theorem dJ_146 : decode code 146 = .ok (.iadd, 1) := by decide +kernel
theorem dJ_147 : decode code 147 = .ok (.iaload, 1) := by decide +kernel
theorem dJ_148 : decode code 148 = .ok (.invokevirtual 36, 3) := by decide +kernel
theorem dJ_151 : decode code 151 = .ok (.istore 6, 2) := by decide +kernel
theorem dJ_153 : decode code 153 = .ok (.aload_n 2, 1) := by decide +kernel
theorem dJ_154 : decode code 154 = .ok (.invokevirtual 37, 3) := by decide +kernel
theorem dJ_157 : decode code 157 = .ok (.iload 5, 2) := by decide +kernel
theorem dJ_159 : decode code 159 = .ok (.if_icmp .eq 5, 3) := by decide +kernel
theorem dJ_162 : decode code 162 = .ok (.iconst 0, 1) := by decide +kernel
theorem dJ_163 : decode code 163 = .ok (.ireturn, 1) := by decide +kernel
theorem dJ_164 : decode code 164 = .ok (.iload 5, 2) := by decide +kernel
theorem dJ_166 : decode code 166 = .ok (.ifCond .ne 15, 3) := by decide +kernel
theorem dJ_169 : decode code 169 = .ok (.aload_n 3, 1) := by decide +kernel
theorem dJ_170 : decode code 170 = .ok (.iconst 0, 1) := by decide +kernel
theorem dJ_171 : decode code 171 = .ok (.laload, 1) := by decide +kernel
theorem dJ_172 : decode code 172 = .ok (.iload 6, 2) := by decide +kernel
theorem dJ_174 : decode code 174 = .ok (.i2l, 1) := by decide +kernel
theorem dJ_175 : decode code 175 = .ok (.lcmp, 1) := by decide +kernel
theorem dJ_176 : decode code 176 = .ok (.ifCond .eq 5, 3) := by decide +kernel
theorem dJ_179 : decode code 179 = .ok (.iconst 0, 1) := by decide +kernel
theorem dJ_180 : decode code 180 = .ok (.ireturn, 1) := by decide +kernel
theorem dJ_181 : decode code 181 = .ok (.goto 591, 3) := by decide +kernel
theorem dJ_184 : decode code 184 = .ok (.aload_n 1, 1) := by decide +kernel
theorem dJ_185 : decode code 185 = .ok (.aload_n 0, 1) := by decide +kernel
theorem dJ_186 : decode code 186 = .ok (.iload 4, 2) := by decide +kernel
theorem dJ_188 : decode code 188 = .ok (.iconst 1, 1) := by decide +kernel
theorem dJ_189 : decode code 189 = .ok (.iadd, 1) := by decide +kernel
theorem dJ_190 : decode code 190 = .ok (.iaload, 1) := by decide +kernel
theorem dJ_191 : decode code 191 = .ok (.aload_n 0, 1) := by decide +kernel
theorem dJ_192 : decode code 192 = .ok (.iload 4, 2) := by decide +kernel
theorem dJ_194 : decode code 194 = .ok (.iconst 2, 1) := by decide +kernel
theorem dJ_195 : decode code 195 = .ok (.iadd, 1) := by decide +kernel
theorem dJ_196 : decode code 196 = .ok (.iaload, 1) := by decide +kernel
theorem dJ_197 : decode code 197 = .ok (.aload_n 0, 1) := by decide +kernel
theorem dJ_198 : decode code 198 = .ok (.iload 4, 2) := by decide +kernel
theorem dJ_200 : decode code 200 = .ok (.iconst 3, 1) := by decide +kernel
theorem dJ_201 : decode code 201 = .ok (.iadd, 1) := by decide +kernel
theorem dJ_202 : decode code 202 = .ok (.iaload, 1) := by decide +kernel
theorem dJ_203 : decode code 203 = .ok (.aload_n 0, 1) := by decide +kernel
theorem dJ_204 : decode code 204 = .ok (.iload 4, 2) := by decide +kernel
theorem dJ_206 : decode code 206 = .ok (.iconst 4, 1) := by decide +kernel
theorem dJ_207 : decode code 207 = .ok (.iadd, 1) := by decide +kernel
theorem dJ_208 : decode code 208 = .ok (.iaload, 1) := by decide +kernel
theorem dJ_209 : decode code 209 = .ok (.aload_n 3, 1) := by decide +kernel
theorem dJ_210 : decode code 210 = .ok (.invokestatic 41, 3) := by decide +kernel
theorem dJ_213 : decode code 213 = .ok (.istore 5, 2) := by decide +kernel
theorem dJ_215 : decode code 215 = .ok (.aload_n 2, 1) := by decide +kernel
theorem dJ_216 : decode code 216 = .ok (.aload_n 0, 1) := by decide +kernel
theorem dJ_217 : decode code 217 = .ok (.iload 4, 2) := by decide +kernel
theorem dJ_219 : decode code 219 = .ok (.iconst 1, 1) := by decide +kernel
theorem dJ_220 : decode code 220 = .ok (.iadd, 1) := by decide +kernel
theorem dJ_221 : decode code 221 = .ok (.iaload, 1) := by decide +kernel
theorem dJ_222 : decode code 222 = .ok (.aload_n 0, 1) := by decide +kernel
theorem dJ_223 : decode code 223 = .ok (.iload 4, 2) := by decide +kernel
theorem dJ_225 : decode code 225 = .ok (.iconst 2, 1) := by decide +kernel
theorem dJ_226 : decode code 226 = .ok (.iadd, 1) := by decide +kernel
theorem dJ_227 : decode code 227 = .ok (.iaload, 1) := by decide +kernel
theorem dJ_228 : decode code 228 = .ok (.aload_n 0, 1) := by decide +kernel
theorem dJ_229 : decode code 229 = .ok (.iload 4, 2) := by decide +kernel
theorem dJ_231 : decode code 231 = .ok (.iconst 3, 1) := by decide +kernel
theorem dJ_232 : decode code 232 = .ok (.iadd, 1) := by decide +kernel
theorem dJ_233 : decode code 233 = .ok (.iaload, 1) := by decide +kernel
theorem dJ_234 : decode code 234 = .ok (.aload_n 0, 1) := by decide +kernel
theorem dJ_235 : decode code 235 = .ok (.iload 4, 2) := by decide +kernel
theorem dJ_237 : decode code 237 = .ok (.iconst 4, 1) := by decide +kernel
theorem dJ_238 : decode code 238 = .ok (.iadd, 1) := by decide +kernel
theorem dJ_239 : decode code 239 = .ok (.iaload, 1) := by decide +kernel
theorem dJ_240 : decode code 240 = .ok (.invokevirtual 44, 3) := by decide +kernel
theorem dJ_243 : decode code 243 = .ok (.istore 6, 2) := by decide +kernel
theorem dJ_245 : decode code 245 = .ok (.aload_n 2, 1) := by decide +kernel
theorem dJ_246 : decode code 246 = .ok (.invokevirtual 37, 3) := by decide +kernel
theorem dJ_249 : decode code 249 = .ok (.iload 5, 2) := by decide +kernel
theorem dJ_251 : decode code 251 = .ok (.if_icmp .eq 5, 3) := by decide +kernel
theorem dJ_254 : decode code 254 = .ok (.iconst 0, 1) := by decide +kernel
theorem dJ_255 : decode code 255 = .ok (.ireturn, 1) := by decide +kernel
theorem dJ_256 : decode code 256 = .ok (.iload 5, 2) := by decide +kernel
theorem dJ_258 : decode code 258 = .ok (.ifCond .ne 15, 3) := by decide +kernel
theorem dJ_261 : decode code 261 = .ok (.aload_n 3, 1) := by decide +kernel
theorem dJ_262 : decode code 262 = .ok (.iconst 0, 1) := by decide +kernel
theorem dJ_263 : decode code 263 = .ok (.laload, 1) := by decide +kernel
theorem dJ_264 : decode code 264 = .ok (.iload 6, 2) := by decide +kernel
theorem dJ_266 : decode code 266 = .ok (.i2l, 1) := by decide +kernel
theorem dJ_267 : decode code 267 = .ok (.lcmp, 1) := by decide +kernel
theorem dJ_268 : decode code 268 = .ok (.ifCond .eq 5, 3) := by decide +kernel
theorem dJ_271 : decode code 271 = .ok (.iconst 0, 1) := by decide +kernel
theorem dJ_272 : decode code 272 = .ok (.ireturn, 1) := by decide +kernel
theorem dJ_273 : decode code 273 = .ok (.goto 499, 3) := by decide +kernel
theorem dJ_276 : decode code 276 = .ok (.aload_n 1, 1) := by decide +kernel
theorem dJ_277 : decode code 277 = .ok (.aload_n 0, 1) := by decide +kernel
theorem dJ_278 : decode code 278 = .ok (.iload 4, 2) := by decide +kernel
theorem dJ_280 : decode code 280 = .ok (.iconst 1, 1) := by decide +kernel
theorem dJ_281 : decode code 281 = .ok (.iadd, 1) := by decide +kernel
theorem dJ_282 : decode code 282 = .ok (.iaload, 1) := by decide +kernel
theorem dJ_283 : decode code 283 = .ok (.aload_n 0, 1) := by decide +kernel
theorem dJ_284 : decode code 284 = .ok (.iload 4, 2) := by decide +kernel
theorem dJ_286 : decode code 286 = .ok (.iconst 2, 1) := by decide +kernel
theorem dJ_287 : decode code 287 = .ok (.iadd, 1) := by decide +kernel
theorem dJ_288 : decode code 288 = .ok (.iaload, 1) := by decide +kernel
theorem dJ_289 : decode code 289 = .ok (.aload_n 0, 1) := by decide +kernel
theorem dJ_290 : decode code 290 = .ok (.iload 4, 2) := by decide +kernel
theorem dJ_292 : decode code 292 = .ok (.iconst 3, 1) := by decide +kernel
theorem dJ_293 : decode code 293 = .ok (.iadd, 1) := by decide +kernel
theorem dJ_294 : decode code 294 = .ok (.iaload, 1) := by decide +kernel
theorem dJ_295 : decode code 295 = .ok (.aload_n 0, 1) := by decide +kernel
theorem dJ_296 : decode code 296 = .ok (.iload 4, 2) := by decide +kernel
theorem dJ_298 : decode code 298 = .ok (.iconst 4, 1) := by decide +kernel
theorem dJ_299 : decode code 299 = .ok (.iadd, 1) := by decide +kernel
theorem dJ_300 : decode code 300 = .ok (.iaload, 1) := by decide +kernel
theorem dJ_301 : decode code 301 = .ok (.aload_n 3, 1) := by decide +kernel
theorem dJ_302 : decode code 302 = .ok (.invokestatic 45, 3) := by decide +kernel
theorem dJ_305 : decode code 305 = .ok (.istore 5, 2) := by decide +kernel
theorem dJ_307 : decode code 307 = .ok (.aload_n 2, 1) := by decide +kernel
theorem dJ_308 : decode code 308 = .ok (.aload_n 0, 1) := by decide +kernel
theorem dJ_309 : decode code 309 = .ok (.iload 4, 2) := by decide +kernel
theorem dJ_311 : decode code 311 = .ok (.iconst 1, 1) := by decide +kernel
theorem dJ_312 : decode code 312 = .ok (.iadd, 1) := by decide +kernel
theorem dJ_313 : decode code 313 = .ok (.iaload, 1) := by decide +kernel
theorem dJ_314 : decode code 314 = .ok (.aload_n 0, 1) := by decide +kernel
theorem dJ_315 : decode code 315 = .ok (.iload 4, 2) := by decide +kernel
theorem dJ_317 : decode code 317 = .ok (.iconst 2, 1) := by decide +kernel
theorem dJ_318 : decode code 318 = .ok (.iadd, 1) := by decide +kernel
theorem dJ_319 : decode code 319 = .ok (.iaload, 1) := by decide +kernel
theorem dJ_320 : decode code 320 = .ok (.aload_n 0, 1) := by decide +kernel
theorem dJ_321 : decode code 321 = .ok (.iload 4, 2) := by decide +kernel
theorem dJ_323 : decode code 323 = .ok (.iconst 3, 1) := by decide +kernel
theorem dJ_324 : decode code 324 = .ok (.iadd, 1) := by decide +kernel
theorem dJ_325 : decode code 325 = .ok (.iaload, 1) := by decide +kernel
theorem dJ_326 : decode code 326 = .ok (.aload_n 0, 1) := by decide +kernel
theorem dJ_327 : decode code 327 = .ok (.iload 4, 2) := by decide +kernel
theorem dJ_329 : decode code 329 = .ok (.iconst 4, 1) := by decide +kernel
theorem dJ_330 : decode code 330 = .ok (.iadd, 1) := by decide +kernel
theorem dJ_331 : decode code 331 = .ok (.iaload, 1) := by decide +kernel
theorem dJ_332 : decode code 332 = .ok (.invokevirtual 47, 3) := by decide +kernel
theorem dJ_335 : decode code 335 = .ok (.istore 6, 2) := by decide +kernel
theorem dJ_337 : decode code 337 = .ok (.aload_n 2, 1) := by decide +kernel
theorem dJ_338 : decode code 338 = .ok (.invokevirtual 37, 3) := by decide +kernel
theorem dJ_341 : decode code 341 = .ok (.iload 5, 2) := by decide +kernel
theorem dJ_343 : decode code 343 = .ok (.if_icmp .eq 5, 3) := by decide +kernel
theorem dJ_346 : decode code 346 = .ok (.iconst 0, 1) := by decide +kernel
theorem dJ_347 : decode code 347 = .ok (.ireturn, 1) := by decide +kernel
theorem dJ_348 : decode code 348 = .ok (.iload 5, 2) := by decide +kernel
theorem dJ_350 : decode code 350 = .ok (.ifCond .ne 15, 3) := by decide +kernel
theorem dJ_353 : decode code 353 = .ok (.aload_n 3, 1) := by decide +kernel
theorem dJ_354 : decode code 354 = .ok (.iconst 0, 1) := by decide +kernel
theorem dJ_355 : decode code 355 = .ok (.laload, 1) := by decide +kernel
theorem dJ_356 : decode code 356 = .ok (.iload 6, 2) := by decide +kernel
theorem dJ_358 : decode code 358 = .ok (.i2l, 1) := by decide +kernel
theorem dJ_359 : decode code 359 = .ok (.lcmp, 1) := by decide +kernel
theorem dJ_360 : decode code 360 = .ok (.ifCond .eq 5, 3) := by decide +kernel
theorem dJ_363 : decode code 363 = .ok (.iconst 0, 1) := by decide +kernel
theorem dJ_364 : decode code 364 = .ok (.ireturn, 1) := by decide +kernel
theorem dJ_365 : decode code 365 = .ok (.goto 407, 3) := by decide +kernel
theorem dJ_368 : decode code 368 = .ok (.aload_n 1, 1) := by decide +kernel
theorem dJ_369 : decode code 369 = .ok (.aload_n 0, 1) := by decide +kernel
theorem dJ_370 : decode code 370 = .ok (.iload 4, 2) := by decide +kernel
theorem dJ_372 : decode code 372 = .ok (.iconst 1, 1) := by decide +kernel
theorem dJ_373 : decode code 373 = .ok (.iadd, 1) := by decide +kernel
theorem dJ_374 : decode code 374 = .ok (.iaload, 1) := by decide +kernel
theorem dJ_375 : decode code 375 = .ok (.invokevirtual 48, 3) := by decide +kernel
theorem dJ_378 : decode code 378 = .ok (.aload_n 2, 1) := by decide +kernel
theorem dJ_379 : decode code 379 = .ok (.aload_n 0, 1) := by decide +kernel
theorem dJ_380 : decode code 380 = .ok (.iload 4, 2) := by decide +kernel
theorem dJ_382 : decode code 382 = .ok (.iconst 1, 1) := by decide +kernel
theorem dJ_383 : decode code 383 = .ok (.iadd, 1) := by decide +kernel
theorem dJ_384 : decode code 384 = .ok (.iaload, 1) := by decide +kernel
theorem dJ_385 : decode code 385 = .ok (.invokevirtual 52, 3) := by decide +kernel
theorem dJ_388 : decode code 388 = .ok (.if_icmp .eq 384, 3) := by decide +kernel
theorem dJ_391 : decode code 391 = .ok (.iconst 0, 1) := by decide +kernel
theorem dJ_392 : decode code 392 = .ok (.ireturn, 1) := by decide +kernel
theorem dJ_393 : decode code 393 = .ok (.aload_n 1, 1) := by decide +kernel
theorem dJ_394 : decode code 394 = .ok (.aload_n 0, 1) := by decide +kernel
theorem dJ_395 : decode code 395 = .ok (.iload 4, 2) := by decide +kernel
theorem dJ_397 : decode code 397 = .ok (.iconst 1, 1) := by decide +kernel
theorem dJ_398 : decode code 398 = .ok (.iadd, 1) := by decide +kernel
theorem dJ_399 : decode code 399 = .ok (.iaload, 1) := by decide +kernel
theorem dJ_400 : decode code 400 = .ok (.aload_n 0, 1) := by decide +kernel
theorem dJ_401 : decode code 401 = .ok (.iload 4, 2) := by decide +kernel
theorem dJ_403 : decode code 403 = .ok (.iconst 2, 1) := by decide +kernel
theorem dJ_404 : decode code 404 = .ok (.iadd, 1) := by decide +kernel
theorem dJ_405 : decode code 405 = .ok (.iaload, 1) := by decide +kernel
theorem dJ_406 : decode code 406 = .ok (.aload_n 3, 1) := by decide +kernel
theorem dJ_407 : decode code 407 = .ok (.invokestatic 53, 3) := by decide +kernel
theorem dJ_410 : decode code 410 = .ok (.istore 5, 2) := by decide +kernel
theorem dJ_412 : decode code 412 = .ok (.aload_n 2, 1) := by decide +kernel
theorem dJ_413 : decode code 413 = .ok (.aload_n 0, 1) := by decide +kernel
theorem dJ_414 : decode code 414 = .ok (.iload 4, 2) := by decide +kernel
theorem dJ_416 : decode code 416 = .ok (.iconst 1, 1) := by decide +kernel
theorem dJ_417 : decode code 417 = .ok (.iadd, 1) := by decide +kernel
theorem dJ_418 : decode code 418 = .ok (.iaload, 1) := by decide +kernel
theorem dJ_419 : decode code 419 = .ok (.aload_n 0, 1) := by decide +kernel
theorem dJ_420 : decode code 420 = .ok (.iload 4, 2) := by decide +kernel
theorem dJ_422 : decode code 422 = .ok (.iconst 2, 1) := by decide +kernel
theorem dJ_423 : decode code 423 = .ok (.iadd, 1) := by decide +kernel
theorem dJ_424 : decode code 424 = .ok (.iaload, 1) := by decide +kernel
theorem dJ_425 : decode code 425 = .ok (.invokevirtual 55, 3) := by decide +kernel
theorem dJ_428 : decode code 428 = .ok (.istore 6, 2) := by decide +kernel
theorem dJ_430 : decode code 430 = .ok (.aload_n 2, 1) := by decide +kernel
theorem dJ_431 : decode code 431 = .ok (.invokevirtual 37, 3) := by decide +kernel
theorem dJ_434 : decode code 434 = .ok (.iload 5, 2) := by decide +kernel
theorem dJ_436 : decode code 436 = .ok (.if_icmp .eq 5, 3) := by decide +kernel
theorem dJ_439 : decode code 439 = .ok (.iconst 0, 1) := by decide +kernel
theorem dJ_440 : decode code 440 = .ok (.ireturn, 1) := by decide +kernel
theorem dJ_441 : decode code 441 = .ok (.iload 5, 2) := by decide +kernel
theorem dJ_443 : decode code 443 = .ok (.ifCond .ne 15, 3) := by decide +kernel
theorem dJ_446 : decode code 446 = .ok (.aload_n 3, 1) := by decide +kernel
theorem dJ_447 : decode code 447 = .ok (.iconst 0, 1) := by decide +kernel
theorem dJ_448 : decode code 448 = .ok (.laload, 1) := by decide +kernel
theorem dJ_449 : decode code 449 = .ok (.iload 6, 2) := by decide +kernel
theorem dJ_451 : decode code 451 = .ok (.i2l, 1) := by decide +kernel
theorem dJ_452 : decode code 452 = .ok (.lcmp, 1) := by decide +kernel
theorem dJ_453 : decode code 453 = .ok (.ifCond .eq 5, 3) := by decide +kernel
theorem dJ_456 : decode code 456 = .ok (.iconst 0, 1) := by decide +kernel
theorem dJ_457 : decode code 457 = .ok (.ireturn, 1) := by decide +kernel
theorem dJ_458 : decode code 458 = .ok (.goto 314, 3) := by decide +kernel
theorem dJ_461 : decode code 461 = .ok (.aload_n 1, 1) := by decide +kernel
theorem dJ_462 : decode code 462 = .ok (.invokevirtual 56, 3) := by decide +kernel
theorem dJ_465 : decode code 465 = .ok (.aload_n 2, 1) := by decide +kernel
theorem dJ_466 : decode code 466 = .ok (.invokevirtual 59, 3) := by decide +kernel
theorem dJ_469 : decode code 469 = .ok (.if_icmp .eq 303, 3) := by decide +kernel
theorem dJ_472 : decode code 472 = .ok (.iconst 0, 1) := by decide +kernel
theorem dJ_473 : decode code 473 = .ok (.ireturn, 1) := by decide +kernel
theorem dJ_474 : decode code 474 = .ok (.aload_n 1, 1) := by decide +kernel
theorem dJ_475 : decode code 475 = .ok (.aload_n 0, 1) := by decide +kernel
theorem dJ_476 : decode code 476 = .ok (.iload 4, 2) := by decide +kernel
theorem dJ_478 : decode code 478 = .ok (.iconst 1, 1) := by decide +kernel
theorem dJ_479 : decode code 479 = .ok (.iadd, 1) := by decide +kernel
theorem dJ_480 : decode code 480 = .ok (.iaload, 1) := by decide +kernel
theorem dJ_481 : decode code 481 = .ok (.invokevirtual 60, 3) := by decide +kernel
theorem dJ_484 : decode code 484 = .ok (.aload_n 2, 1) := by decide +kernel
theorem dJ_485 : decode code 485 = .ok (.aload_n 0, 1) := by decide +kernel
theorem dJ_486 : decode code 486 = .ok (.iload 4, 2) := by decide +kernel
theorem dJ_488 : decode code 488 = .ok (.iconst 1, 1) := by decide +kernel
theorem dJ_489 : decode code 489 = .ok (.iadd, 1) := by decide +kernel
theorem dJ_490 : decode code 490 = .ok (.iaload, 1) := by decide +kernel
theorem dJ_491 : decode code 491 = .ok (.invokevirtual 64, 3) := by decide +kernel
theorem dJ_494 : decode code 494 = .ok (.if_icmp .eq 278, 3) := by decide +kernel
theorem dJ_497 : decode code 497 = .ok (.iconst 0, 1) := by decide +kernel
theorem dJ_498 : decode code 498 = .ok (.ireturn, 1) := by decide +kernel
theorem dJ_499 : decode code 499 = .ok (.aload_n 1, 1) := by decide +kernel
theorem dJ_500 : decode code 500 = .ok (.aload_n 0, 1) := by decide +kernel
theorem dJ_501 : decode code 501 = .ok (.iload 4, 2) := by decide +kernel
theorem dJ_503 : decode code 503 = .ok (.iconst 1, 1) := by decide +kernel
theorem dJ_504 : decode code 504 = .ok (.iadd, 1) := by decide +kernel
theorem dJ_505 : decode code 505 = .ok (.iaload, 1) := by decide +kernel
theorem dJ_506 : decode code 506 = .ok (.invokevirtual 65, 3) := by decide +kernel
theorem dJ_509 : decode code 509 = .ok (.aload_n 2, 1) := by decide +kernel
theorem dJ_510 : decode code 510 = .ok (.aload_n 0, 1) := by decide +kernel
theorem dJ_511 : decode code 511 = .ok (.iload 4, 2) := by decide +kernel
theorem dJ_513 : decode code 513 = .ok (.iconst 1, 1) := by decide +kernel
theorem dJ_514 : decode code 514 = .ok (.iadd, 1) := by decide +kernel
theorem dJ_515 : decode code 515 = .ok (.iaload, 1) := by decide +kernel
theorem dJ_516 : decode code 516 = .ok (.invokevirtual 68, 3) := by decide +kernel
theorem dJ_519 : decode code 519 = .ok (.if_icmp .eq 253, 3) := by decide +kernel
theorem dJ_522 : decode code 522 = .ok (.iconst 0, 1) := by decide +kernel
theorem dJ_523 : decode code 523 = .ok (.ireturn, 1) := by decide +kernel
theorem dJ_524 : decode code 524 = .ok (.aload_n 1, 1) := by decide +kernel
theorem dJ_525 : decode code 525 = .ok (.aload_n 0, 1) := by decide +kernel
theorem dJ_526 : decode code 526 = .ok (.iload 4, 2) := by decide +kernel
theorem dJ_528 : decode code 528 = .ok (.iconst 1, 1) := by decide +kernel
theorem dJ_529 : decode code 529 = .ok (.iadd, 1) := by decide +kernel
theorem dJ_530 : decode code 530 = .ok (.iaload, 1) := by decide +kernel
theorem dJ_531 : decode code 531 = .ok (.aload_n 0, 1) := by decide +kernel
theorem dJ_532 : decode code 532 = .ok (.iload 4, 2) := by decide +kernel
theorem dJ_534 : decode code 534 = .ok (.iconst 2, 1) := by decide +kernel
theorem dJ_535 : decode code 535 = .ok (.iadd, 1) := by decide +kernel
theorem dJ_536 : decode code 536 = .ok (.iaload, 1) := by decide +kernel
theorem dJ_537 : decode code 537 = .ok (.invokevirtual 69, 3) := by decide +kernel
theorem dJ_540 : decode code 540 = .ok (.aload_n 2, 1) := by decide +kernel
theorem dJ_541 : decode code 541 = .ok (.aload_n 0, 1) := by decide +kernel
theorem dJ_542 : decode code 542 = .ok (.iload 4, 2) := by decide +kernel
theorem dJ_544 : decode code 544 = .ok (.iconst 1, 1) := by decide +kernel
theorem dJ_545 : decode code 545 = .ok (.iadd, 1) := by decide +kernel
theorem dJ_546 : decode code 546 = .ok (.iaload, 1) := by decide +kernel
theorem dJ_547 : decode code 547 = .ok (.aload_n 0, 1) := by decide +kernel
theorem dJ_548 : decode code 548 = .ok (.iload 4, 2) := by decide +kernel
theorem dJ_550 : decode code 550 = .ok (.iconst 2, 1) := by decide +kernel
theorem dJ_551 : decode code 551 = .ok (.iadd, 1) := by decide +kernel
theorem dJ_552 : decode code 552 = .ok (.iaload, 1) := by decide +kernel
theorem dJ_553 : decode code 553 = .ok (.invokevirtual 72, 3) := by decide +kernel
theorem dJ_556 : decode code 556 = .ok (.if_icmp .eq 216, 3) := by decide +kernel
theorem dJ_559 : decode code 559 = .ok (.iconst 0, 1) := by decide +kernel
theorem dJ_560 : decode code 560 = .ok (.ireturn, 1) := by decide +kernel
theorem dJ_561 : decode code 561 = .ok (.aload_n 1, 1) := by decide +kernel
theorem dJ_562 : decode code 562 = .ok (.aload_n 0, 1) := by decide +kernel
theorem dJ_563 : decode code 563 = .ok (.iload 4, 2) := by decide +kernel
theorem dJ_565 : decode code 565 = .ok (.iconst 1, 1) := by decide +kernel
theorem dJ_566 : decode code 566 = .ok (.iadd, 1) := by decide +kernel
theorem dJ_567 : decode code 567 = .ok (.iaload, 1) := by decide +kernel
theorem dJ_568 : decode code 568 = .ok (.aload_n 0, 1) := by decide +kernel
theorem dJ_569 : decode code 569 = .ok (.iload 4, 2) := by decide +kernel
theorem dJ_571 : decode code 571 = .ok (.iconst 2, 1) := by decide +kernel
theorem dJ_572 : decode code 572 = .ok (.iadd, 1) := by decide +kernel
theorem dJ_573 : decode code 573 = .ok (.iaload, 1) := by decide +kernel
theorem dJ_574 : decode code 574 = .ok (.aload_n 0, 1) := by decide +kernel
theorem dJ_575 : decode code 575 = .ok (.iload 4, 2) := by decide +kernel
theorem dJ_577 : decode code 577 = .ok (.iconst 3, 1) := by decide +kernel
theorem dJ_578 : decode code 578 = .ok (.iadd, 1) := by decide +kernel
theorem dJ_579 : decode code 579 = .ok (.iaload, 1) := by decide +kernel
theorem dJ_580 : decode code 580 = .ok (.invokevirtual 73, 3) := by decide +kernel
theorem dJ_583 : decode code 583 = .ok (.aload_n 2, 1) := by decide +kernel
theorem dJ_584 : decode code 584 = .ok (.aload_n 0, 1) := by decide +kernel
theorem dJ_585 : decode code 585 = .ok (.iload 4, 2) := by decide +kernel
theorem dJ_587 : decode code 587 = .ok (.iconst 1, 1) := by decide +kernel
theorem dJ_588 : decode code 588 = .ok (.iadd, 1) := by decide +kernel
theorem dJ_589 : decode code 589 = .ok (.iaload, 1) := by decide +kernel
theorem dJ_590 : decode code 590 = .ok (.aload_n 0, 1) := by decide +kernel
theorem dJ_591 : decode code 591 = .ok (.iload 4, 2) := by decide +kernel
theorem dJ_593 : decode code 593 = .ok (.iconst 2, 1) := by decide +kernel
theorem dJ_594 : decode code 594 = .ok (.iadd, 1) := by decide +kernel
theorem dJ_595 : decode code 595 = .ok (.iaload, 1) := by decide +kernel
theorem dJ_596 : decode code 596 = .ok (.aload_n 0, 1) := by decide +kernel
theorem dJ_597 : decode code 597 = .ok (.iload 4, 2) := by decide +kernel
theorem dJ_599 : decode code 599 = .ok (.iconst 3, 1) := by decide +kernel
theorem dJ_600 : decode code 600 = .ok (.iadd, 1) := by decide +kernel
theorem dJ_601 : decode code 601 = .ok (.iaload, 1) := by decide +kernel
theorem dJ_602 : decode code 602 = .ok (.invokevirtual 77, 3) := by decide +kernel
theorem dJ_605 : decode code 605 = .ok (.if_icmp .eq 167, 3) := by decide +kernel
theorem dJ_608 : decode code 608 = .ok (.iconst 0, 1) := by decide +kernel
theorem dJ_609 : decode code 609 = .ok (.ireturn, 1) := by decide +kernel
theorem dJ_610 : decode code 610 = .ok (.aload_n 1, 1) := by decide +kernel
theorem dJ_611 : decode code 611 = .ok (.aload_n 0, 1) := by decide +kernel
theorem dJ_612 : decode code 612 = .ok (.iload 4, 2) := by decide +kernel
theorem dJ_614 : decode code 614 = .ok (.iconst 1, 1) := by decide +kernel
theorem dJ_615 : decode code 615 = .ok (.iadd, 1) := by decide +kernel
theorem dJ_616 : decode code 616 = .ok (.iaload, 1) := by decide +kernel
theorem dJ_617 : decode code 617 = .ok (.invokevirtual 78, 3) := by decide +kernel
theorem dJ_620 : decode code 620 = .ok (.aload_n 2, 1) := by decide +kernel
theorem dJ_621 : decode code 621 = .ok (.aload_n 0, 1) := by decide +kernel
theorem dJ_622 : decode code 622 = .ok (.iload 4, 2) := by decide +kernel
theorem dJ_624 : decode code 624 = .ok (.iconst 1, 1) := by decide +kernel
theorem dJ_625 : decode code 625 = .ok (.iadd, 1) := by decide +kernel
theorem dJ_626 : decode code 626 = .ok (.iaload, 1) := by decide +kernel
theorem dJ_627 : decode code 627 = .ok (.invokevirtual 81, 3) := by decide +kernel
theorem dJ_630 : decode code 630 = .ok (.if_icmp .eq 142, 3) := by decide +kernel
theorem dJ_633 : decode code 633 = .ok (.iconst 0, 1) := by decide +kernel
theorem dJ_634 : decode code 634 = .ok (.ireturn, 1) := by decide +kernel
theorem dJ_635 : decode code 635 = .ok (.aload_n 1, 1) := by decide +kernel
theorem dJ_636 : decode code 636 = .ok (.aload_n 0, 1) := by decide +kernel
theorem dJ_637 : decode code 637 = .ok (.iload 4, 2) := by decide +kernel
theorem dJ_639 : decode code 639 = .ok (.iconst 1, 1) := by decide +kernel
theorem dJ_640 : decode code 640 = .ok (.iadd, 1) := by decide +kernel
theorem dJ_641 : decode code 641 = .ok (.iaload, 1) := by decide +kernel
theorem dJ_642 : decode code 642 = .ok (.invokevirtual 82, 3) := by decide +kernel
theorem dJ_645 : decode code 645 = .ok (.aload_n 2, 1) := by decide +kernel
theorem dJ_646 : decode code 646 = .ok (.aload_n 0, 1) := by decide +kernel
theorem dJ_647 : decode code 647 = .ok (.iload 4, 2) := by decide +kernel
theorem dJ_649 : decode code 649 = .ok (.iconst 1, 1) := by decide +kernel
theorem dJ_650 : decode code 650 = .ok (.iadd, 1) := by decide +kernel
theorem dJ_651 : decode code 651 = .ok (.iaload, 1) := by decide +kernel
theorem dJ_652 : decode code 652 = .ok (.invokevirtual 85, 3) := by decide +kernel
theorem dJ_655 : decode code 655 = .ok (.if_icmp .eq 117, 3) := by decide +kernel
theorem dJ_658 : decode code 658 = .ok (.iconst 0, 1) := by decide +kernel
theorem dJ_659 : decode code 659 = .ok (.ireturn, 1) := by decide +kernel
theorem dJ_660 : decode code 660 = .ok (.aload_n 1, 1) := by decide +kernel
theorem dJ_661 : decode code 661 = .ok (.aload_n 0, 1) := by decide +kernel
theorem dJ_662 : decode code 662 = .ok (.iload 4, 2) := by decide +kernel
theorem dJ_664 : decode code 664 = .ok (.iconst 1, 1) := by decide +kernel
theorem dJ_665 : decode code 665 = .ok (.iadd, 1) := by decide +kernel
theorem dJ_666 : decode code 666 = .ok (.iaload, 1) := by decide +kernel
theorem dJ_667 : decode code 667 = .ok (.invokevirtual 86, 3) := by decide +kernel
theorem dJ_670 : decode code 670 = .ok (.aload_n 2, 1) := by decide +kernel
theorem dJ_671 : decode code 671 = .ok (.aload_n 0, 1) := by decide +kernel
theorem dJ_672 : decode code 672 = .ok (.iload 4, 2) := by decide +kernel
theorem dJ_674 : decode code 674 = .ok (.iconst 1, 1) := by decide +kernel
theorem dJ_675 : decode code 675 = .ok (.iadd, 1) := by decide +kernel
theorem dJ_676 : decode code 676 = .ok (.iaload, 1) := by decide +kernel
theorem dJ_677 : decode code 677 = .ok (.invokevirtual 89, 3) := by decide +kernel
theorem dJ_680 : decode code 680 = .ok (.if_icmp .eq 92, 3) := by decide +kernel
theorem dJ_683 : decode code 683 = .ok (.iconst 0, 1) := by decide +kernel
theorem dJ_684 : decode code 684 = .ok (.ireturn, 1) := by decide +kernel
theorem dJ_685 : decode code 685 = .ok (.aload_n 1, 1) := by decide +kernel
theorem dJ_686 : decode code 686 = .ok (.aload_n 0, 1) := by decide +kernel
theorem dJ_687 : decode code 687 = .ok (.iload 4, 2) := by decide +kernel
theorem dJ_689 : decode code 689 = .ok (.iconst 1, 1) := by decide +kernel
theorem dJ_690 : decode code 690 = .ok (.iadd, 1) := by decide +kernel
theorem dJ_691 : decode code 691 = .ok (.iaload, 1) := by decide +kernel
theorem dJ_692 : decode code 692 = .ok (.invokevirtual 90, 3) := by decide +kernel
theorem dJ_695 : decode code 695 = .ok (.aload_n 2, 1) := by decide +kernel
theorem dJ_696 : decode code 696 = .ok (.aload_n 0, 1) := by decide +kernel
theorem dJ_697 : decode code 697 = .ok (.iload 4, 2) := by decide +kernel
theorem dJ_699 : decode code 699 = .ok (.iconst 1, 1) := by decide +kernel
theorem dJ_700 : decode code 700 = .ok (.iadd, 1) := by decide +kernel
theorem dJ_701 : decode code 701 = .ok (.iaload, 1) := by decide +kernel
theorem dJ_702 : decode code 702 = .ok (.invokevirtual 93, 3) := by decide +kernel
theorem dJ_705 : decode code 705 = .ok (.if_icmp .eq 67, 3) := by decide +kernel
theorem dJ_708 : decode code 708 = .ok (.iconst 0, 1) := by decide +kernel
theorem dJ_709 : decode code 709 = .ok (.ireturn, 1) := by decide +kernel
theorem dJ_710 : decode code 710 = .ok (.aload_n 1, 1) := by decide +kernel
theorem dJ_711 : decode code 711 = .ok (.aload_n 0, 1) := by decide +kernel
theorem dJ_712 : decode code 712 = .ok (.iload 4, 2) := by decide +kernel
theorem dJ_714 : decode code 714 = .ok (.iconst 1, 1) := by decide +kernel
theorem dJ_715 : decode code 715 = .ok (.iadd, 1) := by decide +kernel
theorem dJ_716 : decode code 716 = .ok (.iaload, 1) := by decide +kernel
theorem dJ_717 : decode code 717 = .ok (.aload_n 0, 1) := by decide +kernel
theorem dJ_718 : decode code 718 = .ok (.iload 4, 2) := by decide +kernel
theorem dJ_720 : decode code 720 = .ok (.iconst 2, 1) := by decide +kernel
theorem dJ_721 : decode code 721 = .ok (.iadd, 1) := by decide +kernel
theorem dJ_722 : decode code 722 = .ok (.iaload, 1) := by decide +kernel
theorem dJ_723 : decode code 723 = .ok (.invokevirtual 94, 3) := by decide +kernel
theorem dJ_726 : decode code 726 = .ok (.aload_n 2, 1) := by decide +kernel
theorem dJ_727 : decode code 727 = .ok (.aload_n 0, 1) := by decide +kernel
theorem dJ_728 : decode code 728 = .ok (.iload 4, 2) := by decide +kernel
theorem dJ_730 : decode code 730 = .ok (.iconst 1, 1) := by decide +kernel
theorem dJ_731 : decode code 731 = .ok (.iadd, 1) := by decide +kernel
theorem dJ_732 : decode code 732 = .ok (.iaload, 1) := by decide +kernel
theorem dJ_733 : decode code 733 = .ok (.aload_n 0, 1) := by decide +kernel
theorem dJ_734 : decode code 734 = .ok (.iload 4, 2) := by decide +kernel
theorem dJ_736 : decode code 736 = .ok (.iconst 2, 1) := by decide +kernel
theorem dJ_737 : decode code 737 = .ok (.iadd, 1) := by decide +kernel
theorem dJ_738 : decode code 738 = .ok (.iaload, 1) := by decide +kernel
theorem dJ_739 : decode code 739 = .ok (.invokevirtual 97, 3) := by decide +kernel
theorem dJ_742 : decode code 742 = .ok (.if_icmp .eq 30, 3) := by decide +kernel
theorem dJ_745 : decode code 745 = .ok (.iconst 0, 1) := by decide +kernel
theorem dJ_746 : decode code 746 = .ok (.ireturn, 1) := by decide +kernel
theorem dJ_747 : decode code 747 = .ok (.aload_n 1, 1) := by decide +kernel
theorem dJ_748 : decode code 748 = .ok (.aload_n 0, 1) := by decide +kernel
theorem dJ_749 : decode code 749 = .ok (.iload 4, 2) := by decide +kernel
theorem dJ_751 : decode code 751 = .ok (.iconst 1, 1) := by decide +kernel
theorem dJ_752 : decode code 752 = .ok (.iadd, 1) := by decide +kernel
theorem dJ_753 : decode code 753 = .ok (.iaload, 1) := by decide +kernel
theorem dJ_754 : decode code 754 = .ok (.invokevirtual 98, 3) := by decide +kernel
theorem dJ_757 : decode code 757 = .ok (.aload_n 2, 1) := by decide +kernel
theorem dJ_758 : decode code 758 = .ok (.aload_n 0, 1) := by decide +kernel
theorem dJ_759 : decode code 759 = .ok (.iload 4, 2) := by decide +kernel
theorem dJ_761 : decode code 761 = .ok (.iconst 1, 1) := by decide +kernel
theorem dJ_762 : decode code 762 = .ok (.iadd, 1) := by decide +kernel
theorem dJ_763 : decode code 763 = .ok (.iaload, 1) := by decide +kernel
theorem dJ_764 : decode code 764 = .ok (.invokevirtual 101, 3) := by decide +kernel
theorem dJ_767 : decode code 767 = .ok (.if_icmp .eq 5, 3) := by decide +kernel
theorem dJ_770 : decode code 770 = .ok (.iconst 0, 1) := by decide +kernel
theorem dJ_771 : decode code 771 = .ok (.ireturn, 1) := by decide +kernel
theorem dJ_772 : decode code 772 = .ok (.iinc 4 5, 3) := by decide +kernel
theorem dJ_775 : decode code 775 = .ok (.goto (-752), 3) := by decide +kernel
theorem dJ_778 : decode code 778 = .ok (.iconst 1, 1) := by decide +kernel
theorem dJ_779 : decode code 779 = .ok (.ireturn, 1) := by decide +kernel
