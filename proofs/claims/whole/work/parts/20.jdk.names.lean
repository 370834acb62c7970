theorem gAL : ew_G TAL 3 tyAL := ⟨by decide +kernel, by decide +kernel⟩
theorem uAL_0 : u_lay RAL TAL 0 ∈ WS := kw_236
theorem uAL_1 : u_lay RAL TAL 1 ∈ WS := kw_232
theorem uAL_2 : u_lay RAL TAL 2 ∈ WS := kw_234
theorem usAL : ∀ k, k < 3 → u_lay RAL TAL k ∈ WS
  | 0, _ => uAL_0
  | 1, _ => uAL_1
  | 2, _ => uAL_2
  | k + 3, h => absurd h (by omega)
theorem ulAL : ∀ w ∈ u_ws RAL TAL 3, w ∈ WS := fun w h => by
  obtain ⟨k, hk, rfl⟩ := List.mem_map.mp h
  exact usAL k (List.mem_range.mp hk)
abbrev cAL_size : ByteArray := prog_28_method_8_code
def yAL_size : MethodName := ⟨"java/util/ArrayList", "size", "()I"⟩
abbrev wsAL_size : List Cond := .code yAL_size cAL_size 1 (some .int) :: WS
abbrev cAL_get : ByteArray := prog_28_method_20_code
def yAL_get : MethodName := ⟨"java/util/ArrayList", "get", "(I)Ljava/lang/Object;"⟩
abbrev wsAL_get : List Cond := .code yAL_get cAL_get 2 (some (.object "java/lang/Object")) :: WS
abbrev cOb_checkIndex : ByteArray := prog_32_method_17_code
def yOb_checkIndex : MethodName := ⟨"java/util/Objects", "checkIndex", "(II)I"⟩
abbrev wsOb_checkIndex : List Cond := .code yOb_checkIndex cOb_checkIndex 2 (some .int) :: WS
abbrev cPr_checkIndex : ByteArray := prog_36_method_11_code
def yPr_checkIndex : MethodName := ⟨"jdk/internal/util/Preconditions", "checkIndex", "(IILjava/util/function/BiFunction;)I"⟩
abbrev wsPr_checkIndex : List Cond := .code yPr_checkIndex cPr_checkIndex 3 (some .int) :: WS
abbrev cAL_elementData : ByteArray := prog_28_method_18_code
def yAL_elementData : MethodName := ⟨"java/util/ArrayList", "elementData", "(I)Ljava/lang/Object;"⟩
abbrev wsAL_elementData : List Cond := .code yAL_elementData cAL_elementData 2 (some (.object "java/lang/Object")) :: WS
abbrev cAL_init : ByteArray := prog_28_method_2_code
def yAL_init : MethodName := ⟨"java/util/ArrayList", "<init>", "()V"⟩
abbrev wsAL_init : List Cond := .code yAL_init cAL_init 1 none :: WS
abbrev cAb_init : ByteArray := prog_27_method_1_code
def yAb_init : MethodName := ⟨"java/util/AbstractList", "<init>", "()V"⟩
abbrev wsAb_init : List Cond := .code yAb_init cAb_init 1 none :: WS
abbrev cAc_init : ByteArray := prog_26_method_1_code
def yAc_init : MethodName := ⟨"java/util/AbstractCollection", "<init>", "()V"⟩
abbrev wsAc_init : List Cond := .code yAc_init cAc_init 1 none :: WS
abbrev cAL_add : ByteArray := prog_28_method_25_code
def yAL_add : MethodName := ⟨"java/util/ArrayList", "add", "(Ljava/lang/Object;)Z"⟩
abbrev wsAL_add : List Cond := .code yAL_add cAL_add 2 (some .boolean) :: WS
abbrev cAL_add3 : ByteArray := prog_28_method_24_code
def yAL_add3 : MethodName := ⟨"java/util/ArrayList", "add", "(Ljava/lang/Object;[Ljava/lang/Object;I)V"⟩
abbrev wsAL_add3 : List Cond := .code yAL_add3 cAL_add3 4 none :: WS
abbrev cAL_grow0 : ByteArray := prog_28_method_7_code
def yAL_grow0 : MethodName := ⟨"java/util/ArrayList", "grow", "()[Ljava/lang/Object;"⟩
abbrev wsAL_grow0 : List Cond := .code yAL_grow0 cAL_grow0 1 (some (.array (.object "java/lang/Object"))) :: WS
abbrev cAL_grow1 : ByteArray := prog_28_method_6_code
def yAL_grow1 : MethodName := ⟨"java/util/ArrayList", "grow", "(I)[Ljava/lang/Object;"⟩
abbrev wsAL_grow1 : List Cond := .code yAL_grow1 cAL_grow1 4 (some (.array (.object "java/lang/Object"))) :: WS
abbrev cAs_newLength : ByteArray := prog_35_method_27_code
def yAs_newLength : MethodName := ⟨"jdk/internal/util/ArraysSupport", "newLength", "(III)I"⟩
abbrev wsAs_newLength : List Cond := .code yAs_newLength cAs_newLength 4 (some .int) :: WS
abbrev cAs_hugeLength : ByteArray := prog_35_method_28_code
def yAs_hugeLength : MethodName := ⟨"jdk/internal/util/ArraysSupport", "hugeLength", "(II)I"⟩
abbrev wsAs_hugeLength : List Cond := .code yAs_hugeLength cAs_hugeLength 3 (some .int) :: WS
abbrev cAr_copyOf : ByteArray := prog_29_method_119_code
def yAr_copyOf : MethodName := ⟨"java/util/Arrays", "copyOf", "([Ljava/lang/Object;I)[Ljava/lang/Object;"⟩
abbrev wsAr_copyOf : List Cond := .code yAr_copyOf cAr_copyOf 2 (some (.array (.object "java/lang/Object"))) :: WS
abbrev cAr_copyOf3 : ByteArray := prog_29_method_120_code
def yAr_copyOf3 : MethodName := ⟨"java/util/Arrays", "copyOf", "([Ljava/lang/Object;ILjava/lang/Class;)[Ljava/lang/Object;"⟩
abbrev wsAr_copyOf3 : List Cond := .code yAr_copyOf3 cAr_copyOf3 4 (some (.array (.object "java/lang/Object"))) :: WS
theorem gL_149 : GoodIn WS (wsV "LoanLetters" 149 "java/util/ArrayList" yAL_size wsAL_size) := WS_V kw_156 kw_138 kw_139 kw_17 kw_140
theorem gL_155 : GoodIn WS (wsV "LoanLetters" 155 "java/util/ArrayList" yAL_get wsAL_get) := WS_V kw_157 kw_142 kw_143 kw_17 kw_144
theorem gSide_9 : GoodIn WS wsAL_init ∧ Cond.methodLink "LoanLetters$Side" 9 yAL_init ∈ WS ∧ Cond.instanceMethod yAL_init ∈ WS ∧ Cond.initialized "java/util/ArrayList" ∈ WS := ⟨WS_cons kw_217, kw_215, kw_216, kw_17⟩
theorem gSide_26 : GoodIn WS (wsV "LoanLetters$Side" 26 "java/util/ArrayList" yAL_size wsAL_size) := WS_V kw_137 kw_138 kw_139 kw_17 kw_140
theorem gSide_35 : GoodIn WS (wsV "LoanLetters$Side" 35 "java/util/ArrayList" yAL_add wsAL_add) := WS_V kw_302 kw_303 kw_304 kw_17 kw_305
theorem gSide_39 : GoodIn WS (wsV "LoanLetters$Side" 39 "java/util/ArrayList" yAL_get wsAL_get) := WS_V kw_141 kw_142 kw_143 kw_17 kw_144
theorem gAb_1 : GoodIn WS wsAc_init ∧ Cond.methodLink "java/util/AbstractList" 1 yAc_init ∈ WS ∧ Cond.instanceMethod yAc_init ∈ WS ∧ Cond.initialized "java/util/AbstractCollection" ∈ WS := ⟨WS_cons kw_223, kw_221, kw_222, kw_15⟩
theorem gAL_1 : GoodIn WS wsAb_init ∧ Cond.methodLink "java/util/ArrayList" 1 yAb_init ∈ WS ∧ Cond.instanceMethod yAb_init ∈ WS ∧ Cond.initialized "java/util/AbstractList" ∈ WS := ⟨WS_cons kw_220, kw_218, kw_219, kw_16⟩
theorem fAL_9 : ew_F WS vwCl "java/util/ArrayList" 9 8 RAL TAL 3 1 := ⟨ulAL, rfl, by decide, kw_227⟩
theorem fAL_48 : ew_F WS vwCl "java/util/ArrayList" 48 8 RAL TAL 3 2 := ⟨ulAL, rfl, by decide, kw_228⟩
theorem gAL_66 : GoodIn WS wsAr_copyOf ∧ Cond.methodLink "java/util/ArrayList" 66 yAr_copyOf ∈ WS ∧ Cond.static yAr_copyOf ∈ WS ∧ Cond.initialized "java/util/Arrays" ∈ WS := ⟨WS_cons kw_328, kw_326, kw_327, kw_20⟩
theorem gAL_69 : GoodIn WS (wsV "java/util/ArrayList" 69 "java/util/ArrayList" yAL_grow1 wsAL_grow1) := WS_V kw_314 kw_316 ks_7 kw_17 kw_317
theorem gAL_73 : GoodIn WS wsAs_newLength ∧ Cond.methodLink "java/util/ArrayList" 73 yAs_newLength ∈ WS ∧ Cond.static yAs_newLength ∈ WS ∧ Cond.initialized "jdk/internal/util/ArraysSupport" ∈ WS := ⟨WS_cons kw_320, kw_318, kw_319, kw_18⟩
theorem gAL_118 : GoodIn WS wsOb_checkIndex ∧ Cond.methodLink "java/util/ArrayList" 118 yOb_checkIndex ∈ WS ∧ Cond.static yOb_checkIndex ∈ WS ∧ Cond.initialized "java/util/Objects" ∈ WS := ⟨WS_cons kw_147, kw_145, kw_146, kw_23⟩
theorem gAL_123 : GoodIn WS (wsV "java/util/ArrayList" 123 "java/util/ArrayList" yAL_elementData wsAL_elementData) := WS_V kw_151 kw_152 kw_153 kw_17 kw_154
theorem gAL_129 : GoodIn WS (wsV "java/util/ArrayList" 129 "java/util/ArrayList" yAL_grow0 wsAL_grow0) := WS_V kw_310 kw_312 ks_6 kw_17 kw_313
theorem gAL_131 : GoodIn WS (wsV "java/util/ArrayList" 131 "java/util/ArrayList" yAL_add3 wsAL_add3) := WS_V kw_306 kw_308 ks_5 kw_17 kw_309
theorem gAr_300 : GoodIn WS wsAr_copyOf3 ∧ Cond.methodLink "java/util/Arrays" 300 yAr_copyOf3 ∈ WS ∧ Cond.static yAr_copyOf3 ∈ WS ∧ Cond.initialized "java/util/Arrays" ∈ WS := ⟨WS_cons kw_347, kw_345, kw_346, kw_20⟩
theorem gOb_105 : GoodIn WS wsPr_checkIndex ∧ Cond.methodLink "java/util/Objects" 105 yPr_checkIndex ∈ WS ∧ Cond.static yPr_checkIndex ∈ WS ∧ Cond.initialized "jdk/internal/util/Preconditions" ∈ WS := ⟨WS_cons kw_150, kw_148, kw_149, kw_24⟩
theorem gAs_201 : GoodIn WS wsAs_hugeLength ∧ Cond.methodLink "jdk/internal/util/ArraysSupport" 201 yAs_hugeLength ∈ WS ∧ Cond.static yAs_hugeLength ∈ WS ∧ Cond.initialized "jdk/internal/util/ArraysSupport" ∈ WS := ⟨WS_cons kw_325, kw_323, kw_324, kw_18⟩
theorem kl_Side_30 : Cond.classLink "LoanLetters$Side" 30 "LoanLetters$Letter" ∈ WS := kw_155
theorem kl_L_32 : Cond.classLink "LoanLetters" 32 "LoanLetters$Letter" ∈ WS := kw_53
theorem dAL_size_0 : decode cAL_size 0 = .ok (.aload_n 0, 1) := by decide +kernel
theorem dAL_size_1 : decode cAL_size 1 = .ok (.getfield 48, 3) := by decide +kernel
theorem dAL_size_4 : decode cAL_size 4 = .ok (.ireturn, 1) := by decide +kernel
theorem dAL_get_0 : decode cAL_get 0 = .ok (.iload_n 1, 1) := by decide +kernel
theorem dAL_get_1 : decode cAL_get 1 = .ok (.aload_n 0, 1) := by decide +kernel
theorem dAL_get_2 : decode cAL_get 2 = .ok (.getfield 48, 3) := by decide +kernel
theorem dAL_get_5 : decode cAL_get 5 = .ok (.invokestatic 118, 3) := by decide +kernel
theorem dAL_get_8 : decode cAL_get 8 = .ok (.pop, 1) := by decide +kernel
theorem dAL_get_9 : decode cAL_get 9 = .ok (.aload_n 0, 1) := by decide +kernel
theorem dAL_get_10 : decode cAL_get 10 = .ok (.iload_n 1, 1) := by decide +kernel
theorem dAL_get_11 : decode cAL_get 11 = .ok (.invokevirtual 123, 3) := by decide +kernel
theorem dAL_get_14 : decode cAL_get 14 = .ok (.areturn, 1) := by decide +kernel
theorem dOb_checkIndex_0 : decode cOb_checkIndex 0 = .ok (.iload_n 0, 1) := by decide +kernel
theorem dOb_checkIndex_1 : decode cOb_checkIndex 1 = .ok (.iload_n 1, 1) := by decide +kernel
theorem dOb_checkIndex_2 : decode cOb_checkIndex 2 = .ok (.aconst_null, 1) := by decide +kernel
theorem dOb_checkIndex_3 : decode cOb_checkIndex 3 = .ok (.invokestatic 105, 3) := by decide +kernel
theorem dOb_checkIndex_6 : decode cOb_checkIndex 6 = .ok (.ireturn, 1) := by decide +kernel
theorem dPr_checkIndex_0 : decode cPr_checkIndex 0 = .ok (.iload_n 0, 1) := by decide +kernel
theorem dPr_checkIndex_1 : decode cPr_checkIndex 1 = .ok (.ifCond .lt 8, 3) := by decide +kernel
theorem dPr_checkIndex_4 : decode cPr_checkIndex 4 = .ok (.iload_n 0, 1) := by decide +kernel
theorem dPr_checkIndex_5 : decode cPr_checkIndex 5 = .ok (.iload_n 1, 1) := by decide +kernel
theorem dPr_checkIndex_6 : decode cPr_checkIndex 6 = .ok (.if_icmp .lt 10, 3) := by decide +kernel
theorem dPr_checkIndex_9 : decode cPr_checkIndex 9 = .ok (.aload_n 2, 1) := by decide +kernel
theorem dPr_checkIndex_10 : decode cPr_checkIndex 10 = .ok (.iload_n 0, 1) := by decide +kernel
theorem dPr_checkIndex_11 : decode cPr_checkIndex 11 = .ok (.iload_n 1, 1) := by decide +kernel
theorem dPr_checkIndex_12 : decode cPr_checkIndex 12 = .ok (.invokestatic 95, 3) := by decide +kernel
theorem dPr_checkIndex_15 : decode cPr_checkIndex 15 = .ok (.athrow, 1) := by decide +kernel
theorem dPr_checkIndex_16 : decode cPr_checkIndex 16 = .ok (.iload_n 0, 1) := by decide +kernel
theorem dPr_checkIndex_17 : decode cPr_checkIndex 17 = .ok (.ireturn, 1) := by decide +kernel
theorem dAL_elementData_0 : decode cAL_elementData 0 = .ok (.aload_n 0, 1) := by decide +kernel
theorem dAL_elementData_1 : decode cAL_elementData 1 = .ok (.getfield 9, 3) := by decide +kernel
theorem dAL_elementData_4 : decode cAL_elementData 4 = .ok (.iload_n 1, 1) := by decide +kernel
theorem dAL_elementData_5 : decode cAL_elementData 5 = .ok (.aaload, 1) := by decide +kernel
theorem dAL_elementData_6 : decode cAL_elementData 6 = .ok (.areturn, 1) := by decide +kernel
theorem dAL_init_0 : decode cAL_init 0 = .ok (.aload_n 0, 1) := by decide +kernel
theorem dAL_init_1 : decode cAL_init 1 = .ok (.invokespecial 1, 3) := by decide +kernel
theorem dAL_init_4 : decode cAL_init 4 = .ok (.aload_n 0, 1) := by decide +kernel
theorem dAL_init_5 : decode cAL_init 5 = .ok (.getstatic 39, 3) := by decide +kernel
theorem dAL_init_8 : decode cAL_init 8 = .ok (.putfield 9, 3) := by decide +kernel
theorem dAL_init_11 : decode cAL_init 11 = .ok (.return_, 1) := by decide +kernel
theorem dAb_init_0 : decode cAb_init 0 = .ok (.aload_n 0, 1) := by decide +kernel
theorem dAb_init_1 : decode cAb_init 1 = .ok (.invokespecial 1, 3) := by decide +kernel
theorem dAb_init_4 : decode cAb_init 4 = .ok (.aload_n 0, 1) := by decide +kernel
theorem dAb_init_5 : decode cAb_init 5 = .ok (.iconst 0, 1) := by decide +kernel
theorem dAb_init_6 : decode cAb_init 6 = .ok (.putfield 7, 3) := by decide +kernel
theorem dAb_init_9 : decode cAb_init 9 = .ok (.return_, 1) := by decide +kernel
theorem dAc_init_0 : decode cAc_init 0 = .ok (.aload_n 0, 1) := by decide +kernel
theorem dAc_init_1 : decode cAc_init 1 = .ok (.invokespecial 1, 3) := by decide +kernel
theorem dAc_init_4 : decode cAc_init 4 = .ok (.return_, 1) := by decide +kernel
theorem dAL_add_0 : decode cAL_add 0 = .ok (.aload_n 0, 1) := by decide +kernel
theorem dAL_add_1 : decode cAL_add 1 = .ok (.dup, 1) := by decide +kernel
theorem dAL_add_2 : decode cAL_add 2 = .ok (.getfield 63, 3) := by decide +kernel
theorem dAL_add_5 : decode cAL_add 5 = .ok (.iconst 1, 1) := by decide +kernel
theorem dAL_add_6 : decode cAL_add 6 = .ok (.iadd, 1) := by decide +kernel
theorem dAL_add_7 : decode cAL_add 7 = .ok (.putfield 63, 3) := by decide +kernel
theorem dAL_add_10 : decode cAL_add 10 = .ok (.aload_n 0, 1) := by decide +kernel
theorem dAL_add_11 : decode cAL_add 11 = .ok (.aload_n 1, 1) := by decide +kernel
theorem dAL_add_12 : decode cAL_add 12 = .ok (.aload_n 0, 1) := by decide +kernel
theorem dAL_add_13 : decode cAL_add 13 = .ok (.getfield 9, 3) := by decide +kernel
theorem dAL_add_16 : decode cAL_add 16 = .ok (.aload_n 0, 1) := by decide +kernel
theorem dAL_add_17 : decode cAL_add 17 = .ok (.getfield 48, 3) := by decide +kernel
theorem dAL_add_20 : decode cAL_add 20 = .ok (.invokevirtual 131, 3) := by decide +kernel
theorem dAL_add_23 : decode cAL_add 23 = .ok (.iconst 1, 1) := by decide +kernel
theorem dAL_add_24 : decode cAL_add 24 = .ok (.ireturn, 1) := by decide +kernel
theorem dAL_add3_0 : decode cAL_add3 0 = .ok (.iload_n 3, 1) := by decide +kernel
theorem dAL_add3_1 : decode cAL_add3 1 = .ok (.aload_n 2, 1) := by decide +kernel
theorem dAL_add3_2 : decode cAL_add3 2 = .ok (.arraylength, 1) := by decide +kernel
theorem dAL_add3_3 : decode cAL_add3 3 = .ok (.if_icmp .ne 8, 3) := by decide +kernel
theorem dAL_add3_6 : decode cAL_add3 6 = .ok (.aload_n 0, 1) := by decide +kernel
theorem dAL_add3_7 : decode cAL_add3 7 = .ok (.invokevirtual 129, 3) := by decide +kernel
theorem dAL_add3_10 : decode cAL_add3 10 = .ok (.astore_n 2, 1) := by decide +kernel
theorem dAL_add3_11 : decode cAL_add3 11 = .ok (.aload_n 2, 1) := by decide +kernel
theorem dAL_add3_12 : decode cAL_add3 12 = .ok (.iload_n 3, 1) := by decide +kernel
theorem dAL_add3_13 : decode cAL_add3 13 = .ok (.aload_n 1, 1) := by decide +kernel
theorem dAL_add3_14 : decode cAL_add3 14 = .ok (.aastore, 1) := by decide +kernel
theorem dAL_add3_15 : decode cAL_add3 15 = .ok (.aload_n 0, 1) := by decide +kernel
theorem dAL_add3_16 : decode cAL_add3 16 = .ok (.iload_n 3, 1) := by decide +kernel
theorem dAL_add3_17 : decode cAL_add3 17 = .ok (.iconst 1, 1) := by decide +kernel
theorem dAL_add3_18 : decode cAL_add3 18 = .ok (.iadd, 1) := by decide +kernel
theorem dAL_add3_19 : decode cAL_add3 19 = .ok (.putfield 48, 3) := by decide +kernel
theorem dAL_add3_22 : decode cAL_add3 22 = .ok (.return_, 1) := by decide +kernel
theorem dAL_grow0_0 : decode cAL_grow0 0 = .ok (.aload_n 0, 1) := by decide +kernel
theorem dAL_grow0_1 : decode cAL_grow0 1 = .ok (.aload_n 0, 1) := by decide +kernel
theorem dAL_grow0_2 : decode cAL_grow0 2 = .ok (.getfield 48, 3) := by decide +kernel
theorem dAL_grow0_5 : decode cAL_grow0 5 = .ok (.iconst 1, 1) := by decide +kernel
theorem dAL_grow0_6 : decode cAL_grow0 6 = .ok (.iadd, 1) := by decide +kernel
theorem dAL_grow0_7 : decode cAL_grow0 7 = .ok (.invokevirtual 69, 3) := by decide +kernel
theorem dAL_grow0_10 : decode cAL_grow0 10 = .ok (.areturn, 1) := by decide +kernel
theorem dAL_grow1_0 : decode cAL_grow1 0 = .ok (.aload_n 0, 1) := by decide +kernel
theorem dAL_grow1_1 : decode cAL_grow1 1 = .ok (.getfield 9, 3) := by decide +kernel
theorem dAL_grow1_4 : decode cAL_grow1 4 = .ok (.arraylength, 1) := by decide +kernel
theorem dAL_grow1_5 : decode cAL_grow1 5 = .ok (.istore_n 2, 1) := by decide +kernel
theorem dAL_grow1_6 : decode cAL_grow1 6 = .ok (.iload_n 2, 1) := by decide +kernel
theorem dAL_grow1_7 : decode cAL_grow1 7 = .ok (.ifCond .gt 13, 3) := by decide +kernel
theorem dAL_grow1_10 : decode cAL_grow1 10 = .ok (.aload_n 0, 1) := by decide +kernel
theorem dAL_grow1_11 : decode cAL_grow1 11 = .ok (.getfield 9, 3) := by decide +kernel
theorem dAL_grow1_14 : decode cAL_grow1 14 = .ok (.getstatic 39, 3) := by decide +kernel
theorem dAL_grow1_17 : decode cAL_grow1 17 = .ok (.if_acmp .eq 28, 3) := by decide +kernel
theorem dAL_grow1_20 : decode cAL_grow1 20 = .ok (.iload_n 2, 1) := by decide +kernel
theorem dAL_grow1_21 : decode cAL_grow1 21 = .ok (.iload_n 1, 1) := by decide +kernel
theorem dAL_grow1_22 : decode cAL_grow1 22 = .ok (.iload_n 2, 1) := by decide +kernel
theorem dAL_grow1_23 : decode cAL_grow1 23 = .ok (.isub, 1) := by decide +kernel
theorem dAL_grow1_24 : decode cAL_grow1 24 = .ok (.iload_n 2, 1) := by decide +kernel
theorem dAL_grow1_25 : decode cAL_grow1 25 = .ok (.iconst 1, 1) := by decide +kernel
theorem dAL_grow1_26 : decode cAL_grow1 26 = .ok (.ishr, 1) := by decide +kernel
theorem dAL_grow1_27 : decode cAL_grow1 27 = .ok (.invokestatic 73, 3) := by decide +kernel
theorem dAL_grow1_30 : decode cAL_grow1 30 = .ok (.istore_n 3, 1) := by decide +kernel
theorem dAL_grow1_31 : decode cAL_grow1 31 = .ok (.aload_n 0, 1) := by decide +kernel
theorem dAL_grow1_32 : decode cAL_grow1 32 = .ok (.aload_n 0, 1) := by decide +kernel
theorem dAL_grow1_33 : decode cAL_grow1 33 = .ok (.getfield 9, 3) := by decide +kernel
theorem dAL_grow1_36 : decode cAL_grow1 36 = .ok (.iload_n 3, 1) := by decide +kernel
theorem dAL_grow1_37 : decode cAL_grow1 37 = .ok (.invokestatic 66, 3) := by decide +kernel
theorem dAL_grow1_40 : decode cAL_grow1 40 = .ok (.dup_x1, 1) := by decide +kernel
theorem dAL_grow1_41 : decode cAL_grow1 41 = .ok (.putfield 9, 3) := by decide +kernel
theorem dAL_grow1_44 : decode cAL_grow1 44 = .ok (.areturn, 1) := by decide +kernel
theorem dAL_grow1_45 : decode cAL_grow1 45 = .ok (.aload_n 0, 1) := by decide +kernel
theorem dAL_grow1_46 : decode cAL_grow1 46 = .ok (.bipush 10, 2) := by decide +kernel
theorem dAL_grow1_48 : decode cAL_grow1 48 = .ok (.iload_n 1, 1) := by decide +kernel
theorem dAL_grow1_49 : decode cAL_grow1 49 = .ok (.invokestatic 79, 3) := by decide +kernel
theorem dAL_grow1_52 : decode cAL_grow1 52 = .ok (.anewarray 7, 3) := by decide +kernel
theorem dAL_grow1_55 : decode cAL_grow1 55 = .ok (.dup_x1, 1) := by decide +kernel
theorem dAL_grow1_56 : decode cAL_grow1 56 = .ok (.putfield 9, 3) := by decide +kernel
theorem dAL_grow1_59 : decode cAL_grow1 59 = .ok (.areturn, 1) := by decide +kernel
theorem dAs_newLength_0 : decode cAs_newLength 0 = .ok (.iload_n 0, 1) := by decide +kernel
theorem dAs_newLength_1 : decode cAs_newLength 1 = .ok (.iload_n 1, 1) := by decide +kernel
theorem dAs_newLength_2 : decode cAs_newLength 2 = .ok (.iload_n 2, 1) := by decide +kernel
theorem dAs_newLength_3 : decode cAs_newLength 3 = .ok (.invokestatic 194, 3) := by decide +kernel
theorem dAs_newLength_6 : decode cAs_newLength 6 = .ok (.iadd, 1) := by decide +kernel
theorem dAs_newLength_7 : decode cAs_newLength 7 = .ok (.istore_n 3, 1) := by decide +kernel
theorem dAs_newLength_8 : decode cAs_newLength 8 = .ok (.iconst 0, 1) := by decide +kernel
theorem dAs_newLength_9 : decode cAs_newLength 9 = .ok (.iload_n 3, 1) := by decide +kernel
theorem dAs_newLength_10 : decode cAs_newLength 10 = .ok (.if_icmp .ge 11, 3) := by decide +kernel
theorem dAs_newLength_13 : decode cAs_newLength 13 = .ok (.iload_n 3, 1) := by decide +kernel
theorem dAs_newLength_14 : decode cAs_newLength 14 = .ok (.ldc 200, 2) := by decide +kernel
theorem dAs_newLength_16 : decode cAs_newLength 16 = .ok (.if_icmp .gt 5, 3) := by decide +kernel
theorem dAs_newLength_19 : decode cAs_newLength 19 = .ok (.iload_n 3, 1) := by decide +kernel
theorem dAs_newLength_20 : decode cAs_newLength 20 = .ok (.ireturn, 1) := by decide +kernel
theorem dAs_newLength_21 : decode cAs_newLength 21 = .ok (.iload_n 0, 1) := by decide +kernel
theorem dAs_newLength_22 : decode cAs_newLength 22 = .ok (.iload_n 1, 1) := by decide +kernel
theorem dAs_newLength_23 : decode cAs_newLength 23 = .ok (.invokestatic 201, 3) := by decide +kernel
theorem dAs_newLength_26 : decode cAs_newLength 26 = .ok (.ireturn, 1) := by decide +kernel
theorem dAs_hugeLength_0 : decode cAs_hugeLength 0 = .ok (.iload_n 0, 1) := by decide +kernel
theorem dAs_hugeLength_1 : decode cAs_hugeLength 1 = .ok (.iload_n 1, 1) := by decide +kernel
theorem dAs_hugeLength_2 : decode cAs_hugeLength 2 = .ok (.iadd, 1) := by decide +kernel
theorem dAs_hugeLength_3 : decode cAs_hugeLength 3 = .ok (.istore_n 2, 1) := by decide +kernel
theorem dAs_hugeLength_4 : decode cAs_hugeLength 4 = .ok (.iload_n 2, 1) := by decide +kernel
theorem dAs_hugeLength_5 : decode cAs_hugeLength 5 = .ok (.ifCond .ge 44, 3) := by decide +kernel
theorem dAs_hugeLength_8 : decode cAs_hugeLength 8 = .ok (.new 204, 3) := by decide +kernel
theorem dAs_hugeLength_11 : decode cAs_hugeLength 11 = .ok (.dup, 1) := by decide +kernel
theorem dAs_hugeLength_12 : decode cAs_hugeLength 12 = .ok (.new 89, 3) := by decide +kernel
theorem dAs_hugeLength_15 : decode cAs_hugeLength 15 = .ok (.dup, 1) := by decide +kernel
theorem dAs_hugeLength_16 : decode cAs_hugeLength 16 = .ok (.invokespecial 91, 3) := by decide +kernel
theorem dAs_hugeLength_19 : decode cAs_hugeLength 19 = .ok (.ldc 206, 2) := by decide +kernel
theorem dAs_hugeLength_21 : decode cAs_hugeLength 21 = .ok (.invokevirtual 94, 3) := by decide +kernel
theorem dAs_hugeLength_24 : decode cAs_hugeLength 24 = .ok (.iload_n 0, 1) := by decide +kernel
theorem dAs_hugeLength_25 : decode cAs_hugeLength 25 = .ok (.invokevirtual 98, 3) := by decide +kernel
theorem dAs_hugeLength_28 : decode cAs_hugeLength 28 = .ok (.ldc 208, 2) := by decide +kernel
theorem dAs_hugeLength_30 : decode cAs_hugeLength 30 = .ok (.invokevirtual 94, 3) := by decide +kernel
theorem dAs_hugeLength_33 : decode cAs_hugeLength 33 = .ok (.iload_n 1, 1) := by decide +kernel
theorem dAs_hugeLength_34 : decode cAs_hugeLength 34 = .ok (.invokevirtual 98, 3) := by decide +kernel
theorem dAs_hugeLength_37 : decode cAs_hugeLength 37 = .ok (.ldc 210, 2) := by decide +kernel
theorem dAs_hugeLength_39 : decode cAs_hugeLength 39 = .ok (.invokevirtual 94, 3) := by decide +kernel
theorem dAs_hugeLength_42 : decode cAs_hugeLength 42 = .ok (.invokevirtual 101, 3) := by decide +kernel
theorem dAs_hugeLength_45 : decode cAs_hugeLength 45 = .ok (.invokespecial 212, 3) := by decide +kernel
theorem dAs_hugeLength_48 : decode cAs_hugeLength 48 = .ok (.athrow, 1) := by decide +kernel
theorem dAs_hugeLength_49 : decode cAs_hugeLength 49 = .ok (.iload_n 2, 1) := by decide +kernel
theorem dAs_hugeLength_50 : decode cAs_hugeLength 50 = .ok (.ldc 200, 2) := by decide +kernel
theorem dAs_hugeLength_52 : decode cAs_hugeLength 52 = .ok (.if_icmp .gt 6, 3) := by decide +kernel
theorem dAs_hugeLength_55 : decode cAs_hugeLength 55 = .ok (.ldc 200, 2) := by decide +kernel
theorem dAs_hugeLength_57 : decode cAs_hugeLength 57 = .ok (.ireturn, 1) := by decide +kernel
theorem dAs_hugeLength_58 : decode cAs_hugeLength 58 = .ok (.iload_n 2, 1) := by decide +kernel
theorem dAs_hugeLength_59 : decode cAs_hugeLength 59 = .ok (.ireturn, 1) := by decide +kernel
theorem dAr_copyOf_0 : decode cAr_copyOf 0 = .ok (.aload_n 0, 1) := by decide +kernel
theorem dAr_copyOf_1 : decode cAr_copyOf 1 = .ok (.iload_n 1, 1) := by decide +kernel
theorem dAr_copyOf_2 : decode cAr_copyOf 2 = .ok (.aload_n 0, 1) := by decide +kernel
theorem dAr_copyOf_3 : decode cAr_copyOf 3 = .ok (.invokevirtual 86, 3) := by decide +kernel
theorem dAr_copyOf_6 : decode cAr_copyOf 6 = .ok (.invokestatic 300, 3) := by decide +kernel
theorem dAr_copyOf_9 : decode cAr_copyOf 9 = .ok (.areturn, 1) := by decide +kernel
theorem dAr_copyOf3_0 : decode cAr_copyOf3 0 = .ok (.aload_n 2, 1) := by decide +kernel
theorem dAr_copyOf3_1 : decode cAr_copyOf3 1 = .ok (.ldc 110, 2) := by decide +kernel
theorem dAr_copyOf3_3 : decode cAr_copyOf3 3 = .ok (.if_acmp .ne 10, 3) := by decide +kernel
theorem dAr_copyOf3_6 : decode cAr_copyOf3 6 = .ok (.iload_n 1, 1) := by decide +kernel
theorem dAr_copyOf3_7 : decode cAr_copyOf3 7 = .ok (.anewarray 2, 3) := by decide +kernel
theorem dAr_copyOf3_10 : decode cAr_copyOf3 10 = .ok (.goto 14, 3) := by decide +kernel
theorem dAr_copyOf3_13 : decode cAr_copyOf3 13 = .ok (.aload_n 2, 1) := by decide +kernel
theorem dAr_copyOf3_14 : decode cAr_copyOf3 14 = .ok (.invokevirtual 90, 3) := by decide +kernel
theorem dAr_copyOf3_17 : decode cAr_copyOf3 17 = .ok (.iload_n 1, 1) := by decide +kernel
theorem dAr_copyOf3_18 : decode cAr_copyOf3 18 = .ok (.invokestatic 95, 3) := by decide +kernel
theorem dAr_copyOf3_21 : decode cAr_copyOf3 21 = .ok (.checkcast 110, 3) := by decide +kernel
theorem dAr_copyOf3_24 : decode cAr_copyOf3 24 = .ok (.astore_n 3, 1) := by decide +kernel
theorem dAr_copyOf3_25 : decode cAr_copyOf3 25 = .ok (.aload_n 0, 1) := by decide +kernel
theorem dAr_copyOf3_26 : decode cAr_copyOf3 26 = .ok (.iconst 0, 1) := by decide +kernel
theorem dAr_copyOf3_27 : decode cAr_copyOf3 27 = .ok (.aload_n 3, 1) := by decide +kernel
theorem dAr_copyOf3_28 : decode cAr_copyOf3 28 = .ok (.iconst 0, 1) := by decide +kernel
theorem dAr_copyOf3_29 : decode cAr_copyOf3 29 = .ok (.aload_n 0, 1) := by decide +kernel
theorem dAr_copyOf3_30 : decode cAr_copyOf3 30 = .ok (.arraylength, 1) := by decide +kernel
theorem dAr_copyOf3_31 : decode cAr_copyOf3 31 = .ok (.iload_n 1, 1) := by decide +kernel
theorem dAr_copyOf3_32 : decode cAr_copyOf3 32 = .ok (.invokestatic 304, 3) := by decide +kernel
theorem dAr_copyOf3_35 : decode cAr_copyOf3 35 = .ok (.invokestatic 150, 3) := by decide +kernel
theorem dAr_copyOf3_38 : decode cAr_copyOf3 38 = .ok (.aload_n 3, 1) := by decide +kernel
theorem dAr_copyOf3_39 : decode cAr_copyOf3 39 = .ok (.areturn, 1) := by decide +kernel
