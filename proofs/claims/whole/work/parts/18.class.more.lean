theorem gn_47 : GoodIn WS wsL_isLibrary ∧ Cond.static yL_isLibrary ∈ WS ∧ Cond.initialized "LoanLetters" ∈ WS := ⟨WS_cons kw_129, kw_128, kw_1⟩
theorem km_176 : Cond.methodLink "LoanLetters" 176 Lib.Math.max.name ∈ WS := kw_130
theorem km_mmax_s : Cond.static Lib.Math.max.name ∈ WS := kw_131
theorem km_mmax_c : Cond.code Lib.Math.max.name Lib.Math.max.code 2 (some .int) ∈ WS := kw_132
theorem km_344 : Cond.methodLink "LoanLetters" 344 Lib.Math.min.name ∈ WS := kw_716
theorem km_mmin_s : Cond.static Lib.Math.min.name ∈ WS := kw_352
theorem km_mmin_c : Cond.code Lib.Math.min.name Lib.Math.min.code 2 (some .int) ∈ WS := kw_353
theorem km_ini : Cond.initialized "java/lang/Math" ∈ WS := kw_19
