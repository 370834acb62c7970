/-! What the Statement gives of the start, in the worlds' words -/
theorem lw_w {i : Nat} {w : Cond} (h : tables_1[i]? = some w) : w ∈ lw_tbl := List.mem_append_right _ (List.mem_of_getElem? h)
section ST2
variable {s : State} {args : Array Value}
theorem st_prim {ty : FieldType} (h : (Cond.arrayClass ty).before args s = true) : ∃ cA : ClassId, ArrOfT s cA ty ∧ s.vm.findClass ("[" ++ ty.toString) = some cA := by
  obtain ⟨cA, kA, comp, h1, h2, h3⟩ := Cond.arrayClass_spec h
  exact ⟨cA, fun n z => ⟨(fun k h => by cases h), kA, h2, comp, h3⟩, h1⟩
theorem st_obj {C : String} (h : (Cond.arrayOver (.object C)).before args s = true) : ∃ cA : ClassId, ArrOfT s cA (.object C) ∧ va_RA s cA (.object C) := by
  obtain ⟨comp, cA, kA, h1, h2, h3, h4, h5⟩ := Cond.arrayOver_spec h
  exact ⟨cA, fun n z => ⟨(fun k h => by cases h), kA, h3, comp, h4⟩, kA, comp, h3, h4, h1, h5⟩
theorem st_K (hts : ∀ w ∈ WS, w.before args s = true) (htl : ∀ w ∈ lw_tbl, w.before args s = true) : ∃ (D : va_G) (T : Nat → ClassId), va_K D vwCl (tysA T) s := by
  obtain ⟨c0, i0, h0⟩ := u_known (C := RL) (T := TL) (N := 8) (n := 8) hts ulL (hts _ kw_27)
  obtain ⟨c1, i1, h1⟩ := u_known (C := RCopy) (T := TCopy) (N := 4) (n := 4) hts ulCopy (hts _ kw_558)
  obtain ⟨c2, i2, h2⟩ := u_known (C := RLoan) (T := TLoan) (N := 8) (n := 8) hts ulLoan (hts _ kw_590)
  obtain ⟨c3, i3, h3⟩ := u_known (C := RPage) (T := TPage) (N := 4) (n := 4) hts ulPage (hts _ kw_185)
  obtain ⟨c4, i4, h4⟩ := u_known (C := RDeal) (T := TDeal) (N := 6) (n := 6) hts ulDeal (hts _ kw_179)
  obtain ⟨c5, i5, h5⟩ := u_known (C := RSide) (T := TSide) (N := 6) (n := 6) hts ulSide (hts _ kw_208)
  obtain ⟨c6, i6, h6⟩ := u_known (C := RLetter) (T := TLetter) (N := 4) (n := 4) hts ulLetter (hts _ kw_54)
  obtain ⟨c7, i7, h7⟩ := u_known (C := RRow) (T := TRow) (N := 2) (n := 2) hts ulRow (hts _ kw_39)
  obtain ⟨c8, i8, h8⟩ := u_known (C := RAL) (T := TAL) (N := 3) (n := 3) hts ulAL (hts _ kw_214)
  obtain ⟨c9, i9, h9⟩ := u_known (C := RM) (T := TM) (N := 40) (n := 40) hts ulM (hts _ kw_735)
  obtain ⟨a0, p0, q0⟩ := st_prim (ty := .int) (hts _ kw_52)
  obtain ⟨a1, p1, q1⟩ := st_prim (ty := .boolean) (hts _ kw_861)
  obtain ⟨a2, p2, q2⟩ := st_obj (C := "LoanLetters$Copy") (htl _ (lw_w (i := 35) (by decide +kernel)))
  obtain ⟨a3, p3, q3⟩ := st_obj (C := "LoanLetters$Loan") (htl _ (lw_w (i := 37) (by decide +kernel)))
  obtain ⟨a4, p4, q4⟩ := st_obj (C := "LoanLetters$Deal") (htl _ (lw_w (i := 595) (by decide +kernel)))
  obtain ⟨a5, p5, q5⟩ := st_obj (C := "java/lang/Object") (htl _ (lw_w (i := 349) (by decide +kernel)))
  obtain ⟨a6, p6, q6⟩ := st_prim (ty := .long) (hts _ kw_1004)
  refine ⟨(fun c => [c0, c1, c2, c3, c4, c5, c6, c7, c8, c9].getD c c0, fun c => [i0, i1, i2, i3, i4, i5, i6, i7, i8, i9].getD c i0), fun k => [a0, a1, a2, a3, a4, a5, a6].getD k a0, fun c q hq => ?_, fun k q hk => ?_⟩
  · match c, hq with
    | 0, hq => cases hq; exact h0
    | 1, hq => cases hq; exact h1
    | 2, hq => cases hq; exact h2
    | 3, hq => cases hq; exact h3
    | 4, hq => cases hq; exact h4
    | 5, hq => cases hq; exact h5
    | 6, hq => cases hq; exact h6
    | 7, hq => cases hq; exact h7
    | 8, hq => cases hq; exact h8
    | 9, hq => cases hq; exact h9
    | c + 10, hq => exact absurd (List.getElem?_eq_some_iff.mp hq).1 (by show ¬ c + 10 < 10; omega)
  · match k, hk with
    | 0, hk => cases hk; exact ⟨p0, q0⟩
    | 1, hk => cases hk; exact ⟨p1, q1⟩
    | 2, hk => cases hk; exact ⟨p2, q2⟩
    | 3, hk => cases hk; exact ⟨p3, q3⟩
    | 4, hk => cases hk; exact ⟨p4, q4⟩
    | 5, hk => cases hk; exact ⟨p5, q5⟩
    | 6, hk => cases hk; exact ⟨p6, q6⟩
    | k + 7, hk => exact absurd (List.getElem?_eq_some_iff.mp hk).1 (by show ¬ k + 7 < 7; omega)
theorem jA_no : ∀ a : Nat, a < s.heap.size → ¬ jA s a := fun a h => Nat.not_le.mpr h
theorem st_Z (htl : ∀ w ∈ lw_tbl, w.before args s = true) (hts : ∀ w ∈ WS, w.before args s = true) (hn : (Jvm.Cond.and given_1 narrow_1).before args s = true) : ∃ t0 : Nat × Nat, em_Z t0 (jA s) s s.heap := by
  have hs := flat_of_before _ hn
  have h3 : (Cond.arrayOf (.static "java/util/ArrayList" "DEFAULTCAPACITY_EMPTY_ELEMENTDATA" "[Ljava/lang/Object;") (.object "java/lang/Object")).before args s = true := hs _ (by decide +kernel)
  have h5 : (Cond.eq (.length (.static "java/util/ArrayList" "DEFAULTCAPACITY_EMPTY_ELEMENTDATA" "[Ljava/lang/Object;")) (.int 0)).before args s = true := hs _ (by decide +kernel)
  have h30 : (Cond.isRef (.mirror "[Ljava/lang/Object;")).before args s = true := hs _ (by decide +kernel)
  obtain ⟨t, ht, hT⟩ := va_Tof (N := 0) (f := fun _ => .null) (A := jA s) (by decide) h3 (va_eqt h5) (fun j hj => absurd hj (Nat.not_lt_zero _)) jA_no
  obtain ⟨mi, hm⟩ := va_Mi.of h30
  exact ⟨(t, mi), ⟨va_Zref (htl _ (lw_w (i := 226) (by decide +kernel))) (hts _ kw_17) ht jA_no, hT⟩, hm, va_Dc.of (htl _ (lw_w (i := 1009) (by decide +kernel))), va_AO.of (htl _ (lw_w (i := 349) (by decide +kernel))), va_AO.of (htl _ (lw_w (i := 595) (by decide +kernel)))⟩
theorem enC_in : ∀ w ∈ enC, w ∈ lw_tbl := List.forall_mem_cons.mpr ⟨lw_w (i := 40) (by decide +kernel), List.forall_mem_cons.mpr ⟨lw_w (i := 127) (by decide +kernel), List.forall_mem_cons.mpr ⟨lw_w (i := 186) (by decide +kernel), List.forall_mem_cons.mpr ⟨lw_w (i := 597) (by decide +kernel), List.forall_mem_cons.mpr ⟨lw_w (i := 1006) (by decide +kernel), List.forall_mem_cons.mpr ⟨lw_w (i := 1012) (by decide +kernel), fun _ h => absurd h List.not_mem_nil⟩⟩⟩⟩⟩⟩
theorem st_N (htl : ∀ w ∈ lw_tbl, w.before args s = true) : EN s := fun w hw => va_Nw.of (EN_on w hw) (htl w (enC_in w hw))
theorem etA_in : ∀ w ∈ etA, w.onTables = true → w ∈ tables_1 := by
  have key : etA.all (fun w => !w.onTables || decide (w ∈ tables_1)) = true := by decide +kernel
  intro w hw ht
  have := List.all_eq_true.mp key w hw
  rw [ht] at this
  simpa using this
theorem st_str {k : Nat} {tx : String} (h1 : (Cond.stringRef "LoanLetters" k tx).before args s = true) (h2 : (Cond.exactly (.string "LoanLetters" k) "java/lang/String").before args s = true) : ∃ a, vk_R "LoanLetters" k tx a s := by
  obtain ⟨a, c, cell, kk, he, -⟩ := Cond.exactly_spec h2
  exact ⟨a, vk_R.of h1 he⟩
theorem st_T (htl : ∀ w ∈ lw_tbl, w.before args s = true) (hn : (Jvm.Cond.and given_1 narrow_1).before args s = true) : et_Z (jA s) s s.heap := by
  have hs := flat_of_before _ hn
  refine ⟨fun w hw ht => va_tabs ht rfl (htl w (List.mem_append_right _ (etA_in w hw ht))), zS.of (args := args) (htl _ (lw_w (i := 502) (by decide +kernel))) (hs _ (by decide +kernel)) jA_no, zS.of (args := args) (htl _ (lw_w (i := 504) (by decide +kernel))) (hs _ (by decide +kernel)) jA_no, ?_⟩
  unfold etS
  refine List.forall_mem_cons.mpr ⟨st_str (htl _ (lw_w (i := 515) (by decide +kernel))) (hs _ (by decide +kernel)), ?_⟩
  refine List.forall_mem_cons.mpr ⟨st_str (htl _ (lw_w (i := 551) (by decide +kernel))) (hs _ (by decide +kernel)), ?_⟩
  refine List.forall_mem_cons.mpr ⟨st_str (htl _ (lw_w (i := 588) (by decide +kernel))) (hs _ (by decide +kernel)), ?_⟩
  refine List.forall_mem_cons.mpr ⟨st_str (htl _ (lw_w (i := 589) (by decide +kernel))) (hs _ (by decide +kernel)), ?_⟩
  refine List.forall_mem_cons.mpr ⟨st_str (htl _ (lw_w (i := 640) (by decide +kernel))) (hs _ (by decide +kernel)), ?_⟩
  refine List.forall_mem_cons.mpr ⟨st_str (htl _ (lw_w (i := 641) (by decide +kernel))) (hs _ (by decide +kernel)), ?_⟩
  refine List.forall_mem_cons.mpr ⟨st_str (htl _ (lw_w (i := 678) (by decide +kernel))) (hs _ (by decide +kernel)), ?_⟩
  refine List.forall_mem_cons.mpr ⟨st_str (htl _ (lw_w (i := 679) (by decide +kernel))) (hs _ (by decide +kernel)), ?_⟩
  refine List.forall_mem_cons.mpr ⟨st_str (htl _ (lw_w (i := 725) (by decide +kernel))) (hs _ (by decide +kernel)), ?_⟩
  exact List.forall_mem_cons.mpr ⟨st_str (htl _ (lw_w (i := 733) (by decide +kernel))) (hs _ (by decide +kernel)), fun _ h => absurd h List.not_mem_nil⟩
theorem st_C (hn : (Jvm.Cond.and given_1 narrow_1).before args s = true) : nC s := nC.of (args := args) (flat_of_before _ hn _ (by decide +kernel))
end ST2
