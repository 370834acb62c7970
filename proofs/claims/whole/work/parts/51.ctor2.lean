def xl_PcL (D : va_G) (T : Nat → ClassId) (t0 : Nat × Nat) (ws : va_W) (sz : Nat) (av : List Value) : Array Value → State → Prop := va_Pc av (fun U => U.heap.size = sz ∧ (va_P D vwCl ws U.heap ∧ va_D (fun _ => True) ws) ∧ va_K D vwCl (tysA T) U ∧ EN U ∧ em_Z t0 (va_A ws sz) U U.heap ∧ va_AO "LoanLetters$Copy" U ∧ va_AO "LoanLetters$Loan" U)
theorem xl_metL {l : Launch} {D : va_G} {T : Nat → ClassId} {t0 : Nat × Nat} {ws : va_W} {y : MethodName} {wsC ws' : List Cond} {rm : Room} {Qc : Array Value → State → Outcome → State → Prop} {mc ms sz maxL : Nat} {free : Addr → Prop} {cc : ByteArray} {ret : Option FieldType} {av : List Value} (hy : plainName y.cls = true) (hw : wsC = Cond.code y cc maxL ret :: ws') (hlen : (lg_sl av).length ≤ maxL)
    (body : ∀ (p : Program) (e : Env) (s : State) (m : MethodId) (below : List Frame) (meth : Method) (c : Code) (ls : Array Slot), p.tables.exec = Jvm.exec → c.code = cc → meth.sig.returnType = ret → (∀ w ∈ ws', w.before av.toArray s = true) → s.vm.findClass y.cls = some m.cls → meth.locks = false → c.maxLocals = maxL → meth.name = y.name →
      va_P D vwCl ws s.heap → va_D (va_A ws s.heap.size) ws → va_K D vwCl (tysA T) s → EN s → em_Z t0 (va_A ws s.heap.size) s s.heap → va_AO "LoanLetters$Copy" s → va_AO "LoanLetters$Loan" s → va_S (va_A ws s.heap.size) s.heap s.heap [] → (∀ q, s.heap.size ≤ q → va_A ws s.heap.size q) → lv_has ls maxL (lv_args 0 av) → s.heap.size = sz →
      W p l e rm s m av.toArray below meth c s.heap [] 0 0 (MQ below Qc av.toArray s mc ms free) (F0 m 0 ls [])) : Met l y wsC rm (xl_PcL D T t0 ws sz av) Qc mc ms free := by
  refine Met.ofW (cc := cc) (maxL := maxL) (ret := ret) hy hw ?_
  intro p e s m args below meth c s₁ B hml hv
  obtain ⟨rfl, hsz, ⟨hP, hD⟩, hK, hN, hZ, hO1, hO2⟩ := hv
  have hl := lv_entry av (n := maxL) hlen
  rw [lg_entry_eq]
  generalize (lg_sl av ++ List.replicate (maxL - (lg_sl av).length) Slot.unset).toArray = ls at hl ⊢
  exact body p e s m below meth c ls B.exec B.bytes B.returns (fun w hw2 => atoms_spec (ws := wsC) B.pre w (by rw [hw]; exact List.mem_cons_of_mem _ hw2)) (findClass_of_methodNamed B.named) B.notSynchronized hml (name_of_methodNamed B.named B.method).1 hP hD.self hK hN (by rw [hsz]; exact hZ) hO1 hO2 va_S.rf (fun q h => Or.inr h) hl hsz
set_option maxHeartbeats 4000000 in
set_option maxRecDepth 100000 in
theorem c_Row_init (l : Launch) (D : va_G) (T : Nat → ClassId) (t0 : Nat × Nat) (pr : va_W) (sz th : Nat) : Met l yRow_init wsRow_init ({ frames := 1, cells := 1, slots := 448, locals := 12 }) (xl_Pc D T t0 (pr ++ [(th, .inr (7, [.null, .int 0]))]) sz [.ref th]) (xl_Qv D (pr ++ [(th, .inr (7, [.null, .int 0]))]) sz (fun u => ∃ q1 : Nat, u = pr ++ [(th, .inr (7, [.ref q1, .int 0])), (q1, .inl (T 0, 448, .inl (fun _ => 0)))])) 1 448 (va_A (pr ++ [(th, .inr (7, [.null, .int 0]))]) sz) := by
  refine xl_met (by decide) rfl (Nat.le_of_ble_eq_true rfl) ?_
  intro p e s m below meth c ls hx hb hr hts hown hlocks hml hnm hP hD hK hN hZ hS hA hl hsz
  subst hsz
  have hl : lv_has ls 1 [(0, .ref th)] := hl
  refine lv_aload_n hx hb dRow_init_0 rfl (lv_at hl 0 rfl) ?_
  refine W.objInit hx hb hown (hts _ kw_43) (hts _ kw_32) (hts _ kw_33) rfl (by rw [hml]; exact hl.1) rfl dRow_init_1 (Nat.le_of_ble_eq_true rfl) (Nat.le_of_ble_eq_true rfl) ?_
  refine W.eq (g2 := F0 m 4 ls []) rfl ?_
  refine lv_aload_n hx hb dRow_init_4 rfl (lv_at hl 0 rfl) ?_
  refine lv_sipush (v := 448) hx hb dRow_init_5 (by decide) ?_
  refine ex_newI (N' := 448) (cA := T 0) hx hb (hts _ kw_52) hK 0 rfl hP hD hS hA (by decide) (by decide) (by decide) (Nat.le_of_ble_eq_true rfl) (Nat.le_of_ble_eq_true rfl) dRow_init_8 (fun q1 H hP hD hS => ?_)
  rw [List.append_assoc] at hP hD
  have hP : va_P D vwCl (pr ++ [(th, .inr (7, [.null, .int 0])), (q1, .inl (T 0, 448, .inl (fun _ => 0)))]) H := hP
  have hD : va_D (va_A (pr ++ [(th, .inr (7, [.null, .int 0]))]) s.heap.size) (pr ++ [(th, .inr (7, [.null, .int 0])), (q1, .inl (T 0, 448, .inl (fun _ => 0)))]) := hD
  refine va_putF (D := D) (ci := 7) (v := .ref q1) (ty := .array .int) (C := RRow) (T := TRow) (N := 2) hx hb hts ulRow tyRow gRow.1 gRow.2 hown hK hP hD hS (pr.length + 0) (xl_get rfl) rfl 0 (by decide) (hts _ fRow_9.2.2.2) (fun _ h9 => h9) rfl hnm rfl (by decide +kernel) rfl rfl (Nat.le_of_ble_eq_true rfl) dRow_init_10 (fun H locs hP hD hS => ?_)
  rw [xl_set] at hP hD
  have hP : va_P D vwCl (pr ++ [(th, .inr (7, [.ref q1, .int 0])), (q1, .inl (T 0, 448, .inl (fun _ => 0)))]) H := hP
  have hD : va_D (va_A (pr ++ [(th, .inr (7, [.null, .int 0]))]) s.heap.size) (pr ++ [(th, .inr (7, [.ref q1, .int 0])), (q1, .inl (T 0, 448, .inl (fun _ => 0)))]) := hD
  exact xl_vret hx hb hr hlocks hP hD hS dRow_init_13 ⟨q1, rfl⟩

set_option maxHeartbeats 4000000 in
set_option maxRecDepth 100000 in
theorem c_Letter_init (l : Launch) (D : va_G) (T : Nat → ClassId) (t0 : Nat × Nat) (pr : va_W) (sz th : Nat) (x1 : Int32) (x2 : Int32) (x3 : Int32) : Met l yLetter_init wsLetter_init ({ frames := 1, cells := 0, slots := 0, locals := 12 }) (xl_Pc D T t0 (pr ++ [(th, .inr (6, [.int 0, .int 0, .int 0, .int 0]))]) sz [.ref th, .int x1, .int x2, .int x3]) (xl_Qv D (pr ++ [(th, .inr (6, [.int 0, .int 0, .int 0, .int 0]))]) sz (fun u => u = pr ++ [(th, .inr (6, [.int x1, .int x2, .int x3, .int 0]))])) 0 0 (va_A (pr ++ [(th, .inr (6, [.int 0, .int 0, .int 0, .int 0]))]) sz) := by
  refine xl_met (by decide) rfl (Nat.le_of_ble_eq_true rfl) ?_
  intro p e s m below meth c ls hx hb hr hts hown hlocks hml hnm hP hD hK hN hZ hS hA hl hsz
  subst hsz
  have hl : lv_has ls 4 [(0, .ref th), (1, .int x1), (2, .int x2), (3, .int x3)] := hl
  refine lv_aload_n hx hb dLetter_init_0 rfl (lv_at hl 0 rfl) ?_
  refine W.objInit hx hb hown (hts _ kw_58) (hts _ kw_32) (hts _ kw_33) rfl (by rw [hml]; exact hl.1) rfl dLetter_init_1 (Nat.le_of_ble_eq_true rfl) (Nat.le_of_ble_eq_true rfl) ?_
  refine W.eq (g2 := F0 m 4 ls []) rfl ?_
  refine lv_aload_n hx hb dLetter_init_4 rfl (lv_at hl 0 rfl) ?_
  refine lv_iload_n hx hb dLetter_init_5 rfl (lv_at hl 1 rfl) ?_
  refine va_putF (D := D) (ci := 6) (v := .int x1) (ty := .int) (C := RLetter) (T := TLetter) (N := 4) hx hb hts ulLetter tyLetter gLetter.1 gLetter.2 hown hK hP hD hS (pr.length + 0) (xl_get rfl) rfl 0 (by decide) (hts _ fLetter_7.2.2.2) (fun _ h9 => h9) rfl hnm rfl (by decide +kernel) rfl rfl (Nat.le_of_ble_eq_true rfl) dLetter_init_6 (fun H locs hP hD hS => ?_)
  rw [xl_set] at hP hD
  have hP : va_P D vwCl (pr ++ [(th, .inr (6, [.int x1, .int 0, .int 0, .int 0]))]) H := hP
  have hD : va_D (va_A (pr ++ [(th, .inr (6, [.int 0, .int 0, .int 0, .int 0]))]) s.heap.size) (pr ++ [(th, .inr (6, [.int x1, .int 0, .int 0, .int 0]))]) := hD
  refine lv_aload_n hx hb dLetter_init_9 rfl (lv_at hl 0 rfl) ?_
  refine lv_iload_n hx hb dLetter_init_10 rfl (lv_at hl 2 rfl) ?_
  refine va_putF (D := D) (ci := 6) (v := .int x2) (ty := .int) (C := RLetter) (T := TLetter) (N := 4) hx hb hts ulLetter tyLetter gLetter.1 gLetter.2 hown hK hP hD hS (pr.length + 0) (xl_get rfl) rfl 1 (by decide) (hts _ fLetter_13.2.2.2) (fun _ h9 => h9) rfl hnm rfl (by decide +kernel) rfl rfl (Nat.le_of_ble_eq_true rfl) dLetter_init_11 (fun H locs hP hD hS => ?_)
  rw [xl_set] at hP hD
  have hP : va_P D vwCl (pr ++ [(th, .inr (6, [.int x1, .int x2, .int 0, .int 0]))]) H := hP
  have hD : va_D (va_A (pr ++ [(th, .inr (6, [.int 0, .int 0, .int 0, .int 0]))]) s.heap.size) (pr ++ [(th, .inr (6, [.int x1, .int x2, .int 0, .int 0]))]) := hD
  refine lv_aload_n hx hb dLetter_init_14 rfl (lv_at hl 0 rfl) ?_
  refine lv_iload_n hx hb dLetter_init_15 rfl (lv_at hl 3 rfl) ?_
  refine va_putF (D := D) (ci := 6) (v := .int x3) (ty := .int) (C := RLetter) (T := TLetter) (N := 4) hx hb hts ulLetter tyLetter gLetter.1 gLetter.2 hown hK hP hD hS (pr.length + 0) (xl_get rfl) rfl 2 (by decide) (hts _ fLetter_16.2.2.2) (fun _ h9 => h9) rfl hnm rfl (by decide +kernel) rfl rfl (Nat.le_of_ble_eq_true rfl) dLetter_init_16 (fun H locs hP hD hS => ?_)
  rw [xl_set] at hP hD
  have hP : va_P D vwCl (pr ++ [(th, .inr (6, [.int x1, .int x2, .int x3, .int 0]))]) H := hP
  have hD : va_D (va_A (pr ++ [(th, .inr (6, [.int 0, .int 0, .int 0, .int 0]))]) s.heap.size) (pr ++ [(th, .inr (6, [.int x1, .int x2, .int x3, .int 0]))]) := hD
  exact xl_vret hx hb hr hlocks hP hD hS dLetter_init_19 rfl

set_option maxHeartbeats 4000000 in
set_option maxRecDepth 100000 in
theorem c_Loan_init_e (l : Launch) (D : va_G) (T : Nat → ClassId) (t0 : Nat × Nat) (pr : va_W) (sz th : Nat) (x1 : Int32) (x3 : Int32) (x5 : Int32) (rq : Nat) (st : Nat) (hrq : rq < 6) (hst : st < 6) (heq : st = rq) : Met l yLoan_init wsLoan_init ({ frames := 6, cells := 8, slots := 38, locals := 118 }) (xl_Pc D T t0 (pr ++ [(th, .inr (2, [.int 0, .int 0, .int 0, .int 0, .int 0, .null, .null, .null]))]) sz [.ref th, .int x1, .int (nI rq), .int x3, .int (nI st), .int x5]) (xl_Qv D (pr ++ [(th, .inr (2, [.int 0, .int 0, .int 0, .int 0, .int 0, .null, .null, .null]))]) sz (fun u => ∃ q1 : Nat, ∃ q2 : Nat, ∃ q3 : Nat, ∃ q4 : Nat, ∃ q5 : Nat, ∃ q6 : Nat, ∃ q7 : Nat, ∃ q8 : Nat, u = pr ++ [(th, .inr (2, [.int x1, .int (nI rq), .int x3, .int (nI st), .int x5, .ref q1, .ref q2, .ref q3])), (q1, .inl (T 4, 6, .inr (.inr (.inr (.inr (va_up (fun _ => none) ((st + 1) % 6) (some q3))))))), (q2, .inr (3, [.int 0, .int 0, .int 0, .int 0])), (q3, .inr (4, [.int (nI ((st + 1) % 6)), .ref q5, .ref q7, .ref q4, .null, .int 0])), (q4, .inr (3, [.int 0, .int 0, .int 0, .int 0])), (q5, .inr (5, [.int x1, .int (nI rq), .int (nI ((st + 1) % 6)), .ref q6, .int 0, .int 0])), (q6, .inr (8, [.int 0, .ref t0.1, .int 0])), (q7, .inr (5, [.int x1, .int (nI ((st + 1) % 6)), .int (nI rq), .ref q8, .int 0, .int 0])), (q8, .inr (8, [.int 0, .ref t0.1, .int 0]))])) 8 38 (va_A (pr ++ [(th, .inr (2, [.int 0, .int 0, .int 0, .int 0, .int 0, .null, .null, .null]))]) sz) := by
  refine xl_met (by decide) rfl (Nat.le_of_ble_eq_true rfl) ?_
  intro p e s m below meth c ls hx hb hr hts hown hlocks hml hnm hP hD hK hN hZ hS hA hl hsz
  subst hsz
  have hl : lv_has ls 7 [(0, .ref th), (1, .int x1), (2, .int (nI rq)), (3, .int x3), (4, .int (nI st)), (5, .int x5)] := hl
  refine lv_aload_n hx hb dLoan_init_0 rfl (lv_at hl 0 rfl) ?_
  refine W.objInit hx hb hown (hts _ kw_594) (hts _ kw_32) (hts _ kw_33) rfl (by rw [hml]; exact hl.1) rfl dLoan_init_1 (Nat.le_of_ble_eq_true rfl) (Nat.le_of_ble_eq_true rfl) ?_
  refine W.eq (g2 := F0 m 4 ls []) rfl ?_
  refine lv_aload_n hx hb dLoan_init_4 rfl (lv_at hl 0 rfl) ?_
  refine lv_bipush (v := 6) hx hb dLoan_init_5 (by decide) ?_
  refine xl_newq (N' := 6) (cA := T 4) hx hb hown (hts _ kw_178) hZ.2.2.2.2 hK 4 rfl hP hD hS hA (by decide) (by decide) (by decide) (Nat.le_of_ble_eq_true rfl) (Nat.le_of_ble_eq_true rfl) dLoan_init_7 (fun q1 H hP hD hS => ?_)
  rw [List.append_assoc] at hP hD
  have hP : va_P D vwCl (pr ++ [(th, .inr (2, [.int 0, .int 0, .int 0, .int 0, .int 0, .null, .null, .null])), (q1, .inl (T 4, 6, .inr (.inr (.inr (.inr (fun _ => none))))))]) H := hP
  have hD : va_D (va_A (pr ++ [(th, .inr (2, [.int 0, .int 0, .int 0, .int 0, .int 0, .null, .null, .null]))]) s.heap.size) (pr ++ [(th, .inr (2, [.int 0, .int 0, .int 0, .int 0, .int 0, .null, .null, .null])), (q1, .inl (T 4, 6, .inr (.inr (.inr (.inr (fun _ => none))))))]) := hD
  refine va_putF (D := D) (ci := 2) (v := .ref q1) (ty := .array (.object "LoanLetters$Deal")) (C := RLoan) (T := TLoan) (N := 8) hx hb hts ulLoan tyLoan gLoan.1 gLoan.2 hown hK hP hD hS (pr.length + 0) (xl_get rfl) rfl 5 (by decide) (hts _ fLoan_11.2.2.2) (fun _ h9 => h9) rfl hnm rfl (by decide +kernel) rfl rfl (Nat.le_of_ble_eq_true rfl) dLoan_init_10 (fun H locs hP hD hS => ?_)
  rw [xl_set] at hP hD
  have hP : va_P D vwCl (pr ++ [(th, .inr (2, [.int 0, .int 0, .int 0, .int 0, .int 0, .ref q1, .null, .null])), (q1, .inl (T 4, 6, .inr (.inr (.inr (.inr (fun _ => none))))))]) H := hP
  have hD : va_D (va_A (pr ++ [(th, .inr (2, [.int 0, .int 0, .int 0, .int 0, .int 0, .null, .null, .null]))]) s.heap.size) (pr ++ [(th, .inr (2, [.int 0, .int 0, .int 0, .int 0, .int 0, .ref q1, .null, .null])), (q1, .inl (T 4, 6, .inr (.inr (.inr (.inr (fun _ => none))))))]) := hD
  refine lv_aload_n hx hb dLoan_init_13 rfl (lv_at hl 0 rfl) ?_
  refine va_new (fs := [.int 0, .int 0, .int 0, .int 0]) (ci := 3) hx hb hts ulPage tyPage gPage.1 hown (hts _ kw_596) (hts _ kw_185) (hts _ kw_12) hK hP hD hS hA rfl (by decide +kernel) (Nat.le_of_ble_eq_true rfl) (Nat.le_of_ble_eq_true rfl) dLoan_init_14 (fun q2 H hP hD hS => ?_)
  rw [List.append_assoc] at hP hD
  have hP : va_P D vwCl (pr ++ [(th, .inr (2, [.int 0, .int 0, .int 0, .int 0, .int 0, .ref q1, .null, .null])), (q1, .inl (T 4, 6, .inr (.inr (.inr (.inr (fun _ => none)))))), (q2, .inr (3, [.int 0, .int 0, .int 0, .int 0]))]) H := hP
  have hD : va_D (va_A (pr ++ [(th, .inr (2, [.int 0, .int 0, .int 0, .int 0, .int 0, .null, .null, .null]))]) s.heap.size) (pr ++ [(th, .inr (2, [.int 0, .int 0, .int 0, .int 0, .int 0, .ref q1, .null, .null])), (q1, .inl (T 4, 6, .inr (.inr (.inr (.inr (fun _ => none)))))), (q2, .inr (3, [.int 0, .int 0, .int 0, .int 0]))]) := hD
  refine lv_dup hx hb dLoan_init_17 rfl ?_
  have hP9 : va_P D vwCl ((pr ++ [(th, .inr (2, [.int 0, .int 0, .int 0, .int 0, .int 0, .ref q1, .null, .null])), (q1, .inl (T 4, 6, .inr (.inr (.inr (.inr (fun _ => none))))))]) ++ [(q2, .inr (3, [.int 0, .int 0, .int 0, .int 0]))]) H := by rw [List.append_assoc]; exact hP
  have hD9 : va_D (va_A (pr ++ [(th, .inr (2, [.int 0, .int 0, .int 0, .int 0, .int 0, .null, .null, .null]))]) s.heap.size) ((pr ++ [(th, .inr (2, [.int 0, .int 0, .int 0, .int 0, .int 0, .ref q1, .null, .null])), (q1, .inl (T 4, 6, .inr (.inr (.inr (.inr (fun _ => none))))))]) ++ [(q2, .inr (3, [.int 0, .int 0, .int 0, .int 0]))]) := by rw [List.append_assoc]; exact hD
  refine xl_callv (va_runIN (As := []) (b := q2) (rest := [.ref q2, .ref th]) ⟨hx, hb, hml, hown, hts⟩ (c_Page_init l D T t0 (pr ++ [(th, .inr (2, [.int 0, .int 0, .int 0, .int 0, .int 0, .ref q1, .null, .null])), (q1, .inl (T 4, 6, .inr (.inr (.inr (.inr (fun _ => none))))))]) _ q2 ) ⟨va_cnB 0 hts (WS_cons kw_188) rfl rfl rfl (hN.at 3 rfl) (hts _ kw_12) (by decide +kernel) ⟨Nat.le_of_ble_eq_true rfl, Nat.le_of_ble_eq_true rfl⟩, rfl, hts _ kw_187⟩ (xl_preS hK hN hP9 hD9 hZ hS hA) rfl rfl hl.1 rfl (lv_room (Nat.le_of_ble_eq_true rfl)) dLoan_init_18 ⟨Nat.le_of_ble_eq_true rfl, Nat.le_of_ble_eq_true rfl⟩) hD9 hS hA (fun u H locs hp hP hD hS => ?_)
  obtain rfl := hp
  rw [List.append_assoc] at hP hD
  have hP : va_P D vwCl (pr ++ [(th, .inr (2, [.int 0, .int 0, .int 0, .int 0, .int 0, .ref q1, .null, .null])), (q1, .inl (T 4, 6, .inr (.inr (.inr (.inr (fun _ => none)))))), (q2, .inr (3, [.int 0, .int 0, .int 0, .int 0]))]) H := hP
  have hD : va_D (va_A (pr ++ [(th, .inr (2, [.int 0, .int 0, .int 0, .int 0, .int 0, .null, .null, .null]))]) s.heap.size) (pr ++ [(th, .inr (2, [.int 0, .int 0, .int 0, .int 0, .int 0, .ref q1, .null, .null])), (q1, .inl (T 4, 6, .inr (.inr (.inr (.inr (fun _ => none)))))), (q2, .inr (3, [.int 0, .int 0, .int 0, .int 0]))]) := hD
  refine va_putF (D := D) (ci := 2) (v := .ref q2) (ty := .object "LoanLetters$Page") (C := RLoan) (T := TLoan) (N := 8) hx hb hts ulLoan tyLoan gLoan.1 gLoan.2 hown hK hP hD hS (pr.length + 0) (xl_get rfl) rfl 6 (by decide) (hts _ fLoan_20.2.2.2) (fun _ h9 => h9) rfl hnm rfl (by decide +kernel) rfl rfl (Nat.le_of_ble_eq_true rfl) dLoan_init_21 (fun H locs hP hD hS => ?_)
  rw [xl_set] at hP hD
  have hP : va_P D vwCl (pr ++ [(th, .inr (2, [.int 0, .int 0, .int 0, .int 0, .int 0, .ref q1, .ref q2, .null])), (q1, .inl (T 4, 6, .inr (.inr (.inr (.inr (fun _ => none)))))), (q2, .inr (3, [.int 0, .int 0, .int 0, .int 0]))]) H := hP
  have hD : va_D (va_A (pr ++ [(th, .inr (2, [.int 0, .int 0, .int 0, .int 0, .int 0, .null, .null, .null]))]) s.heap.size) (pr ++ [(th, .inr (2, [.int 0, .int 0, .int 0, .int 0, .int 0, .ref q1, .ref q2, .null])), (q1, .inl (T 4, 6, .inr (.inr (.inr (.inr (fun _ => none)))))), (q2, .inr (3, [.int 0, .int 0, .int 0, .int 0]))]) := hD
  refine lv_aload_n hx hb dLoan_init_24 rfl (lv_at hl 0 rfl) ?_
  refine lv_iload_n hx hb dLoan_init_25 rfl (lv_at hl 1 rfl) ?_
  refine va_putF (D := D) (ci := 2) (v := .int x1) (ty := .int) (C := RLoan) (T := TLoan) (N := 8) hx hb hts ulLoan tyLoan gLoan.1 gLoan.2 hown hK hP hD hS (pr.length + 0) (xl_get rfl) rfl 0 (by decide) (hts _ fLoan_24.2.2.2) (fun _ h9 => h9) rfl hnm rfl (by decide +kernel) rfl rfl (Nat.le_of_ble_eq_true rfl) dLoan_init_26 (fun H locs hP hD hS => ?_)
  rw [xl_set] at hP hD
  have hP : va_P D vwCl (pr ++ [(th, .inr (2, [.int x1, .int 0, .int 0, .int 0, .int 0, .ref q1, .ref q2, .null])), (q1, .inl (T 4, 6, .inr (.inr (.inr (.inr (fun _ => none)))))), (q2, .inr (3, [.int 0, .int 0, .int 0, .int 0]))]) H := hP
  have hD : va_D (va_A (pr ++ [(th, .inr (2, [.int 0, .int 0, .int 0, .int 0, .int 0, .null, .null, .null]))]) s.heap.size) (pr ++ [(th, .inr (2, [.int x1, .int 0, .int 0, .int 0, .int 0, .ref q1, .ref q2, .null])), (q1, .inl (T 4, 6, .inr (.inr (.inr (.inr (fun _ => none)))))), (q2, .inr (3, [.int 0, .int 0, .int 0, .int 0]))]) := hD
  refine lv_aload_n hx hb dLoan_init_29 rfl (lv_at hl 0 rfl) ?_
  refine lv_iload_n hx hb dLoan_init_30 rfl (lv_at hl 2 rfl) ?_
  refine va_putF (D := D) (ci := 2) (v := .int (nI rq)) (ty := .int) (C := RLoan) (T := TLoan) (N := 8) hx hb hts ulLoan tyLoan gLoan.1 gLoan.2 hown hK hP hD hS (pr.length + 0) (xl_get rfl) rfl 1 (by decide) (hts _ fLoan_28.2.2.2) (fun _ h9 => h9) rfl hnm rfl (by decide +kernel) rfl rfl (Nat.le_of_ble_eq_true rfl) dLoan_init_31 (fun H locs hP hD hS => ?_)
  rw [xl_set] at hP hD
  have hP : va_P D vwCl (pr ++ [(th, .inr (2, [.int x1, .int (nI rq), .int 0, .int 0, .int 0, .ref q1, .ref q2, .null])), (q1, .inl (T 4, 6, .inr (.inr (.inr (.inr (fun _ => none)))))), (q2, .inr (3, [.int 0, .int 0, .int 0, .int 0]))]) H := hP
  have hD : va_D (va_A (pr ++ [(th, .inr (2, [.int 0, .int 0, .int 0, .int 0, .int 0, .null, .null, .null]))]) s.heap.size) (pr ++ [(th, .inr (2, [.int x1, .int (nI rq), .int 0, .int 0, .int 0, .ref q1, .ref q2, .null])), (q1, .inl (T 4, 6, .inr (.inr (.inr (.inr (fun _ => none)))))), (q2, .inr (3, [.int 0, .int 0, .int 0, .int 0]))]) := hD
  refine lv_aload_n hx hb dLoan_init_34 rfl (lv_at hl 0 rfl) ?_
  refine lv_iload_n hx hb dLoan_init_35 rfl (lv_at hl 3 rfl) ?_
  refine va_putF (D := D) (ci := 2) (v := .int x3) (ty := .int) (C := RLoan) (T := TLoan) (N := 8) hx hb hts ulLoan tyLoan gLoan.1 gLoan.2 hown hK hP hD hS (pr.length + 0) (xl_get rfl) rfl 2 (by decide) (hts _ fLoan_31.2.2.2) (fun _ h9 => h9) rfl hnm rfl (by decide +kernel) rfl rfl (Nat.le_of_ble_eq_true rfl) dLoan_init_36 (fun H locs hP hD hS => ?_)
  rw [xl_set] at hP hD
  have hP : va_P D vwCl (pr ++ [(th, .inr (2, [.int x1, .int (nI rq), .int x3, .int 0, .int 0, .ref q1, .ref q2, .null])), (q1, .inl (T 4, 6, .inr (.inr (.inr (.inr (fun _ => none)))))), (q2, .inr (3, [.int 0, .int 0, .int 0, .int 0]))]) H := hP
  have hD : va_D (va_A (pr ++ [(th, .inr (2, [.int 0, .int 0, .int 0, .int 0, .int 0, .null, .null, .null]))]) s.heap.size) (pr ++ [(th, .inr (2, [.int x1, .int (nI rq), .int x3, .int 0, .int 0, .ref q1, .ref q2, .null])), (q1, .inl (T 4, 6, .inr (.inr (.inr (.inr (fun _ => none)))))), (q2, .inr (3, [.int 0, .int 0, .int 0, .int 0]))]) := hD
  refine lv_aload_n hx hb dLoan_init_39 rfl (lv_at hl 0 rfl) ?_
  refine lv_iload hx hb dLoan_init_40 (lv_at hl 4 rfl) ?_
  refine va_putF (D := D) (ci := 2) (v := .int (nI st)) (ty := .int) (C := RLoan) (T := TLoan) (N := 8) hx hb hts ulLoan tyLoan gLoan.1 gLoan.2 hown hK hP hD hS (pr.length + 0) (xl_get rfl) rfl 3 (by decide) (hts _ fLoan_34.2.2.2) (fun _ h9 => h9) rfl hnm rfl (by decide +kernel) rfl rfl (Nat.le_of_ble_eq_true rfl) dLoan_init_42 (fun H locs hP hD hS => ?_)
  rw [xl_set] at hP hD
  have hP : va_P D vwCl (pr ++ [(th, .inr (2, [.int x1, .int (nI rq), .int x3, .int (nI st), .int 0, .ref q1, .ref q2, .null])), (q1, .inl (T 4, 6, .inr (.inr (.inr (.inr (fun _ => none)))))), (q2, .inr (3, [.int 0, .int 0, .int 0, .int 0]))]) H := hP
  have hD : va_D (va_A (pr ++ [(th, .inr (2, [.int 0, .int 0, .int 0, .int 0, .int 0, .null, .null, .null]))]) s.heap.size) (pr ++ [(th, .inr (2, [.int x1, .int (nI rq), .int x3, .int (nI st), .int 0, .ref q1, .ref q2, .null])), (q1, .inl (T 4, 6, .inr (.inr (.inr (.inr (fun _ => none)))))), (q2, .inr (3, [.int 0, .int 0, .int 0, .int 0]))]) := hD
  refine lv_aload_n hx hb dLoan_init_45 rfl (lv_at hl 0 rfl) ?_
  refine lv_iload hx hb dLoan_init_46 (lv_at hl 5 rfl) ?_
  refine va_putF (D := D) (ci := 2) (v := .int x5) (ty := .int) (C := RLoan) (T := TLoan) (N := 8) hx hb hts ulLoan tyLoan gLoan.1 gLoan.2 hown hK hP hD hS (pr.length + 0) (xl_get rfl) rfl 4 (by decide) (hts _ fLoan_37.2.2.2) (fun _ h9 => h9) rfl hnm rfl (by decide +kernel) rfl rfl (Nat.le_of_ble_eq_true rfl) dLoan_init_48 (fun H locs hP hD hS => ?_)
  rw [xl_set] at hP hD
  have hP : va_P D vwCl (pr ++ [(th, .inr (2, [.int x1, .int (nI rq), .int x3, .int (nI st), .int x5, .ref q1, .ref q2, .null])), (q1, .inl (T 4, 6, .inr (.inr (.inr (.inr (fun _ => none)))))), (q2, .inr (3, [.int 0, .int 0, .int 0, .int 0]))]) H := hP
  have hD : va_D (va_A (pr ++ [(th, .inr (2, [.int 0, .int 0, .int 0, .int 0, .int 0, .null, .null, .null]))]) s.heap.size) (pr ++ [(th, .inr (2, [.int x1, .int (nI rq), .int x3, .int (nI st), .int x5, .ref q1, .ref q2, .null])), (q1, .inl (T 4, 6, .inr (.inr (.inr (.inr (fun _ => none)))))), (q2, .inr (3, [.int 0, .int 0, .int 0, .int 0]))]) := hD
  refine lv_iload hx hb dLoan_init_51 (lv_at hl 4 rfl) ?_
  refine lv_iload_n hx hb dLoan_init_53 rfl (lv_at hl 2 rfl) ?_
  refine lv_icmp_ne (tgt := 67) hx hb dLoan_init_54 rfl (fun h9 => absurd ((nI_eq (a := st) (b := rq) (by omega) (by omega)).mpr heq) h9) (fun _ => ?_)
  refine lv_iload hx hb dLoan_init_57 (lv_at hl 4 rfl) ?_
  refine lv_iconst (v := 1) hx hb dLoan_init_59 (by decide) ?_
  refine lv_iadd hx hb dLoan_init_60 ?_
  refine lv_toe (y := nI (st + 1)) (nI_add st 1) ?_
  refine lv_bipush (v := 6) hx hb dLoan_init_61 (by decide) ?_
  refine lv_irem hx hb dLoan_init_63 (by decide) ?_
  refine lv_toe (y := nI ((st + 1) % 6)) (pk_rem (a := (st + 1)) (d := 6) (by omega) (by decide) (by decide)) ?_
  refine lv_goto (tgt := 69) hx hb dLoan_init_64 rfl ?_
  refine lv_istore (lv' := [(6, .int (nI ((st + 1) % 6))), (0, .ref th), (1, .int x1), (2, .int (nI rq)), (3, .int x3), (4, .int (nI st)), (5, .int x5)]) hx hb dLoan_init_69 hl (by decide) rfl (fun ls hl => ?_)
  refine lv_aload_n hx hb dLoan_init_71 rfl (lv_at hl 1 rfl) ?_
  refine va_new (fs := [.int 0, .null, .null, .null, .null, .int 0]) (ci := 4) hx hb hts ulDeal tyDeal gDeal.1 hown (hts _ kw_178) (hts _ kw_179) (hts _ kw_13) hK hP hD hS hA rfl (by decide +kernel) (Nat.le_of_ble_eq_true rfl) (Nat.le_of_ble_eq_true rfl) dLoan_init_72 (fun q3 H hP hD hS => ?_)
  rw [List.append_assoc] at hP hD
  have hP : va_P D vwCl (pr ++ [(th, .inr (2, [.int x1, .int (nI rq), .int x3, .int (nI st), .int x5, .ref q1, .ref q2, .null])), (q1, .inl (T 4, 6, .inr (.inr (.inr (.inr (fun _ => none)))))), (q2, .inr (3, [.int 0, .int 0, .int 0, .int 0])), (q3, .inr (4, [.int 0, .null, .null, .null, .null, .int 0]))]) H := hP
  have hD : va_D (va_A (pr ++ [(th, .inr (2, [.int 0, .int 0, .int 0, .int 0, .int 0, .null, .null, .null]))]) s.heap.size) (pr ++ [(th, .inr (2, [.int x1, .int (nI rq), .int x3, .int (nI st), .int x5, .ref q1, .ref q2, .null])), (q1, .inl (T 4, 6, .inr (.inr (.inr (.inr (fun _ => none)))))), (q2, .inr (3, [.int 0, .int 0, .int 0, .int 0])), (q3, .inr (4, [.int 0, .null, .null, .null, .null, .int 0]))]) := hD
  refine lv_dup hx hb dLoan_init_75 rfl ?_
  refine lv_iload_n hx hb dLoan_init_76 rfl (lv_at hl 2 rfl) ?_
  refine lv_iload_n hx hb dLoan_init_77 rfl (lv_at hl 3 rfl) ?_
  refine lv_iload hx hb dLoan_init_78 (lv_at hl 0 rfl) ?_
  have hP9 : va_P D vwCl ((pr ++ [(th, .inr (2, [.int x1, .int (nI rq), .int x3, .int (nI st), .int x5, .ref q1, .ref q2, .null])), (q1, .inl (T 4, 6, .inr (.inr (.inr (.inr (fun _ => none)))))), (q2, .inr (3, [.int 0, .int 0, .int 0, .int 0]))]) ++ [(q3, .inr (4, [.int 0, .null, .null, .null, .null, .int 0]))]) H := by rw [List.append_assoc]; exact hP
  have hD9 : va_D (va_A (pr ++ [(th, .inr (2, [.int 0, .int 0, .int 0, .int 0, .int 0, .null, .null, .null]))]) s.heap.size) ((pr ++ [(th, .inr (2, [.int x1, .int (nI rq), .int x3, .int (nI st), .int x5, .ref q1, .ref q2, .null])), (q1, .inl (T 4, 6, .inr (.inr (.inr (.inr (fun _ => none)))))), (q2, .inr (3, [.int 0, .int 0, .int 0, .int 0]))]) ++ [(q3, .inr (4, [.int 0, .null, .null, .null, .null, .int 0]))]) := by rw [List.append_assoc]; exact hD
  refine xl_callv (va_runI (As := [.int x1, .int (nI rq), .int (nI ((st + 1) % 6))]) (b := q3) (rest := [.ref q3, .ref th]) ⟨hx, hb, hml, hown, hts⟩ (c_Deal_init l D T t0 (pr ++ [(th, .inr (2, [.int x1, .int (nI rq), .int x3, .int (nI st), .int x5, .ref q1, .ref q2, .null])), (q1, .inl (T 4, 6, .inr (.inr (.inr (.inr (fun _ => none)))))), (q2, .inr (3, [.int 0, .int 0, .int 0, .int 0]))]) _ q3 x1 (nI rq) (nI ((st + 1) % 6))) ⟨callB_of 3 hts gLoan_40.1 rfl rfl rfl (hts _ gLoan_40.2.2.2) (hts _ gLoan_40.2.1) (by decide +kernel) ⟨Nat.le_of_ble_eq_true rfl, Nat.le_of_ble_eq_true rfl⟩, rfl, hts _ gLoan_40.2.2.1⟩ (xl_preS hK hN hP9 hD9 hZ hS hA) rfl rfl hl.1 rfl (lv_room (Nat.le_of_ble_eq_true rfl)) dLoan_init_80 ⟨Nat.le_of_ble_eq_true rfl, Nat.le_of_ble_eq_true rfl⟩) hD9 hS hA (fun u H locs hp hP hD hS => ?_)
  obtain ⟨q4, q5, q6, q7, q8, rfl⟩ := hp
  rw [List.append_assoc] at hP hD
  have hP : va_P D vwCl (pr ++ [(th, .inr (2, [.int x1, .int (nI rq), .int x3, .int (nI st), .int x5, .ref q1, .ref q2, .null])), (q1, .inl (T 4, 6, .inr (.inr (.inr (.inr (fun _ => none)))))), (q2, .inr (3, [.int 0, .int 0, .int 0, .int 0])), (q3, .inr (4, [.int (nI ((st + 1) % 6)), .ref q5, .ref q7, .ref q4, .null, .int 0])), (q4, .inr (3, [.int 0, .int 0, .int 0, .int 0])), (q5, .inr (5, [.int x1, .int (nI rq), .int (nI ((st + 1) % 6)), .ref q6, .int 0, .int 0])), (q6, .inr (8, [.int 0, .ref t0.1, .int 0])), (q7, .inr (5, [.int x1, .int (nI ((st + 1) % 6)), .int (nI rq), .ref q8, .int 0, .int 0])), (q8, .inr (8, [.int 0, .ref t0.1, .int 0]))]) H := hP
  have hD : va_D (va_A (pr ++ [(th, .inr (2, [.int 0, .int 0, .int 0, .int 0, .int 0, .null, .null, .null]))]) s.heap.size) (pr ++ [(th, .inr (2, [.int x1, .int (nI rq), .int x3, .int (nI st), .int x5, .ref q1, .ref q2, .null])), (q1, .inl (T 4, 6, .inr (.inr (.inr (.inr (fun _ => none)))))), (q2, .inr (3, [.int 0, .int 0, .int 0, .int 0])), (q3, .inr (4, [.int (nI ((st + 1) % 6)), .ref q5, .ref q7, .ref q4, .null, .int 0])), (q4, .inr (3, [.int 0, .int 0, .int 0, .int 0])), (q5, .inr (5, [.int x1, .int (nI rq), .int (nI ((st + 1) % 6)), .ref q6, .int 0, .int 0])), (q6, .inr (8, [.int 0, .ref t0.1, .int 0])), (q7, .inr (5, [.int x1, .int (nI ((st + 1) % 6)), .int (nI rq), .ref q8, .int 0, .int 0])), (q8, .inr (8, [.int 0, .ref t0.1, .int 0]))]) := hD
  refine va_put (D := D) (ci := 2) (v := .ref q3) (ty := .object "LoanLetters$Deal") (C := RLoan) (T := TLoan) (N := 8) hx hb hts ulLoan tyLoan gLoan.1 gLoan.2 hown hK hP hD hS (pr.length + 0) (xl_get rfl) rfl 7 (by decide) (hts _ fLoan_43.2.2.2) (fun _ h9 => h9) rfl (by decide +kernel) rfl rfl (Nat.le_of_ble_eq_true rfl) dLoan_init_83 (fun H locs hP hD hS => ?_)
  rw [xl_set] at hP hD
  have hP : va_P D vwCl (pr ++ [(th, .inr (2, [.int x1, .int (nI rq), .int x3, .int (nI st), .int x5, .ref q1, .ref q2, .ref q3])), (q1, .inl (T 4, 6, .inr (.inr (.inr (.inr (fun _ => none)))))), (q2, .inr (3, [.int 0, .int 0, .int 0, .int 0])), (q3, .inr (4, [.int (nI ((st + 1) % 6)), .ref q5, .ref q7, .ref q4, .null, .int 0])), (q4, .inr (3, [.int 0, .int 0, .int 0, .int 0])), (q5, .inr (5, [.int x1, .int (nI rq), .int (nI ((st + 1) % 6)), .ref q6, .int 0, .int 0])), (q6, .inr (8, [.int 0, .ref t0.1, .int 0])), (q7, .inr (5, [.int x1, .int (nI ((st + 1) % 6)), .int (nI rq), .ref q8, .int 0, .int 0])), (q8, .inr (8, [.int 0, .ref t0.1, .int 0]))]) H := hP
  have hD : va_D (va_A (pr ++ [(th, .inr (2, [.int 0, .int 0, .int 0, .int 0, .int 0, .null, .null, .null]))]) s.heap.size) (pr ++ [(th, .inr (2, [.int x1, .int (nI rq), .int x3, .int (nI st), .int x5, .ref q1, .ref q2, .ref q3])), (q1, .inl (T 4, 6, .inr (.inr (.inr (.inr (fun _ => none)))))), (q2, .inr (3, [.int 0, .int 0, .int 0, .int 0])), (q3, .inr (4, [.int (nI ((st + 1) % 6)), .ref q5, .ref q7, .ref q4, .null, .int 0])), (q4, .inr (3, [.int 0, .int 0, .int 0, .int 0])), (q5, .inr (5, [.int x1, .int (nI rq), .int (nI ((st + 1) % 6)), .ref q6, .int 0, .int 0])), (q6, .inr (8, [.int 0, .ref t0.1, .int 0])), (q7, .inr (5, [.int x1, .int (nI ((st + 1) % 6)), .int (nI rq), .ref q8, .int 0, .int 0])), (q8, .inr (8, [.int 0, .ref t0.1, .int 0]))]) := hD
  refine lv_aload_n hx hb dLoan_init_86 rfl (lv_at hl 1 rfl) ?_
  refine va_get (ci := 2) (C := RLoan) (T := TLoan) (N := 8) hx hb hts ulLoan hown hK hP (pr.length + 0) (xl_get rfl) rfl 5 (by decide) (hts _ fLoan_11.2.2.2) (fun _ h9 => h9) rfl dLoan_init_87 ?_
  refine lv_iload hx hb dLoan_init_90 (lv_at hl 0 rfl) ?_
  refine lv_aload_n hx hb dLoan_init_92 rfl (lv_at hl 1 rfl) ?_
  refine va_get (ci := 2) (C := RLoan) (T := TLoan) (N := 8) hx hb hts ulLoan hown hK hP (pr.length + 0) (xl_get rfl) rfl 7 (by decide) (hts _ fLoan_43.2.2.2) (fun _ h9 => h9) rfl dLoan_init_93 ?_
  refine va_astq (r := (RDeal, TDeal, 6)) hx hb hK hP hD hS (pr.length + 1) 4 (pr.length + 3) 4 (xl_get rfl) rfl (xl_get rfl) rfl (vp_in_nI (by omega) (by decide)) dLoan_init_96 (fun H locs hP hD hS => ?_)
  rw [nI_clamp (by omega)] at hP hD
  rw [xl_set] at hP hD
  have hP : va_P D vwCl (pr ++ [(th, .inr (2, [.int x1, .int (nI rq), .int x3, .int (nI st), .int x5, .ref q1, .ref q2, .ref q3])), (q1, .inl (T 4, 6, .inr (.inr (.inr (.inr (va_up (fun _ => none) ((st + 1) % 6) (some q3))))))), (q2, .inr (3, [.int 0, .int 0, .int 0, .int 0])), (q3, .inr (4, [.int (nI ((st + 1) % 6)), .ref q5, .ref q7, .ref q4, .null, .int 0])), (q4, .inr (3, [.int 0, .int 0, .int 0, .int 0])), (q5, .inr (5, [.int x1, .int (nI rq), .int (nI ((st + 1) % 6)), .ref q6, .int 0, .int 0])), (q6, .inr (8, [.int 0, .ref t0.1, .int 0])), (q7, .inr (5, [.int x1, .int (nI ((st + 1) % 6)), .int (nI rq), .ref q8, .int 0, .int 0])), (q8, .inr (8, [.int 0, .ref t0.1, .int 0]))]) H := hP
  have hD : va_D (va_A (pr ++ [(th, .inr (2, [.int 0, .int 0, .int 0, .int 0, .int 0, .null, .null, .null]))]) s.heap.size) (pr ++ [(th, .inr (2, [.int x1, .int (nI rq), .int x3, .int (nI st), .int x5, .ref q1, .ref q2, .ref q3])), (q1, .inl (T 4, 6, .inr (.inr (.inr (.inr (va_up (fun _ => none) ((st + 1) % 6) (some q3))))))), (q2, .inr (3, [.int 0, .int 0, .int 0, .int 0])), (q3, .inr (4, [.int (nI ((st + 1) % 6)), .ref q5, .ref q7, .ref q4, .null, .int 0])), (q4, .inr (3, [.int 0, .int 0, .int 0, .int 0])), (q5, .inr (5, [.int x1, .int (nI rq), .int (nI ((st + 1) % 6)), .ref q6, .int 0, .int 0])), (q6, .inr (8, [.int 0, .ref t0.1, .int 0])), (q7, .inr (5, [.int x1, .int (nI ((st + 1) % 6)), .int (nI rq), .ref q8, .int 0, .int 0])), (q8, .inr (8, [.int 0, .ref t0.1, .int 0]))]) := hD
  exact xl_vret hx hb hr hlocks hP hD hS dLoan_init_97 ⟨q1, q2, q3, q4, q5, q6, q7, q8, rfl⟩

set_option maxHeartbeats 4000000 in
set_option maxRecDepth 100000 in
theorem c_Loan_init_n (l : Launch) (D : va_G) (T : Nat → ClassId) (t0 : Nat × Nat) (pr : va_W) (sz th : Nat) (x1 : Int32) (x3 : Int32) (x5 : Int32) (rq : Nat) (st : Nat) (hrq : rq < 6) (hst : st < 6) (heq : ¬ st = rq) : Met l yLoan_init wsLoan_init ({ frames := 6, cells := 8, slots := 38, locals := 118 }) (xl_Pc D T t0 (pr ++ [(th, .inr (2, [.int 0, .int 0, .int 0, .int 0, .int 0, .null, .null, .null]))]) sz [.ref th, .int x1, .int (nI rq), .int x3, .int (nI st), .int x5]) (xl_Qv D (pr ++ [(th, .inr (2, [.int 0, .int 0, .int 0, .int 0, .int 0, .null, .null, .null]))]) sz (fun u => ∃ q1 : Nat, ∃ q2 : Nat, ∃ q3 : Nat, ∃ q4 : Nat, ∃ q5 : Nat, ∃ q6 : Nat, ∃ q7 : Nat, ∃ q8 : Nat, u = pr ++ [(th, .inr (2, [.int x1, .int (nI rq), .int x3, .int (nI st), .int x5, .ref q1, .ref q2, .ref q3])), (q1, .inl (T 4, 6, .inr (.inr (.inr (.inr (va_up (fun _ => none) st (some q3))))))), (q2, .inr (3, [.int 0, .int 0, .int 0, .int 0])), (q3, .inr (4, [.int (nI st), .ref q5, .ref q7, .ref q4, .null, .int 0])), (q4, .inr (3, [.int 0, .int 0, .int 0, .int 0])), (q5, .inr (5, [.int x1, .int (nI rq), .int (nI st), .ref q6, .int 0, .int 0])), (q6, .inr (8, [.int 0, .ref t0.1, .int 0])), (q7, .inr (5, [.int x1, .int (nI st), .int (nI rq), .ref q8, .int 0, .int 0])), (q8, .inr (8, [.int 0, .ref t0.1, .int 0]))])) 8 38 (va_A (pr ++ [(th, .inr (2, [.int 0, .int 0, .int 0, .int 0, .int 0, .null, .null, .null]))]) sz) := by
  refine xl_met (by decide) rfl (Nat.le_of_ble_eq_true rfl) ?_
  intro p e s m below meth c ls hx hb hr hts hown hlocks hml hnm hP hD hK hN hZ hS hA hl hsz
  subst hsz
  have hl : lv_has ls 7 [(0, .ref th), (1, .int x1), (2, .int (nI rq)), (3, .int x3), (4, .int (nI st)), (5, .int x5)] := hl
  refine lv_aload_n hx hb dLoan_init_0 rfl (lv_at hl 0 rfl) ?_
  refine W.objInit hx hb hown (hts _ kw_594) (hts _ kw_32) (hts _ kw_33) rfl (by rw [hml]; exact hl.1) rfl dLoan_init_1 (Nat.le_of_ble_eq_true rfl) (Nat.le_of_ble_eq_true rfl) ?_
  refine W.eq (g2 := F0 m 4 ls []) rfl ?_
  refine lv_aload_n hx hb dLoan_init_4 rfl (lv_at hl 0 rfl) ?_
  refine lv_bipush (v := 6) hx hb dLoan_init_5 (by decide) ?_
  refine xl_newq (N' := 6) (cA := T 4) hx hb hown (hts _ kw_178) hZ.2.2.2.2 hK 4 rfl hP hD hS hA (by decide) (by decide) (by decide) (Nat.le_of_ble_eq_true rfl) (Nat.le_of_ble_eq_true rfl) dLoan_init_7 (fun q1 H hP hD hS => ?_)
  rw [List.append_assoc] at hP hD
  have hP : va_P D vwCl (pr ++ [(th, .inr (2, [.int 0, .int 0, .int 0, .int 0, .int 0, .null, .null, .null])), (q1, .inl (T 4, 6, .inr (.inr (.inr (.inr (fun _ => none))))))]) H := hP
  have hD : va_D (va_A (pr ++ [(th, .inr (2, [.int 0, .int 0, .int 0, .int 0, .int 0, .null, .null, .null]))]) s.heap.size) (pr ++ [(th, .inr (2, [.int 0, .int 0, .int 0, .int 0, .int 0, .null, .null, .null])), (q1, .inl (T 4, 6, .inr (.inr (.inr (.inr (fun _ => none))))))]) := hD
  refine va_putF (D := D) (ci := 2) (v := .ref q1) (ty := .array (.object "LoanLetters$Deal")) (C := RLoan) (T := TLoan) (N := 8) hx hb hts ulLoan tyLoan gLoan.1 gLoan.2 hown hK hP hD hS (pr.length + 0) (xl_get rfl) rfl 5 (by decide) (hts _ fLoan_11.2.2.2) (fun _ h9 => h9) rfl hnm rfl (by decide +kernel) rfl rfl (Nat.le_of_ble_eq_true rfl) dLoan_init_10 (fun H locs hP hD hS => ?_)
  rw [xl_set] at hP hD
  have hP : va_P D vwCl (pr ++ [(th, .inr (2, [.int 0, .int 0, .int 0, .int 0, .int 0, .ref q1, .null, .null])), (q1, .inl (T 4, 6, .inr (.inr (.inr (.inr (fun _ => none))))))]) H := hP
  have hD : va_D (va_A (pr ++ [(th, .inr (2, [.int 0, .int 0, .int 0, .int 0, .int 0, .null, .null, .null]))]) s.heap.size) (pr ++ [(th, .inr (2, [.int 0, .int 0, .int 0, .int 0, .int 0, .ref q1, .null, .null])), (q1, .inl (T 4, 6, .inr (.inr (.inr (.inr (fun _ => none))))))]) := hD
  refine lv_aload_n hx hb dLoan_init_13 rfl (lv_at hl 0 rfl) ?_
  refine va_new (fs := [.int 0, .int 0, .int 0, .int 0]) (ci := 3) hx hb hts ulPage tyPage gPage.1 hown (hts _ kw_596) (hts _ kw_185) (hts _ kw_12) hK hP hD hS hA rfl (by decide +kernel) (Nat.le_of_ble_eq_true rfl) (Nat.le_of_ble_eq_true rfl) dLoan_init_14 (fun q2 H hP hD hS => ?_)
  rw [List.append_assoc] at hP hD
  have hP : va_P D vwCl (pr ++ [(th, .inr (2, [.int 0, .int 0, .int 0, .int 0, .int 0, .ref q1, .null, .null])), (q1, .inl (T 4, 6, .inr (.inr (.inr (.inr (fun _ => none)))))), (q2, .inr (3, [.int 0, .int 0, .int 0, .int 0]))]) H := hP
  have hD : va_D (va_A (pr ++ [(th, .inr (2, [.int 0, .int 0, .int 0, .int 0, .int 0, .null, .null, .null]))]) s.heap.size) (pr ++ [(th, .inr (2, [.int 0, .int 0, .int 0, .int 0, .int 0, .ref q1, .null, .null])), (q1, .inl (T 4, 6, .inr (.inr (.inr (.inr (fun _ => none)))))), (q2, .inr (3, [.int 0, .int 0, .int 0, .int 0]))]) := hD
  refine lv_dup hx hb dLoan_init_17 rfl ?_
  have hP9 : va_P D vwCl ((pr ++ [(th, .inr (2, [.int 0, .int 0, .int 0, .int 0, .int 0, .ref q1, .null, .null])), (q1, .inl (T 4, 6, .inr (.inr (.inr (.inr (fun _ => none))))))]) ++ [(q2, .inr (3, [.int 0, .int 0, .int 0, .int 0]))]) H := by rw [List.append_assoc]; exact hP
  have hD9 : va_D (va_A (pr ++ [(th, .inr (2, [.int 0, .int 0, .int 0, .int 0, .int 0, .null, .null, .null]))]) s.heap.size) ((pr ++ [(th, .inr (2, [.int 0, .int 0, .int 0, .int 0, .int 0, .ref q1, .null, .null])), (q1, .inl (T 4, 6, .inr (.inr (.inr (.inr (fun _ => none))))))]) ++ [(q2, .inr (3, [.int 0, .int 0, .int 0, .int 0]))]) := by rw [List.append_assoc]; exact hD
  refine xl_callv (va_runIN (As := []) (b := q2) (rest := [.ref q2, .ref th]) ⟨hx, hb, hml, hown, hts⟩ (c_Page_init l D T t0 (pr ++ [(th, .inr (2, [.int 0, .int 0, .int 0, .int 0, .int 0, .ref q1, .null, .null])), (q1, .inl (T 4, 6, .inr (.inr (.inr (.inr (fun _ => none))))))]) _ q2 ) ⟨va_cnB 0 hts (WS_cons kw_188) rfl rfl rfl (hN.at 3 rfl) (hts _ kw_12) (by decide +kernel) ⟨Nat.le_of_ble_eq_true rfl, Nat.le_of_ble_eq_true rfl⟩, rfl, hts _ kw_187⟩ (xl_preS hK hN hP9 hD9 hZ hS hA) rfl rfl hl.1 rfl (lv_room (Nat.le_of_ble_eq_true rfl)) dLoan_init_18 ⟨Nat.le_of_ble_eq_true rfl, Nat.le_of_ble_eq_true rfl⟩) hD9 hS hA (fun u H locs hp hP hD hS => ?_)
  obtain rfl := hp
  rw [List.append_assoc] at hP hD
  have hP : va_P D vwCl (pr ++ [(th, .inr (2, [.int 0, .int 0, .int 0, .int 0, .int 0, .ref q1, .null, .null])), (q1, .inl (T 4, 6, .inr (.inr (.inr (.inr (fun _ => none)))))), (q2, .inr (3, [.int 0, .int 0, .int 0, .int 0]))]) H := hP
  have hD : va_D (va_A (pr ++ [(th, .inr (2, [.int 0, .int 0, .int 0, .int 0, .int 0, .null, .null, .null]))]) s.heap.size) (pr ++ [(th, .inr (2, [.int 0, .int 0, .int 0, .int 0, .int 0, .ref q1, .null, .null])), (q1, .inl (T 4, 6, .inr (.inr (.inr (.inr (fun _ => none)))))), (q2, .inr (3, [.int 0, .int 0, .int 0, .int 0]))]) := hD
  refine va_putF (D := D) (ci := 2) (v := .ref q2) (ty := .object "LoanLetters$Page") (C := RLoan) (T := TLoan) (N := 8) hx hb hts ulLoan tyLoan gLoan.1 gLoan.2 hown hK hP hD hS (pr.length + 0) (xl_get rfl) rfl 6 (by decide) (hts _ fLoan_20.2.2.2) (fun _ h9 => h9) rfl hnm rfl (by decide +kernel) rfl rfl (Nat.le_of_ble_eq_true rfl) dLoan_init_21 (fun H locs hP hD hS => ?_)
  rw [xl_set] at hP hD
  have hP : va_P D vwCl (pr ++ [(th, .inr (2, [.int 0, .int 0, .int 0, .int 0, .int 0, .ref q1, .ref q2, .null])), (q1, .inl (T 4, 6, .inr (.inr (.inr (.inr (fun _ => none)))))), (q2, .inr (3, [.int 0, .int 0, .int 0, .int 0]))]) H := hP
  have hD : va_D (va_A (pr ++ [(th, .inr (2, [.int 0, .int 0, .int 0, .int 0, .int 0, .null, .null, .null]))]) s.heap.size) (pr ++ [(th, .inr (2, [.int 0, .int 0, .int 0, .int 0, .int 0, .ref q1, .ref q2, .null])), (q1, .inl (T 4, 6, .inr (.inr (.inr (.inr (fun _ => none)))))), (q2, .inr (3, [.int 0, .int 0, .int 0, .int 0]))]) := hD
  refine lv_aload_n hx hb dLoan_init_24 rfl (lv_at hl 0 rfl) ?_
  refine lv_iload_n hx hb dLoan_init_25 rfl (lv_at hl 1 rfl) ?_
  refine va_putF (D := D) (ci := 2) (v := .int x1) (ty := .int) (C := RLoan) (T := TLoan) (N := 8) hx hb hts ulLoan tyLoan gLoan.1 gLoan.2 hown hK hP hD hS (pr.length + 0) (xl_get rfl) rfl 0 (by decide) (hts _ fLoan_24.2.2.2) (fun _ h9 => h9) rfl hnm rfl (by decide +kernel) rfl rfl (Nat.le_of_ble_eq_true rfl) dLoan_init_26 (fun H locs hP hD hS => ?_)
  rw [xl_set] at hP hD
  have hP : va_P D vwCl (pr ++ [(th, .inr (2, [.int x1, .int 0, .int 0, .int 0, .int 0, .ref q1, .ref q2, .null])), (q1, .inl (T 4, 6, .inr (.inr (.inr (.inr (fun _ => none)))))), (q2, .inr (3, [.int 0, .int 0, .int 0, .int 0]))]) H := hP
  have hD : va_D (va_A (pr ++ [(th, .inr (2, [.int 0, .int 0, .int 0, .int 0, .int 0, .null, .null, .null]))]) s.heap.size) (pr ++ [(th, .inr (2, [.int x1, .int 0, .int 0, .int 0, .int 0, .ref q1, .ref q2, .null])), (q1, .inl (T 4, 6, .inr (.inr (.inr (.inr (fun _ => none)))))), (q2, .inr (3, [.int 0, .int 0, .int 0, .int 0]))]) := hD
  refine lv_aload_n hx hb dLoan_init_29 rfl (lv_at hl 0 rfl) ?_
  refine lv_iload_n hx hb dLoan_init_30 rfl (lv_at hl 2 rfl) ?_
  refine va_putF (D := D) (ci := 2) (v := .int (nI rq)) (ty := .int) (C := RLoan) (T := TLoan) (N := 8) hx hb hts ulLoan tyLoan gLoan.1 gLoan.2 hown hK hP hD hS (pr.length + 0) (xl_get rfl) rfl 1 (by decide) (hts _ fLoan_28.2.2.2) (fun _ h9 => h9) rfl hnm rfl (by decide +kernel) rfl rfl (Nat.le_of_ble_eq_true rfl) dLoan_init_31 (fun H locs hP hD hS => ?_)
  rw [xl_set] at hP hD
  have hP : va_P D vwCl (pr ++ [(th, .inr (2, [.int x1, .int (nI rq), .int 0, .int 0, .int 0, .ref q1, .ref q2, .null])), (q1, .inl (T 4, 6, .inr (.inr (.inr (.inr (fun _ => none)))))), (q2, .inr (3, [.int 0, .int 0, .int 0, .int 0]))]) H := hP
  have hD : va_D (va_A (pr ++ [(th, .inr (2, [.int 0, .int 0, .int 0, .int 0, .int 0, .null, .null, .null]))]) s.heap.size) (pr ++ [(th, .inr (2, [.int x1, .int (nI rq), .int 0, .int 0, .int 0, .ref q1, .ref q2, .null])), (q1, .inl (T 4, 6, .inr (.inr (.inr (.inr (fun _ => none)))))), (q2, .inr (3, [.int 0, .int 0, .int 0, .int 0]))]) := hD
  refine lv_aload_n hx hb dLoan_init_34 rfl (lv_at hl 0 rfl) ?_
  refine lv_iload_n hx hb dLoan_init_35 rfl (lv_at hl 3 rfl) ?_
  refine va_putF (D := D) (ci := 2) (v := .int x3) (ty := .int) (C := RLoan) (T := TLoan) (N := 8) hx hb hts ulLoan tyLoan gLoan.1 gLoan.2 hown hK hP hD hS (pr.length + 0) (xl_get rfl) rfl 2 (by decide) (hts _ fLoan_31.2.2.2) (fun _ h9 => h9) rfl hnm rfl (by decide +kernel) rfl rfl (Nat.le_of_ble_eq_true rfl) dLoan_init_36 (fun H locs hP hD hS => ?_)
  rw [xl_set] at hP hD
  have hP : va_P D vwCl (pr ++ [(th, .inr (2, [.int x1, .int (nI rq), .int x3, .int 0, .int 0, .ref q1, .ref q2, .null])), (q1, .inl (T 4, 6, .inr (.inr (.inr (.inr (fun _ => none)))))), (q2, .inr (3, [.int 0, .int 0, .int 0, .int 0]))]) H := hP
  have hD : va_D (va_A (pr ++ [(th, .inr (2, [.int 0, .int 0, .int 0, .int 0, .int 0, .null, .null, .null]))]) s.heap.size) (pr ++ [(th, .inr (2, [.int x1, .int (nI rq), .int x3, .int 0, .int 0, .ref q1, .ref q2, .null])), (q1, .inl (T 4, 6, .inr (.inr (.inr (.inr (fun _ => none)))))), (q2, .inr (3, [.int 0, .int 0, .int 0, .int 0]))]) := hD
  refine lv_aload_n hx hb dLoan_init_39 rfl (lv_at hl 0 rfl) ?_
  refine lv_iload hx hb dLoan_init_40 (lv_at hl 4 rfl) ?_
  refine va_putF (D := D) (ci := 2) (v := .int (nI st)) (ty := .int) (C := RLoan) (T := TLoan) (N := 8) hx hb hts ulLoan tyLoan gLoan.1 gLoan.2 hown hK hP hD hS (pr.length + 0) (xl_get rfl) rfl 3 (by decide) (hts _ fLoan_34.2.2.2) (fun _ h9 => h9) rfl hnm rfl (by decide +kernel) rfl rfl (Nat.le_of_ble_eq_true rfl) dLoan_init_42 (fun H locs hP hD hS => ?_)
  rw [xl_set] at hP hD
  have hP : va_P D vwCl (pr ++ [(th, .inr (2, [.int x1, .int (nI rq), .int x3, .int (nI st), .int 0, .ref q1, .ref q2, .null])), (q1, .inl (T 4, 6, .inr (.inr (.inr (.inr (fun _ => none)))))), (q2, .inr (3, [.int 0, .int 0, .int 0, .int 0]))]) H := hP
  have hD : va_D (va_A (pr ++ [(th, .inr (2, [.int 0, .int 0, .int 0, .int 0, .int 0, .null, .null, .null]))]) s.heap.size) (pr ++ [(th, .inr (2, [.int x1, .int (nI rq), .int x3, .int (nI st), .int 0, .ref q1, .ref q2, .null])), (q1, .inl (T 4, 6, .inr (.inr (.inr (.inr (fun _ => none)))))), (q2, .inr (3, [.int 0, .int 0, .int 0, .int 0]))]) := hD
  refine lv_aload_n hx hb dLoan_init_45 rfl (lv_at hl 0 rfl) ?_
  refine lv_iload hx hb dLoan_init_46 (lv_at hl 5 rfl) ?_
  refine va_putF (D := D) (ci := 2) (v := .int x5) (ty := .int) (C := RLoan) (T := TLoan) (N := 8) hx hb hts ulLoan tyLoan gLoan.1 gLoan.2 hown hK hP hD hS (pr.length + 0) (xl_get rfl) rfl 4 (by decide) (hts _ fLoan_37.2.2.2) (fun _ h9 => h9) rfl hnm rfl (by decide +kernel) rfl rfl (Nat.le_of_ble_eq_true rfl) dLoan_init_48 (fun H locs hP hD hS => ?_)
  rw [xl_set] at hP hD
  have hP : va_P D vwCl (pr ++ [(th, .inr (2, [.int x1, .int (nI rq), .int x3, .int (nI st), .int x5, .ref q1, .ref q2, .null])), (q1, .inl (T 4, 6, .inr (.inr (.inr (.inr (fun _ => none)))))), (q2, .inr (3, [.int 0, .int 0, .int 0, .int 0]))]) H := hP
  have hD : va_D (va_A (pr ++ [(th, .inr (2, [.int 0, .int 0, .int 0, .int 0, .int 0, .null, .null, .null]))]) s.heap.size) (pr ++ [(th, .inr (2, [.int x1, .int (nI rq), .int x3, .int (nI st), .int x5, .ref q1, .ref q2, .null])), (q1, .inl (T 4, 6, .inr (.inr (.inr (.inr (fun _ => none)))))), (q2, .inr (3, [.int 0, .int 0, .int 0, .int 0]))]) := hD
  refine lv_iload hx hb dLoan_init_51 (lv_at hl 4 rfl) ?_
  refine lv_iload_n hx hb dLoan_init_53 rfl (lv_at hl 2 rfl) ?_
  refine lv_icmp_ne (tgt := 67) hx hb dLoan_init_54 rfl (fun _ => ?_) (fun h9 => absurd h9 (fun z9 => heq ((nI_eq (a := st) (b := rq) (by omega) (by omega)).mp z9)))
  refine lv_iload hx hb dLoan_init_67 (lv_at hl 4 rfl) ?_
  refine lv_istore (lv' := [(6, .int (nI st)), (0, .ref th), (1, .int x1), (2, .int (nI rq)), (3, .int x3), (4, .int (nI st)), (5, .int x5)]) hx hb dLoan_init_69 hl (by decide) rfl (fun ls hl => ?_)
  refine lv_aload_n hx hb dLoan_init_71 rfl (lv_at hl 1 rfl) ?_
  refine va_new (fs := [.int 0, .null, .null, .null, .null, .int 0]) (ci := 4) hx hb hts ulDeal tyDeal gDeal.1 hown (hts _ kw_178) (hts _ kw_179) (hts _ kw_13) hK hP hD hS hA rfl (by decide +kernel) (Nat.le_of_ble_eq_true rfl) (Nat.le_of_ble_eq_true rfl) dLoan_init_72 (fun q3 H hP hD hS => ?_)
  rw [List.append_assoc] at hP hD
  have hP : va_P D vwCl (pr ++ [(th, .inr (2, [.int x1, .int (nI rq), .int x3, .int (nI st), .int x5, .ref q1, .ref q2, .null])), (q1, .inl (T 4, 6, .inr (.inr (.inr (.inr (fun _ => none)))))), (q2, .inr (3, [.int 0, .int 0, .int 0, .int 0])), (q3, .inr (4, [.int 0, .null, .null, .null, .null, .int 0]))]) H := hP
  have hD : va_D (va_A (pr ++ [(th, .inr (2, [.int 0, .int 0, .int 0, .int 0, .int 0, .null, .null, .null]))]) s.heap.size) (pr ++ [(th, .inr (2, [.int x1, .int (nI rq), .int x3, .int (nI st), .int x5, .ref q1, .ref q2, .null])), (q1, .inl (T 4, 6, .inr (.inr (.inr (.inr (fun _ => none)))))), (q2, .inr (3, [.int 0, .int 0, .int 0, .int 0])), (q3, .inr (4, [.int 0, .null, .null, .null, .null, .int 0]))]) := hD
  refine lv_dup hx hb dLoan_init_75 rfl ?_
  refine lv_iload_n hx hb dLoan_init_76 rfl (lv_at hl 2 rfl) ?_
  refine lv_iload_n hx hb dLoan_init_77 rfl (lv_at hl 3 rfl) ?_
  refine lv_iload hx hb dLoan_init_78 (lv_at hl 0 rfl) ?_
  have hP9 : va_P D vwCl ((pr ++ [(th, .inr (2, [.int x1, .int (nI rq), .int x3, .int (nI st), .int x5, .ref q1, .ref q2, .null])), (q1, .inl (T 4, 6, .inr (.inr (.inr (.inr (fun _ => none)))))), (q2, .inr (3, [.int 0, .int 0, .int 0, .int 0]))]) ++ [(q3, .inr (4, [.int 0, .null, .null, .null, .null, .int 0]))]) H := by rw [List.append_assoc]; exact hP
  have hD9 : va_D (va_A (pr ++ [(th, .inr (2, [.int 0, .int 0, .int 0, .int 0, .int 0, .null, .null, .null]))]) s.heap.size) ((pr ++ [(th, .inr (2, [.int x1, .int (nI rq), .int x3, .int (nI st), .int x5, .ref q1, .ref q2, .null])), (q1, .inl (T 4, 6, .inr (.inr (.inr (.inr (fun _ => none)))))), (q2, .inr (3, [.int 0, .int 0, .int 0, .int 0]))]) ++ [(q3, .inr (4, [.int 0, .null, .null, .null, .null, .int 0]))]) := by rw [List.append_assoc]; exact hD
  refine xl_callv (va_runI (As := [.int x1, .int (nI rq), .int (nI st)]) (b := q3) (rest := [.ref q3, .ref th]) ⟨hx, hb, hml, hown, hts⟩ (c_Deal_init l D T t0 (pr ++ [(th, .inr (2, [.int x1, .int (nI rq), .int x3, .int (nI st), .int x5, .ref q1, .ref q2, .null])), (q1, .inl (T 4, 6, .inr (.inr (.inr (.inr (fun _ => none)))))), (q2, .inr (3, [.int 0, .int 0, .int 0, .int 0]))]) _ q3 x1 (nI rq) (nI st)) ⟨callB_of 3 hts gLoan_40.1 rfl rfl rfl (hts _ gLoan_40.2.2.2) (hts _ gLoan_40.2.1) (by decide +kernel) ⟨Nat.le_of_ble_eq_true rfl, Nat.le_of_ble_eq_true rfl⟩, rfl, hts _ gLoan_40.2.2.1⟩ (xl_preS hK hN hP9 hD9 hZ hS hA) rfl rfl hl.1 rfl (lv_room (Nat.le_of_ble_eq_true rfl)) dLoan_init_80 ⟨Nat.le_of_ble_eq_true rfl, Nat.le_of_ble_eq_true rfl⟩) hD9 hS hA (fun u H locs hp hP hD hS => ?_)
  obtain ⟨q4, q5, q6, q7, q8, rfl⟩ := hp
  rw [List.append_assoc] at hP hD
  have hP : va_P D vwCl (pr ++ [(th, .inr (2, [.int x1, .int (nI rq), .int x3, .int (nI st), .int x5, .ref q1, .ref q2, .null])), (q1, .inl (T 4, 6, .inr (.inr (.inr (.inr (fun _ => none)))))), (q2, .inr (3, [.int 0, .int 0, .int 0, .int 0])), (q3, .inr (4, [.int (nI st), .ref q5, .ref q7, .ref q4, .null, .int 0])), (q4, .inr (3, [.int 0, .int 0, .int 0, .int 0])), (q5, .inr (5, [.int x1, .int (nI rq), .int (nI st), .ref q6, .int 0, .int 0])), (q6, .inr (8, [.int 0, .ref t0.1, .int 0])), (q7, .inr (5, [.int x1, .int (nI st), .int (nI rq), .ref q8, .int 0, .int 0])), (q8, .inr (8, [.int 0, .ref t0.1, .int 0]))]) H := hP
  have hD : va_D (va_A (pr ++ [(th, .inr (2, [.int 0, .int 0, .int 0, .int 0, .int 0, .null, .null, .null]))]) s.heap.size) (pr ++ [(th, .inr (2, [.int x1, .int (nI rq), .int x3, .int (nI st), .int x5, .ref q1, .ref q2, .null])), (q1, .inl (T 4, 6, .inr (.inr (.inr (.inr (fun _ => none)))))), (q2, .inr (3, [.int 0, .int 0, .int 0, .int 0])), (q3, .inr (4, [.int (nI st), .ref q5, .ref q7, .ref q4, .null, .int 0])), (q4, .inr (3, [.int 0, .int 0, .int 0, .int 0])), (q5, .inr (5, [.int x1, .int (nI rq), .int (nI st), .ref q6, .int 0, .int 0])), (q6, .inr (8, [.int 0, .ref t0.1, .int 0])), (q7, .inr (5, [.int x1, .int (nI st), .int (nI rq), .ref q8, .int 0, .int 0])), (q8, .inr (8, [.int 0, .ref t0.1, .int 0]))]) := hD
  refine va_put (D := D) (ci := 2) (v := .ref q3) (ty := .object "LoanLetters$Deal") (C := RLoan) (T := TLoan) (N := 8) hx hb hts ulLoan tyLoan gLoan.1 gLoan.2 hown hK hP hD hS (pr.length + 0) (xl_get rfl) rfl 7 (by decide) (hts _ fLoan_43.2.2.2) (fun _ h9 => h9) rfl (by decide +kernel) rfl rfl (Nat.le_of_ble_eq_true rfl) dLoan_init_83 (fun H locs hP hD hS => ?_)
  rw [xl_set] at hP hD
  have hP : va_P D vwCl (pr ++ [(th, .inr (2, [.int x1, .int (nI rq), .int x3, .int (nI st), .int x5, .ref q1, .ref q2, .ref q3])), (q1, .inl (T 4, 6, .inr (.inr (.inr (.inr (fun _ => none)))))), (q2, .inr (3, [.int 0, .int 0, .int 0, .int 0])), (q3, .inr (4, [.int (nI st), .ref q5, .ref q7, .ref q4, .null, .int 0])), (q4, .inr (3, [.int 0, .int 0, .int 0, .int 0])), (q5, .inr (5, [.int x1, .int (nI rq), .int (nI st), .ref q6, .int 0, .int 0])), (q6, .inr (8, [.int 0, .ref t0.1, .int 0])), (q7, .inr (5, [.int x1, .int (nI st), .int (nI rq), .ref q8, .int 0, .int 0])), (q8, .inr (8, [.int 0, .ref t0.1, .int 0]))]) H := hP
  have hD : va_D (va_A (pr ++ [(th, .inr (2, [.int 0, .int 0, .int 0, .int 0, .int 0, .null, .null, .null]))]) s.heap.size) (pr ++ [(th, .inr (2, [.int x1, .int (nI rq), .int x3, .int (nI st), .int x5, .ref q1, .ref q2, .ref q3])), (q1, .inl (T 4, 6, .inr (.inr (.inr (.inr (fun _ => none)))))), (q2, .inr (3, [.int 0, .int 0, .int 0, .int 0])), (q3, .inr (4, [.int (nI st), .ref q5, .ref q7, .ref q4, .null, .int 0])), (q4, .inr (3, [.int 0, .int 0, .int 0, .int 0])), (q5, .inr (5, [.int x1, .int (nI rq), .int (nI st), .ref q6, .int 0, .int 0])), (q6, .inr (8, [.int 0, .ref t0.1, .int 0])), (q7, .inr (5, [.int x1, .int (nI st), .int (nI rq), .ref q8, .int 0, .int 0])), (q8, .inr (8, [.int 0, .ref t0.1, .int 0]))]) := hD
  refine lv_aload_n hx hb dLoan_init_86 rfl (lv_at hl 1 rfl) ?_
  refine va_get (ci := 2) (C := RLoan) (T := TLoan) (N := 8) hx hb hts ulLoan hown hK hP (pr.length + 0) (xl_get rfl) rfl 5 (by decide) (hts _ fLoan_11.2.2.2) (fun _ h9 => h9) rfl dLoan_init_87 ?_
  refine lv_iload hx hb dLoan_init_90 (lv_at hl 0 rfl) ?_
  refine lv_aload_n hx hb dLoan_init_92 rfl (lv_at hl 1 rfl) ?_
  refine va_get (ci := 2) (C := RLoan) (T := TLoan) (N := 8) hx hb hts ulLoan hown hK hP (pr.length + 0) (xl_get rfl) rfl 7 (by decide) (hts _ fLoan_43.2.2.2) (fun _ h9 => h9) rfl dLoan_init_93 ?_
  refine va_astq (r := (RDeal, TDeal, 6)) hx hb hK hP hD hS (pr.length + 1) 4 (pr.length + 3) 4 (xl_get rfl) rfl (xl_get rfl) rfl (vp_in_nI (by omega) (by decide)) dLoan_init_96 (fun H locs hP hD hS => ?_)
  rw [nI_clamp (by omega)] at hP hD
  rw [xl_set] at hP hD
  have hP : va_P D vwCl (pr ++ [(th, .inr (2, [.int x1, .int (nI rq), .int x3, .int (nI st), .int x5, .ref q1, .ref q2, .ref q3])), (q1, .inl (T 4, 6, .inr (.inr (.inr (.inr (va_up (fun _ => none) st (some q3))))))), (q2, .inr (3, [.int 0, .int 0, .int 0, .int 0])), (q3, .inr (4, [.int (nI st), .ref q5, .ref q7, .ref q4, .null, .int 0])), (q4, .inr (3, [.int 0, .int 0, .int 0, .int 0])), (q5, .inr (5, [.int x1, .int (nI rq), .int (nI st), .ref q6, .int 0, .int 0])), (q6, .inr (8, [.int 0, .ref t0.1, .int 0])), (q7, .inr (5, [.int x1, .int (nI st), .int (nI rq), .ref q8, .int 0, .int 0])), (q8, .inr (8, [.int 0, .ref t0.1, .int 0]))]) H := hP
  have hD : va_D (va_A (pr ++ [(th, .inr (2, [.int 0, .int 0, .int 0, .int 0, .int 0, .null, .null, .null]))]) s.heap.size) (pr ++ [(th, .inr (2, [.int x1, .int (nI rq), .int x3, .int (nI st), .int x5, .ref q1, .ref q2, .ref q3])), (q1, .inl (T 4, 6, .inr (.inr (.inr (.inr (va_up (fun _ => none) st (some q3))))))), (q2, .inr (3, [.int 0, .int 0, .int 0, .int 0])), (q3, .inr (4, [.int (nI st), .ref q5, .ref q7, .ref q4, .null, .int 0])), (q4, .inr (3, [.int 0, .int 0, .int 0, .int 0])), (q5, .inr (5, [.int x1, .int (nI rq), .int (nI st), .ref q6, .int 0, .int 0])), (q6, .inr (8, [.int 0, .ref t0.1, .int 0])), (q7, .inr (5, [.int x1, .int (nI st), .int (nI rq), .ref q8, .int 0, .int 0])), (q8, .inr (8, [.int 0, .ref t0.1, .int 0]))]) := hD
  exact xl_vret hx hb hr hlocks hP hD hS dLoan_init_97 ⟨q1, q2, q3, q4, q5, q6, q7, q8, rfl⟩

set_option maxHeartbeats 4000000 in
set_option maxRecDepth 100000 in
theorem c_L_init (l : Launch) (D : va_G) (T : Nat → ClassId) (t0 : Nat × Nat) (pr : va_W) (sz th : Nat) : Met l yL_init wsL_init ({ frames := 2, cells := 6, slots := 524, locals := 35 }) (xl_PcL D T t0 (pr ++ [(th, .inr (0, [.null, .null, .null, .null, .null, .int 0, .int 0, .int 0]))]) sz [.ref th]) (xl_Qv D (pr ++ [(th, .inr (0, [.null, .null, .null, .null, .null, .int 0, .int 0, .int 0]))]) sz (fun u => ∃ q1 : Nat, ∃ q2 : Nat, ∃ q3 : Nat, ∃ q4 : Nat, ∃ q5 : Nat, ∃ q6 : Nat, u = pr ++ [(th, .inr (0, [.ref q1, .ref q2, .ref q3, .ref q4, .ref q6, .int 0, .int 0, .int 0])), (q1, .inl (T 2, 32, .inr (.inr (.inr (.inr (fun _ => none)))))), (q2, .inl (T 3, 32, .inr (.inr (.inr (.inr (fun _ => none)))))), (q3, .inl (T 0, 6, .inl (fun _ => 0))), (q4, .inr (7, [.ref q5, .int 0])), (q5, .inl (T 0, 448, .inl (fun _ => 0))), (q6, .inr (6, [.int 0, .int 0, .int 0, .int 0]))])) 6 524 (va_A (pr ++ [(th, .inr (0, [.null, .null, .null, .null, .null, .int 0, .int 0, .int 0]))]) sz) := by
  refine xl_metL (by decide) rfl (Nat.le_of_ble_eq_true rfl) ?_
  intro p e s m below meth c ls hx hb hr hts hown hlocks hml hnm hP hD hK hN hZ hO1 hO2 hS hA hl hsz
  subst hsz
  have hl : lv_has ls 1 [(0, .ref th)] := hl
  refine lv_aload_n hx hb dL_init_0 rfl (lv_at hl 0 rfl) ?_
  refine W.objInit hx hb hown (hts _ kw_31) (hts _ kw_32) (hts _ kw_33) rfl (by rw [hml]; exact hl.1) rfl dL_init_1 (Nat.le_of_ble_eq_true rfl) (Nat.le_of_ble_eq_true rfl) ?_
  refine W.eq (g2 := F0 m 4 ls []) rfl ?_
  refine lv_aload_n hx hb dL_init_4 rfl (lv_at hl 0 rfl) ?_
  refine lv_bipush (v := 32) hx hb dL_init_5 (by decide) ?_
  refine xl_newq (N' := 32) (cA := T 2) hx hb hown (hts _ kw_34) hO1 hK 2 rfl hP hD hS hA (by decide) (by decide) (by decide) (Nat.le_of_ble_eq_true rfl) (Nat.le_of_ble_eq_true rfl) dL_init_7 (fun q1 H hP hD hS => ?_)
  rw [List.append_assoc] at hP hD
  have hP : va_P D vwCl (pr ++ [(th, .inr (0, [.null, .null, .null, .null, .null, .int 0, .int 0, .int 0])), (q1, .inl (T 2, 32, .inr (.inr (.inr (.inr (fun _ => none))))))]) H := hP
  have hD : va_D (va_A (pr ++ [(th, .inr (0, [.null, .null, .null, .null, .null, .int 0, .int 0, .int 0]))]) s.heap.size) (pr ++ [(th, .inr (0, [.null, .null, .null, .null, .null, .int 0, .int 0, .int 0])), (q1, .inl (T 2, 32, .inr (.inr (.inr (.inr (fun _ => none))))))]) := hD
  refine va_putF (D := D) (ci := 0) (v := .ref q1) (ty := .array (.object "LoanLetters$Copy")) (C := RL) (T := TL) (N := 8) hx hb hts ulL tyL gL.1 gL.2 hown hK hP hD hS (pr.length + 0) (xl_get rfl) rfl 0 (by decide) (hts _ fL_11.2.2.2) (fun _ h9 => h9) rfl hnm rfl (by decide +kernel) rfl rfl (Nat.le_of_ble_eq_true rfl) dL_init_10 (fun H locs hP hD hS => ?_)
  rw [xl_set] at hP hD
  have hP : va_P D vwCl (pr ++ [(th, .inr (0, [.ref q1, .null, .null, .null, .null, .int 0, .int 0, .int 0])), (q1, .inl (T 2, 32, .inr (.inr (.inr (.inr (fun _ => none))))))]) H := hP
  have hD : va_D (va_A (pr ++ [(th, .inr (0, [.null, .null, .null, .null, .null, .int 0, .int 0, .int 0]))]) s.heap.size) (pr ++ [(th, .inr (0, [.ref q1, .null, .null, .null, .null, .int 0, .int 0, .int 0])), (q1, .inl (T 2, 32, .inr (.inr (.inr (.inr (fun _ => none))))))]) := hD
  refine lv_aload_n hx hb dL_init_13 rfl (lv_at hl 0 rfl) ?_
  refine lv_bipush (v := 32) hx hb dL_init_14 (by decide) ?_
  refine xl_newq (N' := 32) (cA := T 3) hx hb hown (hts _ kw_36) hO2 hK 3 rfl hP hD hS hA (by decide) (by decide) (by decide) (Nat.le_of_ble_eq_true rfl) (Nat.le_of_ble_eq_true rfl) dL_init_16 (fun q2 H hP hD hS => ?_)
  rw [List.append_assoc] at hP hD
  have hP : va_P D vwCl (pr ++ [(th, .inr (0, [.ref q1, .null, .null, .null, .null, .int 0, .int 0, .int 0])), (q1, .inl (T 2, 32, .inr (.inr (.inr (.inr (fun _ => none)))))), (q2, .inl (T 3, 32, .inr (.inr (.inr (.inr (fun _ => none))))))]) H := hP
  have hD : va_D (va_A (pr ++ [(th, .inr (0, [.null, .null, .null, .null, .null, .int 0, .int 0, .int 0]))]) s.heap.size) (pr ++ [(th, .inr (0, [.ref q1, .null, .null, .null, .null, .int 0, .int 0, .int 0])), (q1, .inl (T 2, 32, .inr (.inr (.inr (.inr (fun _ => none)))))), (q2, .inl (T 3, 32, .inr (.inr (.inr (.inr (fun _ => none))))))]) := hD
  refine va_putF (D := D) (ci := 0) (v := .ref q2) (ty := .array (.object "LoanLetters$Loan")) (C := RL) (T := TL) (N := 8) hx hb hts ulL tyL gL.1 gL.2 hown hK hP hD hS (pr.length + 0) (xl_get rfl) rfl 1 (by decide) (hts _ fL_17.2.2.2) (fun _ h9 => h9) rfl hnm rfl (by decide +kernel) rfl rfl (Nat.le_of_ble_eq_true rfl) dL_init_19 (fun H locs hP hD hS => ?_)
  rw [xl_set] at hP hD
  have hP : va_P D vwCl (pr ++ [(th, .inr (0, [.ref q1, .ref q2, .null, .null, .null, .int 0, .int 0, .int 0])), (q1, .inl (T 2, 32, .inr (.inr (.inr (.inr (fun _ => none)))))), (q2, .inl (T 3, 32, .inr (.inr (.inr (.inr (fun _ => none))))))]) H := hP
  have hD : va_D (va_A (pr ++ [(th, .inr (0, [.null, .null, .null, .null, .null, .int 0, .int 0, .int 0]))]) s.heap.size) (pr ++ [(th, .inr (0, [.ref q1, .ref q2, .null, .null, .null, .int 0, .int 0, .int 0])), (q1, .inl (T 2, 32, .inr (.inr (.inr (.inr (fun _ => none)))))), (q2, .inl (T 3, 32, .inr (.inr (.inr (.inr (fun _ => none))))))]) := hD
  refine lv_aload_n hx hb dL_init_22 rfl (lv_at hl 0 rfl) ?_
  refine lv_bipush (v := 6) hx hb dL_init_23 (by decide) ?_
  refine ex_newI (N' := 6) (cA := T 0) hx hb (hts _ kw_52) hK 0 rfl hP hD hS hA (by decide) (by decide) (by decide) (Nat.le_of_ble_eq_true rfl) (Nat.le_of_ble_eq_true rfl) dL_init_25 (fun q3 H hP hD hS => ?_)
  rw [List.append_assoc] at hP hD
  have hP : va_P D vwCl (pr ++ [(th, .inr (0, [.ref q1, .ref q2, .null, .null, .null, .int 0, .int 0, .int 0])), (q1, .inl (T 2, 32, .inr (.inr (.inr (.inr (fun _ => none)))))), (q2, .inl (T 3, 32, .inr (.inr (.inr (.inr (fun _ => none)))))), (q3, .inl (T 0, 6, .inl (fun _ => 0)))]) H := hP
  have hD : va_D (va_A (pr ++ [(th, .inr (0, [.null, .null, .null, .null, .null, .int 0, .int 0, .int 0]))]) s.heap.size) (pr ++ [(th, .inr (0, [.ref q1, .ref q2, .null, .null, .null, .int 0, .int 0, .int 0])), (q1, .inl (T 2, 32, .inr (.inr (.inr (.inr (fun _ => none)))))), (q2, .inl (T 3, 32, .inr (.inr (.inr (.inr (fun _ => none)))))), (q3, .inl (T 0, 6, .inl (fun _ => 0)))]) := hD
  refine va_putF (D := D) (ci := 0) (v := .ref q3) (ty := .array .int) (C := RL) (T := TL) (N := 8) hx hb hts ulL tyL gL.1 gL.2 hown hK hP hD hS (pr.length + 0) (xl_get rfl) rfl 2 (by decide) (hts _ fL_21.2.2.2) (fun _ h9 => h9) rfl hnm rfl (by decide +kernel) rfl rfl (Nat.le_of_ble_eq_true rfl) dL_init_27 (fun H locs hP hD hS => ?_)
  rw [xl_set] at hP hD
  have hP : va_P D vwCl (pr ++ [(th, .inr (0, [.ref q1, .ref q2, .ref q3, .null, .null, .int 0, .int 0, .int 0])), (q1, .inl (T 2, 32, .inr (.inr (.inr (.inr (fun _ => none)))))), (q2, .inl (T 3, 32, .inr (.inr (.inr (.inr (fun _ => none)))))), (q3, .inl (T 0, 6, .inl (fun _ => 0)))]) H := hP
  have hD : va_D (va_A (pr ++ [(th, .inr (0, [.null, .null, .null, .null, .null, .int 0, .int 0, .int 0]))]) s.heap.size) (pr ++ [(th, .inr (0, [.ref q1, .ref q2, .ref q3, .null, .null, .int 0, .int 0, .int 0])), (q1, .inl (T 2, 32, .inr (.inr (.inr (.inr (fun _ => none)))))), (q2, .inl (T 3, 32, .inr (.inr (.inr (.inr (fun _ => none)))))), (q3, .inl (T 0, 6, .inl (fun _ => 0)))]) := hD
  refine lv_aload_n hx hb dL_init_30 rfl (lv_at hl 0 rfl) ?_
  refine va_new (fs := [.null, .int 0]) (ci := 7) hx hb hts ulRow tyRow gRow.1 hown (hts _ kw_38) (hts _ kw_39) (hts _ kw_2) hK hP hD hS hA rfl (by decide +kernel) (Nat.le_of_ble_eq_true rfl) (Nat.le_of_ble_eq_true rfl) dL_init_31 (fun q4 H hP hD hS => ?_)
  rw [List.append_assoc] at hP hD
  have hP : va_P D vwCl (pr ++ [(th, .inr (0, [.ref q1, .ref q2, .ref q3, .null, .null, .int 0, .int 0, .int 0])), (q1, .inl (T 2, 32, .inr (.inr (.inr (.inr (fun _ => none)))))), (q2, .inl (T 3, 32, .inr (.inr (.inr (.inr (fun _ => none)))))), (q3, .inl (T 0, 6, .inl (fun _ => 0))), (q4, .inr (7, [.null, .int 0]))]) H := hP
  have hD : va_D (va_A (pr ++ [(th, .inr (0, [.null, .null, .null, .null, .null, .int 0, .int 0, .int 0]))]) s.heap.size) (pr ++ [(th, .inr (0, [.ref q1, .ref q2, .ref q3, .null, .null, .int 0, .int 0, .int 0])), (q1, .inl (T 2, 32, .inr (.inr (.inr (.inr (fun _ => none)))))), (q2, .inl (T 3, 32, .inr (.inr (.inr (.inr (fun _ => none)))))), (q3, .inl (T 0, 6, .inl (fun _ => 0))), (q4, .inr (7, [.null, .int 0]))]) := hD
  refine lv_dup hx hb dL_init_34 rfl ?_
  have hP9 : va_P D vwCl ((pr ++ [(th, .inr (0, [.ref q1, .ref q2, .ref q3, .null, .null, .int 0, .int 0, .int 0])), (q1, .inl (T 2, 32, .inr (.inr (.inr (.inr (fun _ => none)))))), (q2, .inl (T 3, 32, .inr (.inr (.inr (.inr (fun _ => none)))))), (q3, .inl (T 0, 6, .inl (fun _ => 0)))]) ++ [(q4, .inr (7, [.null, .int 0]))]) H := by rw [List.append_assoc]; exact hP
  have hD9 : va_D (va_A (pr ++ [(th, .inr (0, [.null, .null, .null, .null, .null, .int 0, .int 0, .int 0]))]) s.heap.size) ((pr ++ [(th, .inr (0, [.ref q1, .ref q2, .ref q3, .null, .null, .int 0, .int 0, .int 0])), (q1, .inl (T 2, 32, .inr (.inr (.inr (.inr (fun _ => none)))))), (q2, .inl (T 3, 32, .inr (.inr (.inr (.inr (fun _ => none)))))), (q3, .inl (T 0, 6, .inl (fun _ => 0)))]) ++ [(q4, .inr (7, [.null, .int 0]))]) := by rw [List.append_assoc]; exact hD
  refine xl_callv (va_runIN (As := []) (b := q4) (rest := [.ref q4, .ref th]) ⟨hx, hb, hml, hown, hts⟩ (c_Row_init l D T t0 (pr ++ [(th, .inr (0, [.ref q1, .ref q2, .ref q3, .null, .null, .int 0, .int 0, .int 0])), (q1, .inl (T 2, 32, .inr (.inr (.inr (.inr (fun _ => none)))))), (q2, .inl (T 3, 32, .inr (.inr (.inr (.inr (fun _ => none)))))), (q3, .inl (T 0, 6, .inl (fun _ => 0)))]) _ q4 ) ⟨va_cnB 0 hts (WS_cons kw_42) rfl rfl rfl (hN.at 0 rfl) (hts _ kw_2) (by decide +kernel) ⟨Nat.le_of_ble_eq_true rfl, Nat.le_of_ble_eq_true rfl⟩, rfl, hts _ kw_41⟩ (xl_preS hK hN hP9 hD9 hZ hS hA) rfl rfl hl.1 rfl (lv_room (Nat.le_of_ble_eq_true rfl)) dL_init_35 ⟨Nat.le_of_ble_eq_true rfl, Nat.le_of_ble_eq_true rfl⟩) hD9 hS hA (fun u H locs hp hP hD hS => ?_)
  obtain ⟨q5, rfl⟩ := hp
  rw [List.append_assoc] at hP hD
  have hP : va_P D vwCl (pr ++ [(th, .inr (0, [.ref q1, .ref q2, .ref q3, .null, .null, .int 0, .int 0, .int 0])), (q1, .inl (T 2, 32, .inr (.inr (.inr (.inr (fun _ => none)))))), (q2, .inl (T 3, 32, .inr (.inr (.inr (.inr (fun _ => none)))))), (q3, .inl (T 0, 6, .inl (fun _ => 0))), (q4, .inr (7, [.ref q5, .int 0])), (q5, .inl (T 0, 448, .inl (fun _ => 0)))]) H := hP
  have hD : va_D (va_A (pr ++ [(th, .inr (0, [.null, .null, .null, .null, .null, .int 0, .int 0, .int 0]))]) s.heap.size) (pr ++ [(th, .inr (0, [.ref q1, .ref q2, .ref q3, .null, .null, .int 0, .int 0, .int 0])), (q1, .inl (T 2, 32, .inr (.inr (.inr (.inr (fun _ => none)))))), (q2, .inl (T 3, 32, .inr (.inr (.inr (.inr (fun _ => none)))))), (q3, .inl (T 0, 6, .inl (fun _ => 0))), (q4, .inr (7, [.ref q5, .int 0])), (q5, .inl (T 0, 448, .inl (fun _ => 0)))]) := hD
  refine va_putF (D := D) (ci := 0) (v := .ref q4) (ty := .object "LoanLetters$Row") (C := RL) (T := TL) (N := 8) hx hb hts ulL tyL gL.1 gL.2 hown hK hP hD hS (pr.length + 0) (xl_get rfl) rfl 3 (by decide) (hts _ fL_28.2.2.2) (fun _ h9 => h9) rfl hnm rfl (by decide +kernel) rfl rfl (Nat.le_of_ble_eq_true rfl) dL_init_38 (fun H locs hP hD hS => ?_)
  rw [xl_set] at hP hD
  have hP : va_P D vwCl (pr ++ [(th, .inr (0, [.ref q1, .ref q2, .ref q3, .ref q4, .null, .int 0, .int 0, .int 0])), (q1, .inl (T 2, 32, .inr (.inr (.inr (.inr (fun _ => none)))))), (q2, .inl (T 3, 32, .inr (.inr (.inr (.inr (fun _ => none)))))), (q3, .inl (T 0, 6, .inl (fun _ => 0))), (q4, .inr (7, [.ref q5, .int 0])), (q5, .inl (T 0, 448, .inl (fun _ => 0)))]) H := hP
  have hD : va_D (va_A (pr ++ [(th, .inr (0, [.null, .null, .null, .null, .null, .int 0, .int 0, .int 0]))]) s.heap.size) (pr ++ [(th, .inr (0, [.ref q1, .ref q2, .ref q3, .ref q4, .null, .int 0, .int 0, .int 0])), (q1, .inl (T 2, 32, .inr (.inr (.inr (.inr (fun _ => none)))))), (q2, .inl (T 3, 32, .inr (.inr (.inr (.inr (fun _ => none)))))), (q3, .inl (T 0, 6, .inl (fun _ => 0))), (q4, .inr (7, [.ref q5, .int 0])), (q5, .inl (T 0, 448, .inl (fun _ => 0)))]) := hD
  refine lv_aload_n hx hb dL_init_41 rfl (lv_at hl 0 rfl) ?_
  refine va_new (fs := [.int 0, .int 0, .int 0, .int 0]) (ci := 6) hx hb hts ulLetter tyLetter gLetter.1 hown (hts _ kw_53) (hts _ kw_54) (hts _ kw_3) hK hP hD hS hA rfl (by decide +kernel) (Nat.le_of_ble_eq_true rfl) (Nat.le_of_ble_eq_true rfl) dL_init_42 (fun q6 H hP hD hS => ?_)
  rw [List.append_assoc] at hP hD
  have hP : va_P D vwCl (pr ++ [(th, .inr (0, [.ref q1, .ref q2, .ref q3, .ref q4, .null, .int 0, .int 0, .int 0])), (q1, .inl (T 2, 32, .inr (.inr (.inr (.inr (fun _ => none)))))), (q2, .inl (T 3, 32, .inr (.inr (.inr (.inr (fun _ => none)))))), (q3, .inl (T 0, 6, .inl (fun _ => 0))), (q4, .inr (7, [.ref q5, .int 0])), (q5, .inl (T 0, 448, .inl (fun _ => 0))), (q6, .inr (6, [.int 0, .int 0, .int 0, .int 0]))]) H := hP
  have hD : va_D (va_A (pr ++ [(th, .inr (0, [.null, .null, .null, .null, .null, .int 0, .int 0, .int 0]))]) s.heap.size) (pr ++ [(th, .inr (0, [.ref q1, .ref q2, .ref q3, .ref q4, .null, .int 0, .int 0, .int 0])), (q1, .inl (T 2, 32, .inr (.inr (.inr (.inr (fun _ => none)))))), (q2, .inl (T 3, 32, .inr (.inr (.inr (.inr (fun _ => none)))))), (q3, .inl (T 0, 6, .inl (fun _ => 0))), (q4, .inr (7, [.ref q5, .int 0])), (q5, .inl (T 0, 448, .inl (fun _ => 0))), (q6, .inr (6, [.int 0, .int 0, .int 0, .int 0]))]) := hD
  refine lv_dup hx hb dL_init_45 rfl ?_
  refine lv_iconst (v := 0) hx hb dL_init_46 (by decide) ?_
  refine lv_iconst (v := 0) hx hb dL_init_47 (by decide) ?_
  refine lv_iconst (v := 0) hx hb dL_init_48 (by decide) ?_
  have hP9 : va_P D vwCl ((pr ++ [(th, .inr (0, [.ref q1, .ref q2, .ref q3, .ref q4, .null, .int 0, .int 0, .int 0])), (q1, .inl (T 2, 32, .inr (.inr (.inr (.inr (fun _ => none)))))), (q2, .inl (T 3, 32, .inr (.inr (.inr (.inr (fun _ => none)))))), (q3, .inl (T 0, 6, .inl (fun _ => 0))), (q4, .inr (7, [.ref q5, .int 0])), (q5, .inl (T 0, 448, .inl (fun _ => 0)))]) ++ [(q6, .inr (6, [.int 0, .int 0, .int 0, .int 0]))]) H := by rw [List.append_assoc]; exact hP
  have hD9 : va_D (va_A (pr ++ [(th, .inr (0, [.null, .null, .null, .null, .null, .int 0, .int 0, .int 0]))]) s.heap.size) ((pr ++ [(th, .inr (0, [.ref q1, .ref q2, .ref q3, .ref q4, .null, .int 0, .int 0, .int 0])), (q1, .inl (T 2, 32, .inr (.inr (.inr (.inr (fun _ => none)))))), (q2, .inl (T 3, 32, .inr (.inr (.inr (.inr (fun _ => none)))))), (q3, .inl (T 0, 6, .inl (fun _ => 0))), (q4, .inr (7, [.ref q5, .int 0])), (q5, .inl (T 0, 448, .inl (fun _ => 0)))]) ++ [(q6, .inr (6, [.int 0, .int 0, .int 0, .int 0]))]) := by rw [List.append_assoc]; exact hD
  refine xl_callv (va_runI (As := [.int 0, .int 0, .int 0]) (b := q6) (rest := [.ref q6, .ref th]) ⟨hx, hb, hml, hown, hts⟩ (c_Letter_init l D T t0 (pr ++ [(th, .inr (0, [.ref q1, .ref q2, .ref q3, .ref q4, .null, .int 0, .int 0, .int 0])), (q1, .inl (T 2, 32, .inr (.inr (.inr (.inr (fun _ => none)))))), (q2, .inl (T 3, 32, .inr (.inr (.inr (.inr (fun _ => none)))))), (q3, .inl (T 0, 6, .inl (fun _ => 0))), (q4, .inr (7, [.ref q5, .int 0])), (q5, .inl (T 0, 448, .inl (fun _ => 0)))]) _ q6 0 0 0) ⟨callB_of 3 hts gL_36.1 rfl rfl rfl (hts _ gL_36.2.2.2) (hts _ gL_36.2.1) (by decide +kernel) ⟨Nat.le_of_ble_eq_true rfl, Nat.le_of_ble_eq_true rfl⟩, rfl, hts _ gL_36.2.2.1⟩ (xl_preS hK hN hP9 hD9 hZ hS hA) rfl rfl hl.1 rfl (lv_room (Nat.le_of_ble_eq_true rfl)) dL_init_49 ⟨Nat.le_of_ble_eq_true rfl, Nat.le_of_ble_eq_true rfl⟩) hD9 hS hA (fun u H locs hp hP hD hS => ?_)
  obtain rfl := hp
  rw [List.append_assoc] at hP hD
  have hP : va_P D vwCl (pr ++ [(th, .inr (0, [.ref q1, .ref q2, .ref q3, .ref q4, .null, .int 0, .int 0, .int 0])), (q1, .inl (T 2, 32, .inr (.inr (.inr (.inr (fun _ => none)))))), (q2, .inl (T 3, 32, .inr (.inr (.inr (.inr (fun _ => none)))))), (q3, .inl (T 0, 6, .inl (fun _ => 0))), (q4, .inr (7, [.ref q5, .int 0])), (q5, .inl (T 0, 448, .inl (fun _ => 0))), (q6, .inr (6, [.int 0, .int 0, .int 0, .int 0]))]) H := hP
  have hD : va_D (va_A (pr ++ [(th, .inr (0, [.null, .null, .null, .null, .null, .int 0, .int 0, .int 0]))]) s.heap.size) (pr ++ [(th, .inr (0, [.ref q1, .ref q2, .ref q3, .ref q4, .null, .int 0, .int 0, .int 0])), (q1, .inl (T 2, 32, .inr (.inr (.inr (.inr (fun _ => none)))))), (q2, .inl (T 3, 32, .inr (.inr (.inr (.inr (fun _ => none)))))), (q3, .inl (T 0, 6, .inl (fun _ => 0))), (q4, .inr (7, [.ref q5, .int 0])), (q5, .inl (T 0, 448, .inl (fun _ => 0))), (q6, .inr (6, [.int 0, .int 0, .int 0, .int 0]))]) := hD
  refine va_putF (D := D) (ci := 0) (v := .ref q6) (ty := .object "LoanLetters$Letter") (C := RL) (T := TL) (N := 8) hx hb hts ulL tyL gL.1 gL.2 hown hK hP hD hS (pr.length + 0) (xl_get rfl) rfl 4 (by decide) (hts _ fL_39.2.2.2) (fun _ h9 => h9) rfl hnm rfl (by decide +kernel) rfl rfl (Nat.le_of_ble_eq_true rfl) dL_init_52 (fun H locs hP hD hS => ?_)
  rw [xl_set] at hP hD
  have hP : va_P D vwCl (pr ++ [(th, .inr (0, [.ref q1, .ref q2, .ref q3, .ref q4, .ref q6, .int 0, .int 0, .int 0])), (q1, .inl (T 2, 32, .inr (.inr (.inr (.inr (fun _ => none)))))), (q2, .inl (T 3, 32, .inr (.inr (.inr (.inr (fun _ => none)))))), (q3, .inl (T 0, 6, .inl (fun _ => 0))), (q4, .inr (7, [.ref q5, .int 0])), (q5, .inl (T 0, 448, .inl (fun _ => 0))), (q6, .inr (6, [.int 0, .int 0, .int 0, .int 0]))]) H := hP
  have hD : va_D (va_A (pr ++ [(th, .inr (0, [.null, .null, .null, .null, .null, .int 0, .int 0, .int 0]))]) s.heap.size) (pr ++ [(th, .inr (0, [.ref q1, .ref q2, .ref q3, .ref q4, .ref q6, .int 0, .int 0, .int 0])), (q1, .inl (T 2, 32, .inr (.inr (.inr (.inr (fun _ => none)))))), (q2, .inl (T 3, 32, .inr (.inr (.inr (.inr (fun _ => none)))))), (q3, .inl (T 0, 6, .inl (fun _ => 0))), (q4, .inr (7, [.ref q5, .int 0])), (q5, .inl (T 0, 448, .inl (fun _ => 0))), (q6, .inr (6, [.int 0, .int 0, .int 0, .int 0]))]) := hD
  exact xl_vret hx hb hr hlocks hP hD hS dL_init_55 ⟨q1, q2, q3, q4, q5, q6, rfl⟩
