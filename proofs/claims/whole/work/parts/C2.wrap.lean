/-! The law's four wrappers -/
/-- the one exception isn't the other -/
def nC (U : State) : Prop := ∃ c t, U.vm.findClass tmS = some c ∧ U.vm.findClass tmI = some t ∧ U.vm.assignable c t = false
theorem nC.moved {u U : State} (hal : u.vm.Alike U.vm) (h : nC u) : nC U := by
  obtain ⟨c, t, h1, h2, h3⟩ := h
  exact ⟨c, t, by rw [hal.findClass]; exact h1, by rw [hal.findClass]; exact h2, by rw [hal.assignable]; exact h3⟩
theorem nC.of {args : Array Value} {s : State} (h : (Cond.not (.castable tmS tmI)).before args s = true) : nC s := by
  have hv := Cond.holds_not_iff.mp h
  simp only [Cond.value] at hv
  cases h1 : s.vm.findClass tmS with
  | none => rw [h1] at hv; simp at hv
  | some c =>
    cases h2 : s.vm.findClass tmI with
    | none => rw [h1, h2] at hv; simp at hv
    | some t =>
      rw [h1, h2] at hv
      exact ⟨c, t, h1, h2, Option.some.inj hv⟩
theorem nC.use {args : Array Value} {s : State} (h : nC s) : (Cond.not (.castable tmS tmI)).before args s = true := by
  obtain ⟨c, t, h1, h2, h3⟩ := h
  refine Cond.holds_not_iff.mpr ?_
  simp only [Cond.value, h1, h2, h3]
theorem tmI_self : Cond.castable tmI tmI ∈ etA := by decide +kernel
theorem tmS_self : Cond.castable tmS tmS ∈ etA := by decide +kernel
abbrev oE (T : Nat → ClassId) (f : Nat → Int64) : va_E := .inl (T 6, 1, .inr (.inl f))
def wA (L : List Nat) (o sz : Nat) : Nat → Prop := fun q => q ∈ L ∨ q = o ∨ sz ≤ q
abbrev wS : Type := ec_S × (Nat → Int64)
def wPc (D : va_G) (T : Nat → ClassId) (t0 : Nat × Nat) (X : Nat → Nat → Nat) (L : List Nat) (tg : Nat → Nat × Nat) (A : ew_R) (o : Nat) (f : Nat → Int64) (sz : Nat) (av : List Value) : Array Value → State → Prop := va_Pc av (fun U => U.heap.size = sz ∧ ew_V D vwCl (cfC T) (fun _ => True) X L tg A [] U.heap ∧ (va_P D vwCl [(o, oE T f)] U.heap ∧ o ∉ L) ∧ va_K D vwCl (tysA T) U ∧ EN U ∧ em_Z t0 (wA L o sz) U U.heap ∧ et_Z (wA L o sz) U U.heap ∧ nC U)
def wQ (D : va_G) (T : Nat → ClassId) (L : List Nat) (o sz : Nat) (post : Int32 → wS → Prop) : Array Value → State → Outcome → State → Prop := va_Qi post (fun u t => ew_V D vwCl (cfC T) (wA L o sz) u.1.1 u.1.2.1 u.1.2.2.1 u.1.2.2.2 [] t.heap ∧ va_P D vwCl [(o, oE T u.2)] t.heap ∧ o ∉ u.1.2.1) (wA L o sz)
def rmW : Room := { frames := 14, cells := 11, slots := 2036, locals := 460 }
/-- what a wrapper leaves -/
def wK (t0 : Nat × Nat) (X : Nat → Nat → Nat) (L : List Nat) (tg : Nat → Nat × Nat) (r : Int32) (B' : ew_R) (q : Nat) : Int32 → wS → Prop := fun c u => c = B' 0 0 0 ∧ (c = 0 → u.2 0 = r.toInt64) ∧ Sim u.1.2.2.2 B' (q + 1) ∧ PW t0 X L tg u.1
def PairW (l : Launch) (D : va_G) (T : Nat → ClassId) (t0 : Nat × Nat) (X : Nat → Nat → Nat) (L : List Nat) (tg : Nat → Nat × Nat) (A : ew_R) (XR : Nat → Nat → Nat) (LR : List Nat) (tgR : Nat → Nat × Nat) (B : ew_R) (q : Nat) (yc : MethodName) (wsc : List Cond) (yr : MethodName) (wsr : List Cond) (as : List Value) : Prop :=
  ∃ (r : Int32) (B' : ew_R), (∀ (o : Nat) (f : Nat → Int64) (sz : Nat), Met l yc wsc rmW (wPc D T t0 X L tg A o f sz (.ref (X 0 0) :: (as ++ [.ref o]))) (wQ D T L o sz (wK t0 X L tg r B' q)) 11 2036 (wA L o sz)) ∧ rK l D T XR LR tgR B yr wsr (.ref (XR 0 0) :: as) r B'
section WRP
variable {D : va_G} {cl : List vw_C} {cf : ew_C} {A0 : Nat → Prop} {X : Nat → Nat → Nat} {L : List Nat} {tg : Nat → Nat × Nat} {A : ew_R} {H H1 : Heap} {o : Nat} {E E' : va_E}
theorem ew_two (hV : ew_V D cl cf A0 X L tg A [] H) (hO : va_P D cl [(o, E)] H) (hno : o ∉ L) (hAo : A0 o) : va_P D cl ((o, E) :: ew_w cf X L tg A []) H ∧ va_D A0 ((o, E) :: ew_w cf X L tg A []) := by
  refine ⟨va_P.app (w1 := [(o, E)]) hO hV.1, va_D.app (w1 := [(o, E)]) ⟨fun i j p q hi hj _ => ?_, fun k q hk => ?_⟩ hV.2.1 (fun i j p q hi hj => ?_)⟩
  · have h1 : i < 1 := (List.getElem?_eq_some_iff.mp hi).1
    have h2 : j < 1 := (List.getElem?_eq_some_iff.mp hj).1
    omega
  · have h1 : k < 1 := (List.getElem?_eq_some_iff.mp hk).1
    rw [show k = 0 by omega] at hk
    cases hk
    exact hAo
  · have h1 : i < 1 := (List.getElem?_eq_some_iff.mp hi).1
    rw [show i = 0 by omega] at hi
    cases hi
    intro z
    have hm := List.mem_of_getElem? hj
    unfold ew_w at hm
    rw [List.nil_append] at hm
    unfold va_pl at hm
    obtain ⟨b, hb, rfl⟩ := List.mem_map.mp hm
    have z2 : o = b := z
    exact hno (by rw [z2]; exact hb)
theorem ew_un (hV : ew_V D cl cf A0 X L tg A [] H) (hP : va_P D cl ((o, E') :: ew_w cf X L tg A []) H1) : ew_V D cl cf A0 X L tg A [] H1 ∧ va_P D cl [(o, E')] H1 :=
  ⟨⟨fun k q hk => hP (k + 1) q hk, hV.2.1, hV.2.2⟩, fun k q hk => by
    have h1 : k < 1 := (List.getElem?_eq_some_iff.mp hk).1
    rw [show k = 0 by omega] at hk
    cases hk
    exact hP 0 _ rfl⟩
theorem va_o1 (hO : va_P D cl [(o, E)] H) (hq : H1[o]? = H[o]?) : va_P D cl [(o, E)] H1 := hO.kept (fun k q hk => by
  have h1 : k < 1 := (List.getElem?_eq_some_iff.mp hk).1
  rw [show k = 0 by omega] at hk
  cases hk
  exact hq)
theorem va_o1.lt (hO : va_P D cl [(o, E)] H) : o < H.size := (hO 0 _ rfl).lt
end WRP
theorem tb_two {tb : List ExceptionTableEntry} {a b : Nat × Nat × Nat × Nat} (h : tb.map (fun h => (h.startPc, h.endPc, h.handlerPc, h.catchType)) = [a, b]) : ∃ x z, tb = [x, z] ∧ (x.startPc, x.endPc, x.handlerPc, x.catchType) = a ∧ (z.startPc, z.endPc, z.handlerPc, z.catchType) = b := by
  match tb, h with
  | [x, z], h =>
    simp only [List.map_cons, List.map_nil, List.cons.injEq, and_true] at h
    exact ⟨x, z, rfl, h.1, h.2⟩
theorem tb_one {tb : List ExceptionTableEntry} {a : Nat × Nat × Nat × Nat} (h : tb.map (fun h => (h.startPc, h.endPc, h.handlerPc, h.catchType)) = [a]) : ∃ x, tb = [x] ∧ (x.startPc, x.endPc, x.handlerPc, x.catchType) = a := by
  match tb, h with
  | [x], h =>
    simp only [List.map_cons, List.map_nil, List.cons.injEq, and_true] at h
    exact ⟨x, rfl, h⟩
section WMT
variable {l : Launch} {D : va_G} {T : Nat → ClassId} {t0 : Nat × Nat} {X : Nat → Nat → Nat} {L : List Nat} {tg : Nat → Nat × Nat} {A : ew_R} {XR : Nat → Nat → Nat} {LR : List Nat} {tgR : Nat → Nat × Nat} {B : ew_R} {q : Nat} {o : Nat} {f : Nat → Int64}
theorem lw_met {y : MethodName} {ws ws' : List Cond} {rm : Room} {Qc : Array Value → State → Outcome → State → Prop} {mc ms sz maxL : Nat} {free : Addr → Prop} {cc : ByteArray} {ret : Option FieldType} {hh : List (Nat × Nat × Nat × Nat)} {av : List Value} (hy : plainName y.cls = true) (hw : ws = Cond.codeWith y cc maxL ret hh :: ws') (hlen : (lg_sl av).length ≤ maxL)
    (body : ∀ (p : Program) (e : Env) (s : State) (m : MethodId) (below : List Frame) (meth : Method) (c : Code) (ls : Array Slot), p.tables.exec = Jvm.exec → c.code = cc → meth.sig.returnType = ret → (∀ w ∈ ws', w.before av.toArray s = true) → s.vm.findClass y.cls = some m.cls → meth.locks = false → c.maxLocals = maxL → c.exceptionTable.toList.map (fun h => (h.startPc, h.endPc, h.handlerPc, h.catchType)) = hh →
      ew_V D vwCl (cfC T) (wA L o s.heap.size) X L tg A [] s.heap → va_P D vwCl [(o, oE T f)] s.heap → o ∉ L → va_K D vwCl (tysA T) s → EN s → em_Z t0 (wA L o s.heap.size) s s.heap → et_Z (wA L o s.heap.size) s s.heap → nC s → va_S (wA L o s.heap.size) s.heap s.heap [] → (∀ q, s.heap.size ≤ q → wA L o s.heap.size q) → lv_has ls maxL (lv_args 0 av) → s.heap.size = sz →
      W p l e rm s m av.toArray below meth c s.heap [] 0 0 (MQ below Qc av.toArray s mc ms free) (F0 m 0 ls [])) : Met l y ws rm (wPc D T t0 X L tg A o f sz av) Qc mc ms free := by
  refine va_MetW (cc := cc) (maxL := maxL) (ret := ret) (hh := hh) hy hw ?_
  intro p e s m args below meth c s₁ B hml hv
  obtain ⟨rfl, hsz, hV, ⟨hO, hno⟩, hK, hN, hZ, hT, hC⟩ := hv
  obtain ⟨m9, meth9, c9, hn9, hm9, hc9, -, -, htb, -, -, -⟩ := Cond.codeWith_spec (atoms_spec (ws := ws) B.pre _ (by rw [hw]; exact List.mem_cons_self))
  cases hn9.symm.trans B.named
  cases hm9.symm.trans B.method
  cases hc9.symm.trans (Stand.of_body B).code
  have hl := lv_entry av (n := maxL) hlen
  rw [lg_entry_eq]
  generalize (lg_sl av ++ List.replicate (maxL - (lg_sl av).length) Slot.unset).toArray = ls at hl ⊢
  exact body p e s m below meth c ls B.exec B.bytes B.returns (fun w hw2 => atoms_spec (ws := ws) B.pre w (by rw [hw]; exact List.mem_cons_of_mem _ hw2)) (findClass_of_methodNamed B.named) B.notSynchronized hml htb (hV.reg (fun _ h => Or.inl h)) hO hno hK hN (by rw [hsz]; exact hZ) (by rw [hsz]; exact hT) hC va_S.rf (fun q h => Or.inr (Or.inr h)) hl hsz
set_option maxHeartbeats 4000000 in
theorem w_addCopy_0 (l : Launch) (D : va_G) (T : Nat → ClassId) (t0 : Nat × Nat) (X : Nat → Nat → Nat) (L : List Nat) (tg : Nat → Nat × Nat) (A : ew_R) (o : Nat) (f : Nat → Int64) (sz : Nat) (x y : Int32) (hth : ew_in X L tg 0 0 (X 0 0)) (r : Int32) (post : Int32 → ec_S → Prop) (hpo : ∀ r' u, post r' u → r' = r) (hM : cK l D T t0 X L tg A yL_addCopy wsL_addCopy (.ref (X 0 0) :: [.int x, .int y]) post) : Met l yW_addCopy wsW_addCopy rmW (wPc D T t0 X L tg A o f sz [.ref (X 0 0), .int x, .int y, .ref o]) (wQ D T L o sz (fun c u => c = 0 ∧ u.2 0 = r.toInt64 ∧ post r u.1)) 11 2036 (wA L o sz) := by
  refine lw_met (hh := hhW_addCopy) (by decide) rfl (Nat.le_of_ble_eq_true rfl) ?_
  intro p e s m below meth c ls hx hb hr hts hown hlocks hml htb hV hO hno hK hN hZ hT hC hS hA hl hsz
  subst hsz
  have hl : lv_has ls 5 [(0, .ref (X 0 0)), (1, .int x), (2, .int y), (3, .ref o)] := hl
  refine lv_aload_n hx hb dW_addCopy_0 rfl (lv_at hl 3 rfl) ?_
  refine lv_iconst (v := 0) hx hb dW_addCopy_1 (by decide) ?_
  refine lv_aload_n hx hb dW_addCopy_2 rfl (lv_at hl 0 rfl) ?_
  refine lv_iload_n hx hb dW_addCopy_3 rfl (lv_at hl 1 rfl) ?_
  refine lv_iload_n hx hb dW_addCopy_4 rfl (lv_at hl 2 rfl) ?_
  refine lw_calli (va_runV (As := [.int x, .int y]) (rest := [.int 0, .ref o]) ⟨hx, hb, hml, hown, hts⟩ (hM _) (cwV 2 hts gJ_7 rfl rfl rfl (by decide +kernel) ⟨Nat.le_of_ble_eq_true rfl, Nat.le_of_ble_eq_true rfl⟩) (em_preV hK hN hV hZ hS hA hth (cC_0 _ _ _ _) rfl) rfl rfl hl.1 rfl (lv_room (Nat.le_of_ble_eq_true rfl)) dW_addCopy_5 ⟨Nat.le_of_ble_eq_true rfl, Nat.le_of_ble_eq_true rfl⟩) hV hS hA (fun r1 X1 L1 tg1 u H1 locs1 hp hV1 hz hk hL1 hS1 => ?_)
  have er := hpo r1 _ hp
  have hO1 := va_o1 hO (hk o (va_o1.lt hO) hno)
  have hno1 : o ∉ L1 := fun z => (hL1 o z).elim hno (fun z => by have := va_o1.lt hO; omega)
  refine lv_i2l (v := r.toInt64) hx hb dW_addCopy_8 (by rw [er]) ?_
  obtain ⟨hP2, hD2⟩ := ew_two hV1 hO1 hno1 (Or.inr (Or.inl rfl))
  refine va_last hx hb hK hP2 hD2 hS1 0 6 rfl rfl (show vp_in (nI 0) 1 from vp_in_nI (by decide) (by decide)) dW_addCopy_9 (fun H2 locs2 hP3 _ hS2 => ?_)
  obtain ⟨hV3, hO3⟩ := ew_un hV1 hP3
  refine lv_goto (tgt := 21) hx hb dW_addCopy_10 rfl ?_
  refine lv_iconst (v := 0) hx hb dW_addCopy_21 (by decide) ?_
  have e0 : vp_updL f (Int32.toNatClampNeg 0) r.toInt64 0 = r.toInt64 := by
    show vp_updL f 0 r.toInt64 0 = r.toInt64
    simp [vp_updL]
  exact W.iret hx hb hr (fun t ht _ => ⟨⟨0, ((X1, L1, tg1, u), vp_updL f (Int32.toNatClampNeg 0) r.toInt64), rfl, ⟨rfl, e0, er ▸ hp⟩, by
    show ew_V D vwCl (cfC T) (wA L o s.heap.size) X1 L1 tg1 u [] t.heap ∧ va_P D vwCl [(o, oE T (vp_updL f (Int32.toNatClampNeg 0) r.toInt64))] t.heap ∧ o ∉ L1
    rw [ht]; exact ⟨hV3, hO3, hno1⟩⟩, hS2.F ht⟩) hS2.2.2 dW_addCopy_22 hlocks
set_option maxHeartbeats 4000000 in
theorem w_addCopy_1 (l : Launch) (D : va_G) (T : Nat → ClassId) (t0 : Nat × Nat) (X : Nat → Nat → Nat) (L : List Nat) (tg : Nat → Nat × Nat) (A : ew_R) (o : Nat) (f : Nat → Int64) (sz : Nat) (x y : Int32) (hth : ew_in X L tg 0 0 (X 0 0)) (hM : tK l D T t0 X L tg A yL_addCopy wsL_addCopy (.ref (X 0 0) :: [.int x, .int y]) tmI) : Met l yW_addCopy wsW_addCopy rmW (wPc D T t0 X L tg A o f sz [.ref (X 0 0), .int x, .int y, .ref o]) (wQ D T L o sz (fun c u => c = 1 ∧ u = ((X, L, tg, A), f))) 11 2036 (wA L o sz) := by
  refine lw_met (hh := hhW_addCopy) (by decide) rfl (Nat.le_of_ble_eq_true rfl) ?_
  intro p e s m below meth c ls hx hb hr hts hown hlocks hml htb hV hO hno hK hN hZ hT hC hS hA hl hsz
  subst hsz
  have hl : lv_has ls 5 [(0, .ref (X 0 0)), (1, .int x), (2, .int y), (3, .ref o)] := hl
  refine lv_aload_n hx hb dW_addCopy_0 rfl (lv_at hl 3 rfl) ?_
  refine lv_iconst (v := 0) hx hb dW_addCopy_1 (by decide) ?_
  refine lv_aload_n hx hb dW_addCopy_2 rfl (lv_at hl 0 rfl) ?_
  refine lv_iload_n hx hb dW_addCopy_3 rfl (lv_at hl 1 rfl) ?_
  refine lv_iload_n hx hb dW_addCopy_4 rfl (lv_at hl 2 rfl) ?_
  obtain ⟨x1, x2, etb, f1, f2⟩ := tb_two htb
  obtain ⟨a1, a2, a3, a4⟩ : x1.startPc = 0 ∧ x1.endPc = 10 ∧ x1.handlerPc = 13 ∧ x1.catchType = 13 := by simpa using f1
  obtain ⟨b1, b2, b3, b4⟩ : x2.startPc = 0 ∧ x2.endPc = 10 ∧ x2.handlerPc = 17 ∧ x2.catchType = 15 := by simpa using f2
  refine lw_throw1 (As := [.int x, .int y]) (rest := [.int 0, .ref o]) ⟨hx, hb, hml, hown, hts⟩ (hM _) (cwV 2 hts gJ_7 rfl rfl rfl (by decide +kernel) ⟨Nat.le_of_ble_eq_true rfl, Nat.le_of_ble_eq_true rfl⟩) (tm_preV hK hN hV hZ hT hS hA hth (cC_0 _ _ _ _) rfl) rfl hl.1 rfl (lv_room (Nat.le_of_ble_eq_true rfl)) dW_addCopy_5 ⟨Nat.le_of_ble_eq_true rfl, Nat.le_of_ble_eq_true rfl⟩ (x := x1) etb (by unfold covers; rw [a1, a2]; decide) (by rw [a4]; decide) (by rw [a4]; exact hts _ kw_469) (hT.use _ tmI_self) hV hS hA (fun x9 H1 locs1 hV1 hz hk hS1 => ?_)
  rw [a3]
  refine lv_astore (lv' := (4, .ref x9) :: [(0, .ref (X 0 0)), (1, .int x), (2, .int y), (3, .ref o)]) hx hb dW_addCopy_13 hl (by decide) rfl (fun ls hl => ?_)
  refine lv_iconst (v := 1) hx hb dW_addCopy_15 (by decide) ?_
  exact W.iret hx hb hr (fun t ht _ => ⟨⟨1, ((X, L, tg, A), f), rfl, ⟨rfl, rfl⟩, by
    show ew_V D vwCl (cfC T) (wA L o s.heap.size) X L tg A [] t.heap ∧ va_P D vwCl [(o, oE T f)] t.heap ∧ o ∉ L
    rw [ht]; exact ⟨hV1, va_o1 hO (hk o (va_o1.lt hO) hno), hno⟩⟩, hS1.F ht⟩) hS1.2.2 dW_addCopy_16 hlocks
set_option maxHeartbeats 4000000 in
theorem w_addCopy_2 (l : Launch) (D : va_G) (T : Nat → ClassId) (t0 : Nat × Nat) (X : Nat → Nat → Nat) (L : List Nat) (tg : Nat → Nat × Nat) (A : ew_R) (o : Nat) (f : Nat → Int64) (sz : Nat) (x y : Int32) (hth : ew_in X L tg 0 0 (X 0 0)) (hM : tK l D T t0 X L tg A yL_addCopy wsL_addCopy (.ref (X 0 0) :: [.int x, .int y]) tmS) : Met l yW_addCopy wsW_addCopy rmW (wPc D T t0 X L tg A o f sz [.ref (X 0 0), .int x, .int y, .ref o]) (wQ D T L o sz (fun c u => c = 2 ∧ u = ((X, L, tg, A), f))) 11 2036 (wA L o sz) := by
  refine lw_met (hh := hhW_addCopy) (by decide) rfl (Nat.le_of_ble_eq_true rfl) ?_
  intro p e s m below meth c ls hx hb hr hts hown hlocks hml htb hV hO hno hK hN hZ hT hC hS hA hl hsz
  subst hsz
  have hl : lv_has ls 5 [(0, .ref (X 0 0)), (1, .int x), (2, .int y), (3, .ref o)] := hl
  refine lv_aload_n hx hb dW_addCopy_0 rfl (lv_at hl 3 rfl) ?_
  refine lv_iconst (v := 0) hx hb dW_addCopy_1 (by decide) ?_
  refine lv_aload_n hx hb dW_addCopy_2 rfl (lv_at hl 0 rfl) ?_
  refine lv_iload_n hx hb dW_addCopy_3 rfl (lv_at hl 1 rfl) ?_
  refine lv_iload_n hx hb dW_addCopy_4 rfl (lv_at hl 2 rfl) ?_
  obtain ⟨x1, x2, etb, f1, f2⟩ := tb_two htb
  obtain ⟨a1, a2, a3, a4⟩ : x1.startPc = 0 ∧ x1.endPc = 10 ∧ x1.handlerPc = 13 ∧ x1.catchType = 13 := by simpa using f1
  obtain ⟨b1, b2, b3, b4⟩ : x2.startPc = 0 ∧ x2.endPc = 10 ∧ x2.handlerPc = 17 ∧ x2.catchType = 15 := by simpa using f2
  refine lw_throw2 (As := [.int x, .int y]) (rest := [.int 0, .ref o]) ⟨hx, hb, hml, hown, hts⟩ (hM _) (cwV 2 hts gJ_7 rfl rfl rfl (by decide +kernel) ⟨Nat.le_of_ble_eq_true rfl, Nat.le_of_ble_eq_true rfl⟩) (tm_preV hK hN hV hZ hT hS hA hth (cC_0 _ _ _ _) rfl) rfl hl.1 rfl (lv_room (Nat.le_of_ble_eq_true rfl)) dW_addCopy_5 ⟨Nat.le_of_ble_eq_true rfl, Nat.le_of_ble_eq_true rfl⟩ (x := x1) (z := x2) (oth := tmI) etb (by unfold covers; rw [a1, a2]; decide) (by rw [a4]; decide) (by rw [a4]; exact hts _ kw_469) hC.use (by unfold covers; rw [b1, b2]; decide) (by rw [b4]; decide) (by rw [b4]; exact hts _ kw_470) (hT.use _ tmS_self) hV hS hA (fun x9 H1 locs1 hV1 hz hk hS1 => ?_)
  rw [b3]
  refine lv_astore (lv' := (4, .ref x9) :: [(0, .ref (X 0 0)), (1, .int x), (2, .int y), (3, .ref o)]) hx hb dW_addCopy_17 hl (by decide) rfl (fun ls hl => ?_)
  refine lv_iconst (v := 2) hx hb dW_addCopy_19 (by decide) ?_
  exact W.iret hx hb hr (fun t ht _ => ⟨⟨2, ((X, L, tg, A), f), rfl, ⟨rfl, rfl⟩, by
    show ew_V D vwCl (cfC T) (wA L o s.heap.size) X L tg A [] t.heap ∧ va_P D vwCl [(o, oE T f)] t.heap ∧ o ∉ L
    rw [ht]; exact ⟨hV1, va_o1 hO (hk o (va_o1.lt hO) hno), hno⟩⟩, hS1.F ht⟩) hS1.2.2 dW_addCopy_20 hlocks
set_option maxHeartbeats 4000000 in
theorem w_request_0 (l : Launch) (D : va_G) (T : Nat → ClassId) (t0 : Nat × Nat) (X : Nat → Nat → Nat) (L : List Nat) (tg : Nat → Nat × Nat) (A : ew_R) (o : Nat) (f : Nat → Int64) (sz : Nat) (x y z v : Int32) (hth : ew_in X L tg 0 0 (X 0 0)) (r : Int32) (post : Int32 → ec_S → Prop) (hpo : ∀ r' u, post r' u → r' = r) (hM : cK l D T t0 X L tg A yL_request wsL_request (.ref (X 0 0) :: [.int x, .int y, .int z, .int v]) post) : Met l yW_request wsW_request rmW (wPc D T t0 X L tg A o f sz [.ref (X 0 0), .int x, .int y, .int z, .int v, .ref o]) (wQ D T L o sz (fun c u => c = 0 ∧ u.2 0 = r.toInt64 ∧ post r u.1)) 11 2036 (wA L o sz) := by
  refine lw_met (hh := hhW_request) (by decide) rfl (Nat.le_of_ble_eq_true rfl) ?_
  intro p e s m below meth c ls hx hb hr hts hown hlocks hml htb hV hO hno hK hN hZ hT hC hS hA hl hsz
  subst hsz
  have hl : lv_has ls 7 [(0, .ref (X 0 0)), (1, .int x), (2, .int y), (3, .int z), (4, .int v), (5, .ref o)] := hl
  refine lv_aload hx hb dW_request_0 (lv_at hl 5 rfl) ?_
  refine lv_iconst (v := 0) hx hb dW_request_2 (by decide) ?_
  refine lv_aload_n hx hb dW_request_3 rfl (lv_at hl 0 rfl) ?_
  refine lv_iload_n hx hb dW_request_4 rfl (lv_at hl 1 rfl) ?_
  refine lv_iload_n hx hb dW_request_5 rfl (lv_at hl 2 rfl) ?_
  refine lv_iload_n hx hb dW_request_6 rfl (lv_at hl 3 rfl) ?_
  refine lv_iload hx hb dW_request_7 (lv_at hl 4 rfl) ?_
  refine lw_calli (va_runV (As := [.int x, .int y, .int z, .int v]) (rest := [.int 0, .ref o]) ⟨hx, hb, hml, hown, hts⟩ (hM _) (cwV 4 hts gJ_17 rfl rfl rfl (by decide +kernel) ⟨Nat.le_of_ble_eq_true rfl, Nat.le_of_ble_eq_true rfl⟩) (em_preV hK hN hV hZ hS hA hth (cC_0 _ _ _ _) rfl) rfl rfl hl.1 rfl (lv_room (Nat.le_of_ble_eq_true rfl)) dW_request_9 ⟨Nat.le_of_ble_eq_true rfl, Nat.le_of_ble_eq_true rfl⟩) hV hS hA (fun r1 X1 L1 tg1 u H1 locs1 hp hV1 hz hk hL1 hS1 => ?_)
  have er := hpo r1 _ hp
  have hO1 := va_o1 hO (hk o (va_o1.lt hO) hno)
  have hno1 : o ∉ L1 := fun z => (hL1 o z).elim hno (fun z => by have := va_o1.lt hO; omega)
  refine lv_i2l (v := r.toInt64) hx hb dW_request_12 (by rw [er]) ?_
  obtain ⟨hP2, hD2⟩ := ew_two hV1 hO1 hno1 (Or.inr (Or.inl rfl))
  refine va_last hx hb hK hP2 hD2 hS1 0 6 rfl rfl (show vp_in (nI 0) 1 from vp_in_nI (by decide) (by decide)) dW_request_13 (fun H2 locs2 hP3 _ hS2 => ?_)
  obtain ⟨hV3, hO3⟩ := ew_un hV1 hP3
  refine lv_goto (tgt := 25) hx hb dW_request_14 rfl ?_
  refine lv_iconst (v := 0) hx hb dW_request_25 (by decide) ?_
  have e0 : vp_updL f (Int32.toNatClampNeg 0) r.toInt64 0 = r.toInt64 := by
    show vp_updL f 0 r.toInt64 0 = r.toInt64
    simp [vp_updL]
  exact W.iret hx hb hr (fun t ht _ => ⟨⟨0, ((X1, L1, tg1, u), vp_updL f (Int32.toNatClampNeg 0) r.toInt64), rfl, ⟨rfl, e0, er ▸ hp⟩, by
    show ew_V D vwCl (cfC T) (wA L o s.heap.size) X1 L1 tg1 u [] t.heap ∧ va_P D vwCl [(o, oE T (vp_updL f (Int32.toNatClampNeg 0) r.toInt64))] t.heap ∧ o ∉ L1
    rw [ht]; exact ⟨hV3, hO3, hno1⟩⟩, hS2.F ht⟩) hS2.2.2 dW_request_26 hlocks
set_option maxHeartbeats 4000000 in
theorem w_request_1 (l : Launch) (D : va_G) (T : Nat → ClassId) (t0 : Nat × Nat) (X : Nat → Nat → Nat) (L : List Nat) (tg : Nat → Nat × Nat) (A : ew_R) (o : Nat) (f : Nat → Int64) (sz : Nat) (x y z v : Int32) (hth : ew_in X L tg 0 0 (X 0 0)) (hM : tK l D T t0 X L tg A yL_request wsL_request (.ref (X 0 0) :: [.int x, .int y, .int z, .int v]) tmI) : Met l yW_request wsW_request rmW (wPc D T t0 X L tg A o f sz [.ref (X 0 0), .int x, .int y, .int z, .int v, .ref o]) (wQ D T L o sz (fun c u => c = 1 ∧ u = ((X, L, tg, A), f))) 11 2036 (wA L o sz) := by
  refine lw_met (hh := hhW_request) (by decide) rfl (Nat.le_of_ble_eq_true rfl) ?_
  intro p e s m below meth c ls hx hb hr hts hown hlocks hml htb hV hO hno hK hN hZ hT hC hS hA hl hsz
  subst hsz
  have hl : lv_has ls 7 [(0, .ref (X 0 0)), (1, .int x), (2, .int y), (3, .int z), (4, .int v), (5, .ref o)] := hl
  refine lv_aload hx hb dW_request_0 (lv_at hl 5 rfl) ?_
  refine lv_iconst (v := 0) hx hb dW_request_2 (by decide) ?_
  refine lv_aload_n hx hb dW_request_3 rfl (lv_at hl 0 rfl) ?_
  refine lv_iload_n hx hb dW_request_4 rfl (lv_at hl 1 rfl) ?_
  refine lv_iload_n hx hb dW_request_5 rfl (lv_at hl 2 rfl) ?_
  refine lv_iload_n hx hb dW_request_6 rfl (lv_at hl 3 rfl) ?_
  refine lv_iload hx hb dW_request_7 (lv_at hl 4 rfl) ?_
  obtain ⟨x1, x2, etb, f1, f2⟩ := tb_two htb
  obtain ⟨a1, a2, a3, a4⟩ : x1.startPc = 0 ∧ x1.endPc = 14 ∧ x1.handlerPc = 17 ∧ x1.catchType = 13 := by simpa using f1
  obtain ⟨b1, b2, b3, b4⟩ : x2.startPc = 0 ∧ x2.endPc = 14 ∧ x2.handlerPc = 21 ∧ x2.catchType = 15 := by simpa using f2
  refine lw_throw1 (As := [.int x, .int y, .int z, .int v]) (rest := [.int 0, .ref o]) ⟨hx, hb, hml, hown, hts⟩ (hM _) (cwV 4 hts gJ_17 rfl rfl rfl (by decide +kernel) ⟨Nat.le_of_ble_eq_true rfl, Nat.le_of_ble_eq_true rfl⟩) (tm_preV hK hN hV hZ hT hS hA hth (cC_0 _ _ _ _) rfl) rfl hl.1 rfl (lv_room (Nat.le_of_ble_eq_true rfl)) dW_request_9 ⟨Nat.le_of_ble_eq_true rfl, Nat.le_of_ble_eq_true rfl⟩ (x := x1) etb (by unfold covers; rw [a1, a2]; decide) (by rw [a4]; decide) (by rw [a4]; exact hts _ kw_469) (hT.use _ tmI_self) hV hS hA (fun x9 H1 locs1 hV1 hz hk hS1 => ?_)
  rw [a3]
  refine lv_astore (lv' := (6, .ref x9) :: [(0, .ref (X 0 0)), (1, .int x), (2, .int y), (3, .int z), (4, .int v), (5, .ref o)]) hx hb dW_request_17 hl (by decide) rfl (fun ls hl => ?_)
  refine lv_iconst (v := 1) hx hb dW_request_19 (by decide) ?_
  exact W.iret hx hb hr (fun t ht _ => ⟨⟨1, ((X, L, tg, A), f), rfl, ⟨rfl, rfl⟩, by
    show ew_V D vwCl (cfC T) (wA L o s.heap.size) X L tg A [] t.heap ∧ va_P D vwCl [(o, oE T f)] t.heap ∧ o ∉ L
    rw [ht]; exact ⟨hV1, va_o1 hO (hk o (va_o1.lt hO) hno), hno⟩⟩, hS1.F ht⟩) hS1.2.2 dW_request_20 hlocks
set_option maxHeartbeats 4000000 in
theorem w_request_2 (l : Launch) (D : va_G) (T : Nat → ClassId) (t0 : Nat × Nat) (X : Nat → Nat → Nat) (L : List Nat) (tg : Nat → Nat × Nat) (A : ew_R) (o : Nat) (f : Nat → Int64) (sz : Nat) (x y z v : Int32) (hth : ew_in X L tg 0 0 (X 0 0)) (hM : tK l D T t0 X L tg A yL_request wsL_request (.ref (X 0 0) :: [.int x, .int y, .int z, .int v]) tmS) : Met l yW_request wsW_request rmW (wPc D T t0 X L tg A o f sz [.ref (X 0 0), .int x, .int y, .int z, .int v, .ref o]) (wQ D T L o sz (fun c u => c = 2 ∧ u = ((X, L, tg, A), f))) 11 2036 (wA L o sz) := by
  refine lw_met (hh := hhW_request) (by decide) rfl (Nat.le_of_ble_eq_true rfl) ?_
  intro p e s m below meth c ls hx hb hr hts hown hlocks hml htb hV hO hno hK hN hZ hT hC hS hA hl hsz
  subst hsz
  have hl : lv_has ls 7 [(0, .ref (X 0 0)), (1, .int x), (2, .int y), (3, .int z), (4, .int v), (5, .ref o)] := hl
  refine lv_aload hx hb dW_request_0 (lv_at hl 5 rfl) ?_
  refine lv_iconst (v := 0) hx hb dW_request_2 (by decide) ?_
  refine lv_aload_n hx hb dW_request_3 rfl (lv_at hl 0 rfl) ?_
  refine lv_iload_n hx hb dW_request_4 rfl (lv_at hl 1 rfl) ?_
  refine lv_iload_n hx hb dW_request_5 rfl (lv_at hl 2 rfl) ?_
  refine lv_iload_n hx hb dW_request_6 rfl (lv_at hl 3 rfl) ?_
  refine lv_iload hx hb dW_request_7 (lv_at hl 4 rfl) ?_
  obtain ⟨x1, x2, etb, f1, f2⟩ := tb_two htb
  obtain ⟨a1, a2, a3, a4⟩ : x1.startPc = 0 ∧ x1.endPc = 14 ∧ x1.handlerPc = 17 ∧ x1.catchType = 13 := by simpa using f1
  obtain ⟨b1, b2, b3, b4⟩ : x2.startPc = 0 ∧ x2.endPc = 14 ∧ x2.handlerPc = 21 ∧ x2.catchType = 15 := by simpa using f2
  refine lw_throw2 (As := [.int x, .int y, .int z, .int v]) (rest := [.int 0, .ref o]) ⟨hx, hb, hml, hown, hts⟩ (hM _) (cwV 4 hts gJ_17 rfl rfl rfl (by decide +kernel) ⟨Nat.le_of_ble_eq_true rfl, Nat.le_of_ble_eq_true rfl⟩) (tm_preV hK hN hV hZ hT hS hA hth (cC_0 _ _ _ _) rfl) rfl hl.1 rfl (lv_room (Nat.le_of_ble_eq_true rfl)) dW_request_9 ⟨Nat.le_of_ble_eq_true rfl, Nat.le_of_ble_eq_true rfl⟩ (x := x1) (z := x2) (oth := tmI) etb (by unfold covers; rw [a1, a2]; decide) (by rw [a4]; decide) (by rw [a4]; exact hts _ kw_469) hC.use (by unfold covers; rw [b1, b2]; decide) (by rw [b4]; decide) (by rw [b4]; exact hts _ kw_470) (hT.use _ tmS_self) hV hS hA (fun x9 H1 locs1 hV1 hz hk hS1 => ?_)
  rw [b3]
  refine lv_astore (lv' := (6, .ref x9) :: [(0, .ref (X 0 0)), (1, .int x), (2, .int y), (3, .int z), (4, .int v), (5, .ref o)]) hx hb dW_request_21 hl (by decide) rfl (fun ls hl => ?_)
  refine lv_iconst (v := 2) hx hb dW_request_23 (by decide) ?_
  exact W.iret hx hb hr (fun t ht _ => ⟨⟨2, ((X, L, tg, A), f), rfl, ⟨rfl, rfl⟩, by
    show ew_V D vwCl (cfC T) (wA L o s.heap.size) X L tg A [] t.heap ∧ va_P D vwCl [(o, oE T f)] t.heap ∧ o ∉ L
    rw [ht]; exact ⟨hV1, va_o1 hO (hk o (va_o1.lt hO) hno), hno⟩⟩, hS1.F ht⟩) hS1.2.2 dW_request_24 hlocks
set_option maxHeartbeats 4000000 in
theorem w_act_0 (l : Launch) (D : va_G) (T : Nat → ClassId) (t0 : Nat × Nat) (X : Nat → Nat → Nat) (L : List Nat) (tg : Nat → Nat × Nat) (A : ew_R) (o : Nat) (f : Nat → Int64) (sz : Nat) (x y z v : Int32) (hth : ew_in X L tg 0 0 (X 0 0)) (r : Int32) (post : Int32 → ec_S → Prop) (hpo : ∀ r' u, post r' u → r' = r) (hM : cK l D T t0 X L tg A yL_act wsL_act (.ref (X 0 0) :: [.int x, .int y, .int z, .int v]) post) : Met l yW_act wsW_act rmW (wPc D T t0 X L tg A o f sz [.ref (X 0 0), .int x, .int y, .int z, .int v, .ref o]) (wQ D T L o sz (fun c u => c = 0 ∧ u.2 0 = r.toInt64 ∧ post r u.1)) 11 2036 (wA L o sz) := by
  refine lw_met (hh := hhW_act) (by decide) rfl (Nat.le_of_ble_eq_true rfl) ?_
  intro p e s m below meth c ls hx hb hr hts hown hlocks hml htb hV hO hno hK hN hZ hT hC hS hA hl hsz
  subst hsz
  have hl : lv_has ls 7 [(0, .ref (X 0 0)), (1, .int x), (2, .int y), (3, .int z), (4, .int v), (5, .ref o)] := hl
  refine lv_aload hx hb dW_act_0 (lv_at hl 5 rfl) ?_
  refine lv_iconst (v := 0) hx hb dW_act_2 (by decide) ?_
  refine lv_aload_n hx hb dW_act_3 rfl (lv_at hl 0 rfl) ?_
  refine lv_iload_n hx hb dW_act_4 rfl (lv_at hl 1 rfl) ?_
  refine lv_iload_n hx hb dW_act_5 rfl (lv_at hl 2 rfl) ?_
  refine lv_iload_n hx hb dW_act_6 rfl (lv_at hl 3 rfl) ?_
  refine lv_iload hx hb dW_act_7 (lv_at hl 4 rfl) ?_
  refine lw_calli (va_runV (As := [.int x, .int y, .int z, .int v]) (rest := [.int 0, .ref o]) ⟨hx, hb, hml, hown, hts⟩ (hM _) (cwV 4 hts gJ_21 rfl rfl rfl (by decide +kernel) ⟨Nat.le_of_ble_eq_true rfl, Nat.le_of_ble_eq_true rfl⟩) (em_preV hK hN hV hZ hS hA hth (cC_0 _ _ _ _) rfl) rfl rfl hl.1 rfl (lv_room (Nat.le_of_ble_eq_true rfl)) dW_act_9 ⟨Nat.le_of_ble_eq_true rfl, Nat.le_of_ble_eq_true rfl⟩) hV hS hA (fun r1 X1 L1 tg1 u H1 locs1 hp hV1 hz hk hL1 hS1 => ?_)
  have er := hpo r1 _ hp
  have hO1 := va_o1 hO (hk o (va_o1.lt hO) hno)
  have hno1 : o ∉ L1 := fun z => (hL1 o z).elim hno (fun z => by have := va_o1.lt hO; omega)
  refine lv_i2l (v := r.toInt64) hx hb dW_act_12 (by rw [er]) ?_
  obtain ⟨hP2, hD2⟩ := ew_two hV1 hO1 hno1 (Or.inr (Or.inl rfl))
  refine va_last hx hb hK hP2 hD2 hS1 0 6 rfl rfl (show vp_in (nI 0) 1 from vp_in_nI (by decide) (by decide)) dW_act_13 (fun H2 locs2 hP3 _ hS2 => ?_)
  obtain ⟨hV3, hO3⟩ := ew_un hV1 hP3
  refine lv_goto (tgt := 25) hx hb dW_act_14 rfl ?_
  refine lv_iconst (v := 0) hx hb dW_act_25 (by decide) ?_
  have e0 : vp_updL f (Int32.toNatClampNeg 0) r.toInt64 0 = r.toInt64 := by
    show vp_updL f 0 r.toInt64 0 = r.toInt64
    simp [vp_updL]
  exact W.iret hx hb hr (fun t ht _ => ⟨⟨0, ((X1, L1, tg1, u), vp_updL f (Int32.toNatClampNeg 0) r.toInt64), rfl, ⟨rfl, e0, er ▸ hp⟩, by
    show ew_V D vwCl (cfC T) (wA L o s.heap.size) X1 L1 tg1 u [] t.heap ∧ va_P D vwCl [(o, oE T (vp_updL f (Int32.toNatClampNeg 0) r.toInt64))] t.heap ∧ o ∉ L1
    rw [ht]; exact ⟨hV3, hO3, hno1⟩⟩, hS2.F ht⟩) hS2.2.2 dW_act_26 hlocks
set_option maxHeartbeats 4000000 in
theorem w_act_1 (l : Launch) (D : va_G) (T : Nat → ClassId) (t0 : Nat × Nat) (X : Nat → Nat → Nat) (L : List Nat) (tg : Nat → Nat × Nat) (A : ew_R) (o : Nat) (f : Nat → Int64) (sz : Nat) (x y z v : Int32) (hth : ew_in X L tg 0 0 (X 0 0)) (hM : tK l D T t0 X L tg A yL_act wsL_act (.ref (X 0 0) :: [.int x, .int y, .int z, .int v]) tmI) : Met l yW_act wsW_act rmW (wPc D T t0 X L tg A o f sz [.ref (X 0 0), .int x, .int y, .int z, .int v, .ref o]) (wQ D T L o sz (fun c u => c = 1 ∧ u = ((X, L, tg, A), f))) 11 2036 (wA L o sz) := by
  refine lw_met (hh := hhW_act) (by decide) rfl (Nat.le_of_ble_eq_true rfl) ?_
  intro p e s m below meth c ls hx hb hr hts hown hlocks hml htb hV hO hno hK hN hZ hT hC hS hA hl hsz
  subst hsz
  have hl : lv_has ls 7 [(0, .ref (X 0 0)), (1, .int x), (2, .int y), (3, .int z), (4, .int v), (5, .ref o)] := hl
  refine lv_aload hx hb dW_act_0 (lv_at hl 5 rfl) ?_
  refine lv_iconst (v := 0) hx hb dW_act_2 (by decide) ?_
  refine lv_aload_n hx hb dW_act_3 rfl (lv_at hl 0 rfl) ?_
  refine lv_iload_n hx hb dW_act_4 rfl (lv_at hl 1 rfl) ?_
  refine lv_iload_n hx hb dW_act_5 rfl (lv_at hl 2 rfl) ?_
  refine lv_iload_n hx hb dW_act_6 rfl (lv_at hl 3 rfl) ?_
  refine lv_iload hx hb dW_act_7 (lv_at hl 4 rfl) ?_
  obtain ⟨x1, x2, etb, f1, f2⟩ := tb_two htb
  obtain ⟨a1, a2, a3, a4⟩ : x1.startPc = 0 ∧ x1.endPc = 14 ∧ x1.handlerPc = 17 ∧ x1.catchType = 13 := by simpa using f1
  obtain ⟨b1, b2, b3, b4⟩ : x2.startPc = 0 ∧ x2.endPc = 14 ∧ x2.handlerPc = 21 ∧ x2.catchType = 15 := by simpa using f2
  refine lw_throw1 (As := [.int x, .int y, .int z, .int v]) (rest := [.int 0, .ref o]) ⟨hx, hb, hml, hown, hts⟩ (hM _) (cwV 4 hts gJ_21 rfl rfl rfl (by decide +kernel) ⟨Nat.le_of_ble_eq_true rfl, Nat.le_of_ble_eq_true rfl⟩) (tm_preV hK hN hV hZ hT hS hA hth (cC_0 _ _ _ _) rfl) rfl hl.1 rfl (lv_room (Nat.le_of_ble_eq_true rfl)) dW_act_9 ⟨Nat.le_of_ble_eq_true rfl, Nat.le_of_ble_eq_true rfl⟩ (x := x1) etb (by unfold covers; rw [a1, a2]; decide) (by rw [a4]; decide) (by rw [a4]; exact hts _ kw_469) (hT.use _ tmI_self) hV hS hA (fun x9 H1 locs1 hV1 hz hk hS1 => ?_)
  rw [a3]
  refine lv_astore (lv' := (6, .ref x9) :: [(0, .ref (X 0 0)), (1, .int x), (2, .int y), (3, .int z), (4, .int v), (5, .ref o)]) hx hb dW_act_17 hl (by decide) rfl (fun ls hl => ?_)
  refine lv_iconst (v := 1) hx hb dW_act_19 (by decide) ?_
  exact W.iret hx hb hr (fun t ht _ => ⟨⟨1, ((X, L, tg, A), f), rfl, ⟨rfl, rfl⟩, by
    show ew_V D vwCl (cfC T) (wA L o s.heap.size) X L tg A [] t.heap ∧ va_P D vwCl [(o, oE T f)] t.heap ∧ o ∉ L
    rw [ht]; exact ⟨hV1, va_o1 hO (hk o (va_o1.lt hO) hno), hno⟩⟩, hS1.F ht⟩) hS1.2.2 dW_act_20 hlocks
set_option maxHeartbeats 4000000 in
theorem w_act_2 (l : Launch) (D : va_G) (T : Nat → ClassId) (t0 : Nat × Nat) (X : Nat → Nat → Nat) (L : List Nat) (tg : Nat → Nat × Nat) (A : ew_R) (o : Nat) (f : Nat → Int64) (sz : Nat) (x y z v : Int32) (hth : ew_in X L tg 0 0 (X 0 0)) (hM : tK l D T t0 X L tg A yL_act wsL_act (.ref (X 0 0) :: [.int x, .int y, .int z, .int v]) tmS) : Met l yW_act wsW_act rmW (wPc D T t0 X L tg A o f sz [.ref (X 0 0), .int x, .int y, .int z, .int v, .ref o]) (wQ D T L o sz (fun c u => c = 2 ∧ u = ((X, L, tg, A), f))) 11 2036 (wA L o sz) := by
  refine lw_met (hh := hhW_act) (by decide) rfl (Nat.le_of_ble_eq_true rfl) ?_
  intro p e s m below meth c ls hx hb hr hts hown hlocks hml htb hV hO hno hK hN hZ hT hC hS hA hl hsz
  subst hsz
  have hl : lv_has ls 7 [(0, .ref (X 0 0)), (1, .int x), (2, .int y), (3, .int z), (4, .int v), (5, .ref o)] := hl
  refine lv_aload hx hb dW_act_0 (lv_at hl 5 rfl) ?_
  refine lv_iconst (v := 0) hx hb dW_act_2 (by decide) ?_
  refine lv_aload_n hx hb dW_act_3 rfl (lv_at hl 0 rfl) ?_
  refine lv_iload_n hx hb dW_act_4 rfl (lv_at hl 1 rfl) ?_
  refine lv_iload_n hx hb dW_act_5 rfl (lv_at hl 2 rfl) ?_
  refine lv_iload_n hx hb dW_act_6 rfl (lv_at hl 3 rfl) ?_
  refine lv_iload hx hb dW_act_7 (lv_at hl 4 rfl) ?_
  obtain ⟨x1, x2, etb, f1, f2⟩ := tb_two htb
  obtain ⟨a1, a2, a3, a4⟩ : x1.startPc = 0 ∧ x1.endPc = 14 ∧ x1.handlerPc = 17 ∧ x1.catchType = 13 := by simpa using f1
  obtain ⟨b1, b2, b3, b4⟩ : x2.startPc = 0 ∧ x2.endPc = 14 ∧ x2.handlerPc = 21 ∧ x2.catchType = 15 := by simpa using f2
  refine lw_throw2 (As := [.int x, .int y, .int z, .int v]) (rest := [.int 0, .ref o]) ⟨hx, hb, hml, hown, hts⟩ (hM _) (cwV 4 hts gJ_21 rfl rfl rfl (by decide +kernel) ⟨Nat.le_of_ble_eq_true rfl, Nat.le_of_ble_eq_true rfl⟩) (tm_preV hK hN hV hZ hT hS hA hth (cC_0 _ _ _ _) rfl) rfl hl.1 rfl (lv_room (Nat.le_of_ble_eq_true rfl)) dW_act_9 ⟨Nat.le_of_ble_eq_true rfl, Nat.le_of_ble_eq_true rfl⟩ (x := x1) (z := x2) (oth := tmI) etb (by unfold covers; rw [a1, a2]; decide) (by rw [a4]; decide) (by rw [a4]; exact hts _ kw_469) hC.use (by unfold covers; rw [b1, b2]; decide) (by rw [b4]; decide) (by rw [b4]; exact hts _ kw_470) (hT.use _ tmS_self) hV hS hA (fun x9 H1 locs1 hV1 hz hk hS1 => ?_)
  rw [b3]
  refine lv_astore (lv' := (6, .ref x9) :: [(0, .ref (X 0 0)), (1, .int x), (2, .int y), (3, .int z), (4, .int v), (5, .ref o)]) hx hb dW_act_21 hl (by decide) rfl (fun ls hl => ?_)
  refine lv_iconst (v := 2) hx hb dW_act_23 (by decide) ?_
  exact W.iret hx hb hr (fun t ht _ => ⟨⟨2, ((X, L, tg, A), f), rfl, ⟨rfl, rfl⟩, by
    show ew_V D vwCl (cfC T) (wA L o s.heap.size) X L tg A [] t.heap ∧ va_P D vwCl [(o, oE T f)] t.heap ∧ o ∉ L
    rw [ht]; exact ⟨hV1, va_o1 hO (hk o (va_o1.lt hO) hno), hno⟩⟩, hS1.F ht⟩) hS1.2.2 dW_act_24 hlocks
set_option maxHeartbeats 4000000 in
theorem w_resend_0 (l : Launch) (D : va_G) (T : Nat → ClassId) (t0 : Nat × Nat) (X : Nat → Nat → Nat) (L : List Nat) (tg : Nat → Nat × Nat) (A : ew_R) (o : Nat) (f : Nat → Int64) (sz : Nat) (x y : Int32) (hth : ew_in X L tg 0 0 (X 0 0)) (r : Int32) (post : Int32 → ec_S → Prop) (hpo : ∀ r' u, post r' u → r' = r) (hM : cK l D T t0 X L tg A yL_resend wsL_resend (.ref (X 0 0) :: [.int x, .int y]) post) : Met l yW_resend wsW_resend rmW (wPc D T t0 X L tg A o f sz [.ref (X 0 0), .int x, .int y, .ref o]) (wQ D T L o sz (fun c u => c = 0 ∧ u.2 0 = r.toInt64 ∧ post r u.1)) 11 2036 (wA L o sz) := by
  refine lw_met (hh := hhW_resend) (by decide) rfl (Nat.le_of_ble_eq_true rfl) ?_
  intro p e s m below meth c ls hx hb hr hts hown hlocks hml htb hV hO hno hK hN hZ hT hC hS hA hl hsz
  subst hsz
  have hl : lv_has ls 5 [(0, .ref (X 0 0)), (1, .int x), (2, .int y), (3, .ref o)] := hl
  refine lv_aload_n hx hb dW_resend_0 rfl (lv_at hl 3 rfl) ?_
  refine lv_iconst (v := 0) hx hb dW_resend_1 (by decide) ?_
  refine lv_aload_n hx hb dW_resend_2 rfl (lv_at hl 0 rfl) ?_
  refine lv_iload_n hx hb dW_resend_3 rfl (lv_at hl 1 rfl) ?_
  refine lv_iload_n hx hb dW_resend_4 rfl (lv_at hl 2 rfl) ?_
  refine lw_calli (va_runV (As := [.int x, .int y]) (rest := [.int 0, .ref o]) ⟨hx, hb, hml, hown, hts⟩ (hM _) (cwV 2 hts gJ_24 rfl rfl rfl (by decide +kernel) ⟨Nat.le_of_ble_eq_true rfl, Nat.le_of_ble_eq_true rfl⟩) (em_preV hK hN hV hZ hS hA hth (cC_0 _ _ _ _) rfl) rfl rfl hl.1 rfl (lv_room (Nat.le_of_ble_eq_true rfl)) dW_resend_5 ⟨Nat.le_of_ble_eq_true rfl, Nat.le_of_ble_eq_true rfl⟩) hV hS hA (fun r1 X1 L1 tg1 u H1 locs1 hp hV1 hz hk hL1 hS1 => ?_)
  have er := hpo r1 _ hp
  have hO1 := va_o1 hO (hk o (va_o1.lt hO) hno)
  have hno1 : o ∉ L1 := fun z => (hL1 o z).elim hno (fun z => by have := va_o1.lt hO; omega)
  refine lv_i2l (v := r.toInt64) hx hb dW_resend_8 (by rw [er]) ?_
  obtain ⟨hP2, hD2⟩ := ew_two hV1 hO1 hno1 (Or.inr (Or.inl rfl))
  refine va_last hx hb hK hP2 hD2 hS1 0 6 rfl rfl (show vp_in (nI 0) 1 from vp_in_nI (by decide) (by decide)) dW_resend_9 (fun H2 locs2 hP3 _ hS2 => ?_)
  obtain ⟨hV3, hO3⟩ := ew_un hV1 hP3
  refine lv_goto (tgt := 17) hx hb dW_resend_10 rfl ?_
  refine lv_iconst (v := 0) hx hb dW_resend_17 (by decide) ?_
  have e0 : vp_updL f (Int32.toNatClampNeg 0) r.toInt64 0 = r.toInt64 := by
    show vp_updL f 0 r.toInt64 0 = r.toInt64
    simp [vp_updL]
  exact W.iret hx hb hr (fun t ht _ => ⟨⟨0, ((X1, L1, tg1, u), vp_updL f (Int32.toNatClampNeg 0) r.toInt64), rfl, ⟨rfl, e0, er ▸ hp⟩, by
    show ew_V D vwCl (cfC T) (wA L o s.heap.size) X1 L1 tg1 u [] t.heap ∧ va_P D vwCl [(o, oE T (vp_updL f (Int32.toNatClampNeg 0) r.toInt64))] t.heap ∧ o ∉ L1
    rw [ht]; exact ⟨hV3, hO3, hno1⟩⟩, hS2.F ht⟩) hS2.2.2 dW_resend_18 hlocks
set_option maxHeartbeats 4000000 in
theorem w_resend_1 (l : Launch) (D : va_G) (T : Nat → ClassId) (t0 : Nat × Nat) (X : Nat → Nat → Nat) (L : List Nat) (tg : Nat → Nat × Nat) (A : ew_R) (o : Nat) (f : Nat → Int64) (sz : Nat) (x y : Int32) (hth : ew_in X L tg 0 0 (X 0 0)) (hM : tK l D T t0 X L tg A yL_resend wsL_resend (.ref (X 0 0) :: [.int x, .int y]) tmI) : Met l yW_resend wsW_resend rmW (wPc D T t0 X L tg A o f sz [.ref (X 0 0), .int x, .int y, .ref o]) (wQ D T L o sz (fun c u => c = 1 ∧ u = ((X, L, tg, A), f))) 11 2036 (wA L o sz) := by
  refine lw_met (hh := hhW_resend) (by decide) rfl (Nat.le_of_ble_eq_true rfl) ?_
  intro p e s m below meth c ls hx hb hr hts hown hlocks hml htb hV hO hno hK hN hZ hT hC hS hA hl hsz
  subst hsz
  have hl : lv_has ls 5 [(0, .ref (X 0 0)), (1, .int x), (2, .int y), (3, .ref o)] := hl
  refine lv_aload_n hx hb dW_resend_0 rfl (lv_at hl 3 rfl) ?_
  refine lv_iconst (v := 0) hx hb dW_resend_1 (by decide) ?_
  refine lv_aload_n hx hb dW_resend_2 rfl (lv_at hl 0 rfl) ?_
  refine lv_iload_n hx hb dW_resend_3 rfl (lv_at hl 1 rfl) ?_
  refine lv_iload_n hx hb dW_resend_4 rfl (lv_at hl 2 rfl) ?_
  obtain ⟨x1, etb, f1⟩ := tb_one htb
  obtain ⟨a1, a2, a3, a4⟩ : x1.startPc = 0 ∧ x1.endPc = 10 ∧ x1.handlerPc = 13 ∧ x1.catchType = 13 := by simpa using f1
  refine lw_throw1 (As := [.int x, .int y]) (rest := [.int 0, .ref o]) ⟨hx, hb, hml, hown, hts⟩ (hM _) (cwV 2 hts gJ_24 rfl rfl rfl (by decide +kernel) ⟨Nat.le_of_ble_eq_true rfl, Nat.le_of_ble_eq_true rfl⟩) (tm_preV hK hN hV hZ hT hS hA hth (cC_0 _ _ _ _) rfl) rfl hl.1 rfl (lv_room (Nat.le_of_ble_eq_true rfl)) dW_resend_5 ⟨Nat.le_of_ble_eq_true rfl, Nat.le_of_ble_eq_true rfl⟩ (x := x1) etb (by unfold covers; rw [a1, a2]; decide) (by rw [a4]; decide) (by rw [a4]; exact hts _ kw_469) (hT.use _ tmI_self) hV hS hA (fun x9 H1 locs1 hV1 hz hk hS1 => ?_)
  rw [a3]
  refine lv_astore (lv' := (4, .ref x9) :: [(0, .ref (X 0 0)), (1, .int x), (2, .int y), (3, .ref o)]) hx hb dW_resend_13 hl (by decide) rfl (fun ls hl => ?_)
  refine lv_iconst (v := 1) hx hb dW_resend_15 (by decide) ?_
  exact W.iret hx hb hr (fun t ht _ => ⟨⟨1, ((X, L, tg, A), f), rfl, ⟨rfl, rfl⟩, by
    show ew_V D vwCl (cfC T) (wA L o s.heap.size) X L tg A [] t.heap ∧ va_P D vwCl [(o, oE T f)] t.heap ∧ o ∉ L
    rw [ht]; exact ⟨hV1, va_o1 hO (hk o (va_o1.lt hO) hno), hno⟩⟩, hS1.F ht⟩) hS1.2.2 dW_resend_16 hlocks
end WMT
