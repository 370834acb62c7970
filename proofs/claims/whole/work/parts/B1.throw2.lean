/-! What a throw needs of the machine, carried along; methods that throw -/
def tmI : String := "java/lang/IllegalArgumentException"
def tmS : String := "java/lang/IllegalStateException"
def tmN : List String := ["java/lang/RuntimeException", "java/lang/Exception"]
def etA : List Cond := Bundle.ownAtoms "LoanLetters" 54 tmI tmN ++ Bundle.ownAtoms "LoanLetters" 65 tmS tmN
def etS : List (Nat × String) := [(52, "no such library or title"), (63, "there are 32 copies"), (69, "no such library, title, beginning of the rota, or days"), (74, "there are 32 loans"), (94, "no such loan or step"), (99, "the library is not the requester"), (105, "the requester can't do it now"), (120, "the library is none of the suppliers"), (126, "the supplier can't do it now"), (138, "the library is neither requester nor supplier")]
/-- a static of Throwable's that holds a reference or null, its cell out of the method's reach -/
def zS (n d : String) (A : Nat → Prop) (U : State) (H : Heap) : Prop := ∃ (c : ClassId) (k : Class) (i : Nat) (f : Field) (a : Nat) (cell : Cell) (v : Value), U.vm.findClass Bundle.tN = some c ∧ U.fieldFound? Bundle.tN n d = some (c, k, i, f) ∧ f.isStatic = true ∧ k.statics = some a ∧ H[a]? = some cell ∧ cell.vm.isStatics = true ∧ cell.cls = c ∧ f.slot < cell.slots.size ∧ k.staticTypes[f.slot]? = some f.type ∧ cell.slots[f.slot]? = some v ∧ v.isRef = true ∧ ¬ A a
theorem zS.moved {n d : String} {A : Nat → Prop} {u U : State} {H : Heap} (hvm : u.vm.Alike U.vm) (h : zS n d A u H) : zS n d A U H := by
  obtain ⟨c, k, i, f, a, cell, v, h1, h2, h3, h4, h5, h6, h7, h8, h9, h10⟩ := h
  obtain ⟨k', hi', he⟩ := State.fieldFound?_setVm hvm h2
  exact ⟨c, k', i, f, a, cell, v, by rw [hvm.findClass]; exact h1, hi', h3, by rw [he]; exact h4, h5, h6, h7, h8, by rw [he]; exact h9, h10⟩
theorem zS.kept {n d : String} {A : Nat → Prop} {U : State} {H H1 : Heap} (h : zS n d A U H) (hq : ∀ a : Nat, a < H.size → ¬ A a → H1[a]? = H[a]?) : zS n d A U H1 := by
  obtain ⟨c, k, i, f, a, cell, v, h1, h2, h3, h4, h5, h6, h7, h8, h9, h10, h11, h12⟩ := h
  exact ⟨c, k, i, f, a, cell, v, h1, h2, h3, h4, by rw [hq a (Array.getElem?_eq_some_iff.mp h5).1 h12]; exact h5, h6, h7, h8, h9, h10, h11, h12⟩
theorem zS.narrow {n d : String} {A B : Nat → Prop} {U : State} {H : Heap} (h : zS n d A U H) (hAB : ∀ q, B q → A q) : zS n d B U H := by
  obtain ⟨c, k, i, f, a, cell, v, h1, h2, h3, h4, h5, h6, h7, h8, h9, h10, h11, h12⟩ := h
  exact ⟨c, k, i, f, a, cell, v, h1, h2, h3, h4, h5, h6, h7, h8, h9, h10, h11, fun z => h12 (hAB a z)⟩
theorem zS.lays {n d : String} {A : Nat → Prop} {s : State} {args : Array Value} (h : zS n d A s s.heap) : (Cond.laysStatic Bundle.tN n d).before args s = true := by
  obtain ⟨c, k, i, f, a, cell, v, h1, h2, h3, h4, h5, h6, h7, h8, h9, h10, h11, h12⟩ := h
  exact Cond.laysStatic_of h1 h2 h3 h4 h5 h6 h7 h8 h9
theorem zS.ref {n d : String} {A : Nat → Prop} {s : State} {args : Array Value} (h : zS n d A s s.heap) : (Cond.isRef (.static Bundle.tN n d)).before args s = true := by
  obtain ⟨c, k, i, f, a, cell, v, h1, h2, h3, h4, h5, h6, h7, h8, h9, h10, h11, h12⟩ := h
  simp [Cond.before, Cond.holds, Cond.value, Term.eval, State.fieldNamed?, h2, h3, h4, h5, h6, h10]
  cases v <;> simp_all [Value.isRef]
theorem zS.of {n d : String} {A : Nat → Prop} {s : State} {args : Array Value} (hl : (Cond.laysStatic Bundle.tN n d).before args s = true) (hr : (Cond.isRef (.static Bundle.tN n d)).before args s = true) (hA : ∀ a : Nat, a < s.heap.size → ¬ A a) : zS n d A s s.heap := by
  obtain ⟨c, k, i, f, a, cell, hc, hi, hst, ha, hcell, hs, hcls, hlt, hty⟩ := Cond.laysStatic_spec hl
  obtain ⟨v, hv⟩ := Cond.staticRefV hi hst ha hcell hs hr
  exact ⟨c, k, i, f, a, cell, v.v, hc, hi, hst, ha, hcell, hs, hcls, hlt, hty, hv, v.2, hA a (Array.getElem?_eq_some_iff.mp hcell).1⟩
def et_Z (A : Nat → Prop) (U : State) (H : Heap) : Prop := (∀ w ∈ etA, w.onTables = true → w.before #[] U = true) ∧ zS "UNASSIGNED_STACK" Bundle.steD A U H ∧ zS "SUPPRESSED_SENTINEL" Bundle.listD A U H ∧ ∀ q ∈ etS, ∃ a, vk_R "LoanLetters" q.1 q.2 a U
theorem etA_face : ∀ w ∈ etA, w.keepsFace = true := fun w hw => by
  rcases List.mem_append.mp hw with h | h
  · exact Bundle.ownAtoms_keepsFace w h
  · exact Bundle.ownAtoms_keepsFace w h
theorem et_Z.warm {A : Nat → Prop} {s U : State} {H : Heap} (hW : s.WarmedH U.vm) (h : et_Z A s H) : et_Z A U H := by
  obtain ⟨h1, h3, h5, h6⟩ := h
  refine ⟨fun w hw ht => ?_, h3.moved hW.alike, h5.moved hW.alike, fun q hq => ?_⟩
  · exact va_tabs (u := s.setVm U.vm) ht rfl (Cond.before_shiftedFace (State.Shifted.of_warmed hW) w (etA_face w hw) (h1 w hw ht))
  · obtain ⟨a, ha⟩ := h6 q hq
    exact ⟨a, ha.warm hW⟩
theorem et_Z.same {A : Nat → Prop} {u U : State} {H : Heap} (hv : u.vm = U.vm) (h : et_Z A u H) : et_Z A U H := by
  obtain ⟨h1, h3, h5, h6⟩ := h
  have hal : u.vm.Alike U.vm := by rw [hv]; exact Vm.Alike.refl U.vm
  exact ⟨fun w hw ht => va_tabs ht hv (h1 w hw ht), h3.moved hal, h5.moved hal, fun q hq => by obtain ⟨a, ha⟩ := h6 q hq; exact ⟨a, ha.same hv.symm⟩⟩
theorem et_Z.kept {A : Nat → Prop} {U : State} {H H1 : Heap} (h : et_Z A U H) (hq : ∀ a : Nat, a < H.size → ¬ A a → H1[a]? = H[a]?) : et_Z A U H1 := by
  obtain ⟨h1, h3, h5, h6⟩ := h
  exact ⟨h1, h3.kept hq, h5.kept hq, h6⟩
theorem et_Z.narrow {A B : Nat → Prop} {U : State} {H : Heap} (h : et_Z A U H) (hAB : ∀ q, B q → A q) : et_Z B U H := by
  obtain ⟨h1, h3, h5, h6⟩ := h
  exact ⟨h1, h3.narrow hAB, h5.narrow hAB, h6⟩
theorem etA_split : ∀ w ∈ etA, w.onTables = true ∨ w = .isRef (.static Bundle.tN "UNASSIGNED_STACK" Bundle.steD) ∨ w = .isRef (.static Bundle.tN "SUPPRESSED_SENTINEL" Bundle.listD) ∨ w = .laysStatic Bundle.tN "UNASSIGNED_STACK" Bundle.steD ∨ w = .laysStatic Bundle.tN "SUPPRESSED_SENTINEL" Bundle.listD := by
  intro w hw
  have key : etA.all (fun w => w.onTables || (decide (w = .isRef (.static Bundle.tN "UNASSIGNED_STACK" Bundle.steD)) || (decide (w = .isRef (.static Bundle.tN "SUPPRESSED_SENTINEL" Bundle.listD)) || (decide (w = .laysStatic Bundle.tN "UNASSIGNED_STACK" Bundle.steD) || decide (w = .laysStatic Bundle.tN "SUPPRESSED_SENTINEL" Bundle.listD))))) = true := by decide +kernel
  have := List.all_eq_true.mp key w hw
  simpa using this
theorem et_Z.use {A : Nat → Prop} {s : State} {args : Array Value} (h : et_Z A s s.heap) : ∀ w ∈ etA, w.before args s = true := by
  obtain ⟨h1, h3, h5, -⟩ := h
  intro w hw
  rcases etA_split w hw with ht | rfl | rfl | rfl | rfl
  · exact va_tabs ht rfl (h1 w hw ht)
  · exact h3.ref
  · exact h5.ref
  · exact h3.lays
  · exact h5.lays
/-- the end of a method that threw an object of the class cls -/
def tQ (D : va_G) (cl : List vw_C) (cf : ew_C) (X : Nat → Nat → Nat) (L : List Nat) (tg : Nat → Nat × Nat) (A : ew_R) (sz : Nat) (cls : String) (mc ms : Nat) : Array Value → State → Outcome → State → Prop := fun _ st o t => ∃ (x : Addr) (ce : Cell), o = .threw x ∧ t.heap[x]? = some ce ∧ ce.vm = .none ∧ st.vm.findClass cls = some ce.cls ∧ ew_V D cl cf (ew_A L sz) X L tg A [] t.heap ∧ va_F (ew_A L sz) st t ∧ st.WarmedH t.vm ∧ ∃ Lc, st.sameButNew ({ t with vm := st.vm } : State) Lc mc ms ∧ ∀ q ∈ Lc, ew_A L sz q.base
def MetT (l : Launch) (y : MethodName) (ws : List Cond) (rm : Room) (Pc : Array Value → State → Prop) (Qt : Array Value → State → Outcome → State → Prop) : Prop := MetFree l y (headSpec ws rm) Pc (fun _ _ _ _ _ => True) Qt
def tm_Pc (D : va_G) (cl : List vw_C) (tys : List (ClassId × FieldType)) (cf : ew_C) (t0 : Nat × Nat) (X : Nat → Nat → Nat) (L : List Nat) (tg : Nat → Nat × Nat) (A : ew_R) (sz : Nat) (av : List Value) : Array Value → State → Prop := va_Pc av (fun U => U.heap.size = sz ∧ ew_V D cl cf (fun _ => True) X L tg A [] U.heap ∧ va_K D cl tys U ∧ EN U ∧ em_Z t0 (ew_A L sz) U U.heap ∧ et_Z (ew_A L sz) U U.heap)
def tW (below : List Frame) (Qt : Array Value → State → Outcome → State → Prop) (a : Array Value) (s : State) : State → Prop := fun t => ∃ o, t.status = .running ∧ Ended t below o ∧ Qt a s o t
section TMM
variable {l : Launch} {D : va_G} {cl : List vw_C} {cf : ew_C} {X : Nat → Nat → Nat} {L : List Nat} {tg : Nat → Nat × Nat} {A : ew_R} {tys : List (ClassId × FieldType)} {t0 : Nat × Nat}
theorem tm_met {y : MethodName} {ws ws' : List Cond} {rm : Room} {Qt : Array Value → State → Outcome → State → Prop} {sz maxL : Nat} {cc : ByteArray} {ret : Option FieldType} {av : List Value} (hy : plainName y.cls = true) (hw : ws = Cond.code y cc maxL ret :: ws') (hlen : (lg_sl av).length ≤ maxL)
    (body : ∀ (p : Program) (e : Env) (s : State) (m : MethodId) (below : List Frame) (meth : Method) (c : Code) (ls : Array Slot), p.tables.exec = Jvm.exec → c.code = cc → meth.sig.returnType = ret → (∀ w ∈ ws', w.before av.toArray s = true) → s.vm.findClass y.cls = some m.cls → meth.locks = false → c.maxLocals = maxL → c.exceptionTable.isEmpty = true →
      ew_V D cl cf (ew_A L s.heap.size) X L tg A [] s.heap → va_K D cl tys s → EN s → et_Z (ew_A L s.heap.size) s s.heap → va_S (ew_A L s.heap.size) s.heap s.heap [] → (∀ q, s.heap.size ≤ q → ew_A L s.heap.size q) → lv_has ls maxL (lv_args 0 av) → s.heap.size = sz →
      W p l e rm s m av.toArray below meth c s.heap [] 0 0 (tW below Qt av.toArray s) (F0 m 0 ls [])) : MetT l y ws rm (tm_Pc D cl tys cf t0 X L tg A sz av) Qt := by
  refine MetFree.of_bodyS (code := cc) (maxLocals := maxL) (ret := ret) hy ?_ ?_
  · intro args s m h hn
    obtain ⟨meth, c, h1, h2, h3, h4, h5, h6, -, -⟩ := Cond.code_spec hn (atoms_spec (ws := ws) h _ (by rw [hw]; exact List.mem_cons_self))
    exact ⟨meth, c, h1, h2, h3, h4, h5, h6⟩
  · intro p e s m args below meth c s₁ B hml hP _
    obtain ⟨rfl, hsz, hV, hK, hN, hZ, hT⟩ := hP
    have hh0 : s₁.heap = s.heap := by rw [B.state]; rfl
    have hl := lv_entry av (n := maxL) hlen
    have key := body p e s m below meth c ((lg_sl av ++ List.replicate (maxL - (lg_sl av).length) Slot.unset).toArray) B.exec B.bytes B.returns (fun w hw2 => atoms_spec (ws := ws) B.pre w (by rw [hw]; exact List.mem_cons_of_mem _ hw2)) (findClass_of_methodNamed B.named) B.notSynchronized hml (B.noHandlers (atoms_spec (ws := ws) B.pre _ (by rw [hw]; exact List.mem_cons_self))) (hV.regA _) hK hN (by rw [hsz]; exact hT) va_S.rf (fun q h => Or.inr h) hl hsz
    rw [← lg_entry_eq] at key
    obtain ⟨t, a1, o, b1, b2, b3⟩ := key s₁ hh0 (Stand.of_body B)
    exact ⟨t, o, a1, b1, b2, b3⟩
variable {p : Program} {e : Env} {R : Room} {s : State} {m : MethodId} {args : Array Value} {below : List Frame} {meth : Method} {c : Code} {H : Heap} {locs : List Loc} {cells slots : Nat} {cc : ByteArray} {pc : Nat} {ls : Array Slot}
theorem th_row (hx : p.tables.exec = Jvm.exec) (hb : c.code = cc) (hfl : l.flags = pinnedFlags ++ [noTraceFlag]) {cls tx : String} {kc ks ic mc ms nL : Nat} (hown : s.vm.findClass "LoanLetters" = some m.cls) (hlocks : meth.locks = false) (hml : c.maxLocals = nL) (hls : ls.size = nL) (hex : c.exceptionTable.isEmpty = true)
    (hV : ew_V D cl cf (ew_A L s.heap.size) X L tg A [] H) (hT : et_Z (ew_A L s.heap.size) s s.heap) (hVs : ew_V D cl cf (ew_A L s.heap.size) X L tg A [] s.heap) (hS : va_S (ew_A L s.heap.size) s.heap H locs)
    (hcl : (Cond.classLink "LoanLetters" kc cls).before args s = true) (hin : (Cond.instantiable cls 6).before args s = true) (hini : (Cond.initialized cls).before args s = true) (hfit : Bundle.fit cls = true) (hat : ∀ w ∈ Bundle.ownAtoms "LoanLetters" ic cls tmN, w ∈ etA) (hst : (ks, tx) ∈ etS)
    (d0 : decode cc pc = .ok (.new kc, 3)) (d3 : decode cc (pc + 3) = .ok (.dup, 1)) (d4 : decode cc (pc + 4) = .ok (.ldc ks, 2)) (d6 : decode cc (pc + 6) = .ok (.invokespecial ic, 3)) (d9 : decode cc (pc + 9) = .ok (.athrow, 1)) (hcells : cells + 1 ≤ R.cells) (hslots : slots + 6 ≤ R.slots) (hmc : cells + 1 ≤ mc) (hms : slots + 6 ≤ ms) (hRf : 5 < R.frames) (hRl : 100 ≤ R.locals) :
    W p l e R s m args below meth c H locs cells slots (tW below (tQ D cl cf X L tg A s.heap.size cls mc ms) args s) (F0 m pc ls []) := by
  refine W.newc hx hb hown hcl hin hini rfl d0 hcells hslots (fun cC kC h1 h2 h3 h4 => ?_)
  refine lv_dup hx hb d3 rfl ?_
  obtain ⟨q, hq⟩ := hT.2.2.2 _ hst
  refine va_ldcS hx hb hown hq d4 ?_
  intro T0 hT0 St
  have htr := Launch.traces_off hfl St.admits
  have hsz : s.heap.size ≤ H.size := hS.1
  have hfresh : T0.heap[H.size]? = some (freshCell cC kC) := by rw [hT0]; simp [freshCell]
  have hlo : ∀ x ∈ locs, ∀ cell, s.heap[x.base]? = some cell → cell.vm.isStatics = false := fun x hx9 cell hcell => by
    rcases hS.2.2 x hx9 with h | h
    · obtain ⟨k, hk⟩ := ew_mem (cf := cf) (X := X) (tg := tg) (A := A) (ex := []) h
      have hat9 := hVs.1 k _ hk
      unfold va_at at hat9
      generalize ew_f cf X A tg x.base = E9 at hat9
      cases E9 with
      | inl a9 =>
        have h9 : s.heap[x.base]? = some (vp_cell a9.1 a9.2) := hat9
        rw [h9] at hcell
        cases hcell
        unfold vp_cell
        repeat' split
        all_goals rfl
      | inr o9 =>
        obtain ⟨r9, -, c9, g1, g2, g3, -⟩ := hat9
        rw [g1] at hcell
        cases hcell
        rw [g3]; rfl
    · exact absurd (Array.getElem?_eq_some_iff.mp hcell).1 (Nat.not_lt.mpr h)
  have hou : ∀ x ∈ c.exceptionTable.toList, covers x (pc + 6 + 3) = false := fun x hx9 => by
    rw [Array.isEmpty_iff.mp hex] at hx9
    exact absurd hx9 (by simp)
  obtain ⟨U, ce, st, hrun, hend, hwm, hsame, hheap, hc1, hc2⟩ := th_ctor St hx htr (own := "LoanLetters") (cls := cls) (names := tmN) (ic := ic) hown hfit (by decide +kernel) (fun w hw => hT.use w (hat w hw)) hlo h1 h2 hfresh hsz (msg := .ref q) rfl (g := F0 m (pc + 6) ls [.ref q, .ref H.size, .ref H.size]) rfl (by rw [hml]; exact hls) rfl rfl (rest := []) rfl (by rw [hb]; exact d6) (by rw [hb]; exact d9) hou (by show 2 + 3 < R.frames; omega) (by show 2 * 0 + 1 + (13 * (2 + 1) + 42) ≤ R.locals; omega) hlocks
  have hlt : H.size < T0.heap.size := (Array.getElem?_eq_some_iff.mp hfresh).1
  have hold : ∀ b, b < H.size → U.heap[b]? = H[b]? := fun b hb9 => by
    rw [hheap, Array.getElem?_setIfInBounds_ne (by omega), hT0, Array.getElem?_push_lt hb9]
    exact (Array.getElem?_eq_getElem hb9).symm
  refine ⟨U, st, .threw H.size, hrun, hend, H.size, ce, rfl, ?_, hc2, by rw [hc1]; exact h1, hV.kept (fun a ha => hold a (hV.lt ha)), ⟨?_, fun b hb9 hn => ?_⟩, hwm, locs, hsame.mono hmc hms, hS.2.2⟩
  · rw [hheap, Array.getElem?_setIfInBounds_self_of_lt hlt]
  · rw [hheap, Array.size_setIfInBounds]; omega
  · rw [hold b (by omega)]; exact hS.2.1 b hb9 hn
end TMM
