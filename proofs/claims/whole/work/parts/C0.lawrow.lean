/-! The law's rows: calls of the class and of the reference beside each other -/
section LWR
variable {p : Program} {l : Launch} {e : Env} {R : Room} {s : State} {m : MethodId} {args : Array Value} {below : List Frame} {meth : Method} {c : Code} {H : Heap} {locs : List Loc} {cells slots : Nat} {Q : State → Prop}
variable {pc : Nat} {ls : Array Slot} {rest st0 : List Value} {a : Array Value} {A0 : Nat → Prop} {H0 : Heap} {mc ms : Nat} {D : va_G} {cl : List vw_C} {tys : List (ClassId × FieldType)} {cf : ew_C} {t0 : Nat × Nat} {X : Nat → Nat → Nat} {L : List Nat} {tg : Nat → Nat × Nat} {A : ew_R}
theorem lw_calli {post : Int32 → ec_S → Prop} (hr : va_Run p l e R s m args below meth c H locs cells slots mc ms (F0 m pc ls st0) rest (em_Qi D cl cf L H.size post a) (ew_A L H.size)) (hV : ew_V D cl cf A0 X L tg A [] H) (hS : va_S A0 H0 H locs) (hA : ∀ q, H0.size ≤ q → A0 q)
    (kk : ∀ (r : Int32) (X' : Nat → Nat → Nat) (L' : List Nat) (tg' : Nat → Nat × Nat) (u : ew_R) (H1 : Heap) (locs1 : List Loc), post r (X', L', tg', u) → ew_V D cl cf A0 X' L' tg' u [] H1 → H.size ≤ H1.size → (∀ q : Nat, q < H.size → q ∉ L → H1[q]? = H[q]?) → (∀ b ∈ L', b ∈ L ∨ H.size ≤ b) → va_S A0 H0 H1 locs1 → W p l e R s m args below meth c H1 locs1 (cells + mc) (slots + ms) Q (F0 m (pc + 3) ls (.int r :: rest))) : W p l e R s m args below meth c H locs cells slots Q (F0 m pc ls st0) :=
  va_calli hr hS (ew_hA hV) (ew_hf hV hS hA) (fun r u t H1 locs1 ht _ hp hB hz hk hS1 => kk r u.1 u.2.1 u.2.2.1 u.2.2.2 H1 locs1 hp (by rw [← ht]; exact ew_V.reg hB (fun q h => ew_hf hV hS hA q (ew_V.own hB h))) hz (fun q h1 h2 => hk q h1 (fun h => h.elim h2 (fun h => by omega))) (fun b hb => ew_V.own hB hb) hS1)
theorem lr_calli {post : Int32 → ew_R → Prop} (hr : va_Run p l e R s m args below meth c H locs cells slots mc ms (F0 m pc ls st0) rest (er_Qi D cl cf X L tg H.size post a) (ew_A L H.size)) (hV : ew_V D cl cf A0 X L tg A [] H) (hS : va_S A0 H0 H locs) (hA : ∀ q, H0.size ≤ q → A0 q)
    (kk : ∀ (r : Int32) (u : ew_R) (H1 : Heap) (locs1 : List Loc), post r u → ew_V D cl cf A0 X L tg u [] H1 → H.size ≤ H1.size → (∀ q : Nat, q < H.size → q ∉ L → H1[q]? = H[q]?) → va_S A0 H0 H1 locs1 → W p l e R s m args below meth c H1 locs1 (cells + mc) (slots + ms) Q (F0 m (pc + 3) ls (.int r :: rest))) : W p l e R s m args below meth c H locs cells slots Q (F0 m pc ls st0) :=
  va_calli hr hS (ew_hA hV) (ew_hf hV hS hA) (fun r u t H1 locs1 ht _ hp hB hz hk hS1 => kk r u H1 locs1 hp (by rw [← ht]; exact ew_V.reg hB (fun _ h => hV.own h)) hz (fun q h1 h2 => hk q h1 (fun h => h.elim h2 (fun h => by omega))) hS1)
theorem et_z (hV : ew_V D cl cf A0 X L tg A [] H) (hZ : et_Z A0 s s.heap) (hS : va_S A0 s.heap H locs) (hA : ∀ q, s.heap.size ≤ q → A0 q) : et_Z (ew_A L H.size) s H := (hZ.kept hS.2.1).narrow (ew_hf hV hS hA)
theorem tm_blind {sz : Nat} {av : List Value} : FrameBlind (tm_Pc D cl tys cf t0 X L tg A sz av) := fun a U g mk q => by
  obtain ⟨q0, q1, qV, qK, qN, qZ, qT⟩ := q
  exact ⟨q0, q1, qV, va_K.moved (u := U) (U := U.calling g mk a) (Vm.Alike.refl U.vm) qK, EN.same (u := U) (U := U.calling g mk a) rfl qN, em_Z.moved (u := U) (U := U.calling g mk a) (Vm.Alike.refl U.vm) qZ, et_Z.same (u := U) (U := U.calling g mk a) rfl qT⟩
theorem tm_preV {As : List Value} {C : String} {T : u_T} {N ci kd id b : Nat} {fs : List Value} (hK : va_K D cl tys s) (hN : EN s) (hV : ew_V D cl cf A0 X L tg A [] H) (hZ : em_Z t0 A0 s s.heap) (hT : et_Z A0 s s.heap) (hS : va_S A0 s.heap H locs) (hA : ∀ q, s.heap.size ≤ q → A0 q) (hi : ew_in X L tg kd id b) (he : cf X kd id (A kd id) = .inr (ci, fs)) (hc : cl[ci]? = some (C, T, N)) : PreV s H C b (tm_Pc D cl tys cf t0 X L tg A H.size (.ref b :: As)) As := by
  obtain ⟨q0, hq⟩ := ew_at (cf := cf) (A := A) (ex := []) hi
  rw [he] at hq
  exact ⟨tm_blind, va_recv hK hV.1 hc hq, fun U hU hW => ⟨rfl, by rw [hU], by rw [hU]; exact hV.reg0, va_K.moved hW.alike hK, EN.warm hW hN, by rw [hU]; exact (em_z hV hZ hS hA).moved hW.alike, by rw [hU]; exact (et_z hV hT hS hA).warm hW⟩⟩
variable {y : MethodName} {bytes cc : ByteArray} {maxL nL n index : Nat} {ret : Option FieldType} {ws Ts : List Cond} {rm : Room} {own C cls oth : String} {b : Addr} {As : List Value}
/-- a call of the class that throws what the first entry of the table names -/
theorem lw_throw1 (S : CallFix p m c cc nL s args Ts own) (hM : MetT l y ws rm (tm_Pc D cl tys cf t0 X L tg A H.size (.ref b :: As)) (tQ D cl cf X L tg A H.size cls mc ms)) (cw : CallW R s args own C index y bytes maxL ret ws rm mc ms n) (hp : PreV s H C b (tm_Pc D cl tys cf t0 X L tg A H.size (.ref b :: As)) As)
    (hn : As.length = n) (hsize : ls.size = nL) (hstack : st0 = As.reverse ++ .ref b :: rest) (hW : 2 * (F0 m pc ls st0).monitorRoom + (rest.map fun v => v.category).sum ≤ 8) (hdg : decode cc pc = .ok (.invokevirtual index, 3)) (hf : cells + mc ≤ R.cells ∧ slots + ms ≤ R.slots)
    {x : ExceptionTableEntry} {tl : List ExceptionTableEntry} (htb : c.exceptionTable.toList = x :: tl) (hx : covers x pc = true) (h0 : x.catchType ≠ 0) (hlink : (Cond.classLink own x.catchType cls).before args s = true) (hself : (Cond.castable cls cls).before args s = true)
    (hV : ew_V D cl cf A0 X L tg A [] H) (hS : va_S A0 H0 H locs) (hA : ∀ q, H0.size ≤ q → A0 q)
    (kk : ∀ (x9 : Addr) (H1 : Heap) (locs1 : List Loc), ew_V D cl cf A0 X L tg A [] H1 → H.size ≤ H1.size → (∀ q : Nat, q < H.size → q ∉ L → H1[q]? = H[q]?) → va_S A0 H0 H1 locs1 → W p l e R s m args below meth c H1 locs1 (cells + mc) (slots + ms) Q (F0 m x.handlerPc ls [.ref x9])) : W p l e R s m args below meth c H locs cells slots Q (F0 m pc ls st0) := by
  intro T hT XX
  obtain ⟨x9, st₀, t, T', L', h0', hW0, X', hL, e1, hq, st⟩ := lw_runT (free := ew_A L H.size) (g := F0 m pc ls st0) S hM cw hp (fun a st o t hq => by
    obtain ⟨x, ce, h1, -, -, -, -, -, h2, Lc, h3, h4⟩ := hq
    exact ⟨x, Lc, h1, h2, h3, h4⟩) rfl hn hsize hstack hW hdg hf T hT XX
  obtain ⟨x8, ce, ho, hce, hvm, hcl, hV1, hF, -, -⟩ := hq
  cases ho
  have hcell : T'.heap[x9]? = some ce := by rw [e1]; exact hce
  have hcls : s.vm.findClass cls = some ce.cls := by rw [← hW0.alike.findClass]; exact hcl
  obtain ⟨vm', X'', st2⟩ := hc_first X' x9 (g := F0 m pc ls rest) rfl S.2.2.2.1 htb hx h0 hlink hself hcell (by rw [hvm]; rfl) hcls
  obtain ⟨hz, hk⟩ := hF
  rw [h0'] at hz hk
  obtain ⟨t2, a1, b1⟩ := kk x9 T'.heap (locs ++ L') (by rw [e1]; exact hV1.reg (fun q h => hV.own h)) (by rw [e1]; exact hz) (fun q h1 h2 => by rw [e1]; exact hk q h1 (fun h => h.elim h2 (fun h => by omega)))
    ⟨Nat.le_trans hS.1 (by rw [e1]; exact hz), fun q h1 h2 => by
      have h3 := Nat.lt_of_lt_of_le h1 hS.1
      rw [e1, hk q h3 (fun z => h2 (ew_hA hV q h3 z))]; exact hS.2.1 q h1 h2, fun q hq => by
      rcases List.mem_append.mp hq with h | h
      · exact hS.2.2 q h
      · exact ew_hf hV hS hA _ (hL q h)⟩ (T'.setVm vm') rfl X''
  exact ⟨t2, st t2 (st2 t2 a1), b1⟩
/-- .. what the second names -/
theorem lw_throw2 (S : CallFix p m c cc nL s args Ts own) (hM : MetT l y ws rm (tm_Pc D cl tys cf t0 X L tg A H.size (.ref b :: As)) (tQ D cl cf X L tg A H.size cls mc ms)) (cw : CallW R s args own C index y bytes maxL ret ws rm mc ms n) (hp : PreV s H C b (tm_Pc D cl tys cf t0 X L tg A H.size (.ref b :: As)) As)
    (hn : As.length = n) (hsize : ls.size = nL) (hstack : st0 = As.reverse ++ .ref b :: rest) (hW : 2 * (F0 m pc ls st0).monitorRoom + (rest.map fun v => v.category).sum ≤ 8) (hdg : decode cc pc = .ok (.invokevirtual index, 3)) (hf : cells + mc ≤ R.cells ∧ slots + ms ≤ R.slots)
    {x z : ExceptionTableEntry} {tl : List ExceptionTableEntry} (htb : c.exceptionTable.toList = x :: z :: tl) (hx : covers x pc = true) (h0 : x.catchType ≠ 0) (hlink : (Cond.classLink own x.catchType oth).before args s = true) (hno : (Cond.not (.castable cls oth)).before args s = true)
    (hz2 : covers z pc = true) (hz0 : z.catchType ≠ 0) (hzlink : (Cond.classLink own z.catchType cls).before args s = true) (hself : (Cond.castable cls cls).before args s = true)
    (hV : ew_V D cl cf A0 X L tg A [] H) (hS : va_S A0 H0 H locs) (hA : ∀ q, H0.size ≤ q → A0 q)
    (kk : ∀ (x9 : Addr) (H1 : Heap) (locs1 : List Loc), ew_V D cl cf A0 X L tg A [] H1 → H.size ≤ H1.size → (∀ q : Nat, q < H.size → q ∉ L → H1[q]? = H[q]?) → va_S A0 H0 H1 locs1 → W p l e R s m args below meth c H1 locs1 (cells + mc) (slots + ms) Q (F0 m z.handlerPc ls [.ref x9])) : W p l e R s m args below meth c H locs cells slots Q (F0 m pc ls st0) := by
  intro T hT XX
  obtain ⟨x9, st₀, t, T', L', h0', hW0, X', hL, e1, hq, st⟩ := lw_runT (free := ew_A L H.size) (g := F0 m pc ls st0) S hM cw hp (fun a st o t hq => by
    obtain ⟨x, ce, h1, -, -, -, -, -, h2, Lc, h3, h4⟩ := hq
    exact ⟨x, Lc, h1, h2, h3, h4⟩) rfl hn hsize hstack hW hdg hf T hT XX
  obtain ⟨x8, ce, ho, hce, hvm, hcl, hV1, hF, -, -⟩ := hq
  cases ho
  have hcell : T'.heap[x9]? = some ce := by rw [e1]; exact hce
  have hcls : s.vm.findClass cls = some ce.cls := by rw [← hW0.alike.findClass]; exact hcl
  obtain ⟨vm', X'', st2⟩ := hc_second X' x9 (g := F0 m pc ls rest) rfl S.2.2.2.1 htb hx h0 hlink hno hz2 hz0 hzlink hself hcell (by rw [hvm]; rfl) hcls
  obtain ⟨hz, hk⟩ := hF
  rw [h0'] at hz hk
  obtain ⟨t2, a1, b1⟩ := kk x9 T'.heap (locs ++ L') (by rw [e1]; exact hV1.reg (fun q h => hV.own h)) (by rw [e1]; exact hz) (fun q h1 h2 => by rw [e1]; exact hk q h1 (fun h => h.elim h2 (fun h => by omega)))
    ⟨Nat.le_trans hS.1 (by rw [e1]; exact hz), fun q h1 h2 => by
      have h3 := Nat.lt_of_lt_of_le h1 hS.1
      rw [e1, hk q h3 (fun z => h2 (ew_hA hV q h3 z))]; exact hS.2.1 q h1 h2, fun q hq => by
      rcases List.mem_append.mp hq with h | h
      · exact hS.2.2 q h
      · exact ew_hf hV hS hA _ (hL q h)⟩ (T'.setVm vm') rfl X''
  exact ⟨t2, st t2 (st2 t2 a1), b1⟩
/-- a static call of a method with a table of handlers -/
abbrev lw_CW (R : Room) (s : State) (args : Array Value) (own : String) (index : Nat) (y : MethodName) (bytes : ByteArray) (maxL : Nat) (ret : Option FieldType) (hh : List (Nat × Nat × Nat × Nat)) (ws : List Cond) (rm : Room) (mc ms n : Nat) : Prop :=
  (rm.cells = mc ∧ rm.slots = ms ∧ rm.frames + 1 ≤ R.frames ∧ 8 + (maxL + 11) + rm.locals ≤ R.locals ∧ (∀ w ∈ ws, ∀ (a' : Array Value) (U : State), s.WarmedH U.vm → w.before a' U = true) ∧ Cond.codeWith y bytes maxL ret hh ∈ ws) ∧
  (Cond.codeWith y bytes maxL ret hh).before args s = true ∧ (Cond.initialized y.cls).before args s = true ∧ (y.cls ≠ "java/lang/invoke/MethodHandle" ∧ y.cls ≠ "java/lang/invoke/VarHandle") ∧ (∀ sig, parseMethodDescriptor y.desc = some sig → n = sig.parameters.length) ∧ (Cond.methodLink own index y).before args s = true ∧ (Cond.static y).before args s = true
variable {hh : List (Nat × Nat × Nat × Nat)} {Pc : Array Value → State → Prop} {Qc : Array Value → State → Outcome → State → Prop} {free : Addr → Prop} {g : JFrame}
theorem lw_runSW (S : CallFix p m c cc nL s args Ts own) (hM : Met l y ws rm Pc Qc mc ms free) (cw : lw_CW R s args own index y bytes maxL ret hh ws rm mc ms n) (hp : PreS s H Pc As)
    (hg : g.method = m) (hn : As.length = n) (hsize : g.locals.size = nL) (hstack : g.stack = As.reverse ++ rest) (hW : 2 * g.monitorRoom + (rest.map fun v => v.category).sum ≤ 8) (hdg : decode cc g.pc = .ok (.invokestatic index, 3)) (hf : cells + mc ≤ R.cells ∧ slots + ms ≤ R.slots) :
    va_Run p l e R s m args below meth c H locs cells slots mc ms g rest (Qc As.toArray) (free) := by
  obtain ⟨⟨hrc, hrs, hfr, hlo, hws, hcw⟩, hcode, hini, hy, hlen, hl, hstt⟩ := cw
  have hK : Back l R p e below s args y 3 8 (PreOf R mc ms Pc) (PostOf Qc mc ms free) := va_backW (hh := hh) (bytes := bytes) (maxL := maxL) (ret := ret) hM hp.1 hrc hrs hfr hlo hws hcw (fun a' U hW => word_at hW (Or.inl (by first | rfl | simp [Cond.onTables, Cond.keeps, Cond.steady])) hini)
  obtain ⟨hx, hb, hml, ho, -⟩ := S
  intro T hT X
  obtain ⟨mk, methM, cM, hnamed, hmethM, -, -, -, -, -, -, hsigM⟩ := Cond.codeWith_spec hcode
  have hstatic : methM.isStatic = true := Cond.static_spec hnamed hmethM hstt
  obtain ⟨kP, hkP, -⟩ := className_of_methodNamed hnamed
  have hinitP : kP.init = .initialized := Cond.initialized_spec (findClass_of_methodNamed hnamed) hkP hini
  obtain ⟨vm₁, X₁, hstep₁⟩ := X.invokestatic hx ho hl hnamed hmethM hstatic hkP hinitP hy (g := g) hg (argsL := As) (rest := rest) (hn.trans (hlen _ hsigM)) hstack (by rw [hb]; exact hdg)
  obtain ⟨v, ⟨U', l2, c2, s2⟩, X', ⟨g', mk', t, L, e1, e2, hq, h1, hL, h2, h3⟩, hsteps⟩ := hK m meth c ⟨T.setVm vm₁, locs, cells, slots⟩ { g with stack := rest } (.invokestatic index) mk As.toArray X₁ hg (hsize.trans hml.symm) (by rw [hb]; exact hdg) hW (X₁.named hnamed) ⟨hf.1, hf.2, hp.2 (T.setVm vm₁) hT X₁.warmed⟩
  dsimp only [Pt.U, Pt.locs, Pt.cells, Pt.slots] at X' e1 e2 h1 h2 h3 hsteps
  subst h1; subst h2; subst h3
  exact ⟨v, (T.setVm vm₁).calling g' mk' As.toArray, t, U', L, hT, X', hL, e1, e2, hq, fun target h => hstep₁ _ fun acts => by rw [doInvoke_state]; exact hsteps.trans h⟩
end LWR
