/-! Lists of cells: pr are the caller's, then come the method's own. -/
def xl_Pc (D : va_G) (T : Nat → ClassId) (t0 : Nat × Nat) (ws : va_W) (sz : Nat) (av : List Value) : Array Value → State → Prop := va_Pc av (fun U => U.heap.size = sz ∧ (va_P D vwCl ws U.heap ∧ va_D (fun _ => True) ws) ∧ va_K D vwCl (tysA T) U ∧ EN U ∧ em_Z t0 (va_A ws sz) U U.heap)
def xl_Qv (D : va_G) (ws : va_W) (sz : Nat) (post : va_W → Prop) : Array Value → State → Outcome → State → Prop := va_Qv (S := va_W) post (fun u t => va_P D vwCl u t.heap ∧ va_D (va_A ws sz) u) (va_A ws sz)
theorem xl_get {pr own : va_W} {j : Nat} {y : Nat × va_E} (h : own[j]? = some y) : (pr ++ own)[pr.length + j]? = some y := by
  rw [List.getElem?_append_right (by omega), show pr.length + j - pr.length = j by omega]; exact h
theorem xl_set (pr own : va_W) (j : Nat) (x : Nat × va_E) : (pr ++ own).set (pr.length + j) x = pr ++ own.set j x := by
  rw [List.set_append_right _ _ (by omega), show pr.length + j - pr.length = j by omega]
section XL
variable {l : Launch} {D : va_G} {T : Nat → ClassId} {t0 : Nat × Nat} {ws : va_W}
theorem xl_met {y : MethodName} {wsC ws' : List Cond} {rm : Room} {Qc : Array Value → State → Outcome → State → Prop} {mc ms sz maxL : Nat} {free : Addr → Prop} {cc : ByteArray} {ret : Option FieldType} {av : List Value} (hy : plainName y.cls = true) (hw : wsC = Cond.code y cc maxL ret :: ws') (hlen : (lg_sl av).length ≤ maxL)
    (body : ∀ (p : Program) (e : Env) (s : State) (m : MethodId) (below : List Frame) (meth : Method) (c : Code) (ls : Array Slot), p.tables.exec = Jvm.exec → c.code = cc → meth.sig.returnType = ret → (∀ w ∈ ws', w.before av.toArray s = true) → s.vm.findClass y.cls = some m.cls → meth.locks = false → c.maxLocals = maxL → meth.name = y.name →
      va_P D vwCl ws s.heap → va_D (va_A ws s.heap.size) ws → va_K D vwCl (tysA T) s → EN s → em_Z t0 (va_A ws s.heap.size) s s.heap → va_S (va_A ws s.heap.size) s.heap s.heap [] → (∀ q, s.heap.size ≤ q → va_A ws s.heap.size q) → lv_has ls maxL (lv_args 0 av) → s.heap.size = sz →
      W p l e rm s m av.toArray below meth c s.heap [] 0 0 (MQ below Qc av.toArray s mc ms free) (F0 m 0 ls [])) : Met l y wsC rm (xl_Pc D T t0 ws sz av) Qc mc ms free := by
  refine Met.ofW (cc := cc) (maxL := maxL) (ret := ret) hy hw ?_
  intro p e s m args below meth c s₁ B hml hv
  obtain ⟨rfl, hsz, ⟨hP, hD⟩, hK, hN, hZ⟩ := hv
  have hl := lv_entry av (n := maxL) hlen
  rw [lg_entry_eq]
  generalize (lg_sl av ++ List.replicate (maxL - (lg_sl av).length) Slot.unset).toArray = ls at hl ⊢
  exact body p e s m below meth c ls B.exec B.bytes B.returns (fun w hw2 => atoms_spec (ws := wsC) B.pre w (by rw [hw]; exact List.mem_cons_of_mem _ hw2)) (findClass_of_methodNamed B.named) B.notSynchronized hml (name_of_methodNamed B.named B.method).1 hP hD.self hK hN (by rw [hsz]; exact hZ) va_S.rf (fun q h => Or.inr h) hl hsz
theorem xl_blind {sz : Nat} {av : List Value} : FrameBlind (xl_Pc D T t0 ws sz av) := fun a U g mk q => by
  obtain ⟨q0, q1, qV, qK, qN, qZ⟩ := q
  exact ⟨q0, q1, qV, va_K.moved (u := U) (U := U.calling g mk a) (Vm.Alike.refl U.vm) qK, EN.same (u := U) (U := U.calling g mk a) rfl qN, em_Z.moved (u := U) (U := U.calling g mk a) (Vm.Alike.refl U.vm) qZ⟩
variable {p : Program} {e : Env} {R : Room} {s : State} {m : MethodId} {args : Array Value} {below : List Frame} {meth : Method} {c : Code} {H : Heap} {locs : List Loc} {cells slots : Nat} {cc : ByteArray} {pc : Nat} {ls : Array Slot} {A0 : Nat → Prop} {H0 : Heap} {mc ms : Nat} {rest st0 : List Value} {a : Array Value} {Q : State → Prop}
theorem xl_f (hD : va_D A0 ws) (hS : va_S A0 H0 H locs) (hA : ∀ q, H0.size ≤ q → A0 q) : ∀ q, va_A ws H.size q → A0 q := by
  rintro q (⟨k, x, h⟩ | h)
  · exact hD.2 k (q, x) h
  · exact hA q (Nat.le_trans hS.1 h)
theorem xl_preS {As : List Value} (hK : va_K D vwCl (tysA T) s) (hN : EN s) (hP : va_P D vwCl ws H) (hD : va_D A0 ws) (hZ : em_Z t0 A0 s s.heap) (hS : va_S A0 s.heap H locs) (hA : ∀ q, s.heap.size ≤ q → A0 q) : PreS s H (xl_Pc D T t0 ws H.size As) As :=
  ⟨xl_blind, fun U hU hW => ⟨rfl, by rw [hU], ⟨by rw [hU]; exact hP, hD.weaken (fun _ _ _ _ => trivial)⟩, va_K.moved hW.alike hK, EN.warm hW hN, by rw [hU]; exact ((hZ.kept hS.2.1).narrow (xl_f hD hS hA)).moved hW.alike⟩⟩
theorem xl_callv {post : va_W → Prop} (hr : va_Run p l e R s m args below meth c H locs cells slots mc ms (F0 m pc ls st0) rest (xl_Qv D ws H.size post a) (va_A ws H.size)) (hD : va_D A0 ws) (hS : va_S A0 H0 H locs) (hA : ∀ q, H0.size ≤ q → A0 q)
    (kk : ∀ (u : va_W) (H1 : Heap) (locs1 : List Loc), post u → va_P D vwCl u H1 → va_D A0 u → va_S A0 H0 H1 locs1 → W p l e R s m args below meth c H1 locs1 (cells + mc) (slots + ms) Q (F0 m (pc + 3) ls rest)) : W p l e R s m args below meth c H locs cells slots Q (F0 m pc ls st0) :=
  va_callv hr hS (fun q _ h => xl_f hD hS hA q h) (xl_f hD hS hA) (fun u t H1 locs1 ht _ hp hB _ _ hS1 => kk u H1 locs1 hp (by rw [← ht]; exact hB.1) (hB.2.weaken (fun _ q _ h => xl_f hD hS hA q.1 h)) hS1)
theorem xl_vret {ws' : va_W} {post : va_W → Prop} (hx : p.tables.exec = Jvm.exec) (hb : c.code = cc) (hr : meth.sig.returnType = none) (hlocks : meth.locks = false) (hP : va_P D vwCl ws' H) (hD : va_D (va_A ws s.heap.size) ws') (hS : va_S (va_A ws s.heap.size) s.heap H locs) (hdg : decode cc pc = .ok (.return_, 1)) (hp : post ws') :
    W p l e R s m args below meth c H locs cells slots (MQ below (xl_Qv D ws s.heap.size post) args s cells slots (va_A ws s.heap.size)) (F0 m pc ls []) :=
  W.vret hx hb hr (fun t ht _ => ⟨⟨ws', rfl, hp, by rw [ht]; exact hP, hD⟩, hS.F ht⟩) hS.2.2 hdg hlocks
/-- a new array of a class's references -/
theorem xl_newq {own C : String} {index : Nat} (hexec : p.tables.exec = Jvm.exec) (hb : c.code = cc) (hown : s.vm.findClass own = some m.cls) (hclink : (Cond.classLink own index C).before args s = true) (hover : va_AO C s) (hK : va_K D vwCl (tysA T) s) {cA : ClassId} (t1 : Nat) (ht : (tysA T)[t1]? = some (cA, .object C)) (hP : va_P D vwCl ws H) (hD : va_D A0 ws) (hS : va_S A0 H0 H locs) (hA : ∀ q, H0.size ≤ q → A0 q)
    {n : Int32} {N' : Nat} (hn : ¬ n < 0) (hN : n.toNatClampNeg = N') (hbytes : N' * 4 ≤ 536870912) (hcells : cells + 1 ≤ R.cells) (hslots : slots + N' ≤ R.slots) (hdg : decode cc pc = .ok (.anewarray index, 3))
    (kk : ∀ (q : Nat) (H1 : Heap), va_P D vwCl (ws ++ [(q, .inl (cA, N', .inr (.inr (.inr (.inr (fun _ => none))))))]) H1 → va_D A0 (ws ++ [(q, .inl (cA, N', .inr (.inr (.inr (.inr (fun _ => none))))))]) → va_S A0 H0 H1 locs → W p l e R s m args below meth c H1 locs (cells + 1) (slots + N') Q (F0 m (pc + 3) ls (.ref q :: rest))) : W p l e R s m args below meth c H locs cells slots Q (F0 m pc ls (.int n :: rest)) := by
  refine va_newq hexec hb hown hclink hover hK hP hD hS hA hn hN hbytes hcells hslots hdg (fun q cA' H1 hK' hP hD hS1 => ?_)
  have e1 : s.vm.findClass ("[" ++ (FieldType.object C).toString) = some cA' := va_nmO (hK'.2 (tysA T).length (cA', .object C) (by simp)).2 rfl
  have e2 : s.vm.findClass ("[" ++ (FieldType.object C).toString) = some cA := va_nmO (hK.2 t1 _ ht).2 rfl
  cases Option.some.inj (e1.symm.trans e2)
  exact kk q H1 hP hD hS1
end XL

set_option maxHeartbeats 4000000 in
set_option maxRecDepth 100000 in
theorem c_Ac_init (l : Launch) (D : va_G) (T : Nat → ClassId) (t0 : Nat × Nat) (pr : va_W) (sz th : Nat) : Met l yAc_init wsAc_init ({ frames := 1, cells := 0, slots := 0, locals := 12 }) (xl_Pc D T t0 (pr ++ [(th, .inr (8, [.int 0, .null, .int 0]))]) sz [.ref th]) (xl_Qv D (pr ++ [(th, .inr (8, [.int 0, .null, .int 0]))]) sz (fun u => u = pr ++ [(th, .inr (8, [.int 0, .null, .int 0]))])) 0 0 (va_A (pr ++ [(th, .inr (8, [.int 0, .null, .int 0]))]) sz) := by
  refine xl_met (by decide) rfl (Nat.le_of_ble_eq_true rfl) ?_
  intro p e s m below meth c ls hx hb hr hts hown hlocks hml hnm hP hD hK hN hZ hS hA hl hsz
  subst hsz
  have hl : lv_has ls 1 [(0, .ref th)] := hl
  refine lv_aload_n hx hb dAc_init_0 rfl (lv_at hl 0 rfl) ?_
  refine W.objInit hx hb hown (hts _ kw_224) (hts _ kw_32) (hts _ kw_33) rfl (by rw [hml]; exact hl.1) rfl dAc_init_1 (Nat.le_of_ble_eq_true rfl) (Nat.le_of_ble_eq_true rfl) ?_
  refine W.eq (g2 := F0 m 4 ls []) rfl ?_
  exact xl_vret hx hb hr hlocks hP hD hS dAc_init_4 rfl

set_option maxHeartbeats 4000000 in
set_option maxRecDepth 100000 in
theorem c_Ab_init (l : Launch) (D : va_G) (T : Nat → ClassId) (t0 : Nat × Nat) (pr : va_W) (sz th : Nat) : Met l yAb_init wsAb_init ({ frames := 2, cells := 0, slots := 0, locals := 32 }) (xl_Pc D T t0 (pr ++ [(th, .inr (8, [.int 0, .null, .int 0]))]) sz [.ref th]) (xl_Qv D (pr ++ [(th, .inr (8, [.int 0, .null, .int 0]))]) sz (fun u => u = pr ++ [(th, .inr (8, [.int 0, .null, .int 0]))])) 0 0 (va_A (pr ++ [(th, .inr (8, [.int 0, .null, .int 0]))]) sz) := by
  refine xl_met (by decide) rfl (Nat.le_of_ble_eq_true rfl) ?_
  intro p e s m below meth c ls hx hb hr hts hown hlocks hml hnm hP hD hK hN hZ hS hA hl hsz
  subst hsz
  have hl : lv_has ls 1 [(0, .ref th)] := hl
  refine lv_aload_n hx hb dAb_init_0 rfl (lv_at hl 0 rfl) ?_
  refine xl_callv (va_runI (As := []) (b := th) (rest := []) ⟨hx, hb, hml, hown, hts⟩ (c_Ac_init l D T t0 pr _ th ) ⟨callB_of 0 hts gAb_1.1 rfl rfl rfl (hts _ gAb_1.2.2.2) (hts _ gAb_1.2.1) (by decide +kernel) ⟨Nat.le_of_ble_eq_true rfl, Nat.le_of_ble_eq_true rfl⟩, rfl, hts _ gAb_1.2.2.1⟩ (xl_preS hK hN hP hD hZ hS hA) rfl rfl hl.1 rfl (lv_room (Nat.le_of_ble_eq_true rfl)) dAb_init_1 ⟨Nat.le_of_ble_eq_true rfl, Nat.le_of_ble_eq_true rfl⟩) hD hS hA (fun u H locs hp hP hD hS => ?_)
  obtain rfl := hp
  have hP : va_P D vwCl (pr ++ [(th, .inr (8, [.int 0, .null, .int 0]))]) H := hP
  have hD : va_D (va_A (pr ++ [(th, .inr (8, [.int 0, .null, .int 0]))]) s.heap.size) (pr ++ [(th, .inr (8, [.int 0, .null, .int 0]))]) := hD
  refine lv_aload_n hx hb dAb_init_4 rfl (lv_at hl 0 rfl) ?_
  refine lv_iconst (v := 0) hx hb dAb_init_5 (by decide) ?_
  refine va_put (D := D) (ci := 8) (v := .int 0) (ty := .int) (C := RAL) (T := TAL) (N := 3) hx hb hts ulAL tyAL gAL.1 gAL.2 hown hK hP hD hS (pr.length + 0) (xl_get rfl) rfl 0 (by decide) (hts _ kw_229) (fun _ h => h) rfl (by decide +kernel) rfl rfl (Nat.le_of_ble_eq_true rfl) dAb_init_6 (fun H locs hP hD hS => ?_)
  rw [xl_set] at hP hD
  have hP : va_P D vwCl (pr ++ [(th, .inr (8, [.int 0, .null, .int 0]))]) H := hP
  have hD : va_D (va_A (pr ++ [(th, .inr (8, [.int 0, .null, .int 0]))]) s.heap.size) (pr ++ [(th, .inr (8, [.int 0, .null, .int 0]))]) := hD
  exact xl_vret hx hb hr hlocks hP hD hS dAb_init_9 rfl

set_option maxHeartbeats 4000000 in
set_option maxRecDepth 100000 in
theorem c_AL_init (l : Launch) (D : va_G) (T : Nat → ClassId) (t0 : Nat × Nat) (pr : va_W) (sz th : Nat) : Met l yAL_init wsAL_init ({ frames := 3, cells := 0, slots := 0, locals := 52 }) (xl_Pc D T t0 (pr ++ [(th, .inr (8, [.int 0, .null, .int 0]))]) sz [.ref th]) (xl_Qv D (pr ++ [(th, .inr (8, [.int 0, .null, .int 0]))]) sz (fun u => u = pr ++ [(th, .inr (8, [.int 0, .ref t0.1, .int 0]))])) 0 0 (va_A (pr ++ [(th, .inr (8, [.int 0, .null, .int 0]))]) sz) := by
  refine xl_met (by decide) rfl (Nat.le_of_ble_eq_true rfl) ?_
  intro p e s m below meth c ls hx hb hr hts hown hlocks hml hnm hP hD hK hN hZ hS hA hl hsz
  subst hsz
  have hl : lv_has ls 1 [(0, .ref th)] := hl
  refine lv_aload_n hx hb dAL_init_0 rfl (lv_at hl 0 rfl) ?_
  refine xl_callv (va_runI (As := []) (b := th) (rest := []) ⟨hx, hb, hml, hown, hts⟩ (c_Ab_init l D T t0 pr _ th ) ⟨callB_of 0 hts gAL_1.1 rfl rfl rfl (hts _ gAL_1.2.2.2) (hts _ gAL_1.2.1) (by decide +kernel) ⟨Nat.le_of_ble_eq_true rfl, Nat.le_of_ble_eq_true rfl⟩, rfl, hts _ gAL_1.2.2.1⟩ (xl_preS hK hN hP hD hZ hS hA) rfl rfl hl.1 rfl (lv_room (Nat.le_of_ble_eq_true rfl)) dAL_init_1 ⟨Nat.le_of_ble_eq_true rfl, Nat.le_of_ble_eq_true rfl⟩) hD hS hA (fun u H locs hp hP hD hS => ?_)
  obtain rfl := hp
  have hP : va_P D vwCl (pr ++ [(th, .inr (8, [.int 0, .null, .int 0]))]) H := hP
  have hD : va_D (va_A (pr ++ [(th, .inr (8, [.int 0, .null, .int 0]))]) s.heap.size) (pr ++ [(th, .inr (8, [.int 0, .null, .int 0]))]) := hD
  refine lv_aload_n hx hb dAL_init_4 rfl (lv_at hl 0 rfl) ?_
  refine va_gets hx hb hZ.1.1 hS hown (hts _ kw_225) (fun _ h => h) dAL_init_5 ?_
  refine va_put (D := D) (ci := 8) (v := .ref t0.1) (ty := .array (.object "java/lang/Object")) (C := RAL) (T := TAL) (N := 3) hx hb hts ulAL tyAL gAL.1 gAL.2 hown hK hP hD hS (pr.length + 0) (xl_get rfl) rfl 1 (by decide) (hts _ fAL_9.2.2.2) (fun _ h9 => h9) rfl (by decide +kernel) rfl rfl (Nat.le_of_ble_eq_true rfl) dAL_init_8 (fun H locs hP hD hS => ?_)
  rw [xl_set] at hP hD
  have hP : va_P D vwCl (pr ++ [(th, .inr (8, [.int 0, .ref t0.1, .int 0]))]) H := hP
  have hD : va_D (va_A (pr ++ [(th, .inr (8, [.int 0, .null, .int 0]))]) s.heap.size) (pr ++ [(th, .inr (8, [.int 0, .ref t0.1, .int 0]))]) := hD
  exact xl_vret hx hb hr hlocks hP hD hS dAL_init_11 rfl

set_option maxHeartbeats 4000000 in
set_option maxRecDepth 100000 in
theorem c_Page_init (l : Launch) (D : va_G) (T : Nat → ClassId) (t0 : Nat × Nat) (pr : va_W) (sz th : Nat) : Met l yPage_init wsPage_init ({ frames := 1, cells := 0, slots := 0, locals := 12 }) (xl_Pc D T t0 (pr ++ [(th, .inr (3, [.int 0, .int 0, .int 0, .int 0]))]) sz [.ref th]) (xl_Qv D (pr ++ [(th, .inr (3, [.int 0, .int 0, .int 0, .int 0]))]) sz (fun u => u = pr ++ [(th, .inr (3, [.int 0, .int 0, .int 0, .int 0]))])) 0 0 (va_A (pr ++ [(th, .inr (3, [.int 0, .int 0, .int 0, .int 0]))]) sz) := by
  refine xl_met (by decide) rfl (Nat.le_of_ble_eq_true rfl) ?_
  intro p e s m below meth c ls hx hb hr hts hown hlocks hml hnm hP hD hK hN hZ hS hA hl hsz
  subst hsz
  have hl : lv_has ls 1 [(0, .ref th)] := hl
  refine lv_aload_n hx hb dPage_init_0 rfl (lv_at hl 0 rfl) ?_
  refine W.objInit hx hb hown (hts _ kw_189) (hts _ kw_32) (hts _ kw_33) rfl (by rw [hml]; exact hl.1) rfl dPage_init_1 (Nat.le_of_ble_eq_true rfl) (Nat.le_of_ble_eq_true rfl) ?_
  refine W.eq (g2 := F0 m 4 ls []) rfl ?_
  exact xl_vret hx hb hr hlocks hP hD hS dPage_init_4 rfl

set_option maxHeartbeats 4000000 in
set_option maxRecDepth 100000 in
theorem c_Side_init (l : Launch) (D : va_G) (T : Nat → ClassId) (t0 : Nat × Nat) (pr : va_W) (sz th : Nat) (x1 : Int32) (x2 : Int32) (x3 : Int32) : Met l ySide_init wsSide_init ({ frames := 4, cells := 1, slots := 3, locals := 72 }) (xl_Pc D T t0 (pr ++ [(th, .inr (5, [.int 0, .int 0, .int 0, .null, .int 0, .int 0]))]) sz [.ref th, .int x1, .int x2, .int x3]) (xl_Qv D (pr ++ [(th, .inr (5, [.int 0, .int 0, .int 0, .null, .int 0, .int 0]))]) sz (fun u => ∃ q1 : Nat, u = pr ++ [(th, .inr (5, [.int x1, .int x2, .int x3, .ref q1, .int 0, .int 0])), (q1, .inr (8, [.int 0, .ref t0.1, .int 0]))])) 1 3 (va_A (pr ++ [(th, .inr (5, [.int 0, .int 0, .int 0, .null, .int 0, .int 0]))]) sz) := by
  refine xl_met (by decide) rfl (Nat.le_of_ble_eq_true rfl) ?_
  intro p e s m below meth c ls hx hb hr hts hown hlocks hml hnm hP hD hK hN hZ hS hA hl hsz
  subst hsz
  have hl : lv_has ls 4 [(0, .ref th), (1, .int x1), (2, .int x2), (3, .int x3)] := hl
  refine lv_aload_n hx hb dSide_init_0 rfl (lv_at hl 0 rfl) ?_
  refine W.objInit hx hb hown (hts _ kw_212) (hts _ kw_32) (hts _ kw_33) rfl (by rw [hml]; exact hl.1) rfl dSide_init_1 (Nat.le_of_ble_eq_true rfl) (Nat.le_of_ble_eq_true rfl) ?_
  refine W.eq (g2 := F0 m 4 ls []) rfl ?_
  refine lv_aload_n hx hb dSide_init_4 rfl (lv_at hl 0 rfl) ?_
  refine va_new (fs := [.int 0, .null, .int 0]) (ci := 8) hx hb hts ulAL tyAL gAL.1 hown (hts _ kw_213) (hts _ kw_214) (hts _ kw_17) hK hP hD hS hA rfl (by decide +kernel) (Nat.le_of_ble_eq_true rfl) (Nat.le_of_ble_eq_true rfl) dSide_init_5 (fun q1 H hP hD hS => ?_)
  rw [List.append_assoc] at hP hD
  have hP : va_P D vwCl (pr ++ [(th, .inr (5, [.int 0, .int 0, .int 0, .null, .int 0, .int 0])), (q1, .inr (8, [.int 0, .null, .int 0]))]) H := hP
  have hD : va_D (va_A (pr ++ [(th, .inr (5, [.int 0, .int 0, .int 0, .null, .int 0, .int 0]))]) s.heap.size) (pr ++ [(th, .inr (5, [.int 0, .int 0, .int 0, .null, .int 0, .int 0])), (q1, .inr (8, [.int 0, .null, .int 0]))]) := hD
  refine lv_dup hx hb dSide_init_8 rfl ?_
  have hP9 : va_P D vwCl ((pr ++ [(th, .inr (5, [.int 0, .int 0, .int 0, .null, .int 0, .int 0]))]) ++ [(q1, .inr (8, [.int 0, .null, .int 0]))]) H := by rw [List.append_assoc]; exact hP
  have hD9 : va_D (va_A (pr ++ [(th, .inr (5, [.int 0, .int 0, .int 0, .null, .int 0, .int 0]))]) s.heap.size) ((pr ++ [(th, .inr (5, [.int 0, .int 0, .int 0, .null, .int 0, .int 0]))]) ++ [(q1, .inr (8, [.int 0, .null, .int 0]))]) := by rw [List.append_assoc]; exact hD
  refine xl_callv (va_runI (As := []) (b := q1) (rest := [.ref q1, .ref th]) ⟨hx, hb, hml, hown, hts⟩ (c_AL_init l D T t0 (pr ++ [(th, .inr (5, [.int 0, .int 0, .int 0, .null, .int 0, .int 0]))]) _ q1 ) ⟨callB_of 0 hts gSide_9.1 rfl rfl rfl (hts _ gSide_9.2.2.2) (hts _ gSide_9.2.1) (by decide +kernel) ⟨Nat.le_of_ble_eq_true rfl, Nat.le_of_ble_eq_true rfl⟩, rfl, hts _ gSide_9.2.2.1⟩ (xl_preS hK hN hP9 hD9 hZ hS hA) rfl rfl hl.1 rfl (lv_room (Nat.le_of_ble_eq_true rfl)) dSide_init_9 ⟨Nat.le_of_ble_eq_true rfl, Nat.le_of_ble_eq_true rfl⟩) hD9 hS hA (fun u H locs hp hP hD hS => ?_)
  obtain rfl := hp
  rw [List.append_assoc] at hP hD
  have hP : va_P D vwCl (pr ++ [(th, .inr (5, [.int 0, .int 0, .int 0, .null, .int 0, .int 0])), (q1, .inr (8, [.int 0, .ref t0.1, .int 0]))]) H := hP
  have hD : va_D (va_A (pr ++ [(th, .inr (5, [.int 0, .int 0, .int 0, .null, .int 0, .int 0]))]) s.heap.size) (pr ++ [(th, .inr (5, [.int 0, .int 0, .int 0, .null, .int 0, .int 0])), (q1, .inr (8, [.int 0, .ref t0.1, .int 0]))]) := hD
  refine va_putF (D := D) (ci := 5) (v := .ref q1) (ty := .object "java/util/ArrayList") (C := RSide) (T := TSide) (N := 6) hx hb hts ulSide tySide gSide.1 gSide.2 hown hK hP hD hS (pr.length + 0) (xl_get rfl) rfl 3 (by decide) (hts _ fSide_10.2.2.2) (fun _ h9 => h9) rfl hnm rfl (by decide +kernel) rfl rfl (Nat.le_of_ble_eq_true rfl) dSide_init_12 (fun H locs hP hD hS => ?_)
  rw [xl_set] at hP hD
  have hP : va_P D vwCl (pr ++ [(th, .inr (5, [.int 0, .int 0, .int 0, .ref q1, .int 0, .int 0])), (q1, .inr (8, [.int 0, .ref t0.1, .int 0]))]) H := hP
  have hD : va_D (va_A (pr ++ [(th, .inr (5, [.int 0, .int 0, .int 0, .null, .int 0, .int 0]))]) s.heap.size) (pr ++ [(th, .inr (5, [.int 0, .int 0, .int 0, .ref q1, .int 0, .int 0])), (q1, .inr (8, [.int 0, .ref t0.1, .int 0]))]) := hD
  refine lv_aload_n hx hb dSide_init_15 rfl (lv_at hl 0 rfl) ?_
  refine lv_iload_n hx hb dSide_init_16 rfl (lv_at hl 1 rfl) ?_
  refine va_putF (D := D) (ci := 5) (v := .int x1) (ty := .int) (C := RSide) (T := TSide) (N := 6) hx hb hts ulSide tySide gSide.1 gSide.2 hown hK hP hD hS (pr.length + 0) (xl_get rfl) rfl 0 (by decide) (hts _ fSide_16.2.2.2) (fun _ h9 => h9) rfl hnm rfl (by decide +kernel) rfl rfl (Nat.le_of_ble_eq_true rfl) dSide_init_17 (fun H locs hP hD hS => ?_)
  rw [xl_set] at hP hD
  have hP : va_P D vwCl (pr ++ [(th, .inr (5, [.int x1, .int 0, .int 0, .ref q1, .int 0, .int 0])), (q1, .inr (8, [.int 0, .ref t0.1, .int 0]))]) H := hP
  have hD : va_D (va_A (pr ++ [(th, .inr (5, [.int 0, .int 0, .int 0, .null, .int 0, .int 0]))]) s.heap.size) (pr ++ [(th, .inr (5, [.int x1, .int 0, .int 0, .ref q1, .int 0, .int 0])), (q1, .inr (8, [.int 0, .ref t0.1, .int 0]))]) := hD
  refine lv_aload_n hx hb dSide_init_20 rfl (lv_at hl 0 rfl) ?_
  refine lv_iload_n hx hb dSide_init_21 rfl (lv_at hl 2 rfl) ?_
  refine va_putF (D := D) (ci := 5) (v := .int x2) (ty := .int) (C := RSide) (T := TSide) (N := 6) hx hb hts ulSide tySide gSide.1 gSide.2 hown hK hP hD hS (pr.length + 0) (xl_get rfl) rfl 1 (by decide) (hts _ fSide_20.2.2.2) (fun _ h9 => h9) rfl hnm rfl (by decide +kernel) rfl rfl (Nat.le_of_ble_eq_true rfl) dSide_init_22 (fun H locs hP hD hS => ?_)
  rw [xl_set] at hP hD
  have hP : va_P D vwCl (pr ++ [(th, .inr (5, [.int x1, .int x2, .int 0, .ref q1, .int 0, .int 0])), (q1, .inr (8, [.int 0, .ref t0.1, .int 0]))]) H := hP
  have hD : va_D (va_A (pr ++ [(th, .inr (5, [.int 0, .int 0, .int 0, .null, .int 0, .int 0]))]) s.heap.size) (pr ++ [(th, .inr (5, [.int x1, .int x2, .int 0, .ref q1, .int 0, .int 0])), (q1, .inr (8, [.int 0, .ref t0.1, .int 0]))]) := hD
  refine lv_aload_n hx hb dSide_init_25 rfl (lv_at hl 0 rfl) ?_
  refine lv_iload_n hx hb dSide_init_26 rfl (lv_at hl 3 rfl) ?_
  refine va_putF (D := D) (ci := 5) (v := .int x3) (ty := .int) (C := RSide) (T := TSide) (N := 6) hx hb hts ulSide tySide gSide.1 gSide.2 hown hK hP hD hS (pr.length + 0) (xl_get rfl) rfl 2 (by decide) (hts _ fSide_23.2.2.2) (fun _ h9 => h9) rfl hnm rfl (by decide +kernel) rfl rfl (Nat.le_of_ble_eq_true rfl) dSide_init_27 (fun H locs hP hD hS => ?_)
  rw [xl_set] at hP hD
  have hP : va_P D vwCl (pr ++ [(th, .inr (5, [.int x1, .int x2, .int x3, .ref q1, .int 0, .int 0])), (q1, .inr (8, [.int 0, .ref t0.1, .int 0]))]) H := hP
  have hD : va_D (va_A (pr ++ [(th, .inr (5, [.int 0, .int 0, .int 0, .null, .int 0, .int 0]))]) s.heap.size) (pr ++ [(th, .inr (5, [.int x1, .int x2, .int x3, .ref q1, .int 0, .int 0])), (q1, .inr (8, [.int 0, .ref t0.1, .int 0]))]) := hD
  exact xl_vret hx hb hr hlocks hP hD hS dSide_init_30 ⟨q1, rfl⟩

set_option maxHeartbeats 4000000 in
set_option maxRecDepth 100000 in
theorem c_Deal_init (l : Launch) (D : va_G) (T : Nat → ClassId) (t0 : Nat × Nat) (pr : va_W) (sz th : Nat) (x1 : Int32) (x2 : Int32) (x3 : Int32) : Met l yDeal_init wsDeal_init ({ frames := 5, cells := 5, slots := 22, locals := 95 }) (xl_Pc D T t0 (pr ++ [(th, .inr (4, [.int 0, .null, .null, .null, .null, .int 0]))]) sz [.ref th, .int x1, .int x2, .int x3]) (xl_Qv D (pr ++ [(th, .inr (4, [.int 0, .null, .null, .null, .null, .int 0]))]) sz (fun u => ∃ q1 : Nat, ∃ q2 : Nat, ∃ q3 : Nat, ∃ q4 : Nat, ∃ q5 : Nat, u = pr ++ [(th, .inr (4, [.int x3, .ref q2, .ref q4, .ref q1, .null, .int 0])), (q1, .inr (3, [.int 0, .int 0, .int 0, .int 0])), (q2, .inr (5, [.int x1, .int x2, .int x3, .ref q3, .int 0, .int 0])), (q3, .inr (8, [.int 0, .ref t0.1, .int 0])), (q4, .inr (5, [.int x1, .int x3, .int x2, .ref q5, .int 0, .int 0])), (q5, .inr (8, [.int 0, .ref t0.1, .int 0]))])) 5 22 (va_A (pr ++ [(th, .inr (4, [.int 0, .null, .null, .null, .null, .int 0]))]) sz) := by
  refine xl_met (by decide) rfl (Nat.le_of_ble_eq_true rfl) ?_
  intro p e s m below meth c ls hx hb hr hts hown hlocks hml hnm hP hD hK hN hZ hS hA hl hsz
  subst hsz
  have hl : lv_has ls 4 [(0, .ref th), (1, .int x1), (2, .int x2), (3, .int x3)] := hl
  refine lv_aload_n hx hb dDeal_init_0 rfl (lv_at hl 0 rfl) ?_
  refine W.objInit hx hb hown (hts _ kw_183) (hts _ kw_32) (hts _ kw_33) rfl (by rw [hml]; exact hl.1) rfl dDeal_init_1 (Nat.le_of_ble_eq_true rfl) (Nat.le_of_ble_eq_true rfl) ?_
  refine W.eq (g2 := F0 m 4 ls []) rfl ?_
  refine lv_aload_n hx hb dDeal_init_4 rfl (lv_at hl 0 rfl) ?_
  refine va_new (fs := [.int 0, .int 0, .int 0, .int 0]) (ci := 3) hx hb hts ulPage tyPage gPage.1 hown (hts _ kw_184) (hts _ kw_185) (hts _ kw_12) hK hP hD hS hA rfl (by decide +kernel) (Nat.le_of_ble_eq_true rfl) (Nat.le_of_ble_eq_true rfl) dDeal_init_5 (fun q1 H hP hD hS => ?_)
  rw [List.append_assoc] at hP hD
  have hP : va_P D vwCl (pr ++ [(th, .inr (4, [.int 0, .null, .null, .null, .null, .int 0])), (q1, .inr (3, [.int 0, .int 0, .int 0, .int 0]))]) H := hP
  have hD : va_D (va_A (pr ++ [(th, .inr (4, [.int 0, .null, .null, .null, .null, .int 0]))]) s.heap.size) (pr ++ [(th, .inr (4, [.int 0, .null, .null, .null, .null, .int 0])), (q1, .inr (3, [.int 0, .int 0, .int 0, .int 0]))]) := hD
  refine lv_dup hx hb dDeal_init_8 rfl ?_
  have hP9 : va_P D vwCl ((pr ++ [(th, .inr (4, [.int 0, .null, .null, .null, .null, .int 0]))]) ++ [(q1, .inr (3, [.int 0, .int 0, .int 0, .int 0]))]) H := by rw [List.append_assoc]; exact hP
  have hD9 : va_D (va_A (pr ++ [(th, .inr (4, [.int 0, .null, .null, .null, .null, .int 0]))]) s.heap.size) ((pr ++ [(th, .inr (4, [.int 0, .null, .null, .null, .null, .int 0]))]) ++ [(q1, .inr (3, [.int 0, .int 0, .int 0, .int 0]))]) := by rw [List.append_assoc]; exact hD
  refine xl_callv (va_runIN (As := []) (b := q1) (rest := [.ref q1, .ref th]) ⟨hx, hb, hml, hown, hts⟩ (c_Page_init l D T t0 (pr ++ [(th, .inr (4, [.int 0, .null, .null, .null, .null, .int 0]))]) _ q1 ) ⟨va_cnB 0 hts (WS_cons kw_188) rfl rfl rfl (hN.at 2 rfl) (hts _ kw_12) (by decide +kernel) ⟨Nat.le_of_ble_eq_true rfl, Nat.le_of_ble_eq_true rfl⟩, rfl, hts _ kw_187⟩ (xl_preS hK hN hP9 hD9 hZ hS hA) rfl rfl hl.1 rfl (lv_room (Nat.le_of_ble_eq_true rfl)) dDeal_init_9 ⟨Nat.le_of_ble_eq_true rfl, Nat.le_of_ble_eq_true rfl⟩) hD9 hS hA (fun u H locs hp hP hD hS => ?_)
  obtain rfl := hp
  rw [List.append_assoc] at hP hD
  have hP : va_P D vwCl (pr ++ [(th, .inr (4, [.int 0, .null, .null, .null, .null, .int 0])), (q1, .inr (3, [.int 0, .int 0, .int 0, .int 0]))]) H := hP
  have hD : va_D (va_A (pr ++ [(th, .inr (4, [.int 0, .null, .null, .null, .null, .int 0]))]) s.heap.size) (pr ++ [(th, .inr (4, [.int 0, .null, .null, .null, .null, .int 0])), (q1, .inr (3, [.int 0, .int 0, .int 0, .int 0]))]) := hD
  refine va_putF (D := D) (ci := 4) (v := .ref q1) (ty := .object "LoanLetters$Page") (C := RDeal) (T := TDeal) (N := 6) hx hb hts ulDeal tyDeal gDeal.1 gDeal.2 hown hK hP hD hS (pr.length + 0) (xl_get rfl) rfl 3 (by decide) (hts _ fDeal_10.2.2.2) (fun _ h9 => h9) rfl hnm rfl (by decide +kernel) rfl rfl (Nat.le_of_ble_eq_true rfl) dDeal_init_12 (fun H locs hP hD hS => ?_)
  rw [xl_set] at hP hD
  have hP : va_P D vwCl (pr ++ [(th, .inr (4, [.int 0, .null, .null, .ref q1, .null, .int 0])), (q1, .inr (3, [.int 0, .int 0, .int 0, .int 0]))]) H := hP
  have hD : va_D (va_A (pr ++ [(th, .inr (4, [.int 0, .null, .null, .null, .null, .int 0]))]) s.heap.size) (pr ++ [(th, .inr (4, [.int 0, .null, .null, .ref q1, .null, .int 0])), (q1, .inr (3, [.int 0, .int 0, .int 0, .int 0]))]) := hD
  refine lv_aload_n hx hb dDeal_init_15 rfl (lv_at hl 0 rfl) ?_
  refine lv_iload_n hx hb dDeal_init_16 rfl (lv_at hl 3 rfl) ?_
  refine va_putF (D := D) (ci := 4) (v := .int x3) (ty := .int) (C := RDeal) (T := TDeal) (N := 6) hx hb hts ulDeal tyDeal gDeal.1 gDeal.2 hown hK hP hD hS (pr.length + 0) (xl_get rfl) rfl 0 (by decide) (hts _ fDeal_16.2.2.2) (fun _ h9 => h9) rfl hnm rfl (by decide +kernel) rfl rfl (Nat.le_of_ble_eq_true rfl) dDeal_init_17 (fun H locs hP hD hS => ?_)
  rw [xl_set] at hP hD
  have hP : va_P D vwCl (pr ++ [(th, .inr (4, [.int x3, .null, .null, .ref q1, .null, .int 0])), (q1, .inr (3, [.int 0, .int 0, .int 0, .int 0]))]) H := hP
  have hD : va_D (va_A (pr ++ [(th, .inr (4, [.int 0, .null, .null, .null, .null, .int 0]))]) s.heap.size) (pr ++ [(th, .inr (4, [.int x3, .null, .null, .ref q1, .null, .int 0])), (q1, .inr (3, [.int 0, .int 0, .int 0, .int 0]))]) := hD
  refine lv_aload_n hx hb dDeal_init_20 rfl (lv_at hl 0 rfl) ?_
  refine va_new (fs := [.int 0, .int 0, .int 0, .null, .int 0, .int 0]) (ci := 5) hx hb hts ulSide tySide gSide.1 hown (hts _ kw_207) (hts _ kw_208) (hts _ kw_14) hK hP hD hS hA rfl (by decide +kernel) (Nat.le_of_ble_eq_true rfl) (Nat.le_of_ble_eq_true rfl) dDeal_init_21 (fun q2 H hP hD hS => ?_)
  rw [List.append_assoc] at hP hD
  have hP : va_P D vwCl (pr ++ [(th, .inr (4, [.int x3, .null, .null, .ref q1, .null, .int 0])), (q1, .inr (3, [.int 0, .int 0, .int 0, .int 0])), (q2, .inr (5, [.int 0, .int 0, .int 0, .null, .int 0, .int 0]))]) H := hP
  have hD : va_D (va_A (pr ++ [(th, .inr (4, [.int 0, .null, .null, .null, .null, .int 0]))]) s.heap.size) (pr ++ [(th, .inr (4, [.int x3, .null, .null, .ref q1, .null, .int 0])), (q1, .inr (3, [.int 0, .int 0, .int 0, .int 0])), (q2, .inr (5, [.int 0, .int 0, .int 0, .null, .int 0, .int 0]))]) := hD
  refine lv_dup hx hb dDeal_init_24 rfl ?_
  refine lv_iload_n hx hb dDeal_init_25 rfl (lv_at hl 1 rfl) ?_
  refine lv_iload_n hx hb dDeal_init_26 rfl (lv_at hl 2 rfl) ?_
  refine lv_iload_n hx hb dDeal_init_27 rfl (lv_at hl 3 rfl) ?_
  have hP9 : va_P D vwCl ((pr ++ [(th, .inr (4, [.int x3, .null, .null, .ref q1, .null, .int 0])), (q1, .inr (3, [.int 0, .int 0, .int 0, .int 0]))]) ++ [(q2, .inr (5, [.int 0, .int 0, .int 0, .null, .int 0, .int 0]))]) H := by rw [List.append_assoc]; exact hP
  have hD9 : va_D (va_A (pr ++ [(th, .inr (4, [.int 0, .null, .null, .null, .null, .int 0]))]) s.heap.size) ((pr ++ [(th, .inr (4, [.int x3, .null, .null, .ref q1, .null, .int 0])), (q1, .inr (3, [.int 0, .int 0, .int 0, .int 0]))]) ++ [(q2, .inr (5, [.int 0, .int 0, .int 0, .null, .int 0, .int 0]))]) := by rw [List.append_assoc]; exact hD
  refine xl_callv (va_runI (As := [.int x1, .int x2, .int x3]) (b := q2) (rest := [.ref q2, .ref th]) ⟨hx, hb, hml, hown, hts⟩ (c_Side_init l D T t0 (pr ++ [(th, .inr (4, [.int x3, .null, .null, .ref q1, .null, .int 0])), (q1, .inr (3, [.int 0, .int 0, .int 0, .int 0]))]) _ q2 x1 x2 x3) ⟨callB_of 3 hts gDeal_22.1 rfl rfl rfl (hts _ gDeal_22.2.2.2) (hts _ gDeal_22.2.1) (by decide +kernel) ⟨Nat.le_of_ble_eq_true rfl, Nat.le_of_ble_eq_true rfl⟩, rfl, hts _ gDeal_22.2.2.1⟩ (xl_preS hK hN hP9 hD9 hZ hS hA) rfl rfl hl.1 rfl (lv_room (Nat.le_of_ble_eq_true rfl)) dDeal_init_28 ⟨Nat.le_of_ble_eq_true rfl, Nat.le_of_ble_eq_true rfl⟩) hD9 hS hA (fun u H locs hp hP hD hS => ?_)
  obtain ⟨q3, rfl⟩ := hp
  rw [List.append_assoc] at hP hD
  have hP : va_P D vwCl (pr ++ [(th, .inr (4, [.int x3, .null, .null, .ref q1, .null, .int 0])), (q1, .inr (3, [.int 0, .int 0, .int 0, .int 0])), (q2, .inr (5, [.int x1, .int x2, .int x3, .ref q3, .int 0, .int 0])), (q3, .inr (8, [.int 0, .ref t0.1, .int 0]))]) H := hP
  have hD : va_D (va_A (pr ++ [(th, .inr (4, [.int 0, .null, .null, .null, .null, .int 0]))]) s.heap.size) (pr ++ [(th, .inr (4, [.int x3, .null, .null, .ref q1, .null, .int 0])), (q1, .inr (3, [.int 0, .int 0, .int 0, .int 0])), (q2, .inr (5, [.int x1, .int x2, .int x3, .ref q3, .int 0, .int 0])), (q3, .inr (8, [.int 0, .ref t0.1, .int 0]))]) := hD
  refine va_putF (D := D) (ci := 4) (v := .ref q2) (ty := .object "LoanLetters$Side") (C := RDeal) (T := TDeal) (N := 6) hx hb hts ulDeal tyDeal gDeal.1 gDeal.2 hown hK hP hD hS (pr.length + 0) (xl_get rfl) rfl 1 (by decide) (hts _ fDeal_25.2.2.2) (fun _ h9 => h9) rfl hnm rfl (by decide +kernel) rfl rfl (Nat.le_of_ble_eq_true rfl) dDeal_init_31 (fun H locs hP hD hS => ?_)
  rw [xl_set] at hP hD
  have hP : va_P D vwCl (pr ++ [(th, .inr (4, [.int x3, .ref q2, .null, .ref q1, .null, .int 0])), (q1, .inr (3, [.int 0, .int 0, .int 0, .int 0])), (q2, .inr (5, [.int x1, .int x2, .int x3, .ref q3, .int 0, .int 0])), (q3, .inr (8, [.int 0, .ref t0.1, .int 0]))]) H := hP
  have hD : va_D (va_A (pr ++ [(th, .inr (4, [.int 0, .null, .null, .null, .null, .int 0]))]) s.heap.size) (pr ++ [(th, .inr (4, [.int x3, .ref q2, .null, .ref q1, .null, .int 0])), (q1, .inr (3, [.int 0, .int 0, .int 0, .int 0])), (q2, .inr (5, [.int x1, .int x2, .int x3, .ref q3, .int 0, .int 0])), (q3, .inr (8, [.int 0, .ref t0.1, .int 0]))]) := hD
  refine lv_aload_n hx hb dDeal_init_34 rfl (lv_at hl 0 rfl) ?_
  refine va_new (fs := [.int 0, .int 0, .int 0, .null, .int 0, .int 0]) (ci := 5) hx hb hts ulSide tySide gSide.1 hown (hts _ kw_207) (hts _ kw_208) (hts _ kw_14) hK hP hD hS hA rfl (by decide +kernel) (Nat.le_of_ble_eq_true rfl) (Nat.le_of_ble_eq_true rfl) dDeal_init_35 (fun q4 H hP hD hS => ?_)
  rw [List.append_assoc] at hP hD
  have hP : va_P D vwCl (pr ++ [(th, .inr (4, [.int x3, .ref q2, .null, .ref q1, .null, .int 0])), (q1, .inr (3, [.int 0, .int 0, .int 0, .int 0])), (q2, .inr (5, [.int x1, .int x2, .int x3, .ref q3, .int 0, .int 0])), (q3, .inr (8, [.int 0, .ref t0.1, .int 0])), (q4, .inr (5, [.int 0, .int 0, .int 0, .null, .int 0, .int 0]))]) H := hP
  have hD : va_D (va_A (pr ++ [(th, .inr (4, [.int 0, .null, .null, .null, .null, .int 0]))]) s.heap.size) (pr ++ [(th, .inr (4, [.int x3, .ref q2, .null, .ref q1, .null, .int 0])), (q1, .inr (3, [.int 0, .int 0, .int 0, .int 0])), (q2, .inr (5, [.int x1, .int x2, .int x3, .ref q3, .int 0, .int 0])), (q3, .inr (8, [.int 0, .ref t0.1, .int 0])), (q4, .inr (5, [.int 0, .int 0, .int 0, .null, .int 0, .int 0]))]) := hD
  refine lv_dup hx hb dDeal_init_38 rfl ?_
  refine lv_iload_n hx hb dDeal_init_39 rfl (lv_at hl 1 rfl) ?_
  refine lv_iload_n hx hb dDeal_init_40 rfl (lv_at hl 3 rfl) ?_
  refine lv_iload_n hx hb dDeal_init_41 rfl (lv_at hl 2 rfl) ?_
  have hP9 : va_P D vwCl ((pr ++ [(th, .inr (4, [.int x3, .ref q2, .null, .ref q1, .null, .int 0])), (q1, .inr (3, [.int 0, .int 0, .int 0, .int 0])), (q2, .inr (5, [.int x1, .int x2, .int x3, .ref q3, .int 0, .int 0])), (q3, .inr (8, [.int 0, .ref t0.1, .int 0]))]) ++ [(q4, .inr (5, [.int 0, .int 0, .int 0, .null, .int 0, .int 0]))]) H := by rw [List.append_assoc]; exact hP
  have hD9 : va_D (va_A (pr ++ [(th, .inr (4, [.int 0, .null, .null, .null, .null, .int 0]))]) s.heap.size) ((pr ++ [(th, .inr (4, [.int x3, .ref q2, .null, .ref q1, .null, .int 0])), (q1, .inr (3, [.int 0, .int 0, .int 0, .int 0])), (q2, .inr (5, [.int x1, .int x2, .int x3, .ref q3, .int 0, .int 0])), (q3, .inr (8, [.int 0, .ref t0.1, .int 0]))]) ++ [(q4, .inr (5, [.int 0, .int 0, .int 0, .null, .int 0, .int 0]))]) := by rw [List.append_assoc]; exact hD
  refine xl_callv (va_runI (As := [.int x1, .int x3, .int x2]) (b := q4) (rest := [.ref q4, .ref th]) ⟨hx, hb, hml, hown, hts⟩ (c_Side_init l D T t0 (pr ++ [(th, .inr (4, [.int x3, .ref q2, .null, .ref q1, .null, .int 0])), (q1, .inr (3, [.int 0, .int 0, .int 0, .int 0])), (q2, .inr (5, [.int x1, .int x2, .int x3, .ref q3, .int 0, .int 0])), (q3, .inr (8, [.int 0, .ref t0.1, .int 0]))]) _ q4 x1 x3 x2) ⟨callB_of 3 hts gDeal_22.1 rfl rfl rfl (hts _ gDeal_22.2.2.2) (hts _ gDeal_22.2.1) (by decide +kernel) ⟨Nat.le_of_ble_eq_true rfl, Nat.le_of_ble_eq_true rfl⟩, rfl, hts _ gDeal_22.2.2.1⟩ (xl_preS hK hN hP9 hD9 hZ hS hA) rfl rfl hl.1 rfl (lv_room (Nat.le_of_ble_eq_true rfl)) dDeal_init_42 ⟨Nat.le_of_ble_eq_true rfl, Nat.le_of_ble_eq_true rfl⟩) hD9 hS hA (fun u H locs hp hP hD hS => ?_)
  obtain ⟨q5, rfl⟩ := hp
  rw [List.append_assoc] at hP hD
  have hP : va_P D vwCl (pr ++ [(th, .inr (4, [.int x3, .ref q2, .null, .ref q1, .null, .int 0])), (q1, .inr (3, [.int 0, .int 0, .int 0, .int 0])), (q2, .inr (5, [.int x1, .int x2, .int x3, .ref q3, .int 0, .int 0])), (q3, .inr (8, [.int 0, .ref t0.1, .int 0])), (q4, .inr (5, [.int x1, .int x3, .int x2, .ref q5, .int 0, .int 0])), (q5, .inr (8, [.int 0, .ref t0.1, .int 0]))]) H := hP
  have hD : va_D (va_A (pr ++ [(th, .inr (4, [.int 0, .null, .null, .null, .null, .int 0]))]) s.heap.size) (pr ++ [(th, .inr (4, [.int x3, .ref q2, .null, .ref q1, .null, .int 0])), (q1, .inr (3, [.int 0, .int 0, .int 0, .int 0])), (q2, .inr (5, [.int x1, .int x2, .int x3, .ref q3, .int 0, .int 0])), (q3, .inr (8, [.int 0, .ref t0.1, .int 0])), (q4, .inr (5, [.int x1, .int x3, .int x2, .ref q5, .int 0, .int 0])), (q5, .inr (8, [.int 0, .ref t0.1, .int 0]))]) := hD
  refine va_putF (D := D) (ci := 4) (v := .ref q4) (ty := .object "LoanLetters$Side") (C := RDeal) (T := TDeal) (N := 6) hx hb hts ulDeal tyDeal gDeal.1 gDeal.2 hown hK hP hD hS (pr.length + 0) (xl_get rfl) rfl 2 (by decide) (hts _ fDeal_29.2.2.2) (fun _ h9 => h9) rfl hnm rfl (by decide +kernel) rfl rfl (Nat.le_of_ble_eq_true rfl) dDeal_init_45 (fun H locs hP hD hS => ?_)
  rw [xl_set] at hP hD
  have hP : va_P D vwCl (pr ++ [(th, .inr (4, [.int x3, .ref q2, .ref q4, .ref q1, .null, .int 0])), (q1, .inr (3, [.int 0, .int 0, .int 0, .int 0])), (q2, .inr (5, [.int x1, .int x2, .int x3, .ref q3, .int 0, .int 0])), (q3, .inr (8, [.int 0, .ref t0.1, .int 0])), (q4, .inr (5, [.int x1, .int x3, .int x2, .ref q5, .int 0, .int 0])), (q5, .inr (8, [.int 0, .ref t0.1, .int 0]))]) H := hP
  have hD : va_D (va_A (pr ++ [(th, .inr (4, [.int 0, .null, .null, .null, .null, .int 0]))]) s.heap.size) (pr ++ [(th, .inr (4, [.int x3, .ref q2, .ref q4, .ref q1, .null, .int 0])), (q1, .inr (3, [.int 0, .int 0, .int 0, .int 0])), (q2, .inr (5, [.int x1, .int x2, .int x3, .ref q3, .int 0, .int 0])), (q3, .inr (8, [.int 0, .ref t0.1, .int 0])), (q4, .inr (5, [.int x1, .int x3, .int x2, .ref q5, .int 0, .int 0])), (q5, .inr (8, [.int 0, .ref t0.1, .int 0]))]) := hD
  exact xl_vret hx hb hr hlocks hP hD hS dDeal_init_48 ⟨q1, q2, q3, q4, q5, rfl⟩
