/-! Methods that make cells: addresses, live cells and places are another four after them. -/
/-- the empty list's array, a static that nobody writes; the class of arrays of objects -/
def em_Z (t0 : Nat × Nat) (A : Nat → Prop) (U : State) (H : Heap) : Prop := (va_Z "java/util/ArrayList" "DEFAULTCAPACITY_EMPTY_ELEMENTDATA" "[Ljava/lang/Object;" (.ref t0.1) A U H ∧ va_T (.object "java/lang/Object") t0.1 0 (fun _ => .null) A U H) ∧ va_Mi "[Ljava/lang/Object;" t0.2 U ∧ va_Dc U ∧ va_AO "java/lang/Object" U ∧ va_AO "LoanLetters$Deal" U
theorem em_Z.moved {t0 : Nat × Nat} {A : Nat → Prop} {u U : State} {H : Heap} (hvm : u.vm.Alike U.vm) (h : em_Z t0 A u H) : em_Z t0 A U H := ⟨⟨h.1.1.moved hvm, h.1.2.moved hvm⟩, h.2.1.moved hvm, h.2.2.1.moved hvm, h.2.2.2.1.moved hvm, h.2.2.2.2.moved hvm⟩
theorem em_Z.kept {t0 : Nat × Nat} {A : Nat → Prop} {U : State} {H H1 : Heap} (h : em_Z t0 A U H) (hq : ∀ a : Nat, a < H.size → ¬ A a → H1[a]? = H[a]?) : em_Z t0 A U H1 := ⟨⟨h.1.1.kept hq, h.1.2.kept hq⟩, h.2⟩
theorem em_Z.narrow {t0 : Nat × Nat} {A B : Nat → Prop} {U : State} {H : Heap} (h : em_Z t0 A U H) (hAB : ∀ q, B q → A q) : em_Z t0 B U H := ⟨⟨h.1.1.narrow hAB, h.1.2.narrow hAB⟩, h.2⟩
section EMM
variable {l : Launch} {D : va_G} {cl : List vw_C} {cf : ew_C} {X : Nat → Nat → Nat} {L : List Nat} {tg : Nat → Nat × Nat} {A : ew_R} {tys : List (ClassId × FieldType)} {t0 : Nat × Nat}
def em_Pc (D : va_G) (cl : List vw_C) (tys : List (ClassId × FieldType)) (cf : ew_C) (t0 : Nat × Nat) (X : Nat → Nat → Nat) (L : List Nat) (tg : Nat → Nat × Nat) (A : ew_R) (sz : Nat) (av : List Value) : Array Value → State → Prop := va_Pc av (fun U => U.heap.size = sz ∧ ew_V D cl cf (fun _ => True) X L tg A [] U.heap ∧ va_K D cl tys U ∧ EN U ∧ em_Z t0 (ew_A L sz) U U.heap)
def em_B (D : va_G) (cl : List vw_C) (cf : ew_C) (L : List Nat) (sz : Nat) : ec_S → State → Prop := fun u t => ew_V D cl cf (ew_A L sz) u.1 u.2.1 u.2.2.1 u.2.2.2 [] t.heap
def em_Qi (D : va_G) (cl : List vw_C) (cf : ew_C) (L : List Nat) (sz : Nat) (post : Int32 → ec_S → Prop) : Array Value → State → Outcome → State → Prop := va_Qi post (em_B D cl cf L sz) (ew_A L sz)
def em_Qv (D : va_G) (cl : List vw_C) (cf : ew_C) (L : List Nat) (sz : Nat) (post : ec_S → Prop) : Array Value → State → Outcome → State → Prop := va_Qv post (em_B D cl cf L sz) (ew_A L sz)
def em_Qq (D : va_G) (cl : List vw_C) (cf : ew_C) (L : List Nat) (sz : Nat) (post : Option Nat → ec_S → Prop) : Array Value → State → Outcome → State → Prop := va_Qq post (em_B D cl cf L sz) (ew_A L sz)
theorem em_met {y : MethodName} {ws ws' : List Cond} {rm : Room} {Qc : Array Value → State → Outcome → State → Prop} {mc ms sz maxL : Nat} {free : Addr → Prop} {cc : ByteArray} {ret : Option FieldType} {av : List Value} (hy : plainName y.cls = true) (hw : ws = Cond.code y cc maxL ret :: ws') (hlen : (lg_sl av).length ≤ maxL)
    (body : ∀ (p : Program) (e : Env) (s : State) (m : MethodId) (below : List Frame) (meth : Method) (c : Code) (ls : Array Slot), p.tables.exec = Jvm.exec → c.code = cc → meth.sig.returnType = ret → (∀ w ∈ ws', w.before av.toArray s = true) → s.vm.findClass y.cls = some m.cls → meth.locks = false → c.maxLocals = maxL → meth.name = y.name →
      ew_V D cl cf (ew_A L s.heap.size) X L tg A [] s.heap → va_K D cl tys s → EN s → em_Z t0 (ew_A L s.heap.size) s s.heap → va_S (ew_A L s.heap.size) s.heap s.heap [] → (∀ q, s.heap.size ≤ q → ew_A L s.heap.size q) → lv_has ls maxL (lv_args 0 av) → s.heap.size = sz →
      W p l e rm s m av.toArray below meth c s.heap [] 0 0 (MQ below Qc av.toArray s mc ms free) (F0 m 0 ls [])) : Met l y ws rm (em_Pc D cl tys cf t0 X L tg A sz av) Qc mc ms free := by
  refine Met.ofW (cc := cc) (maxL := maxL) (ret := ret) hy hw ?_
  intro p e s m args below meth c s₁ B hml hv
  obtain ⟨rfl, hsz, hV, hK, hN, hZ⟩ := hv
  have hl := lv_entry av (n := maxL) hlen
  rw [lg_entry_eq]
  generalize (lg_sl av ++ List.replicate (maxL - (lg_sl av).length) Slot.unset).toArray = ls at hl ⊢
  exact body p e s m below meth c ls B.exec B.bytes B.returns (fun w hw2 => atoms_spec (ws := ws) B.pre w (by rw [hw]; exact List.mem_cons_of_mem _ hw2)) (findClass_of_methodNamed B.named) B.notSynchronized hml (name_of_methodNamed B.named B.method).1 (hV.regA _) hK hN (by rw [hsz]; exact hZ) va_S.rf (fun q h => Or.inr h) hl hsz
theorem em_blind {sz : Nat} {av : List Value} : FrameBlind (em_Pc D cl tys cf t0 X L tg A sz av) := fun a U g mk q => by
  obtain ⟨q0, q1, qV, qK, qN, qZ⟩ := q
  exact ⟨q0, q1, qV, va_K.moved (u := U) (U := U.calling g mk a) (Vm.Alike.refl U.vm) qK, EN.same (u := U) (U := U.calling g mk a) rfl qN, em_Z.moved (u := U) (U := U.calling g mk a) (Vm.Alike.refl U.vm) qZ⟩
variable {p : Program} {e : Env} {R : Room} {s : State} {m : MethodId} {args : Array Value} {below : List Frame} {meth : Method} {c : Code} {H : Heap} {locs : List Loc} {cells slots : Nat} {cc : ByteArray} {pc : Nat} {ls : Array Slot} {A0 : Nat → Prop} {H0 : Heap} {mc ms : Nat} {rest st0 : List Value} {a : Array Value} {Q : State → Prop}
theorem em_z (hV : ew_V D cl cf A0 X L tg A [] H) (hZ : em_Z t0 A0 s s.heap) (hS : va_S A0 s.heap H locs) (hA : ∀ q, s.heap.size ≤ q → A0 q) : em_Z t0 (ew_A L H.size) s H := (hZ.kept hS.2.1).narrow (ew_hf hV hS hA)
theorem em_preS {As : List Value} (hK : va_K D cl tys s) (hN : EN s) (hV : ew_V D cl cf A0 X L tg A [] H) (hZ : em_Z t0 A0 s s.heap) (hS : va_S A0 s.heap H locs) (hA : ∀ q, s.heap.size ≤ q → A0 q) : PreS s H (em_Pc D cl tys cf t0 X L tg A H.size As) As :=
  ⟨em_blind, fun U hU hW => ⟨rfl, by rw [hU], by rw [hU]; exact hV.reg0, va_K.moved hW.alike hK, EN.warm hW hN, by rw [hU]; exact (em_z hV hZ hS hA).moved hW.alike⟩⟩
theorem em_preV {As : List Value} {C : String} {T : u_T} {N ci kd id b : Nat} {fs : List Value} (hK : va_K D cl tys s) (hN : EN s) (hV : ew_V D cl cf A0 X L tg A [] H) (hZ : em_Z t0 A0 s s.heap) (hS : va_S A0 s.heap H locs) (hA : ∀ q, s.heap.size ≤ q → A0 q) (hi : ew_in X L tg kd id b) (he : cf X kd id (A kd id) = .inr (ci, fs)) (hc : cl[ci]? = some (C, T, N)) : PreV s H C b (em_Pc D cl tys cf t0 X L tg A H.size (.ref b :: As)) As := by
  obtain ⟨q0, hq⟩ := ew_at (cf := cf) (A := A) (ex := []) hi
  rw [he] at hq
  exact ⟨em_blind, va_recv hK hV.1 hc hq, fun U hU hW => ⟨rfl, by rw [hU], by rw [hU]; exact hV.reg0, va_K.moved hW.alike hK, EN.warm hW hN, by rw [hU]; exact (em_z hV hZ hS hA).moved hW.alike⟩⟩
theorem em_calli {post : Int32 → ec_S → Prop} (hr : va_Run p l e R s m args below meth c H locs cells slots mc ms (F0 m pc ls st0) rest (em_Qi D cl cf L H.size post a) (ew_A L H.size)) (hV : ew_V D cl cf A0 X L tg A [] H) (hS : va_S A0 H0 H locs) (hA : ∀ q, H0.size ≤ q → A0 q)
    (kk : ∀ (r : Int32) (X' : Nat → Nat → Nat) (L' : List Nat) (tg' : Nat → Nat × Nat) (u : ew_R) (H1 : Heap) (locs1 : List Loc), post r (X', L', tg', u) → ew_V D cl cf A0 X' L' tg' u [] H1 → va_S A0 H0 H1 locs1 → W p l e R s m args below meth c H1 locs1 (cells + mc) (slots + ms) Q (F0 m (pc + 3) ls (.int r :: rest))) : W p l e R s m args below meth c H locs cells slots Q (F0 m pc ls st0) :=
  va_calli hr hS (ew_hA hV) (ew_hf hV hS hA) (fun r u t H1 locs1 ht _ hp hB _ _ hS1 => kk r u.1 u.2.1 u.2.2.1 u.2.2.2 H1 locs1 hp (by rw [← ht]; exact ew_V.reg hB (fun q h => ew_hf hV hS hA q (ew_V.own hB h))) hS1)
theorem em_callv {post : ec_S → Prop} (hr : va_Run p l e R s m args below meth c H locs cells slots mc ms (F0 m pc ls st0) rest (em_Qv D cl cf L H.size post a) (ew_A L H.size)) (hV : ew_V D cl cf A0 X L tg A [] H) (hS : va_S A0 H0 H locs) (hA : ∀ q, H0.size ≤ q → A0 q)
    (kk : ∀ (X' : Nat → Nat → Nat) (L' : List Nat) (tg' : Nat → Nat × Nat) (u : ew_R) (H1 : Heap) (locs1 : List Loc), post (X', L', tg', u) → ew_V D cl cf A0 X' L' tg' u [] H1 → va_S A0 H0 H1 locs1 → W p l e R s m args below meth c H1 locs1 (cells + mc) (slots + ms) Q (F0 m (pc + 3) ls rest)) : W p l e R s m args below meth c H locs cells slots Q (F0 m pc ls st0) :=
  va_callv hr hS (ew_hA hV) (ew_hf hV hS hA) (fun u t H1 locs1 ht _ hp hB _ _ hS1 => kk u.1 u.2.1 u.2.2.1 u.2.2.2 H1 locs1 hp (by rw [← ht]; exact ew_V.reg hB (fun q h => ew_hf hV hS hA q (ew_V.own hB h))) hS1)
theorem em_callq {post : Option Nat → ec_S → Prop} (hr : va_Run p l e R s m args below meth c H locs cells slots mc ms (F0 m pc ls st0) rest (em_Qq D cl cf L H.size post a) (ew_A L H.size)) (hV : ew_V D cl cf A0 X L tg A [] H) (hS : va_S A0 H0 H locs) (hA : ∀ q, H0.size ≤ q → A0 q)
    (kk : ∀ (r : Option Nat) (X' : Nat → Nat → Nat) (L' : List Nat) (tg' : Nat → Nat × Nat) (u : ew_R) (H1 : Heap) (locs1 : List Loc), post r (X', L', tg', u) → ew_V D cl cf A0 X' L' tg' u [] H1 → va_S A0 H0 H1 locs1 → W p l e R s m args below meth c H1 locs1 (cells + mc) (slots + ms) Q (F0 m (pc + 3) ls (va_rf r :: rest))) : W p l e R s m args below meth c H locs cells slots Q (F0 m pc ls st0) :=
  va_callq hr hS (ew_hA hV) (ew_hf hV hS hA) (fun r u t H1 locs1 ht _ hp hB _ _ hS1 => kk r u.1 u.2.1 u.2.2.1 u.2.2.2 H1 locs1 hp (by rw [← ht]; exact ew_V.reg hB (fun q h => ew_hf hV hS hA q (ew_V.own hB h))) hS1)
variable {L0 : List Nat}
theorem em_iret {post : Int32 → ec_S → Prop} {v : Int32} (hx : p.tables.exec = Jvm.exec) (hb : c.code = cc) (hr : meth.sig.returnType = some .int) (hlocks : meth.locks = false) (hV : ew_V D cl cf (ew_A L0 s.heap.size) X L tg A [] H) (hS : va_S (ew_A L0 s.heap.size) s.heap H locs) (hdg : decode cc pc = .ok (.ireturn, 1)) (hp : post v (X, L, tg, A)) :
    W p l e R s m args below meth c H locs cells slots (MQ below (em_Qi D cl cf L0 s.heap.size post) args s cells slots (ew_A L0 s.heap.size)) (F0 m pc ls [.int v]) :=
  W.iret hx hb hr (fun t ht _ => ⟨⟨v, (X, L, tg, A), rfl, hp, by unfold em_B; rw [ht]; exact hV⟩, hS.F ht⟩) hS.2.2 hdg hlocks
theorem em_zret {post : Int32 → ec_S → Prop} {v : Int32} (hx : p.tables.exec = Jvm.exec) (hb : c.code = cc) (hr : meth.sig.returnType = some .boolean) (hlocks : meth.locks = false) (hV : ew_V D cl cf (ew_A L0 s.heap.size) X L tg A [] H) (hS : va_S (ew_A L0 s.heap.size) s.heap H locs) (hdg : decode cc pc = .ok (.ireturn, 1)) (hn : narrow .boolean (.int v) = .int v) (hp : post v (X, L, tg, A)) :
    W p l e R s m args below meth c H locs cells slots (MQ below (em_Qi D cl cf L0 s.heap.size post) args s cells slots (ew_A L0 s.heap.size)) (F0 m pc ls [.int v]) :=
  W.zret hx hb hr hn (fun t ht _ => ⟨⟨v, (X, L, tg, A), rfl, hp, by unfold em_B; rw [ht]; exact hV⟩, hS.F ht⟩) hS.2.2 hdg hlocks
theorem em_vret {post : ec_S → Prop} (hx : p.tables.exec = Jvm.exec) (hb : c.code = cc) (hr : meth.sig.returnType = none) (hlocks : meth.locks = false) (hV : ew_V D cl cf (ew_A L0 s.heap.size) X L tg A [] H) (hS : va_S (ew_A L0 s.heap.size) s.heap H locs) (hdg : decode cc pc = .ok (.return_, 1)) (hp : post (X, L, tg, A)) :
    W p l e R s m args below meth c H locs cells slots (MQ below (em_Qv D cl cf L0 s.heap.size post) args s cells slots (ew_A L0 s.heap.size)) (F0 m pc ls []) :=
  W.vret hx hb hr (fun t ht _ => ⟨⟨(X, L, tg, A), rfl, hp, by unfold em_B; rw [ht]; exact hV⟩, hS.F ht⟩) hS.2.2 hdg hlocks
theorem em_aret {post : Option Nat → ec_S → Prop} {v : Value} {r : Option Nat} {ty : FieldType} (hx : p.tables.exec = Jvm.exec) (hb : c.code = cc) (hr : meth.sig.returnType = some ty) (hty : (∃ n, ty = .object n) ∨ ∃ n, ty = .array n) (hlocks : meth.locks = false) (hV : ew_V D cl cf (ew_A L0 s.heap.size) X L tg A [] H) (hS : va_S (ew_A L0 s.heap.size) s.heap H locs) (hdg : decode cc pc = .ok (.areturn, 1)) (hv : va_rf r = v) (hp : post r (X, L, tg, A)) :
    W p l e R s m args below meth c H locs cells slots (MQ below (em_Qq D cl cf L0 s.heap.size post) args s cells slots (ew_A L0 s.heap.size)) (F0 m pc ls [v]) := by
  subst hv
  exact W.aret hx hb hr hty (va_rf_or r) (fun t ht _ => ⟨⟨r, (X, L, tg, A), rfl, hp, by unfold em_B; rw [ht]; exact hV⟩, hS.F ht⟩) hS.2.2 hdg hlocks
/-- a new object that is an entity at once: all its fields are ints, and 0 -/
theorem em_new {own C : String} {T : u_T} {N ci index : Nat} {Ts : List Cond} (hexec : p.tables.exec = Jvm.exec) (hb : c.code = cc) (hts : ∀ w ∈ Ts, w.before args s = true) (hin : ∀ w ∈ u_ws C T N, w ∈ Ts) (ty : Nat → FieldType) (hty : ∀ k, k < N → parseFieldDescriptor (T k).2.2.1 = some (ty k)) (hown : s.vm.findClass own = some m.cls) (hcl : (Cond.classLink own index C).before args s = true) (hinst : (Cond.instantiable C N).before args s = true) (hini : (Cond.initialized C).before args s = true)
    (hK : va_K D cl tys s) (hV : ew_V D cl cf A0 X L tg A [] H) (hS : va_S A0 H0 H locs) (hA : ∀ q, H0.size ≤ q → A0 q) (hc : cl[ci]? = some (C, T, N)) {fs : List Value} (hfs : ∀ j, j < N → defaultValue (ty j) = vp_V fs j) (hcells : cells + 1 ≤ R.cells) (hslots : slots + N ≤ R.slots)
    (kd id : Nat) (A' : ew_R) (he : ∀ X', cf X' kd id (A' kd id) = .inr (ci, fs)) (hkeep : ∀ q, ∀ b ∈ L, (kd, id) ≠ tg b → cf (ab_X [(q, kd, id)] X) (tg b).1 (tg b).2 (A' (tg b).1 (tg b).2) = cf X (tg b).1 (tg b).2 (A (tg b).1 (tg b).2)) (hnew : ∀ b ∈ L, (kd, id) ≠ tg b) (hdg : decode cc pc = .ok (.new index, 3))
    (kk : ∀ (q : Nat) (X' : Nat → Nat → Nat) (L' : List Nat) (tg' : Nat → Nat × Nat) (H1 : Heap), X' = ab_X [(q, kd, id)] X → (∀ c i a, ew_in X L tg c i a → ew_in X' L' tg' c i a) → ew_in X' L' tg' kd id q → (∀ b ∈ L', b = q ∧ tg' b = (kd, id) ∨ b ∈ L ∧ tg' b = tg b) → ew_V D cl cf A0 X' L' tg' A' [] H1 → va_S A0 H0 H1 locs →
      W p l e R s m args below meth c H1 locs (cells + 1) (slots + N) Q (F0 m (pc + 3) ls (.ref q :: rest))) : W p l e R s m args below meth c H locs cells slots Q (F0 m pc ls rest) := by
  refine va_new hexec hb hts hin ty hty hown hcl hinst hini hK hV.1 hV.2.1 hS hA hc hfs hcells hslots hdg (fun q H1 hP hD hS1 => ?_)
  have hperm : ∀ x, x ∈ ew_w cf X L tg A [(q, .inr (ci, fs))] ↔ x ∈ ew_w cf X L tg A [] ++ [(q, .inr (ci, fs))] := by
    intro x
    unfold ew_w
    simp only [List.mem_append, List.nil_append]
    exact Or.comm
  have hD0 := va_D_mem.mp hD
  have hV1 : ew_V D cl cf A0 X L tg A [(q, .inr (ci, fs))] H1 := by
    refine ⟨va_P_mem.mpr (fun x hx => va_P_mem.mp hP x ((hperm x).mp hx)), va_D_mem.mpr ⟨?_, fun x hx => hD0.2 x ((hperm x).mp hx)⟩, hV.2.2⟩
    have h1 := hD0.1
    unfold ew_w at h1 ⊢
    rw [List.nil_append, List.map_append] at h1
    rw [List.map_append]
    exact (List.perm_append_comm.nodup_iff).mp h1
  obtain ⟨h1, h2, h3⟩ := ew_abs (A' := A') [(q, kd, id)] hV1 (by show _ = [(q, cf _ kd id (A' kd id))]; rw [he]) (by simp) (fun b hb' t ht => by
    rcases List.mem_singleton.mp ht with rfl
    exact hnew b hb') (fun b hb' => hkeep q b hb' (hnew b hb'))
  refine kk q _ _ _ H1 rfl h2 (h3 (q, kd, id) (List.mem_singleton.mpr rfl)) (fun b hb' => ?_) h1 hS1
  rcases List.mem_append.mp hb' with h | h
  · have h9 : b = q := List.mem_singleton.mp h
    rw [h9]
    exact Or.inl ⟨rfl, (h3 (q, kd, id) (List.mem_singleton.mpr rfl)).2.2⟩
  · exact Or.inr ⟨h, (h2 _ _ b ⟨hV.2.2 b h, h, rfl⟩).2.2⟩
end EMM
