/-! The worlds of entities: every cell of a side lies at an address X kind number; what it holds is a function of the ints A kind number; L: the addresses, tg: an address's kind and number; ex: cells that are not yet entities. -/
abbrev ew_R : Type := Nat → Nat → Nat → Int32
abbrev ew_C : Type := (Nat → Nat → Nat) → Nat → Nat → (Nat → Int32) → va_E
def up3 (A : ew_R) (c i k : Nat) (x : Int32) : ew_R := va_up A c (va_up (A c) i (va_up (A c i) k x))
theorem up3_row (A : ew_R) (c i k : Nat) (x : Int32) : up3 A c i k x c i = va_up (A c i) k x := by simp [up3, va_up]
theorem up3_self (A : ew_R) (c i k : Nat) (x : Int32) : up3 A c i k x c i k = x := by simp [up3, va_up]
theorem up3_oth (A : ew_R) {c i c' i' : Nat} (k : Nat) (x : Int32) (h : ¬ (c' = c ∧ i' = i)) : up3 A c i k x c' i' = A c' i' := by
  unfold up3
  by_cases h1 : c' = c
  · subst h1
    have h2 : i' ≠ i := fun q => h ⟨rfl, q⟩
    rw [va_up_self, va_up_ne _ _ h2]
  · rw [va_up_ne _ _ h1]
theorem up3_ne (A : ew_R) {c i k c' i' k' : Nat} (x : Int32) (h : ¬ (c' = c ∧ i' = i ∧ k' = k)) : up3 A c i k x c' i' k' = A c' i' k' := by
  by_cases h1 : c' = c ∧ i' = i
  · obtain ⟨rfl, rfl⟩ := h1
    rw [up3_row, va_up_ne _ _ (fun q => h ⟨rfl, rfl, q⟩)]
  · rw [up3_oth A k x h1]
def ew_f (cf : ew_C) (X : Nat → Nat → Nat) (A : ew_R) (tg : Nat → Nat × Nat) : Nat → va_E := fun a => cf X (tg a).1 (tg a).2 (A (tg a).1 (tg a).2)
def ew_w (cf : ew_C) (X : Nat → Nat → Nat) (L : List Nat) (tg : Nat → Nat × Nat) (A : ew_R) (ex : va_W) : va_W := ex ++ va_pl L (ew_f cf X A tg)
/-- the entity c i lies at a -/
def ew_in (X : Nat → Nat → Nat) (L : List Nat) (tg : Nat → Nat × Nat) (c i a : Nat) : Prop := X c i = a ∧ a ∈ L ∧ tg a = (c, i)
def ew_V (D : va_G) (cl : List vw_C) (cf : ew_C) (A0 : Nat → Prop) (X : Nat → Nat → Nat) (L : List Nat) (tg : Nat → Nat × Nat) (A : ew_R) (ex : va_W) (H : Heap) : Prop :=
  va_P D cl (ew_w cf X L tg A ex) H ∧ va_D A0 (ew_w cf X L tg A ex) ∧ ∀ a ∈ L, X (tg a).1 (tg a).2 = a
/-- what a method may write: its own cells, and new ones -/
def ew_A (L : List Nat) (sz : Nat) : Nat → Prop := fun q => q ∈ L ∨ sz ≤ q
section EWP
variable {D : va_G} {cl : List vw_C} {cf : ew_C} {A0 : Nat → Prop} {X : Nat → Nat → Nat} {L : List Nat} {tg : Nat → Nat × Nat} {A : ew_R} {ex : va_W} {H H1 : Heap} {c i a : Nat}
theorem ew_at (hi : ew_in X L tg c i a) : ∃ q0 : Nat, (ew_w cf X L tg A ex)[q0]? = some (a, cf X c i (A c i)) := by
  obtain ⟨k, hk⟩ := va_pl_get (X := ex) (f := ew_f cf X A tg) hi.2.1
  refine ⟨k, ?_⟩
  unfold ew_w
  rw [hk]
  unfold ew_f
  rw [hi.2.2]
theorem ew_mem {a : Nat} (h : a ∈ L) : ∃ q0 : Nat, (ew_w cf X L tg A ex)[q0]? = some (a, ew_f cf X A tg a) := va_pl_get (X := ex) (f := ew_f cf X A tg) h
theorem ew_pl {f g : Nat → va_E} (h : ∀ a ∈ L, f a = g a) : va_pl L f = va_pl L g := by
  unfold va_pl
  exact List.map_congr_left (fun a ha => by rw [h a ha])
theorem ew_set (hV : ew_V D cl cf A0 X L tg A ex H) (hi : ew_in X L tg c i a) {q0 : Nat} (hq : (ew_w cf X L tg A ex)[q0]? = some (a, cf X c i (A c i))) {k : Nat} {x : Int32} {e : va_E} (he : cf X c i (va_up (A c i) k x) = e) :
    (ew_w cf X L tg A ex).set q0 (a, e) = ew_w cf X L tg (up3 A c i k x) ex := by
  obtain ⟨hP, hD, hX⟩ := hV
  have hq' : (ex ++ va_pl L (ew_f cf X A tg))[q0]? = some (a, ew_f cf X A tg a) := by
    unfold ew_w at hq
    rw [hq]
    unfold ew_f
    rw [hi.2.2]
  unfold ew_w at hD ⊢
  rw [va_pl_set hD hi.2.1 hq']
  congr 1
  refine ew_pl (fun b hb => ?_)
  by_cases hba : b = a
  · subst hba
    rw [va_up_self]
    unfold ew_f
    rw [hi.2.2]
    show e = cf X c i (up3 A c i k x c i)
    rw [up3_row, he]
  · rw [va_up_ne _ _ hba]
    unfold ew_f
    have hn : ¬ ((tg b).1 = c ∧ (tg b).2 = i) := fun ⟨h1, h2⟩ => hba (by rw [← hX b hb, h1, h2, hi.1])
    rw [up3_oth A k x hn]
theorem ew_V.put (hV : ew_V D cl cf A0 X L tg A ex H) (hi : ew_in X L tg c i a) {q0 : Nat} (hq : (ew_w cf X L tg A ex)[q0]? = some (a, cf X c i (A c i))) {k : Nat} {x : Int32} {e : va_E} (he : cf X c i (va_up (A c i) k x) = e)
    (hP : va_P D cl ((ew_w cf X L tg A ex).set q0 (a, e)) H1) (hD : va_D A0 ((ew_w cf X L tg A ex).set q0 (a, e))) : ew_V D cl cf A0 X L tg (up3 A c i k x) ex H1 := by
  rw [ew_set hV hi hq he] at hP hD
  exact ⟨hP, hD, hV.2.2⟩
theorem ew_V.lt (hV : ew_V D cl cf A0 X L tg A ex H) {a : Nat} (h : a ∈ L) : a < H.size := va_pl_lt hV.1 h
theorem ew_V.kept (hV : ew_V D cl cf A0 X L tg A [] H) (h : ∀ a ∈ L, H1[a]? = H[a]?) : ew_V D cl cf A0 X L tg A [] H1 := by
  refine ⟨hV.1.kept (fun k q hk => ?_), hV.2⟩
  unfold ew_w at hk
  rw [List.nil_append] at hk
  unfold va_pl at hk
  obtain ⟨b, hb, rfl⟩ := List.mem_map.mp (List.mem_of_getElem? hk)
  exact h b hb
theorem ew_V.reg (hV : ew_V D cl cf A0 X L tg A [] H) {B : Nat → Prop} (h : ∀ a ∈ L, B a) : ew_V D cl cf B X L tg A [] H := by
  refine ⟨hV.1, hV.2.1.weaken (fun k q hk _ => ?_), hV.2.2⟩
  unfold ew_w at hk
  rw [List.nil_append] at hk
  unfold va_pl at hk
  obtain ⟨b, hb, rfl⟩ := List.mem_map.mp (List.mem_of_getElem? hk)
  exact h b hb
theorem ew_V.own (hV : ew_V D cl cf A0 X L tg A ex H) {a : Nat} (h : a ∈ L) : A0 a := by
  obtain ⟨k, hk⟩ := ew_mem (cf := cf) (X := X) (tg := tg) (A := A) (ex := ex) h
  exact hV.2.1.2 k _ hk
theorem ew_V.reg0 (hV : ew_V D cl cf A0 X L tg A [] H) : ew_V D cl cf (fun _ => True) X L tg A [] H := hV.reg (fun _ _ => trivial)
theorem ew_V.regA (hV : ew_V D cl cf A0 X L tg A [] H) (n : Nat) : ew_V D cl cf (ew_A L n) X L tg A [] H := hV.reg (fun _ h => Or.inl h)
end EWP
section EWR
variable {p : Program} {l : Launch} {e : Env} {R : Room} {s : State} {m : MethodId} {args : Array Value} {below : List Frame} {meth : Method} {c : Code} {H : Heap} {locs : List Loc} {cells slots : Nat} {Q : State → Prop}
variable {cc : ByteArray} {pc : Nat} {ls : Array Slot} {rest : List Value} {D : va_G} {cl : List vw_C} {cf : ew_C} {A0 : Nat → Prop} {X : Nat → Nat → Nat} {L : List Nat} {tg : Nat → Nat × Nat} {A : ew_R} {ex : va_W} {tys : List (ClassId × FieldType)} {H0 : Heap}
/-- a field's place: its class's words, its class's number, its slot, its link -/
def ew_F (Ts : List Cond) (cl : List vw_C) (own : String) (index ci : Nat) (C : String) (T : u_T) (N k : Nat) : Prop :=
  (∀ w ∈ u_ws C T N, w ∈ Ts) ∧ cl[ci]? = some (C, T, N) ∧ k < N ∧ Cond.fieldLink own index (T k).1 (T k).2.1 (T k).2.2.1 ∈ Ts
/-- a class's table: the types, and the names apart -/
def ew_G (T : u_T) (N : Nat) (ty : Nat → FieldType) : Prop := (∀ k, k < N → parseFieldDescriptor (T k).2.2.1 = some (ty k)) ∧ ∀ a, a < N → ∀ b, b < N → a ≠ b → (T a).2.1 ≠ (T b).2.1
theorem ew_get (hexec : p.tables.exec = Jvm.exec) (hb : c.code = cc) {own C : String} {T : u_T} {N ci index k : Nat} {Ts : List Cond} (hts : ∀ w ∈ Ts, w.before args s = true) (hown : s.vm.findClass own = some m.cls) (hK : va_K D cl tys s) (hV : ew_V D cl cf A0 X L tg A ex H) (hF : ew_F Ts cl own index ci C T N k) {kd id a : Nat} (hi : ew_in X L tg kd id a) {fs : List Value} (he : cf X kd id (A kd id) = .inr (ci, fs)) {v : Value} (hv : fs[k]? = some v) (hdg : decode cc pc = .ok (.getfield index, 3))
    (kk : W p l e R s m args below meth c H locs cells slots Q (F0 m (pc + 3) ls (v :: rest))) : W p l e R s m args below meth c H locs cells slots Q (F0 m pc ls (.ref a :: rest)) := by
  obtain ⟨q0, hq⟩ := ew_at (cf := cf) (A := A) (ex := ex) hi
  rw [he] at hq
  exact va_get hexec hb hts hF.1 hown hK hV.1 q0 hq hF.2.1 k hF.2.2.1 (hts _ hF.2.2.2) (fun _ h => h) hv hdg kk
theorem ew_put (hexec : p.tables.exec = Jvm.exec) (hb : c.code = cc) {own C : String} {T : u_T} {N ci index k : Nat} {Ts : List Cond} (hts : ∀ w ∈ Ts, w.before args s = true) (hown : s.vm.findClass own = some m.cls) (hK : va_K D cl tys s) (hV : ew_V D cl cf A0 X L tg A ex H) (hS : va_S A0 H0 H locs) (hF : ew_F Ts cl own index ci C T N k) {ty0 : Nat → FieldType} (hG : ew_G T N ty0) {kd id a : Nat} (hi : ew_in X L tg kd id a) {fs : List Value} (he : cf X kd id (A kd id) = .inr (ci, fs)) (j : Nat) (x : Int32) {v : Value} (he' : cf X kd id (va_up (A kd id) j x) = .inr (ci, fs.set k v)) (hfin : (T k).2.2.2 = false) {ty : FieldType} (hd : parseFieldDescriptor (T k).2.2.1 = some ty) (hn : narrow ty v = v) (hfit : fits ty v = true) (hl : k < fs.length) (hdg : decode cc pc = .ok (.putfield index, 3))
    (kk : ∀ (H1 : Heap) (locs1 : List Loc), ew_V D cl cf A0 X L tg (up3 A kd id j x) ex H1 → va_S A0 H0 H1 locs1 → W p l e R s m args below meth c H1 locs1 cells slots Q (F0 m (pc + 3) ls rest)) : W p l e R s m args below meth c H locs cells slots Q (F0 m pc ls (v :: .ref a :: rest)) := by
  obtain ⟨q0, hq⟩ := ew_at (cf := cf) (A := A) (ex := ex) hi
  have hq2 := hq
  rw [he] at hq
  exact va_put hexec hb hts hF.1 ty0 hG.1 hG.2 hown hK hV.1 hV.2.1 hS q0 hq hF.2.1 k hF.2.2.1 (hts _ hF.2.2.2) (fun _ h => h) hfin hd hn hfit hl hdg (fun H1 locs1 hP hD hS1 => kk H1 locs1 (hV.put hi hq2 he' hP hD) hS1)
theorem ew_iald (hexec : p.tables.exec = Jvm.exec) (hb : c.code = cc) (hK : va_K D cl tys s) (hV : ew_V D cl cf A0 X L tg A ex H) {kd id a : Nat} (hi : ew_in X L tg kd id a) {cA : ClassId} {n : Nat} {f : Nat → Int32} (he : cf X kd id (A kd id) = .inl (cA, n, .inl f)) (t0 : Nat) (ht : tys[t0]? = some (cA, .int)) {i : Int32} (hin : vp_in i n) {v : Int32} (hv : f i.toNatClampNeg = v) (hdg : decode cc pc = .ok (.iaload, 1))
    (kk : W p l e R s m args below meth c H locs cells slots Q (F0 m (pc + 1) ls (.int v :: rest))) : W p l e R s m args below meth c H locs cells slots Q (F0 m pc ls (.int i :: .ref a :: rest)) := by
  obtain ⟨q0, hq⟩ := ew_at (cf := cf) (A := A) (ex := ex) hi
  rw [he] at hq
  subst hv
  exact va_iald hexec hb hK hV.1 q0 t0 hq ht hin hdg kk
theorem ew_zald (hexec : p.tables.exec = Jvm.exec) (hb : c.code = cc) (hK : va_K D cl tys s) (hV : ew_V D cl cf A0 X L tg A ex H) {kd id a : Nat} (hi : ew_in X L tg kd id a) {cA : ClassId} {n : Nat} {f : Nat → Int32} (he : cf X kd id (A kd id) = .inl (cA, n, .inl f)) (t0 : Nat) (ht : tys[t0]? = some (cA, .boolean)) {i : Int32} (hin : vp_in i n) {v : Int32} (hv : f i.toNatClampNeg = v) (hdg : decode cc pc = .ok (.baload, 1))
    (kk : W p l e R s m args below meth c H locs cells slots Q (F0 m (pc + 1) ls (.int v :: rest))) : W p l e R s m args below meth c H locs cells slots Q (F0 m pc ls (.int i :: .ref a :: rest)) := by
  obtain ⟨q0, hq⟩ := ew_at (cf := cf) (A := A) (ex := ex) hi
  rw [he] at hq
  subst hv
  exact va_zald hexec hb hK hV.1 q0 t0 hq ht hin hdg kk
theorem ew_aald (hexec : p.tables.exec = Jvm.exec) (hb : c.code = cc) (hK : va_K D cl tys s) (hV : ew_V D cl cf A0 X L tg A ex H) {kd id a : Nat} (hi : ew_in X L tg kd id a) {cA : ClassId} {C : String} {n : Nat} {f : Nat → Option Nat} (he : cf X kd id (A kd id) = .inl (cA, n, .inr (.inr (.inr (.inr f))))) (t0 : Nat) (ht : tys[t0]? = some (cA, .object C)) {i : Int32} (hin : vp_in i n) {v : Value} (hv : va_rf (f i.toNatClampNeg) = v) (hdg : decode cc pc = .ok (.aaload, 1))
    (kk : W p l e R s m args below meth c H locs cells slots Q (F0 m (pc + 1) ls (v :: rest))) : W p l e R s m args below meth c H locs cells slots Q (F0 m pc ls (.int i :: .ref a :: rest)) := by
  obtain ⟨q0, hq⟩ := ew_at (cf := cf) (A := A) (ex := ex) hi
  rw [he] at hq
  subst hv
  exact va_aldq hexec hb hK hV.1 q0 t0 hq ht hin hdg kk
theorem ew_iast (hexec : p.tables.exec = Jvm.exec) (hb : c.code = cc) (hK : va_K D cl tys s) (hV : ew_V D cl cf A0 X L tg A ex H) (hS : va_S A0 H0 H locs) {kd id a : Nat} (hi : ew_in X L tg kd id a) {cA : ClassId} {n : Nat} {f : Nat → Int32} (he : cf X kd id (A kd id) = .inl (cA, n, .inl f)) (t0 : Nat) (ht : tys[t0]? = some (cA, .int)) {i : Int32} {x : Int32} (hin : vp_in i n) (j : Nat) (hj : i.toNatClampNeg = j) (he' : cf X kd id (va_up (A kd id) j x) = .inl (cA, n, .inl (upd f j x))) (hdg : decode cc pc = .ok (.iastore, 1))
    (kk : ∀ (H1 : Heap) (locs1 : List Loc), ew_V D cl cf A0 X L tg (up3 A kd id j x) ex H1 → va_S A0 H0 H1 locs1 → W p l e R s m args below meth c H1 locs1 cells slots Q (F0 m (pc + 1) ls rest)) : W p l e R s m args below meth c H locs cells slots Q (F0 m pc ls (.int x :: .int i :: .ref a :: rest)) := by
  obtain ⟨q0, hq⟩ := ew_at (cf := cf) (A := A) (ex := ex) hi
  have hq2 := hq
  rw [he] at hq
  subst hj
  exact va_iast hexec hb hK hV.1 hV.2.1 hS q0 t0 hq ht hin hdg (fun H1 locs1 hP hD hS1 => kk H1 locs1 (hV.put hi hq2 he' hP hD) hS1)
theorem ew_zast (hexec : p.tables.exec = Jvm.exec) (hb : c.code = cc) (hK : va_K D cl tys s) (hV : ew_V D cl cf A0 X L tg A ex H) (hS : va_S A0 H0 H locs) {kd id a : Nat} (hi : ew_in X L tg kd id a) {cA : ClassId} {n : Nat} {f : Nat → Int32} (he : cf X kd id (A kd id) = .inl (cA, n, .inl f)) (t0 : Nat) (ht : tys[t0]? = some (cA, .boolean)) {i : Int32} {x : Int32} (hin : vp_in i n) (hx : vp_nar .boolean x = x) (j : Nat) (hj : i.toNatClampNeg = j) (he' : cf X kd id (va_up (A kd id) j x) = .inl (cA, n, .inl (upd f j x))) (hdg : decode cc pc = .ok (.bastore, 1))
    (kk : ∀ (H1 : Heap) (locs1 : List Loc), ew_V D cl cf A0 X L tg (up3 A kd id j x) ex H1 → va_S A0 H0 H1 locs1 → W p l e R s m args below meth c H1 locs1 cells slots Q (F0 m (pc + 1) ls rest)) : W p l e R s m args below meth c H locs cells slots Q (F0 m pc ls (.int x :: .int i :: .ref a :: rest)) := by
  obtain ⟨q0, hq⟩ := ew_at (cf := cf) (A := A) (ex := ex) hi
  have hq2 := hq
  rw [he] at hq
  subst hj
  refine va_zast hexec hb hK hV.1 hV.2.1 hS q0 t0 hq ht hin hdg (fun H1 locs1 hP hD hS1 => ?_)
  rw [hx] at hP hD
  exact kk H1 locs1 (hV.put hi hq2 he' hP hD) hS1
end EWR
section EWX
variable {p : Program} {l : Launch} {e : Env} {R : Room} {s : State} {m : MethodId} {args : Array Value} {below : List Frame} {meth : Method} {c : Code} {H : Heap} {locs : List Loc} {cells slots : Nat} {Q : State → Prop}
variable {pc : Nat} {ls : Array Slot} {rest st0 : List Value} {a : Array Value} {A0 : Nat → Prop} {H0 : Heap} {mc ms : Nat}
variable {D : va_G} {cl : List vw_C} {cf : ew_C} {X : Nat → Nat → Nat} {L : List Nat} {tg : Nat → Nat × Nat} {A : ew_R} {tys : List (ClassId × FieldType)}
theorem ew_hA (hV : ew_V D cl cf A0 X L tg A [] H) (q : Nat) (h1 : q < H.size) (h : ew_A L H.size q) : A0 q := by
  rcases h with h | h
  · exact hV.own h
  · omega
theorem ew_hf (hV : ew_V D cl cf A0 X L tg A [] H) (hS : va_S A0 H0 H locs) (hA : ∀ q, H0.size ≤ q → A0 q) (q : Nat) (h : ew_A L H.size q) : A0 q := by
  rcases h with h | h
  · exact hV.own h
  · exact hA q (Nat.le_trans hS.1 h)
/-- a method's start, where nothing is made and the addresses stay: 'er' -/
def er_Pc (D : va_G) (cl : List vw_C) (tys : List (ClassId × FieldType)) (cf : ew_C) (X : Nat → Nat → Nat) (L : List Nat) (tg : Nat → Nat × Nat) (A : ew_R) (sz : Nat) (av : List Value) : Array Value → State → Prop := va_Pc av (fun U => U.heap.size = sz ∧ ew_V D cl cf (fun _ => True) X L tg A [] U.heap ∧ va_K D cl tys U)
def er_B (D : va_G) (cl : List vw_C) (cf : ew_C) (X : Nat → Nat → Nat) (L : List Nat) (tg : Nat → Nat × Nat) (sz : Nat) : ew_R → State → Prop := fun u t => ew_V D cl cf (ew_A L sz) X L tg u [] t.heap
def er_Qi (D : va_G) (cl : List vw_C) (cf : ew_C) (X : Nat → Nat → Nat) (L : List Nat) (tg : Nat → Nat × Nat) (sz : Nat) (post : Int32 → ew_R → Prop) : Array Value → State → Outcome → State → Prop := va_Qi post (er_B D cl cf X L tg sz) (ew_A L sz)
def er_Qv (D : va_G) (cl : List vw_C) (cf : ew_C) (X : Nat → Nat → Nat) (L : List Nat) (tg : Nat → Nat × Nat) (sz : Nat) (post : ew_R → Prop) : Array Value → State → Outcome → State → Prop := va_Qv post (er_B D cl cf X L tg sz) (ew_A L sz)
theorem er_blind {sz : Nat} {av : List Value} : FrameBlind (er_Pc D cl tys cf X L tg A sz av) := fun a U g mk q => by
  obtain ⟨q0, q1, qV, qK⟩ := q
  exact ⟨q0, q1, qV, va_K.moved (u := U) (U := U.calling g mk a) (Vm.Alike.refl U.vm) qK⟩
theorem er_preS {As : List Value} (hK : va_K D cl tys s) (hV : ew_V D cl cf A0 X L tg A [] H) : PreS s H (er_Pc D cl tys cf X L tg A H.size As) As :=
  ⟨er_blind, fun U hU hW => ⟨rfl, by rw [hU], by rw [hU]; exact hV.reg0, va_K.moved hW.alike hK⟩⟩
theorem er_preV {As : List Value} {C : String} {T : u_T} {N ci kd id b : Nat} {fs : List Value} (hK : va_K D cl tys s) (hV : ew_V D cl cf A0 X L tg A [] H) (hi : ew_in X L tg kd id b) (he : cf X kd id (A kd id) = .inr (ci, fs)) (hc : cl[ci]? = some (C, T, N)) : PreV s H C b (er_Pc D cl tys cf X L tg A H.size (.ref b :: As)) As := by
  obtain ⟨q0, hq⟩ := ew_at (cf := cf) (A := A) (ex := []) hi
  rw [he] at hq
  exact ⟨er_blind, va_recv hK hV.1 hc hq, fun U hU hW => ⟨rfl, by rw [hU], by rw [hU]; exact hV.reg0, va_K.moved hW.alike hK⟩⟩
theorem er_calli {post : Int32 → ew_R → Prop} (hr : va_Run p l e R s m args below meth c H locs cells slots mc ms (F0 m pc ls st0) rest (er_Qi D cl cf X L tg H.size post a) (ew_A L H.size)) (hV : ew_V D cl cf A0 X L tg A [] H) (hS : va_S A0 H0 H locs) (hA : ∀ q, H0.size ≤ q → A0 q)
    (kk : ∀ (r : Int32) (u : ew_R) (H1 : Heap) (locs1 : List Loc), post r u → ew_V D cl cf A0 X L tg u [] H1 → va_S A0 H0 H1 locs1 → W p l e R s m args below meth c H1 locs1 (cells + mc) (slots + ms) Q (F0 m (pc + 3) ls (.int r :: rest))) : W p l e R s m args below meth c H locs cells slots Q (F0 m pc ls st0) :=
  va_calli hr hS (ew_hA hV) (ew_hf hV hS hA) (fun r u t H1 locs1 ht _ hp hB _ _ hS1 => kk r u H1 locs1 hp (by rw [← ht]; exact ew_V.reg hB (fun _ h => hV.own h)) hS1)
theorem er_callv {post : ew_R → Prop} (hr : va_Run p l e R s m args below meth c H locs cells slots mc ms (F0 m pc ls st0) rest (er_Qv D cl cf X L tg H.size post a) (ew_A L H.size)) (hV : ew_V D cl cf A0 X L tg A [] H) (hS : va_S A0 H0 H locs) (hA : ∀ q, H0.size ≤ q → A0 q)
    (kk : ∀ (u : ew_R) (H1 : Heap) (locs1 : List Loc), post u → ew_V D cl cf A0 X L tg u [] H1 → va_S A0 H0 H1 locs1 → W p l e R s m args below meth c H1 locs1 (cells + mc) (slots + ms) Q (F0 m (pc + 3) ls rest)) : W p l e R s m args below meth c H locs cells slots Q (F0 m pc ls st0) :=
  va_callv hr hS (ew_hA hV) (ew_hf hV hS hA) (fun u t H1 locs1 ht _ hp hB _ _ hS1 => kk u H1 locs1 hp (by rw [← ht]; exact ew_V.reg hB (fun _ h => hV.own h)) hS1)
end EWX
section EWM
variable {l : Launch} {D : va_G} {cl : List vw_C} {cf : ew_C} {X : Nat → Nat → Nat} {L : List Nat} {tg : Nat → Nat × Nat} {A : ew_R} {tys : List (ClassId × FieldType)}
/-- a contract's head: what holds at the method's entry -/
theorem er_met {y : MethodName} {ws ws' : List Cond} {rm : Room} {Qc : Array Value → State → Outcome → State → Prop} {mc ms sz maxL : Nat} {free : Addr → Prop} {cc : ByteArray} {ret : Option FieldType} {av : List Value} (hy : plainName y.cls = true) (hw : ws = Cond.code y cc maxL ret :: ws') (hlen : (lg_sl av).length ≤ maxL)
    (body : ∀ (p : Program) (e : Env) (s : State) (m : MethodId) (below : List Frame) (meth : Method) (c : Code) (ls : Array Slot), p.tables.exec = Jvm.exec → c.code = cc → meth.sig.returnType = ret → (∀ w ∈ ws', w.before av.toArray s = true) → s.vm.findClass y.cls = some m.cls → meth.locks = false → c.maxLocals = maxL →
      ew_V D cl cf (ew_A L s.heap.size) X L tg A [] s.heap → va_K D cl tys s → va_S (ew_A L s.heap.size) s.heap s.heap [] → (∀ q, s.heap.size ≤ q → ew_A L s.heap.size q) → lv_has ls maxL (lv_args 0 av) → s.heap.size = sz →
      W p l e rm s m av.toArray below meth c s.heap [] 0 0 (MQ below Qc av.toArray s mc ms free) (F0 m 0 ls [])) : Met l y ws rm (er_Pc D cl tys cf X L tg A sz av) Qc mc ms free := by
  refine Met.ofW (cc := cc) (maxL := maxL) (ret := ret) hy hw ?_
  intro p e s m args below meth c s₁ B hml hv
  obtain ⟨rfl, hsz, hV, hK⟩ := hv
  have hl := lv_entry av (n := maxL) hlen
  rw [lg_entry_eq]
  generalize (lg_sl av ++ List.replicate (maxL - (lg_sl av).length) Slot.unset).toArray = ls at hl ⊢
  exact body p e s m below meth c ls B.exec B.bytes B.returns (fun w hw2 => atoms_spec (ws := ws) B.pre w (by rw [hw]; exact List.mem_cons_of_mem _ hw2)) (findClass_of_methodNamed B.named) B.notSynchronized hml (hV.regA _) hK va_S.rf (fun q h => Or.inr h) hl hsz
variable {p : Program} {e : Env} {R : Room} {s : State} {m : MethodId} {args : Array Value} {below : List Frame} {meth : Method} {c : Code} {H : Heap} {locs : List Loc} {cells slots : Nat} {cc : ByteArray} {pc : Nat} {ls : Array Slot}
theorem er_iret {post : Int32 → ew_R → Prop} {v : Int32} (hx : p.tables.exec = Jvm.exec) (hb : c.code = cc) (hr : meth.sig.returnType = some .int) (hlocks : meth.locks = false) (hV : ew_V D cl cf (ew_A L s.heap.size) X L tg A [] H) (hS : va_S (ew_A L s.heap.size) s.heap H locs) (hdg : decode cc pc = .ok (.ireturn, 1)) (hp : post v A) :
    W p l e R s m args below meth c H locs cells slots (MQ below (er_Qi D cl cf X L tg s.heap.size post) args s cells slots (ew_A L s.heap.size)) (F0 m pc ls [.int v]) :=
  W.iret hx hb hr (fun t ht _ => ⟨⟨v, A, rfl, hp, by unfold er_B; rw [ht]; exact hV⟩, hS.F ht⟩) hS.2.2 hdg hlocks
theorem er_zret {post : Int32 → ew_R → Prop} {v : Int32} (hx : p.tables.exec = Jvm.exec) (hb : c.code = cc) (hr : meth.sig.returnType = some .boolean) (hlocks : meth.locks = false) (hV : ew_V D cl cf (ew_A L s.heap.size) X L tg A [] H) (hS : va_S (ew_A L s.heap.size) s.heap H locs) (hdg : decode cc pc = .ok (.ireturn, 1)) (hn : narrow .boolean (.int v) = .int v) (hp : post v A) :
    W p l e R s m args below meth c H locs cells slots (MQ below (er_Qi D cl cf X L tg s.heap.size post) args s cells slots (ew_A L s.heap.size)) (F0 m pc ls [.int v]) :=
  W.zret hx hb hr hn (fun t ht _ => ⟨⟨v, A, rfl, hp, by unfold er_B; rw [ht]; exact hV⟩, hS.F ht⟩) hS.2.2 hdg hlocks
theorem er_vret {post : ew_R → Prop} (hx : p.tables.exec = Jvm.exec) (hb : c.code = cc) (hr : meth.sig.returnType = none) (hlocks : meth.locks = false) (hV : ew_V D cl cf (ew_A L s.heap.size) X L tg A [] H) (hS : va_S (ew_A L s.heap.size) s.heap H locs) (hdg : decode cc pc = .ok (.return_, 1)) (hp : post A) :
    W p l e R s m args below meth c H locs cells slots (MQ below (er_Qv D cl cf X L tg s.heap.size post) args s cells slots (ew_A L s.heap.size)) (F0 m pc ls []) :=
  W.vret hx hb hr (fun t ht _ => ⟨⟨A, rfl, hp, by unfold er_B; rw [ht]; exact hV⟩, hS.F ht⟩) hS.2.2 hdg hlocks
end EWM
section EWT
variable {p : Program} {l : Launch} {e : Env} {R : Room} {s : State} {m : MethodId} {args : Array Value} {below : List Frame} {meth : Method} {c : Code} {H : Heap} {locs : List Loc} {cells slots : Nat} {Q : State → Prop} {pc : Nat} {ls : Array Slot} {rest : List Value}
/-- a number on the stack by another name -/
theorem lv_toe {x y : Int32} (h : x = y) (k : W p l e R s m args below meth c H locs cells slots Q (F0 m pc ls (.int y :: rest))) : W p l e R s m args below meth c H locs cells slots Q (F0 m pc ls (.int x :: rest)) := by
  subst h
  exact k
end EWT
