/-! Worlds by members: fewer entities; stores of references; fields of a class above. -/
theorem va_P_mem {D : va_G} {cl : List vw_C} {ws : va_W} {H : Heap} : va_P D cl ws H ↔ ∀ q ∈ ws, va_at D cl q H := by
  constructor
  · intro h q hq
    obtain ⟨k, hk⟩ := List.getElem?_of_mem hq
    exact h k q hk
  · intro h k q hk
    exact h q (List.mem_of_getElem? hk)
theorem va_D_mem {A : Nat → Prop} {ws : va_W} : va_D A ws ↔ (ws.map (fun q => q.1)).Nodup ∧ ∀ q ∈ ws, A q.1 := by
  constructor
  · intro h
    refine ⟨?_, fun q hq => ?_⟩
    · rw [List.Nodup, List.pairwise_iff_getElem]
      intro i j hi hj hij q
      rw [List.length_map] at hi hj
      have := h.1 i j _ _ (List.getElem?_eq_getElem hi) (List.getElem?_eq_getElem hj) (by simpa using q)
      omega
    · obtain ⟨k, hk⟩ := List.getElem?_of_mem hq
      exact h.2 k q hk
  · intro h
    refine ⟨fun i j x y hx hy hxy => ?_, fun k q hk => h.2 q (List.mem_of_getElem? hk)⟩
    have hi := (List.getElem?_eq_some_iff.mp hx).1
    have h0 : i < (ws.map (fun q => q.1)).length := by rw [List.length_map]; exact hi
    have h4 : (ws.map (fun q => q.1))[i]? = (ws.map (fun q => q.1))[j]? := by
      rw [List.getElem?_map, List.getElem?_map, hx, hy]
      show some x.1 = some y.1
      rw [hxy]
    exact (List.getElem?_inj h0 h.1).mp h4
section EWF
variable {D : va_G} {cl : List vw_C} {cf : ew_C} {A0 : Nat → Prop} {X : Nat → Nat → Nat} {L : List Nat} {tg : Nat → Nat × Nat} {A A' : ew_R} {ex : va_W} {H : Heap}
/-- some entities are forgotten -/
theorem ew_V.filter (hV : ew_V D cl cf A0 X L tg A ex H) (p : Nat → Bool) : ew_V D cl cf A0 X (L.filter p) tg A ex H := by
  obtain ⟨hP, hD, hX⟩ := hV
  have hsub : List.Sublist (ew_w cf X (L.filter p) tg A ex) (ew_w cf X L tg A ex) := by
    unfold ew_w va_pl
    exact List.Sublist.append (List.Sublist.refl _) (List.Sublist.map _ List.filter_sublist)
  refine ⟨va_P_mem.mpr (fun q hq => va_P_mem.mp hP q (hsub.subset hq)), va_D_mem.mpr ⟨(va_D_mem.mp hD).1.sublist (hsub.map _), fun q hq => (va_D_mem.mp hD).2 q (hsub.subset hq)⟩, fun a ha => hX a (List.mem_filter.mp ha).1⟩
/-- which old ones stay where nw comes -/
def ab_p (nw : List (Nat × Nat × Nat)) (tg : Nat → Nat × Nat) : Nat → Bool := fun a => nw.all (fun t => t.2 != tg a)
def ab_L (nw : List (Nat × Nat × Nat)) (L : List Nat) (tg : Nat → Nat × Nat) : List Nat := nw.map (fun t => t.1) ++ L.filter (ab_p nw tg)
/-- new cells are entities; an old entity of one of their kinds and numbers is forgotten -/
theorem ew_absF (nw : List (Nat × Nat × Nat)) (hV : ew_V D cl cf A0 X L tg A ex H) (hex : ex = nw.map (fun t => (t.1, cf (ab_X nw X) t.2.1 t.2.2 (A' t.2.1 t.2.2)))) (hk : (nw.map (fun t => t.2)).Nodup)
    (hkeep : ∀ c i, (∀ t ∈ nw, t.2 ≠ (c, i)) → cf (ab_X nw X) c i (A' c i) = cf X c i (A c i)) :
    ew_V D cl cf A0 (ab_X nw X) (ab_L nw L tg) (ab_t nw tg) A' [] H ∧ (∀ c i a, (∀ t ∈ nw, t.2 ≠ (c, i)) → ew_in X L tg c i a → ew_in (ab_X nw X) (ab_L nw L tg) (ab_t nw tg) c i a) ∧ ∀ t ∈ nw, ew_in (ab_X nw X) (ab_L nw L tg) (ab_t nw tg) t.2.1 t.2.2 t.1 := by
  have hp : ∀ a ∈ L.filter (ab_p nw tg), ∀ t ∈ nw, t.2 ≠ tg a := by
    intro a ha t ht
    have h1 := (List.mem_filter.mp ha).2
    unfold ab_p at h1
    have h2 := List.all_eq_true.mp h1 t ht
    simpa using h2
  obtain ⟨h1, h2, h3⟩ := ew_abs nw (hV.filter (ab_p nw tg)) hex hk hp (fun a ha => hkeep _ _ (fun t ht => hp a ha t ht))
  refine ⟨h1, fun c i a hn h => h2 c i a ⟨h.1, List.mem_filter.mpr ⟨h.2.1, ?_⟩, h.2.2⟩, h3⟩
  unfold ab_p
  refine List.all_eq_true.mpr (fun t ht => ?_)
  have := hn t ht
  rw [h.2.2]
  simpa using this
end EWF
section EWG
variable {p : Program} {l : Launch} {e : Env} {R : Room} {s : State} {m : MethodId} {args : Array Value} {below : List Frame} {meth : Method} {c : Code} {H : Heap} {locs : List Loc} {cells slots : Nat} {Q : State → Prop}
variable {cc : ByteArray} {pc : Nat} {ls : Array Slot} {rest : List Value} {D : va_G} {cl : List vw_C} {cf : ew_C} {A0 : Nat → Prop} {X : Nat → Nat → Nat} {L : List Nat} {tg : Nat → Nat × Nat} {A : ew_R} {ex : va_W} {tys : List (ClassId × FieldType)} {H0 : Heap}
/-- a field of a class above, by the name of the class below -/
theorem ew_getS (hexec : p.tables.exec = Jvm.exec) (hb : c.code = cc) {own ref C : String} {T : u_T} {N ci index k : Nat} {Ts : List Cond} (hts : ∀ w ∈ Ts, w.before args s = true) (hown : s.vm.findClass own = some m.cls) (hK : va_K D cl tys s) (hV : ew_V D cl cf A0 X L tg A ex H) (hin : ∀ w ∈ u_ws C T N, w ∈ Ts) (hc : cl[ci]? = some (C, T, N)) (hk : k < N) (hlk : Cond.fieldLink own index ref (T k).2.1 (T k).2.2.1 ∈ Ts) (hsm : Cond.sameField ref (T k).1 (T k).2.1 (T k).2.2.1 ∈ Ts) {kd id a : Nat} (hi : ew_in X L tg kd id a) {fs : List Value} (he : cf X kd id (A kd id) = .inr (ci, fs)) {v : Value} (hv : fs[k]? = some v) (hdg : decode cc pc = .ok (.getfield index, 3))
    (kk : W p l e R s m args below meth c H locs cells slots Q (F0 m (pc + 3) ls (v :: rest))) : W p l e R s m args below meth c H locs cells slots Q (F0 m pc ls (.ref a :: rest)) := by
  obtain ⟨q0, hq⟩ := ew_at (cf := cf) (A := A) (ex := ex) hi
  rw [he] at hq
  exact va_get hexec hb hts hin hown hK hV.1 q0 hq hc k hk (hts _ hlk) (fun x h => u_same (hts _ hsm) x h) hv hdg kk
theorem ew_putS (hexec : p.tables.exec = Jvm.exec) (hb : c.code = cc) {own ref C : String} {T : u_T} {N ci index k : Nat} {Ts : List Cond} (hts : ∀ w ∈ Ts, w.before args s = true) (hown : s.vm.findClass own = some m.cls) (hK : va_K D cl tys s) (hV : ew_V D cl cf A0 X L tg A ex H) (hS : va_S A0 H0 H locs) (hin : ∀ w ∈ u_ws C T N, w ∈ Ts) (hc : cl[ci]? = some (C, T, N)) (hk : k < N) (hlk : Cond.fieldLink own index ref (T k).2.1 (T k).2.2.1 ∈ Ts) (hsm : Cond.sameField ref (T k).1 (T k).2.1 (T k).2.2.1 ∈ Ts) {ty0 : Nat → FieldType} (hG : ew_G T N ty0) {kd id a : Nat} (hi : ew_in X L tg kd id a) {fs : List Value} (he : cf X kd id (A kd id) = .inr (ci, fs)) (j : Nat) (x : Int32) {v : Value} (he' : cf X kd id (va_up (A kd id) j x) = .inr (ci, fs.set k v)) (hfin : (T k).2.2.2 = false) {ty : FieldType} (hd : parseFieldDescriptor (T k).2.2.1 = some ty) (hn : narrow ty v = v) (hfit : fits ty v = true) (hl : k < fs.length) (hdg : decode cc pc = .ok (.putfield index, 3))
    (kk : ∀ (H1 : Heap) (locs1 : List Loc), ew_V D cl cf A0 X L tg (up3 A kd id j x) ex H1 → va_S A0 H0 H1 locs1 → W p l e R s m args below meth c H1 locs1 cells slots Q (F0 m (pc + 3) ls rest)) : W p l e R s m args below meth c H locs cells slots Q (F0 m pc ls (v :: .ref a :: rest)) := by
  obtain ⟨q0, hq⟩ := ew_at (cf := cf) (A := A) (ex := ex) hi
  have hq2 := hq
  rw [he] at hq
  exact va_put hexec hb hts hin ty0 hG.1 hG.2 hown hK hV.1 hV.2.1 hS q0 hq hc k hk (hts _ hlk) (fun x h => u_same (hts _ hsm) x h) hfin hd hn hfit hl hdg (fun H1 locs1 hP hD hS1 => kk H1 locs1 (hV.put hi hq2 he' hP hD) hS1)
/-- an entity stored into an array of references (of its own class, or of one that it can be cast to) -/
theorem ew_aast (hexec : p.tables.exec = Jvm.exec) (hb : c.code = cc) (hK : va_K D cl tys s) (hV : ew_V D cl cf A0 X L tg A ex H) (hS : va_S A0 H0 H locs) {kd id a : Nat} (hi : ew_in X L tg kd id a) {E : String} {cA : ClassId} {n : Nat} {f : Nat → Option Nat} (he : cf X kd id (A kd id) = .inl (cA, n, .inr (.inr (.inr (.inr f))))) (t0 : Nat) (ht : tys[t0]? = some (cA, .object E)) {kd2 id2 v ci : Nat} (hi2 : ew_in X L tg kd2 id2 v) {vs : List Value} (he2 : cf X kd2 id2 (A kd2 id2) = .inr (ci, vs)) {r : vw_C} (hc : cl[ci]? = some r) (hca : va_Nw (.castable r.1 E) s) {i : Int32} (hin : vp_in i n) (j : Nat) (x : Int32) (he' : cf X kd id (va_up (A kd id) j x) = .inl (cA, n, .inr (.inr (.inr (.inr (va_up f i.toNatClampNeg (some v))))))) (hdg : decode cc pc = .ok (.aastore, 1))
    (kk : ∀ (H1 : Heap) (locs1 : List Loc), ew_V D cl cf A0 X L tg (up3 A kd id j x) ex H1 → va_S A0 H0 H1 locs1 → W p l e R s m args below meth c H1 locs1 cells slots Q (F0 m (pc + 1) ls rest)) : W p l e R s m args below meth c H locs cells slots Q (F0 m pc ls (.ref v :: .int i :: .ref a :: rest)) := by
  obtain ⟨q0, hq⟩ := ew_at (cf := cf) (A := A) (ex := ex) hi
  obtain ⟨q1, hq1⟩ := ew_at (cf := cf) (A := A) (ex := ex) hi2
  have hq2 := hq
  rw [he] at hq
  rw [he2] at hq1
  exact va_astqO hexec hb hK hV.1 hV.2.1 hS q0 t0 q1 ci hq ht hca hq1 hc hin hdg (fun H1 locs1 hP hD hS1 => kk H1 locs1 (hV.put hi hq2 he' hP hD) hS1)
theorem ew_alen (hexec : p.tables.exec = Jvm.exec) (hb : c.code = cc) (hK : va_K D cl tys s) (hV : ew_V D cl cf A0 X L tg A ex H) {kd id a : Nat} (hi : ew_in X L tg kd id a) {cA : ClassId} {x : vp_A} (he : cf X kd id (A kd id) = .inl (cA, x)) (t0 : Nat) {ty : FieldType} (ht : tys[t0]? = some (cA, ty)) {v : Int32} (hv : Int32.ofNat x.1 = v) (hdg : decode cc pc = .ok (.arraylength, 1))
    (kk : W p l e R s m args below meth c H locs cells slots Q (F0 m (pc + 1) ls (.int v :: rest))) : W p l e R s m args below meth c H locs cells slots Q (F0 m pc ls (.ref a :: rest)) := by
  obtain ⟨q0, hq⟩ := ew_at (cf := cf) (A := A) (ex := ex) hi
  rw [he] at hq
  exact va_alen hexec hb hK hV.1 q0 t0 hq ht hv hdg kk
end EWG
