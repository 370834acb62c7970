/-! A new array that is an entity at once; a row of references copied from one array into another. -/
/-- one entity is new: the others stay -/
def em_one (kd id : Nat) (X : Nat → Nat → Nat) (L : List Nat) (tg : Nat → Nat × Nat) (X' : Nat → Nat → Nat) (L' : List Nat) (tg' : Nat → Nat × Nat) : Prop := (∀ c i, ¬ (c = kd ∧ i = id) → X' c i = X c i) ∧ (∀ c i a, ew_in X L tg c i a → ew_in X' L' tg' c i a) ∧ ew_in X' L' tg' kd id (X' kd id) ∧ ∀ b ∈ L', tg' b = (kd, id) ∨ b ∈ L ∧ tg' b = tg b
section EMQ
variable {l : Launch} {D : va_G} {cl : List vw_C} {cf : ew_C} {X : Nat → Nat → Nat} {L : List Nat} {tg : Nat → Nat × Nat} {A : ew_R} {tys : List (ClassId × FieldType)}
variable {p : Program} {e : Env} {R : Room} {s : State} {m : MethodId} {args : Array Value} {below : List Frame} {meth : Method} {c : Code} {H : Heap} {locs : List Loc} {cells slots : Nat} {cc : ByteArray} {pc : Nat} {ls : Array Slot} {A0 : Nat → Prop} {H0 : Heap} {rest : List Value} {Q : State → Prop}
theorem em_abs1 {q : Nat} {e : va_E} {H1 : Heap} (hX : ∀ a ∈ L, X (tg a).1 (tg a).2 = a) (hP : va_P D cl (ew_w cf X L tg A [] ++ [(q, e)]) H1) (hD : va_D A0 (ew_w cf X L tg A [] ++ [(q, e)])) (kd id : Nat) (A' : ew_R) (he : ∀ X', cf X' kd id (A' kd id) = e) (hkeep : ∀ b ∈ L, (kd, id) ≠ tg b → cf (ab_X [(q, kd, id)] X) (tg b).1 (tg b).2 (A' (tg b).1 (tg b).2) = cf X (tg b).1 (tg b).2 (A (tg b).1 (tg b).2)) (hnew : ∀ b ∈ L, (kd, id) ≠ tg b) :
    ∃ (X' : Nat → Nat → Nat) (L' : List Nat) (tg' : Nat → Nat × Nat), X' kd id = q ∧ em_one kd id X L tg X' L' tg' ∧ ew_V D cl cf A0 X' L' tg' A' [] H1 := by
  have hperm : ∀ x, x ∈ ew_w cf X L tg A [(q, e)] ↔ x ∈ ew_w cf X L tg A [] ++ [(q, e)] := by
    intro x
    unfold ew_w
    simp only [List.mem_append, List.nil_append]
    exact Or.comm
  have hD0 := va_D_mem.mp hD
  have hV1 : ew_V D cl cf A0 X L tg A [(q, e)] H1 := by
    refine ⟨va_P_mem.mpr (fun x hx => va_P_mem.mp hP x ((hperm x).mp hx)), va_D_mem.mpr ⟨?_, fun x hx => hD0.2 x ((hperm x).mp hx)⟩, hX⟩
    have h1 := hD0.1
    unfold ew_w at h1 ⊢
    rw [List.nil_append, List.map_append] at h1
    rw [List.map_append]
    exact (List.perm_append_comm.nodup_iff).mp h1
  obtain ⟨h1, h2, h3⟩ := ew_abs (A' := A') [(q, kd, id)] hV1 (by show _ = [(q, cf _ kd id (A' kd id))]; rw [he]) (by simp) (fun b hb' t ht => by
    rcases List.mem_singleton.mp ht with rfl
    exact hnew b hb') (fun b hb' => hkeep b hb' (hnew b hb'))
  have h4 := h3 (q, kd, id) (List.mem_singleton.mpr rfl)
  refine ⟨_, _, _, h4.1, ⟨fun c i hn => ab_X_old (fun t ht z => ?_), h2, h4.self, fun b hb' => ?_⟩, h1⟩
  · have ht := List.mem_singleton.mp ht
    subst ht
    exact hn ⟨(congrArg Prod.fst z).symm, (congrArg Prod.snd z).symm⟩
  · rcases List.mem_append.mp hb' with h | h
    · have h9 : b = q := List.mem_singleton.mp h
      rw [h9]
      exact Or.inl h4.2.2
    · exact Or.inr ⟨h, (h2 _ _ b ⟨hX b h, h, rfl⟩).2.2⟩
theorem em_newq {own C : String} {index : Nat} (hexec : p.tables.exec = Jvm.exec) (hb : c.code = cc) (hown : s.vm.findClass own = some m.cls) (hclink : (Cond.classLink own index C).before args s = true) (hover : va_AO C s) (hK : va_K D cl tys s) {cA : ClassId} (t1 : Nat) (ht : tys[t1]? = some (cA, .object C)) (hV : ew_V D cl cf A0 X L tg A [] H) (hS : va_S A0 H0 H locs) (hA : ∀ q, H0.size ≤ q → A0 q)
    {n : Int32} {N' : Nat} (hn : ¬ n < 0) (hN : n.toNatClampNeg = N') (hbytes : N' * 4 ≤ 536870912) (hcells : cells + 1 ≤ R.cells) (hslots : slots + N' ≤ R.slots) (kd id : Nat) (A' : ew_R) (he : ∀ X', cf X' kd id (A' kd id) = .inl (cA, N', .inr (.inr (.inr (.inr (fun _ => none)))))) (hkeep : ∀ q, ∀ b ∈ L, (kd, id) ≠ tg b → cf (ab_X [(q, kd, id)] X) (tg b).1 (tg b).2 (A' (tg b).1 (tg b).2) = cf X (tg b).1 (tg b).2 (A (tg b).1 (tg b).2)) (hnew : ∀ b ∈ L, (kd, id) ≠ tg b) (hdg : decode cc pc = .ok (.anewarray index, 3))
    (kk : ∀ (X' : Nat → Nat → Nat) (L' : List Nat) (tg' : Nat → Nat × Nat) (H1 : Heap), em_one kd id X L tg X' L' tg' → ew_V D cl cf A0 X' L' tg' A' [] H1 → va_S A0 H0 H1 locs →
      W p l e R s m args below meth c H1 locs (cells + 1) (slots + N') Q (F0 m (pc + 3) ls (.ref (X' kd id) :: rest))) : W p l e R s m args below meth c H locs cells slots Q (F0 m pc ls (.int n :: rest)) := by
  refine va_newq hexec hb hown hclink hover hK hV.1 hV.2.1 hS hA hn hN hbytes hcells hslots hdg (fun q cA' H1 hK' hP hD hS1 => ?_)
  have e1 : s.vm.findClass ("[" ++ (FieldType.object C).toString) = some cA' := va_nmO (hK'.2 tys.length (cA', .object C) (by simp)).2 rfl
  have e2 : s.vm.findClass ("[" ++ (FieldType.object C).toString) = some cA := va_nmO (hK.2 t1 _ ht).2 rfl
  cases Option.some.inj (e1.symm.trans e2)
  obtain ⟨X', L', tg', h1, h2, h3⟩ := em_abs1 hV.2.2 hP hD kd id A' he (hkeep q) hnew
  subst h1
  exact kk X' L' tg' H1 h2 h3 hS1
/-- the first nn places of one array of references copied into another -/
theorem ew_copyL {T0 T1 nn : Nat} (hexec : p.tables.exec = Jvm.exec) (hb : c.code = cc) (hml : c.maxLocals = ls.size) {own : String} {index : Nat} (hown : s.vm.findClass own = some m.cls) (hlink : (Cond.methodLink own index arraycopyName).before args s = true) (hts : ∀ w ∈ WS, w.before args s = true)
    (hK : va_K D cl tys s) (hV : ew_V D cl cf A0 X L tg A [] H) (hS : va_S A0 H0 H locs) {kd id a kd0 id0 a0 : Nat} (hi0 : ew_in X L tg kd0 id0 a0) (hi : ew_in X L tg kd id a) {c0 c1 : ClassId} {n0 n1 : Nat} {f g : Nat → Option Nat} {E0 E1 : String} (he0 : cf X kd0 id0 (A kd0 id0) = .inl (c0, n0, .inr (.inr (.inr (.inr f))))) (he : cf X kd id (A kd id) = .inl (c1, n1, .inr (.inr (.inr (.inr g))))) (ht0 : tys[T0]? = some (c0, .object E0)) (ht1 : tys[T1]? = some (c1, .object E1))
    {k : Int32} (h3 : k = nI nn) (hs : nn ≤ n0) (hd : nn ≤ n1) (hn : n0 < 2 ^ 31) {ci : Nat} {r : vw_C} (hc : cl[ci]? = some r) (hel : ∀ i, i < nn → ∀ y, f i = some y → ∃ (kd' id' : Nat) (fs : List Value), ew_in X L tg kd' id' y ∧ cf X kd' id' (A kd' id') = .inr (ci, fs)) (hca : va_Nw (.castable r.1 E1) s)
    (hframes : 1 ≤ R.frames) (hlocals : (rest.map fun v => v.category).sum + (nativeFrameWords "java/lang/System" "arraycopy" 5 + 11) ≤ R.locals) (j : Nat) (x : Int32) (he' : cf X kd id (va_up (A kd id) j x) = .inl (c1, n1, .inr (.inr (.inr (.inr (va_cpy f g 0 0 nn)))))) (hdg : decode cc pc = .ok (.invokestatic index, 3))
    (kk : ∀ (H1 : Heap) (locs1 : List Loc), ew_V D cl cf A0 X L tg (up3 A kd id j x) [] H1 → va_S A0 H0 H1 locs1 → W p l e R s m args below meth c H1 locs1 cells slots Q (F0 m (pc + 3) ls rest)) : W p l e R s m args below meth c H locs cells slots Q (F0 m pc ls (.int k :: .int 0 :: .ref a :: .int 0 :: .ref a0 :: rest)) := by
  subst h3
  obtain ⟨q0, hq0⟩ := ew_at (cf := cf) (A := A) (ex := []) hi0
  obtain ⟨q1, hq1⟩ := ew_at (cf := cf) (A := A) (ex := []) hi
  have hq2 := hq1
  rw [he0] at hq0
  rw [he] at hq1
  have en : (nI nn).toNatClampNeg = nn := nI_clamp (by omega)
  have ez : (0 : Int32).toNatClampNeg = 0 := by decide
  refine va_copyq (C := r.1) hexec hb hml hown hlink (hts _ km_acp_n) (hts _ km_acp_s) (hts _ km_acp_i) hK hV.1 hV.2.1 hS q0 q1 T0 T1 hq0 hq1 ht0 ht1 (by decide) (by decide) (nI_pos (by omega)) (by rw [ez, en]; omega) (by rw [ez, en]; omega) (fun i hi' y hy => ?_) (fun comp z hcomp hz => ?_) hframes hlocals hdg (fun H1 locs1 hP hD hS1 => ?_)
  · rw [en] at hi'
    rw [ez, Nat.zero_add] at hy
    obtain ⟨kd', id', fs, g1, g2⟩ := hel i hi' y hy
    exact ec_recv (C := r.1) (T := r.2.1) (N := r.2.2) hK hV g1 g2 hc
  · obtain ⟨c2, t2, f1, f2, f3⟩ := Cond.castable_spec (va_Nw.use (A := #[]) rfl hca)
    cases hz.symm.trans f1
    cases hcomp.symm.trans f2
    exact f3
  · rw [ez, en] at hP hD
    exact kk H1 locs1 (hV.put hi hq2 he' hP hD) hS1
end EMQ
