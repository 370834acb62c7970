/-! Several new entities; closed worlds stay closed. -/
/-- the entities of S are new, the others stay where they were -/
def em_S (S : List (Nat × Nat)) (X : Nat → Nat → Nat) (L : List Nat) (tg : Nat → Nat × Nat) (X' : Nat → Nat → Nat) (L' : List Nat) (tg' : Nat → Nat × Nat) : Prop := (∀ c i, (c, i) ∉ S → X' c i = X c i) ∧ (∀ c i a, ew_in X L tg c i a → ew_in X' L' tg' c i a) ∧ (∀ t ∈ S, ew_in X' L' tg' t.1 t.2 (X' t.1 t.2)) ∧ ∀ b ∈ L', tg' b ∈ S ∨ b ∈ L ∧ tg' b = tg b
theorem em_S.nil {X : Nat → Nat → Nat} {L : List Nat} {tg : Nat → Nat × Nat} : em_S [] X L tg X L tg := ⟨fun _ _ _ => rfl, fun _ _ _ h => h, fun _ h => absurd h (by simp), fun _ h => Or.inr ⟨h, rfl⟩⟩
theorem em_one.S {kd id : Nat} {X X' : Nat → Nat → Nat} {L L' : List Nat} {tg tg' : Nat → Nat × Nat} (h : em_one kd id X L tg X' L' tg') : em_S [(kd, id)] X L tg X' L' tg' := by
  refine ⟨fun c i hn => h.1 c i (fun z => hn (by rw [z.1, z.2]; exact List.mem_singleton.mpr rfl)), h.2.1, fun t ht => ?_, fun b hb => ?_⟩
  · have ht := List.mem_singleton.mp ht
    subst ht
    exact h.2.2.1
  · rcases h.2.2.2 b hb with q | q
    · exact Or.inl (by rw [q]; exact List.mem_singleton.mpr rfl)
    · exact Or.inr q
theorem em_S.trans {S1 S2 : List (Nat × Nat)} {X X1 X2 : Nat → Nat → Nat} {L L1 L2 : List Nat} {tg tg1 tg2 : Nat → Nat × Nat} (h1 : em_S S1 X L tg X1 L1 tg1) (h2 : em_S S2 X1 L1 tg1 X2 L2 tg2) : em_S (S1 ++ S2) X L tg X2 L2 tg2 := by
  refine ⟨fun c i hn => ?_, fun c i a h => h2.2.1 c i a (h1.2.1 c i a h), fun t ht => ?_, fun b hb => ?_⟩
  · rw [h2.1 c i (fun z => hn (List.mem_append_right _ z)), h1.1 c i (fun z => hn (List.mem_append_left _ z))]
  · rcases List.mem_append.mp ht with q | q
    · exact (h2.2.1 _ _ _ (h1.2.2.1 t q)).self
    · exact h2.2.2.1 t q
  · rcases h2.2.2.2 b hb with q | q
    · exact Or.inl (List.mem_append_right _ q)
    · rcases h1.2.2.2 b q.1 with r | r
      · exact Or.inl (by rw [q.2]; exact List.mem_append_left _ r)
      · exact Or.inr ⟨r.1, q.2.trans r.2⟩
/-- an address that stays -/
theorem em_S.ad {S : List (Nat × Nat)} {X X' : Nat → Nat → Nat} {L L' : List Nat} {tg tg' : Nat → Nat × Nat} (h : em_S S X L tg X' L' tg') {c i a : Nat} (hi : ew_in X L tg c i a) : ew_in X' L' tg' c i a := h.2.1 c i a hi
/-- an entity is new, and all that it refers to lives: the world is closed again -/
theorem clC_one {kd id : Nat} {X X' : Nat → Nat → Nat} {L L' : List Nat} {tg tg' : Nat → Nat × Nat} {A A' : ew_R} (hcl : clC X L tg A) (h : em_one kd id X L tg X' L' tg') (hA : ∀ c i, ¬ (c = kd ∧ i = id) → A' c i = A c i) (hn : ∀ b ∈ L, (kd, id) ≠ tg b) (href : ∀ c i, rfC kd id (A' kd id) c i → stC c i ∨ ew_in X' L' tg' c i (X' c i)) : clC X' L' tg' A' := by
  intro b hb c i hr
  rcases h.2.2.2 b hb with q | ⟨q1, q2⟩
  · rw [q] at hr
    exact href c i hr
  · rw [q2, hA _ _ (fun z => hn b q1 (by rw [← z.1, ← z.2]))] at hr
    rcases hcl b q1 c i hr with w | w
    · exact Or.inl w
    · exact Or.inr (h.2.1 _ _ _ w).self
/-- an entity of a closed world is written anew -/
theorem clC_set {X : Nat → Nat → Nat} {L : List Nat} {tg : Nat → Nat × Nat} {A : ew_R} (hcl : clC X L tg A) {c i k : Nat} {x : Int32} (hr : ∀ c' i', rfC c i (va_up (A c i) k x) c' i' → rfC c i (A c i) c' i' ∨ stC c' i' ∨ ew_in X L tg c' i' (X c' i')) : clC X L tg (up3 A c i k x) := by
  intro b hb c' i' hq
  by_cases hc : (tg b).1 = c ∧ (tg b).2 = i
  · rw [hc.1, hc.2, up3_row] at hq
    rcases hr c' i' hq with w | w
    · exact hcl b hb c' i' (by rw [hc.1, hc.2]; exact w)
    · exact w
  · rw [up3_oth _ _ _ hc] at hq
    exact hcl b hb c' i' hq
section EMO
variable {l : Launch} {D : va_G} {cl : List vw_C} {cf : ew_C} {X : Nat → Nat → Nat} {L : List Nat} {tg : Nat → Nat × Nat} {A : ew_R} {tys : List (ClassId × FieldType)}
variable {p : Program} {e : Env} {R : Room} {s : State} {m : MethodId} {args : Array Value} {below : List Frame} {meth : Method} {c : Code} {H : Heap} {locs : List Loc} {cells slots : Nat} {cc : ByteArray} {pc : Nat} {ls : Array Slot} {A0 : Nat → Prop} {H0 : Heap} {rest : List Value} {Q : State → Prop}
/-- as em_new, in the words of em_one -/
theorem em_newO {own C : String} {T : u_T} {N ci index : Nat} {Ts : List Cond} (hexec : p.tables.exec = Jvm.exec) (hb : c.code = cc) (hts : ∀ w ∈ Ts, w.before args s = true) (hin : ∀ w ∈ u_ws C T N, w ∈ Ts) (ty : Nat → FieldType) (hty : ∀ k, k < N → parseFieldDescriptor (T k).2.2.1 = some (ty k)) (hown : s.vm.findClass own = some m.cls) (hcl : (Cond.classLink own index C).before args s = true) (hinst : (Cond.instantiable C N).before args s = true) (hini : (Cond.initialized C).before args s = true)
    (hK : va_K D cl tys s) (hV : ew_V D cl cf A0 X L tg A [] H) (hS : va_S A0 H0 H locs) (hA : ∀ q, H0.size ≤ q → A0 q) (hc : cl[ci]? = some (C, T, N)) {fs : List Value} (hfs : ∀ j, j < N → defaultValue (ty j) = vp_V fs j) (hcells : cells + 1 ≤ R.cells) (hslots : slots + N ≤ R.slots)
    (kd id : Nat) (A' : ew_R) (he : ∀ X', cf X' kd id (A' kd id) = .inr (ci, fs)) (hkeep : ∀ q, ∀ b ∈ L, (kd, id) ≠ tg b → cf (ab_X [(q, kd, id)] X) (tg b).1 (tg b).2 (A' (tg b).1 (tg b).2) = cf X (tg b).1 (tg b).2 (A (tg b).1 (tg b).2)) (hnew : ∀ b ∈ L, (kd, id) ≠ tg b) (hdg : decode cc pc = .ok (.new index, 3))
    (kk : ∀ (X' : Nat → Nat → Nat) (L' : List Nat) (tg' : Nat → Nat × Nat) (H1 : Heap), em_one kd id X L tg X' L' tg' → ew_V D cl cf A0 X' L' tg' A' [] H1 → va_S A0 H0 H1 locs →
      W p l e R s m args below meth c H1 locs (cells + 1) (slots + N) Q (F0 m (pc + 3) ls (.ref (X' kd id) :: rest))) : W p l e R s m args below meth c H locs cells slots Q (F0 m pc ls rest) := by
  refine va_new hexec hb hts hin ty hty hown hcl hinst hini hK hV.1 hV.2.1 hS hA hc hfs hcells hslots hdg (fun q H1 hP hD hS1 => ?_)
  obtain ⟨X', L', tg', h1, h2, h3⟩ := em_abs1 hV.2.2 hP hD kd id A' he (hkeep q) hnew
  subst h1
  exact kk X' L' tg' H1 h2 h3 hS1
end EMO
