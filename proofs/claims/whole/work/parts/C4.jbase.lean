/-! The law's loop: what holds at its head -/
def jA (s : State) : Nat → Prop := fun q => s.heap.size ≤ q
def JG (p : Program) (s : State) (m : MethodId) (args : Array Value) (c : Code) (D : va_G) (T : Nat → ClassId) (t0 : Nat × Nat) (XR : Nat → Nat → Nat) (LR : List Nat) (tgR : Nat → Nat × Nat) (b Ln : Nat) (xs : Nat → Int32) : Prop :=
  p.tables.exec = Jvm.exec ∧ c.code = code ∧ c.maxLocals = 7 ∧ s.vm.findClass "LoanLettersLaw" = some m.cls ∧ (∀ w ∈ WS, w.before args s = true) ∧ va_K D vwCl (tysA T) s ∧ EN s ∧ em_Z t0 (jA s) s s.heap ∧ et_Z (jA s) s s.heap ∧ nC s ∧ eR_E XR LR tgR ∧ va_X b Ln xs s s.heap ∧ b < s.heap.size
/-- the state of the two sides after q calls; i: the loop's int -/
def JI (s : State) (D : va_G) (T : Nat → ClassId) (t0 : Nat × Nat) (XR : Nat → Nat → Nat) (LR : List Nat) (tgR : Nat → Nat × Nat) (b xa o q i : Nat) (X : Nat → Nat → Nat) (L : List Nat) (tg : Nat → Nat × Nat) (A B : ew_R) (f : Nat → Int64) (H : Heap) (locs : List Loc) (ls : Array Slot) : Prop :=
  Sim A B q ∧ WI t0 X L tg A ∧ X 0 0 = xa ∧ ew_V D vwCl (cfC T) (jA s) X L tg A [] H ∧ ew_V D vwCl (cfR T) (jA s) XR LR tgR B [] H ∧ va_P D vwCl [(o, oE T f)] H ∧ (o ∉ L ∧ o ∉ LR ∧ (∀ a ∈ L, a ∉ LR) ∧ jA s o) ∧ va_S (jA s) s.heap H locs ∧ lv_has ls 7 [(4, .int (nI i)), (0, .ref b), (1, .ref xa), (2, .ref (XR 0 0)), (3, .ref o)]
section JB
variable {p : Program} {l : Launch} {e : Env} {R : Room} {s : State} {m : MethodId} {args : Array Value} {below : List Frame} {meth : Method} {c : Code} {H : Heap} {locs : List Loc} {cells slots : Nat} {Q : State → Prop}
variable {pc : Nat} {ls : Array Slot} {rest st0 : List Value} {a : Array Value} {A0 : Nat → Prop} {H0 : Heap} {mc ms : Nat} {D : va_G} {T : Nat → ClassId} {t0 : Nat × Nat} {X : Nat → Nat → Nat} {L : List Nat} {tg : Nat → Nat × Nat} {A : ew_R} {o : Nat} {f : Nat → Int64}
theorem lw_scall {post : Int32 → wS → Prop} (hr : va_Run p l e R s m args below meth c H locs cells slots mc ms (F0 m pc ls st0) rest (wQ D T L o H.size post a) (wA L o H.size)) (hV : ew_V D vwCl (cfC T) A0 X L tg A [] H) (hAo : A0 o) (hS : va_S A0 H0 H locs) (hA : ∀ q, H0.size ≤ q → A0 q)
    (kk : ∀ (r : Int32) (u : wS) (H1 : Heap) (locs1 : List Loc), post r u → ew_V D vwCl (cfC T) A0 u.1.1 u.1.2.1 u.1.2.2.1 u.1.2.2.2 [] H1 → va_P D vwCl [(o, oE T u.2)] H1 → o ∉ u.1.2.1 → H.size ≤ H1.size → (∀ q : Nat, q < H.size → q ∉ L → q ≠ o → H1[q]? = H[q]?) → (∀ b ∈ u.1.2.1, b ∈ L ∨ b = o ∨ H.size ≤ b) → va_S A0 H0 H1 locs1 → W p l e R s m args below meth c H1 locs1 (cells + mc) (slots + ms) Q (F0 m (pc + 3) ls (.int r :: rest))) : W p l e R s m args below meth c H locs cells slots Q (F0 m pc ls st0) := by
  have hAll : ∀ q, wA L o H.size q → A0 q := fun q h => by
    rcases h with h | h | h
    · exact hV.own h
    · rw [h]; exact hAo
    · exact hA q (Nat.le_trans hS.1 h)
  refine va_calli (A1 := wA L o H.size) hr hS (fun q _ h => hAll q h) hAll (fun r u t H1 locs1 ht _ hp hB hz hk hS1 => ?_)
  obtain ⟨g1, g2, g3⟩ := hB
  rw [ht] at g1 g2
  exact kk r u H1 locs1 hp (g1.reg (fun q h => hAll q (g1.own h))) g2 g3 hz (fun q h1 h2 h3 => hk q h1 (fun h => by
    rcases h with h | h | h
    · exact h2 h
    · exact h3 h
    · omega)) (fun b hb => g1.own hb) hS1
theorem w_blind {sz : Nat} {av : List Value} : FrameBlind (wPc D T t0 X L tg A o f sz av) := fun a U g mk q => by
  obtain ⟨q0, q1, qV, qO, qK, qN, qZ, qT, qC⟩ := q
  exact ⟨q0, q1, qV, qO, va_K.moved (u := U) (U := U.calling g mk a) (Vm.Alike.refl U.vm) qK, EN.same (u := U) (U := U.calling g mk a) rfl qN, em_Z.moved (u := U) (U := U.calling g mk a) (Vm.Alike.refl U.vm) qZ, et_Z.same (u := U) (U := U.calling g mk a) rfl qT, nC.moved (u := U) (U := U.calling g mk a) (Vm.Alike.refl U.vm) qC⟩
theorem w_preS {As : List Value} (hK : va_K D vwCl (tysA T) s) (hN : EN s) (hV : ew_V D vwCl (cfC T) A0 X L tg A [] H) (hO : va_P D vwCl [(o, oE T f)] H) (hno : o ∉ L) (hAo : A0 o) (hZ : em_Z t0 A0 s s.heap) (hT : et_Z A0 s s.heap) (hC : nC s) (hS : va_S A0 s.heap H locs) (hA : ∀ q, s.heap.size ≤ q → A0 q) : PreS s H (wPc D T t0 X L tg A o f H.size As) As := by
  have hAll : ∀ q, wA L o H.size q → A0 q := fun q h => by
    rcases h with h | h | h
    · exact hV.own h
    · rw [h]; exact hAo
    · exact hA q (Nat.le_trans hS.1 h)
  exact ⟨w_blind, fun U hU hW => ⟨rfl, by rw [hU], by rw [hU]; exact hV.reg0, by rw [hU]; exact ⟨hO, hno⟩, va_K.moved hW.alike hK, EN.warm hW hN, by rw [hU]; exact ((hZ.kept hS.2.1).narrow hAll).moved hW.alike, by rw [hU]; exact ((hT.kept hS.2.1).narrow hAll).warm hW, hC.moved hW.alike⟩⟩
theorem w_cw {y : MethodName} {bytes : ByteArray} {maxL index n : Nat} {ret : Option FieldType} {hh : List (Nat × Nat × Nat × Nat)} {rm : Room} (hts : ∀ w ∈ WS, w.before args s = true) (hcw : Cond.codeWith y bytes maxL ret hh ∈ WS) (hl : Cond.methodLink "LoanLettersLaw" index y ∈ WS) (hst : Cond.static y ∈ WS) (hrc : rm.cells = mc) (hrs : rm.slots = ms)
    (hd : y.cls = "LoanLettersLaw" ∧ y.cls ≠ "java/lang/invoke/MethodHandle" ∧ y.cls ≠ "java/lang/invoke/VarHandle" ∧ (parseMethodDescriptor y.desc).map (fun d => d.parameters.length) = some n) (hR : rm.frames + 1 ≤ R.frames ∧ 8 + (maxL + 11) + rm.locals ≤ R.locals) :
    lw_CW R s args "LoanLettersLaw" index y bytes maxL ret hh (Cond.codeWith y bytes maxL ret hh :: WS) rm mc ms n :=
  ⟨⟨hrc, hrs, hR.1, hR.2, pay_in hts (WS_cons hcw), List.mem_cons_self⟩, hts _ hcw, by rw [hd.1]; exact hts _ kw_0, ⟨hd.2.1, hd.2.2.1⟩, fun sig h => by
    have h2 := hd.2.2.2
    rw [h] at h2
    exact (Option.some.inj h2).symm, hts _ hl, hts _ hst⟩
variable {XR : Nat → Nat → Nat} {LR : List Nat} {tgR : Nat → Nat × Nat} {B : ew_R} {H1 : Heap} {L1 : List Nat}
/-- behind a call of the class the reference's side stands as it stood -/
theorem j_cls (hW : ew_V D vwCl (cfR T) A0 XR LR tgR B [] H) (n2 : o ∉ LR) (n3 : ∀ a ∈ L, a ∉ LR) (hk : ∀ q : Nat, q < H.size → q ∉ L → q ≠ o → H1[q]? = H[q]?) (hL : ∀ b ∈ L1, b ∈ L ∨ b = o ∨ H.size ≤ b) : ew_V D vwCl (cfR T) A0 XR LR tgR B [] H1 ∧ ∀ a ∈ L1, a ∉ LR := by
  refine ⟨hW.kept (fun a ha => hk a (hW.lt ha) (fun z => n3 a z ha) (fun z => n2 (by rw [← z]; exact ha))), fun a ha z => ?_⟩
  rcases hL a ha with h | h | h
  · exact n3 a h z
  · exact n2 (by rw [← h]; exact z)
  · have := hW.lt z; omega
theorem and15 (x : Int32) : ∃ k, k < 16 ∧ x &&& 15 = nI k := by
  refine ⟨(x &&& 15).toBitVec.toNat, ?_, ?_⟩
  · rw [Int32.toBitVec_and, BitVec.toNat_and]
    exact Nat.lt_of_le_of_lt Nat.and_le_right (by decide)
  · apply Int32.toBitVec_inj.mp
    show _ = BitVec.ofNat 32 _
    rw [BitVec.ofNat_toNat, BitVec.setWidth_eq]
end JB
