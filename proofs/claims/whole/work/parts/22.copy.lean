/-- a whole row of ints anew -/
def upr (A : ew_R) (c i : Nat) (r : Nat → Int32) : ew_R := va_up A c (va_up (A c) i r)
theorem upr_row (A : ew_R) (c i : Nat) (r : Nat → Int32) : upr A c i r c i = r := by simp [upr, va_up]
theorem upr_oth (A : ew_R) {c i c' i' : Nat} (r : Nat → Int32) (h : ¬ (c' = c ∧ i' = i)) : upr A c i r c' i' = A c' i' := by
  unfold upr
  by_cases h1 : c' = c
  · subst h1
    have h2 : i' ≠ i := fun q => h ⟨rfl, q⟩
    rw [va_up_self, va_up_ne _ _ h2]
  · rw [va_up_ne _ _ h1]
section EWC
variable {D : va_G} {cl : List vw_C} {cf : ew_C} {A0 : Nat → Prop} {X : Nat → Nat → Nat} {L : List Nat} {tg : Nat → Nat × Nat} {A : ew_R} {ex : va_W} {H H1 : Heap} {c i a : Nat}
theorem ew_V.putr (hV : ew_V D cl cf A0 X L tg A ex H) (hi : ew_in X L tg c i a) {q0 : Nat} (hq : (ew_w cf X L tg A ex)[q0]? = some (a, cf X c i (A c i))) {r : Nat → Int32} {e : va_E} (he : cf X c i r = e)
    (hP : va_P D cl ((ew_w cf X L tg A ex).set q0 (a, e)) H1) (hD : va_D A0 ((ew_w cf X L tg A ex).set q0 (a, e))) : ew_V D cl cf A0 X L tg (upr A c i r) ex H1 := by
  have key : (ew_w cf X L tg A ex).set q0 (a, e) = ew_w cf X L tg (upr A c i r) ex := by
    obtain ⟨hP0, hD0, hX⟩ := hV
    have hq' : (ex ++ va_pl L (ew_f cf X A tg))[q0]? = some (a, ew_f cf X A tg a) := by
      unfold ew_w at hq
      rw [hq]
      unfold ew_f
      rw [hi.2.2]
    unfold ew_w at hD0 ⊢
    rw [va_pl_set hD0 hi.2.1 hq']
    congr 1
    refine ew_pl (fun b hb => ?_)
    by_cases hba : b = a
    · subst hba
      rw [va_up_self]
      unfold ew_f
      rw [hi.2.2]
      show e = cf X c i (upr A c i r c i)
      rw [upr_row, he]
    · rw [va_up_ne _ _ hba]
      unfold ew_f
      have hn : ¬ ((tg b).1 = c ∧ (tg b).2 = i) := fun ⟨h1, h2⟩ => hba (by rw [← hX b hb, h1, h2, hi.1])
      rw [upr_oth A r hn]
  rw [key] at hP hD
  exact ⟨hP, hD, hV.2.2⟩
end EWC
theorem km_acp_Row : Cond.methodLink "LoanLetters$Row" 19 arraycopyName ∈ WS := kw_363
theorem km_acp_n : Cond.native arraycopyName ∈ WS := kw_356
theorem km_acp_s : Cond.static arraycopyName ∈ WS := kw_355
theorem km_acp_i : Cond.initialized "java/lang/System" ∈ WS := kw_21
section EWCC
variable {p : Program} {l : Launch} {e : Env} {R : Room} {s : State} {m : MethodId} {args : Array Value} {below : List Frame} {meth : Method} {c : Code} {H : Heap} {locs : List Loc} {cells slots : Nat} {Q : State → Prop}
variable {cc : ByteArray} {pc : Nat} {ls : Array Slot} {rest : List Value} {D : va_G} {cl : List vw_C} {cf : ew_C} {A0 : Nat → Prop} {X : Nat → Nat → Nat} {L : List Nat} {tg : Nat → Nat × Nat} {A : ew_R} {tys : List (ClassId × FieldType)} {H0 : Heap}
/-- a part of an array of ints copied within it -/
theorem ew_copyi {T0 sn dn nn : Nat} (hexec : p.tables.exec = Jvm.exec) (hb : c.code = cc) (hml : c.maxLocals = ls.size) {own : String} {index : Nat} (hown : s.vm.findClass own = some m.cls) (hlink : (Cond.methodLink own index arraycopyName).before args s = true) (hts : ∀ w ∈ WS, w.before args s = true)
    (hK : va_K D cl tys s) (hV : ew_V D cl cf A0 X L tg A [] H) (hS : va_S A0 H0 H locs) {kd id a : Nat} (hi : ew_in X L tg kd id a) {cA : ClassId} {n : Nat} (he : cf X kd id (A kd id) = .inl (cA, n, .inl (A kd id))) (ht : tys[T0]? = some (cA, .int)) {sp dp k : Int32} (h1 : sp = nI sn) (h2 : dp = nI dn) (h3 : k = nI nn) (hs : sn + nn ≤ n) (hd : dn + nn ≤ n) (hn : n < 2 ^ 31) (hz : 0 ≤ n)
    (hframes : 1 ≤ R.frames) (hlocals : (rest.map fun v => v.category).sum + (nativeFrameWords "java/lang/System" "arraycopy" 5 + 11) ≤ R.locals) (he' : cf X kd id (va_cpy (A kd id) (A kd id) sn dn nn) = .inl (cA, n, .inl (va_cpy (A kd id) (A kd id) sn dn nn))) (hdg : decode cc pc = .ok (.invokestatic index, 3))
    (kk : ∀ (H1 : Heap) (locs1 : List Loc), ew_V D cl cf A0 X L tg (upr A kd id (va_cpy (A kd id) (A kd id) sn dn nn)) [] H1 → va_S A0 H0 H1 locs1 → W p l e R s m args below meth c H1 locs1 cells slots Q (F0 m (pc + 3) ls rest)) : W p l e R s m args below meth c H locs cells slots Q (F0 m pc ls (.int k :: .int dp :: .ref a :: .int sp :: .ref a :: rest)) := by
  subst h1 h2 h3
  obtain ⟨q0, hq⟩ := ew_at (cf := cf) (A := A) (ex := []) hi
  have hq2 := hq
  rw [he] at hq
  have es : (nI sn).toNatClampNeg = sn := nI_clamp (by omega)
  have ed : (nI dn).toNatClampNeg = dn := nI_clamp (by omega)
  have en : (nI nn).toNatClampNeg = nn := nI_clamp (by omega)
  refine va_copyi hexec hb hml hown hlink (hts _ km_acp_n) (hts _ km_acp_s) (hts _ km_acp_i) hK hV.1 hV.2.1 hS q0 q0 T0 T0 hq hq ht ht rfl (nI_pos (by omega)) (nI_pos (by omega)) (nI_pos (by omega)) (by rw [es, en]; exact hs) (by rw [ed, en]; exact hd) (fun _ _ => rfl) hframes hlocals hdg (fun H1 locs1 hP hD hS1 => ?_)
  rw [es, ed, en] at hP hD
  exact kk H1 locs1 (hV.putr hi hq2 he' hP hD) hS1
end EWCC
