/-! The law's first steps: both objects and the array are made, then the loop -/
/-- the class's new object as a world of entities -/
theorem st_cls {D : va_G} {T : Nat → ClassId} {t0 : Nat × Nat} {A0 : Nat → Prop} {H1 : Heap} {th q1 q2 q3 q4 q5 q6 : Nat}
    (hP : va_P D vwCl [(th, .inr (0, [.ref q1, .ref q2, .ref q3, .ref q4, .ref q6, .int 0, .int 0, .int 0])), (q1, .inl (T 2, 32, .inr (.inr (.inr (.inr (fun _ => none)))))), (q2, .inl (T 3, 32, .inr (.inr (.inr (.inr (fun _ => none)))))), (q3, .inl (T 0, 6, .inl (fun _ => 0))), (q4, .inr (7, [.ref q5, .int 0])), (q5, .inl (T 0, 448, .inl (fun _ => 0))), (q6, .inr (6, [.int 0, .int 0, .int 0, .int 0]))] H1)
    (hD : va_D A0 [(th, .inr (0, [.ref q1, .ref q2, .ref q3, .ref q4, .ref q6, .int 0, .int 0, .int 0])), (q1, .inl (T 2, 32, .inr (.inr (.inr (.inr (fun _ => none)))))), (q2, .inl (T 3, 32, .inr (.inr (.inr (.inr (fun _ => none)))))), (q3, .inl (T 0, 6, .inl (fun _ => 0))), (q4, .inr (7, [.ref q5, .int 0])), (q5, .inl (T 0, 448, .inl (fun _ => 0))), (q6, .inr (6, [.int 0, .int 0, .int 0, .int 0]))]) :
    ∃ (X : Nat → Nat → Nat) (L : List Nat) (tg : Nat → Nat × Nat), X 0 0 = th ∧ WI t0 X L tg z0 ∧ ew_V D vwCl (cfC T) A0 X L tg z0 [] H1 := by
  have hk : ((([(th, 0, 0), (q1, 9, 0), (q2, 10, 0), (q3, 11, 0), (q4, 7, 0), (q5, 12, 0), (q6, 18, 0)] : List (Nat × Nat × Nat)).map (fun t => t.2))).Nodup := by simp
  obtain ⟨X, L, tg, hX, hS, hV⟩ := em_absN (D := D) (T := T) (A0 := A0) (X := fun _ _ => t0.1) (L := []) (tg := fun _ => (0, 0)) (A := z0) [(th, 0, 0), (q1, 9, 0), (q2, 10, 0), (q3, 11, 0), (q4, 7, 0), (q5, 12, 0), (q6, 18, 0)] (fun a ha => absurd ha List.not_mem_nil) hP hD z0 (by
      have x9 := ab_X_new (X := fun _ _ => t0.1) hk (t := (q1, 9, 0)) (by simp)
      have x10 := ab_X_new (X := fun _ _ => t0.1) hk (t := (q2, 10, 0)) (by simp)
      have x11 := ab_X_new (X := fun _ _ => t0.1) hk (t := (q3, 11, 0)) (by simp)
      have x7 := ab_X_new (X := fun _ _ => t0.1) hk (t := (q4, 7, 0)) (by simp)
      have x12 := ab_X_new (X := fun _ _ => t0.1) hk (t := (q5, 12, 0)) (by simp)
      have x18 := ab_X_new (X := fun _ _ => t0.1) hk (t := (q6, 18, 0)) (by simp)
      generalize hx9 : ab_X [(th, 0, 0), (q1, 9, 0), (q2, 10, 0), (q3, 11, 0), (q4, 7, 0), (q5, 12, 0), (q6, 18, 0)] (fun _ _ => t0.1) = Y at x9 x10 x11 x7 x12 x18 ⊢
      dsimp only at x9 x10 x11 x7 x12 x18
      simp only [List.map_cons, List.map_nil, cC_0, cC_9, cC_10, cC_11, cC_7, cC_12, cC_18, oC_0, oC_7, oC_18, x9, x10, x11, x7, x12, x18, z0, if_true]
      rfl) hk (fun b hb => absurd hb List.not_mem_nil) (fun t ht => by
      simp only [List.mem_cons, List.not_mem_nil, or_false] at ht
      unfold stC
      rcases ht with rfl | rfl | rfl | rfl | rfl | rfl | rfl <;> simp) (fun b hb => absurd hb List.not_mem_nil) (fun c i _ => rfl)
  exact ⟨X, L, tg, hX (th, 0, 0) (by simp), WI.start (X0 := fun _ _ => t0.1) (fun d => ⟨rfl, rfl⟩) hS, hV⟩
theorem xl_blindL {D : va_G} {T : Nat → ClassId} {t0 : Nat × Nat} {ws : va_W} {sz : Nat} {av : List Value} : FrameBlind (xl_PcL D T t0 ws sz av) := fun a U g mk q => by
  obtain ⟨q0, q1, qP, qK, qN, qZ, qA, qB⟩ := q
  exact ⟨q0, q1, qP, va_K.moved (u := U) (U := U.calling g mk a) (Vm.Alike.refl U.vm) qK, EN.same (u := U) (U := U.calling g mk a) rfl qN, em_Z.moved (u := U) (U := U.calling g mk a) (Vm.Alike.refl U.vm) qZ, va_AO.moved (u := U) (U := U.calling g mk a) (Vm.Alike.refl U.vm) qA, va_AO.moved (u := U) (U := U.calling g mk a) (Vm.Alike.refl U.vm) qB⟩
theorem dfL : ∀ j, j < 8 → defaultValue (tyL j) = vp_V [.null, .null, .null, .null, .null, .int 0, .int 0, .int 0] j := by decide +kernel
theorem dfM : ∀ j, j < 40 → defaultValue (tyM j) = vp_V (mo []) j := by decide +kernel
section ST3
variable {p : Program} {l : Launch} {e : Env} {s : State} {m : MethodId} {below : List Frame} {meth : Method} {c : Code} {Q : State → Prop} {b Ln : Nat} {xs : Nat → Int32}
set_option maxHeartbeats 4000000 in
set_option maxRecDepth 100000 in
theorem j_start (hfl : l.flags = pinnedFlags ++ [noTraceFlag]) (hx : p.tables.exec = Jvm.exec) (hb : c.code = code) (hml : c.maxLocals = 7) (hown : s.vm.findClass "LoanLettersLaw" = some m.cls) (htl : ∀ w ∈ lw_tbl, w.before #[Value.ref b] s = true) (hX : va_X b Ln xs s s.heap) (hbl : b < s.heap.size) (hn : (Jvm.Cond.and given_1 narrow_1).before #[Value.ref b] s = true) (hLn : Ln ≤ 2560)
    (fin : ∀ (H : Heap) (locs : List Loc) (ls : Array Slot), va_S (jA s) s.heap H locs → W p l e room_1 s m #[Value.ref b] below meth c H locs 601024 7293034 Q (F0 m 778 ls [])) :
    W p l e room_1 s m #[Value.ref b] below meth c s.heap [] 0 0 Q (entryFrame m ([Value.ref b] : List Value).toArray 7) := by
  have hts : ∀ w ∈ WS, w.before #[Value.ref b] s = true := fun w hw => htl w (List.mem_filter.mp hw).1
  obtain ⟨D, T, hK⟩ := st_K hts htl
  obtain ⟨t0, hZ⟩ := st_Z htl hts hn
  have hN := st_N htl
  have hT := st_T htl hn
  have hC := st_C hn
  have hO1 : va_AO "LoanLetters$Copy" s := va_AO.of (htl _ (lw_w (i := 35) (by decide +kernel)))
  have hO2 : va_AO "LoanLetters$Loan" s := va_AO.of (htl _ (lw_w (i := 37) (by decide +kernel)))
  have hA : ∀ q, s.heap.size ≤ q → jA s q := fun _ h => h
  have hl := lv_entry ([Value.ref b]) (n := 7) (Nat.le_of_ble_eq_true rfl)
  rw [lg_entry_eq]
  generalize (lg_sl ([Value.ref b]) ++ List.replicate (7 - (lg_sl ([Value.ref b])).length) Slot.unset).toArray = ls at hl ⊢
  have hl : lv_has ls 7 [(0, .ref b)] := hl
  have hP0 : va_P D vwCl [] s.heap := fun k q hk => by simp at hk
  have hD0 : va_D (jA s) [] := ⟨fun i j p q hi => by simp at hi, fun k q hk => by simp at hk⟩
  refine va_new (ci := 0) (C := RL) (T := TL) (N := 8) hx hb hts ulL tyL gL.1 hown (hts _ kw_26) (hts _ kw_27) (hts _ kw_1) hK hP0 hD0 va_S.rf hA rfl dfL (Nat.le_of_ble_eq_true rfl) (Nat.le_of_ble_eq_true rfl) dJ_0 (fun th H hP hD hS => ?_)
  have hP : va_P D vwCl [(th, .inr (0, [.null, .null, .null, .null, .null, .int 0, .int 0, .int 0]))] H := hP
  have hD : va_D (jA s) [(th, .inr (0, [.null, .null, .null, .null, .null, .int 0, .int 0, .int 0]))] := hD
  refine lv_dup hx hb dJ_3 rfl ?_
  have hF : ∀ q, va_A [(th, .inr (0, [.null, .null, .null, .null, .null, .int 0, .int 0, .int 0]))] H.size q → jA s q := va_free hD hS hA [0] rfl
  refine va_callv (va_runI (As := []) (rest := [.ref th]) ⟨hx, hb, hml, hown, hts⟩ (c_L_init l D T t0 [] H.size th) (cwI 0 hts (WS_cons kw_30) rfl rfl rfl (hts _ kw_1) (hts _ kw_28) (hts _ kw_29) rfl (by decide +kernel) ⟨Nat.le_of_ble_eq_true rfl, Nat.le_of_ble_eq_true rfl⟩) ⟨xl_blindL, fun U hU hW => ⟨rfl, by rw [hU], by rw [hU]; exact ⟨hP, hD.weaken (fun _ _ _ _ => trivial)⟩, va_K.moved hW.alike hK, EN.warm hW hN, by rw [hU]; exact ((hZ.kept hS.2.1).narrow hF).moved hW.alike, va_AO.moved hW.alike hO1, va_AO.moved hW.alike hO2⟩⟩ rfl rfl hl.1 rfl (lv_room (Nat.le_of_ble_eq_true rfl)) dJ_4 ⟨Nat.le_of_ble_eq_true rfl, Nat.le_of_ble_eq_true rfl⟩) hS (fun q _ h => hF q h) hF (fun u t H1 locs1 ht _ hp hB hz hk hS1 => ?_)
  obtain ⟨q1, q2, q3, q4, q5, q6, rfl⟩ := hp
  obtain ⟨hP1, hD1⟩ := hB
  rw [ht] at hP1
  obtain ⟨X, L, tg, hX0, hWI, hV⟩ := st_cls (t0 := t0) hP1 (hD1.weaken (fun k q _ h => hF q.1 h))
  refine lv_astore_n (lv' := [(1, .ref th), (0, .ref b)]) hx hb dJ_7 rfl hl (by decide) rfl (fun ls hl => ?_)
  refine va_new (ci := 9) (C := RM) (T := TM) (N := 40) hx hb hts ulM tyM gM.1 hown (hts _ kw_734) (hts _ kw_735) (hts _ kw_4) hK hV.1 hV.2.1 hS1 hA rfl dfM (Nat.le_of_ble_eq_true rfl) (Nat.le_of_ble_eq_true rfl) dJ_8 (fun h0 H2 hP2 hD2 hS2 => ?_)
  have hlen : ∀ a ∈ L, ∃ k, (ew_w (cfC T) X L tg z0 [])[k]? = some (a, ew_f (cfC T) X z0 tg a) := fun a ha => ew_mem ha
  have hV2 : ew_V D vwCl (cfC T) (jA s) X L tg z0 [] H2 := ⟨fun k q hq => hP2 k q (by rw [List.getElem?_append_left (List.getElem?_eq_some_iff.mp hq).1]; exact hq), hV.2.1, hV.2.2⟩
  have hPm : va_P D vwCl [(h0, .inr (9, mo []))] H2 := fun k q hq => by
    have h1 : k < 1 := (List.getElem?_eq_some_iff.mp hq).1
    rw [show k = 0 by omega] at hq
    cases hq
    exact hP2 (ew_w (cfC T) X L tg z0 []).length _ (by rw [List.getElem?_append_right (Nat.le_refl _), Nat.sub_self]; rfl)
  have hA0 : jA s h0 := hD2.2 (ew_w (cfC T) X L tg z0 []).length (h0, .inr (9, mo [])) (by rw [List.getElem?_append_right (Nat.le_refl _), Nat.sub_self]; rfl)
  have hn0 : h0 ∉ L := fun z => by
    obtain ⟨k, hk9⟩ := hlen h0 z
    have hlt := (List.getElem?_eq_some_iff.mp hk9).1
    have := hD2.1 k (ew_w (cfC T) X L tg z0 []).length (h0, ew_f (cfC T) X z0 tg h0) (h0, .inr (9, mo [])) (by rw [List.getElem?_append_left hlt]; exact hk9) (by rw [List.getElem?_append_right (Nat.le_refl _), Nat.sub_self]; rfl) rfl
    omega
  have hDm : va_D (jA s) [(h0, .inr (9, mo []))] := ⟨fun i j p q hi hj _ => by
      have h1 : i < 1 := (List.getElem?_eq_some_iff.mp hi).1
      have h2 : j < 1 := (List.getElem?_eq_some_iff.mp hj).1
      omega, fun k q hq => by
      have h1 : k < 1 := (List.getElem?_eq_some_iff.mp hq).1
      rw [show k = 0 by omega] at hq
      cases hq
      exact hA0⟩
  refine lv_dup hx hb dJ_11 rfl ?_
  have hF2 : ∀ q, va_A [(h0, .inr (9, mo []))] H2.size q → jA s q := va_free hDm hS2 hA [0] rfl
  refine va_callv (va_runI (As := []) (rest := [.ref h0]) ⟨hx, hb, hml, hown, hts⟩ (r_init l D T h0 H2.size) (cwI 0 hts (WS_cons kw_738) rfl rfl rfl (hts _ kw_4) (hts _ kw_736) (hts _ kw_737) rfl (by decide +kernel) ⟨Nat.le_of_ble_eq_true rfl, Nat.le_of_ble_eq_true rfl⟩) ⟨fun a U g mk q => by obtain ⟨q0, q1, qP, qK, qD⟩ := q; exact ⟨q0, q1, qP, va_K.moved (u := U) (U := U.calling g mk a) (Vm.Alike.refl U.vm) qK, qD⟩, fun U hU hW => ⟨rfl, by rw [hU], by rw [hU]; exact hPm, va_K.moved hW.alike hK, hDm.weaken (fun _ _ _ _ => trivial)⟩⟩ rfl rfl hl.1 rfl (lv_room (Nat.le_of_ble_eq_true rfl)) dJ_12 ⟨Nat.le_of_ble_eq_true rfl, Nat.le_of_ble_eq_true rfl⟩) hS2 (fun q _ h => hF2 q h) hF2 (fun u t3 H3 locs3 ht3 _ hp3 hB3 hz3 hk3 hS3 => ?_)
  obtain ⟨XR, LR, tgR, B⟩ := u
  obtain ⟨hR0, hE, hB0⟩ := hp3
  have hB0 : B = z0 := hB0
  have hR0 : XR 0 0 = h0 := hR0
  have hE : eR_E XR LR tgR := hE
  have hW3 : ew_V D vwCl (cfR T) (va_A [(h0, .inr (9, mo []))] H2.size) XR LR tgR B [] H3 := by rw [← ht3]; exact hB3
  subst hB0
  have hLR : ∀ a ∈ LR, a = h0 ∨ H2.size ≤ a := fun a ha => by
    rcases hW3.own ha with ⟨k, e9, h9⟩ | h9
    · have h1 : k < 1 := (List.getElem?_eq_some_iff.mp h9).1
      rw [show k = 0 by omega] at h9
      cases h9
      exact Or.inl rfl
    · exact Or.inr h9
  have hdis : ∀ a ∈ L, a ∉ LR := fun a ha z => by
    rcases hLR a z with h | h
    · exact hn0 (by rw [← h]; exact ha)
    · have := hV2.lt ha; omega
  have hV3 : ew_V D vwCl (cfC T) (jA s) X L tg z0 [] H3 := hV2.kept (fun a ha => hk3 a (hV2.lt ha) (fun z => by
    rcases z with ⟨k, e9, h9⟩ | h9
    · have h1 : k < 1 := (List.getElem?_eq_some_iff.mp h9).1
      rw [show k = 0 by omega] at h9
      cases h9
      exact hn0 ha
    · have := hV2.lt ha; omega))
  have hW4 : ew_V D vwCl (cfR T) (jA s) XR LR tgR z0 [] H3 := hW3.reg (fun a ha => hF2 a (hW3.own ha))
  refine lv_astore_n (lv' := [(2, .ref h0), (1, .ref th), (0, .ref b)]) hx hb dJ_15 rfl hl (by decide) rfl (fun ls hl => ?_)
  refine lv_iconst (v := 1) hx hb dJ_16 (by decide) ?_
  refine va_newaK (atype := .long) (N := 1) hx hb (hts _ kw_1004) rfl dJ_17 rfl (by decide) (by decide) (by decide) (Nat.le_of_ble_eq_true rfl) (Nat.le_of_ble_eq_true rfl) rfl (fun H4 cA e4 z4 o4 hAr hNm => ?_)
  have e6 : s.vm.findClass ("[" ++ FieldType.long.toString) = some (T 6) := (hK.2 6 (T 6, .long) rfl).2
  cases Option.some.inj (hNm.symm.trans e6)
  have hO : va_P D vwCl [(H3.size, oE T (fun _ => 0))] H4 := fun k q hq => by
    have h1 : k < 1 := (List.getElem?_eq_some_iff.mp hq).1
    rw [show k = 0 by omega] at hq
    cases hq
    exact e4
  have hS4 : va_S (jA s) s.heap H4 locs3 := ⟨Nat.le_trans hS3.1 (by omega), fun q h1 h2 => (o4 q (Nat.lt_of_lt_of_le h1 hS3.1)).trans (hS3.2.1 q h1 h2), hS3.2.2⟩
  refine lv_astore_n (lv' := [(3, .ref H3.size), (2, .ref h0), (1, .ref th), (0, .ref b)]) hx hb dJ_19 rfl hl (by decide) rfl (fun ls hl => ?_)
  refine lv_iconst (v := 0) hx hb dJ_20 (by decide) ?_
  refine lv_istore (lv' := [(4, .int 0), (3, .ref H3.size), (2, .ref h0), (1, .ref th), (0, .ref b)]) hx hb dJ_21 hl (by decide) rfl (fun ls hl => ?_)
  refine W.widen (k := 100 + 11 * 0) (n := 20000 + 2036 * 0) (Nat.le_of_ble_eq_true rfl) (Nat.le_of_ble_eq_true rfl) ?_
  refine j_loop (xa := th) (o := H3.size) hfl ⟨hx, hb, hml, hown, hts, hK, hN, hZ, hT, hC, hE, hX, hbl⟩ hLn fin 512 0 (Nat.zero_le _) (by omega) X L tg z0 z0 (fun _ => 0) H4 locs3 ls ⟨z0_Sim, hWI, hX0, hV3.kept (fun a ha => o4 a (hV3.lt ha)), hW4.kept (fun a ha => o4 a (hW4.lt ha)), hO, ⟨fun z => absurd (hV3.lt z) (by omega), fun z => absurd (hW4.lt z) (by omega), hdis, hS3.1⟩, hS4, ?_⟩
  rw [hR0]
  exact lv_sub hl [0, 4, 3, 2, 1] rfl
end ST3
