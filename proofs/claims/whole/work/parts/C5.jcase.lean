/-! The law's sixteen calls -/
/-- the way on from behind a call -/
def JN (p : Program) (l : Launch) (e : Env) (s : State) (m : MethodId) (args : Array Value) (below : List Frame) (meth : Method) (c : Code) (Q : State → Prop) (D : va_G) (T : Nat → ClassId) (t0 : Nat × Nat) (XR : Nat → Nat → Nat) (LR : List Nat) (tgR : Nat → Nat × Nat) (b xa o q : Nat) : Prop :=
  ∀ (X : Nat → Nat → Nat) (L : List Nat) (tg : Nat → Nat × Nat) (A B : ew_R) (f : Nat → Int64) (H : Heap) (locs : List Loc) (ls : Array Slot), JI s D T t0 XR LR tgR b xa o (q + 1) (5 * q) X L tg A B f H locs ls → W p l e room_1 s m args below meth c H locs (100 + 11 * (q + 1)) (20000 + 2036 * (q + 1)) Q (F0 m 772 ls [])
section JC
variable {p : Program} {l : Launch} {e : Env} {s : State} {m : MethodId} {args : Array Value} {below : List Frame} {meth : Method} {c : Code} {Q : State → Prop} {D : va_G} {T : Nat → ClassId} {t0 : Nat × Nat} {XR : Nat → Nat → Nat} {LR : List Nat} {tgR : Nat → Nat × Nat} {b Ln : Nat} {xs : Nat → Int32} {xa o q : Nat}
set_option maxHeartbeats 4000000 in
theorem j_pass (hfl : l.flags = pinnedFlags ++ [noTraceFlag]) (G : JG p s m args c D T t0 XR LR tgR b Ln xs) (hq : q < 512) (h5 : 5 * q + 5 ≤ Ln) (hLn : Ln ≤ 2560) (nx : JN p l e s m args below meth c Q D T t0 XR LR tgR b xa o q) (X : Nat → Nat → Nat) (L : List Nat) (tg : Nat → Nat × Nat) (A B : ew_R) (f : Nat → Int64) (H : Heap) (locs : List Loc) (ls : Array Slot) (I : JI s D T t0 XR LR tgR b xa o q (5 * q) X L tg A B f H locs ls) : W p l e room_1 s m args below meth c H locs (100 + 11 * q) (20000 + 2036 * q) Q (F0 m 368 ls []) := by
  obtain ⟨hx, hb, hml, hown, hts, hK, hN, hZ, hT, hC, hE, hX, hbl⟩ := G
  obtain ⟨S, W0, ha, hV, hW, hO, ⟨n1, n2, n3, n4⟩, hS, hl⟩ := I
  have hA : ∀ q, s.heap.size ≤ q → jA s q := fun _ h => h
  have hth : ew_in X L tg 0 0 (X 0 0) := W0.v0 0 (by simp)
  have hbA : ¬ jA s b := Nat.not_le.mpr hbl
  subst ha
  obtain ⟨r, B', hc, hr⟩ := pr_pass (l := l) (D := D) (T := T) ⟨hq, S, W0, hE⟩ (xs (5 * q + 1))
  refine lv_aload_n hx hb dJ_368 rfl (lv_at hl 2 rfl) ?_
  refine lv_aload_n hx hb dJ_369 rfl (lv_at hl 1 rfl) ?_
  refine lv_iload hx hb dJ_370 (lv_at hl 0 rfl) ?_
  refine lv_iconst (v := 1) hx hb dJ_372 (by decide) ?_
  refine lv_iadd hx hb dJ_373 ?_
  refine lv_toe (y := nI (5 * q + 1)) (nI_add (5 * q) 1) ?_
  refine va_sld hx hb hX hbl hbA hS (vp_in_nI (by omega) (by omega)) dJ_374 ?_
  refine lv_toe (y := xs (5 * q + 1)) (by rw [nI_clamp (by omega)]) ?_
  refine lw_calli (va_runV (As := [.int (xs (5 * q + 1))]) (rest := []) ⟨hx, hb, hml, hown, hts⟩ (hc _) (cwV 1 hts gJ_48 rfl rfl rfl (by decide +kernel) ⟨Nat.le_of_ble_eq_true rfl, Nat.le_of_ble_eq_true rfl⟩) (em_preV hK hN hV hZ hS hA hth (cC_0 _ _ _ _) rfl) rfl rfl hl.1 rfl (lv_room (Nat.le_of_ble_eq_true rfl)) dJ_375 ⟨by show _ ≤ 601024; omega, by show _ ≤ 7293034; omega⟩) hV hS hA (fun r1 X1 L1 tg1 u H1 locs1 hp hV1 hz hk hL1 hS1 => ?_)
  obtain ⟨er, S1, W1, hin1⟩ := hp
  obtain ⟨hW1, n3'⟩ := j_cls (L1 := L1) hW n2 n3 (fun q h1 h2 _ => hk q h1 h2) (fun b hb => (hL1 b hb).elim Or.inl (fun h => Or.inr (Or.inr h)))
  have hO1 := va_o1 hO (hk o (va_o1.lt hO) n1)
  have n1' : o ∉ L1 := fun z => (hL1 o z).elim n1 (fun z => by have := va_o1.lt hO; omega)
  refine lv_aload_n hx hb dJ_378 rfl (lv_at hl 3 rfl) ?_
  refine lv_aload_n hx hb dJ_379 rfl (lv_at hl 1 rfl) ?_
  refine lv_iload hx hb dJ_380 (lv_at hl 0 rfl) ?_
  refine lv_iconst (v := 1) hx hb dJ_382 (by decide) ?_
  refine lv_iadd hx hb dJ_383 ?_
  refine lv_toe (y := nI (5 * q + 1)) (nI_add (5 * q) 1) ?_
  refine va_sld hx hb hX hbl hbA hS1 (vp_in_nI (by omega) (by omega)) dJ_384 ?_
  refine lv_toe (y := xs (5 * q + 1)) (by rw [nI_clamp (by omega)]) ?_
  refine lr_calli (va_runV (As := [.int (xs (5 * q + 1))]) (rest := [.int r1]) ⟨hx, hb, hml, hown, hts⟩ (hr _) (cwV 1 hts gJ_52 rfl rfl rfl (by decide +kernel) ⟨Nat.le_of_ble_eq_true rfl, Nat.le_of_ble_eq_true rfl⟩) (er_preV hK hW1 (hE 0 (by decide)) (cR_0 _ _ _) rfl) rfl rfl hl.1 rfl (lv_room (Nat.le_of_ble_eq_true rfl)) dJ_385 ⟨by show _ ≤ 601024; omega, by show _ ≤ 7293034; omega⟩) hW1 hS1 hA (fun r2 v H2 locs2 hp2 hW2 hz2 hk2 hS2 => ?_)
  obtain ⟨e2, ev⟩ := hp2
  refine lv_icmp_eq (tgt := 772) hx hb dJ_388 rfl (fun _ => ?_) (fun h9 => absurd (er.trans e2.symm) h9)
  refine W.widen (k := 100 + 11 * (q + 1)) (n := 20000 + 2036 * (q + 1)) (by omega) (by omega) ?_
  rw [ev] at hW2
  exact nx X1 L1 tg1 u B' f H2 locs2 ls ⟨S1, W1, (hin1 0 0 _ hth).1, hV1.kept (fun a ha => hk2 a (hV1.lt ha) (n3' a ha)), hW2, va_o1 hO1 (hk2 o (va_o1.lt hO1) n2), ⟨n1', n2, n3', n4⟩, hS2, hl⟩
set_option maxHeartbeats 4000000 in
theorem j_letters (hfl : l.flags = pinnedFlags ++ [noTraceFlag]) (G : JG p s m args c D T t0 XR LR tgR b Ln xs) (hq : q < 512) (h5 : 5 * q + 5 ≤ Ln) (hLn : Ln ≤ 2560) (nx : JN p l e s m args below meth c Q D T t0 XR LR tgR b xa o q) (X : Nat → Nat → Nat) (L : List Nat) (tg : Nat → Nat × Nat) (A B : ew_R) (f : Nat → Int64) (H : Heap) (locs : List Loc) (ls : Array Slot) (I : JI s D T t0 XR LR tgR b xa o q (5 * q) X L tg A B f H locs ls) : W p l e room_1 s m args below meth c H locs (100 + 11 * q) (20000 + 2036 * q) Q (F0 m 461 ls []) := by
  obtain ⟨hx, hb, hml, hown, hts, hK, hN, hZ, hT, hC, hE, hX, hbl⟩ := G
  obtain ⟨S, W0, ha, hV, hW, hO, ⟨n1, n2, n3, n4⟩, hS, hl⟩ := I
  have hA : ∀ q, s.heap.size ≤ q → jA s q := fun _ h => h
  have hth : ew_in X L tg 0 0 (X 0 0) := W0.v0 0 (by simp)
  have hbA : ¬ jA s b := Nat.not_le.mpr hbl
  subst ha
  obtain ⟨r, B', hc, hr⟩ := pr_letters (l := l) (D := D) (T := T) ⟨hq, S, W0, hE⟩ 
  refine lv_aload_n hx hb dJ_461 rfl (lv_at hl 2 rfl) ?_
  refine lw_calli (va_runV (As := []) (rest := []) ⟨hx, hb, hml, hown, hts⟩ (hc _) (cwV 0 hts gJ_56 rfl rfl rfl (by decide +kernel) ⟨Nat.le_of_ble_eq_true rfl, Nat.le_of_ble_eq_true rfl⟩) (em_preV hK hN hV hZ hS hA hth (cC_0 _ _ _ _) rfl) rfl rfl hl.1 rfl (lv_room (Nat.le_of_ble_eq_true rfl)) dJ_462 ⟨by show _ ≤ 601024; omega, by show _ ≤ 7293034; omega⟩) hV hS hA (fun r1 X1 L1 tg1 u H1 locs1 hp hV1 hz hk hL1 hS1 => ?_)
  obtain ⟨er, S1, W1, hin1⟩ := hp
  obtain ⟨hW1, n3'⟩ := j_cls (L1 := L1) hW n2 n3 (fun q h1 h2 _ => hk q h1 h2) (fun b hb => (hL1 b hb).elim Or.inl (fun h => Or.inr (Or.inr h)))
  have hO1 := va_o1 hO (hk o (va_o1.lt hO) n1)
  have n1' : o ∉ L1 := fun z => (hL1 o z).elim n1 (fun z => by have := va_o1.lt hO; omega)
  refine lv_aload_n hx hb dJ_465 rfl (lv_at hl 3 rfl) ?_
  refine lr_calli (va_runV (As := []) (rest := [.int r1]) ⟨hx, hb, hml, hown, hts⟩ (hr _) (cwV 0 hts gJ_59 rfl rfl rfl (by decide +kernel) ⟨Nat.le_of_ble_eq_true rfl, Nat.le_of_ble_eq_true rfl⟩) (er_preV hK hW1 (hE 0 (by decide)) (cR_0 _ _ _) rfl) rfl rfl hl.1 rfl (lv_room (Nat.le_of_ble_eq_true rfl)) dJ_466 ⟨by show _ ≤ 601024; omega, by show _ ≤ 7293034; omega⟩) hW1 hS1 hA (fun r2 v H2 locs2 hp2 hW2 hz2 hk2 hS2 => ?_)
  obtain ⟨e2, ev⟩ := hp2
  refine lv_icmp_eq (tgt := 772) hx hb dJ_469 rfl (fun _ => ?_) (fun h9 => absurd (er.trans e2.symm) h9)
  refine W.widen (k := 100 + 11 * (q + 1)) (n := 20000 + 2036 * (q + 1)) (by omega) (by omega) ?_
  rw [ev] at hW2
  exact nx X1 L1 tg1 u B' f H2 locs2 ls ⟨S1, W1, (hin1 0 0 _ hth).1, hV1.kept (fun a ha => hk2 a (hV1.lt ha) (n3' a ha)), hW2, va_o1 hO1 (hk2 o (va_o1.lt hO1) n2), ⟨n1', n2, n3', n4⟩, hS2, hl⟩
set_option maxHeartbeats 4000000 in
theorem j_carry (hfl : l.flags = pinnedFlags ++ [noTraceFlag]) (G : JG p s m args c D T t0 XR LR tgR b Ln xs) (hq : q < 512) (h5 : 5 * q + 5 ≤ Ln) (hLn : Ln ≤ 2560) (nx : JN p l e s m args below meth c Q D T t0 XR LR tgR b xa o q) (X : Nat → Nat → Nat) (L : List Nat) (tg : Nat → Nat × Nat) (A B : ew_R) (f : Nat → Int64) (H : Heap) (locs : List Loc) (ls : Array Slot) (I : JI s D T t0 XR LR tgR b xa o q (5 * q) X L tg A B f H locs ls) : W p l e room_1 s m args below meth c H locs (100 + 11 * q) (20000 + 2036 * q) Q (F0 m 474 ls []) := by
  obtain ⟨hx, hb, hml, hown, hts, hK, hN, hZ, hT, hC, hE, hX, hbl⟩ := G
  obtain ⟨S, W0, ha, hV, hW, hO, ⟨n1, n2, n3, n4⟩, hS, hl⟩ := I
  have hA : ∀ q, s.heap.size ≤ q → jA s q := fun _ h => h
  have hth : ew_in X L tg 0 0 (X 0 0) := W0.v0 0 (by simp)
  have hbA : ¬ jA s b := Nat.not_le.mpr hbl
  subst ha
  obtain ⟨r, B', hc, hr⟩ := pr_carry (l := l) (D := D) (T := T) ⟨hq, S, W0, hE⟩ (xs (5 * q + 1))
  refine lv_aload_n hx hb dJ_474 rfl (lv_at hl 2 rfl) ?_
  refine lv_aload_n hx hb dJ_475 rfl (lv_at hl 1 rfl) ?_
  refine lv_iload hx hb dJ_476 (lv_at hl 0 rfl) ?_
  refine lv_iconst (v := 1) hx hb dJ_478 (by decide) ?_
  refine lv_iadd hx hb dJ_479 ?_
  refine lv_toe (y := nI (5 * q + 1)) (nI_add (5 * q) 1) ?_
  refine va_sld hx hb hX hbl hbA hS (vp_in_nI (by omega) (by omega)) dJ_480 ?_
  refine lv_toe (y := xs (5 * q + 1)) (by rw [nI_clamp (by omega)]) ?_
  refine lw_calli (va_runV (As := [.int (xs (5 * q + 1))]) (rest := []) ⟨hx, hb, hml, hown, hts⟩ (hc _) (cwV 1 hts gJ_60 rfl rfl rfl (by decide +kernel) ⟨Nat.le_of_ble_eq_true rfl, Nat.le_of_ble_eq_true rfl⟩) (em_preV hK hN hV hZ hS hA hth (cC_0 _ _ _ _) rfl) rfl rfl hl.1 rfl (lv_room (Nat.le_of_ble_eq_true rfl)) dJ_481 ⟨by show _ ≤ 601024; omega, by show _ ≤ 7293034; omega⟩) hV hS hA (fun r1 X1 L1 tg1 u H1 locs1 hp hV1 hz hk hL1 hS1 => ?_)
  obtain ⟨er, S1, W1, hin1⟩ := hp
  obtain ⟨hW1, n3'⟩ := j_cls (L1 := L1) hW n2 n3 (fun q h1 h2 _ => hk q h1 h2) (fun b hb => (hL1 b hb).elim Or.inl (fun h => Or.inr (Or.inr h)))
  have hO1 := va_o1 hO (hk o (va_o1.lt hO) n1)
  have n1' : o ∉ L1 := fun z => (hL1 o z).elim n1 (fun z => by have := va_o1.lt hO; omega)
  refine lv_aload_n hx hb dJ_484 rfl (lv_at hl 3 rfl) ?_
  refine lv_aload_n hx hb dJ_485 rfl (lv_at hl 1 rfl) ?_
  refine lv_iload hx hb dJ_486 (lv_at hl 0 rfl) ?_
  refine lv_iconst (v := 1) hx hb dJ_488 (by decide) ?_
  refine lv_iadd hx hb dJ_489 ?_
  refine lv_toe (y := nI (5 * q + 1)) (nI_add (5 * q) 1) ?_
  refine va_sld hx hb hX hbl hbA hS1 (vp_in_nI (by omega) (by omega)) dJ_490 ?_
  refine lv_toe (y := xs (5 * q + 1)) (by rw [nI_clamp (by omega)]) ?_
  refine lr_calli (va_runV (As := [.int (xs (5 * q + 1))]) (rest := [.int r1]) ⟨hx, hb, hml, hown, hts⟩ (hr _) (cwV 1 hts gJ_64 rfl rfl rfl (by decide +kernel) ⟨Nat.le_of_ble_eq_true rfl, Nat.le_of_ble_eq_true rfl⟩) (er_preV hK hW1 (hE 0 (by decide)) (cR_0 _ _ _) rfl) rfl rfl hl.1 rfl (lv_room (Nat.le_of_ble_eq_true rfl)) dJ_491 ⟨by show _ ≤ 601024; omega, by show _ ≤ 7293034; omega⟩) hW1 hS1 hA (fun r2 v H2 locs2 hp2 hW2 hz2 hk2 hS2 => ?_)
  obtain ⟨e2, ev⟩ := hp2
  refine lv_icmp_eq (tgt := 772) hx hb dJ_494 rfl (fun _ => ?_) (fun h9 => absurd (er.trans e2.symm) h9)
  refine W.widen (k := 100 + 11 * (q + 1)) (n := 20000 + 2036 * (q + 1)) (by omega) (by omega) ?_
  rw [ev] at hW2
  exact nx X1 L1 tg1 u B' f H2 locs2 ls ⟨S1, W1, (hin1 0 0 _ hth).1, hV1.kept (fun a ha => hk2 a (hV1.lt ha) (n3' a ha)), hW2, va_o1 hO1 (hk2 o (va_o1.lt hO1) n2), ⟨n1', n2, n3', n4⟩, hS2, hl⟩
set_option maxHeartbeats 4000000 in
theorem j_drop (hfl : l.flags = pinnedFlags ++ [noTraceFlag]) (G : JG p s m args c D T t0 XR LR tgR b Ln xs) (hq : q < 512) (h5 : 5 * q + 5 ≤ Ln) (hLn : Ln ≤ 2560) (nx : JN p l e s m args below meth c Q D T t0 XR LR tgR b xa o q) (X : Nat → Nat → Nat) (L : List Nat) (tg : Nat → Nat × Nat) (A B : ew_R) (f : Nat → Int64) (H : Heap) (locs : List Loc) (ls : Array Slot) (I : JI s D T t0 XR LR tgR b xa o q (5 * q) X L tg A B f H locs ls) : W p l e room_1 s m args below meth c H locs (100 + 11 * q) (20000 + 2036 * q) Q (F0 m 499 ls []) := by
  obtain ⟨hx, hb, hml, hown, hts, hK, hN, hZ, hT, hC, hE, hX, hbl⟩ := G
  obtain ⟨S, W0, ha, hV, hW, hO, ⟨n1, n2, n3, n4⟩, hS, hl⟩ := I
  have hA : ∀ q, s.heap.size ≤ q → jA s q := fun _ h => h
  have hth : ew_in X L tg 0 0 (X 0 0) := W0.v0 0 (by simp)
  have hbA : ¬ jA s b := Nat.not_le.mpr hbl
  subst ha
  obtain ⟨r, B', hc, hr⟩ := pr_drop (l := l) (D := D) (T := T) ⟨hq, S, W0, hE⟩ (xs (5 * q + 1))
  refine lv_aload_n hx hb dJ_499 rfl (lv_at hl 2 rfl) ?_
  refine lv_aload_n hx hb dJ_500 rfl (lv_at hl 1 rfl) ?_
  refine lv_iload hx hb dJ_501 (lv_at hl 0 rfl) ?_
  refine lv_iconst (v := 1) hx hb dJ_503 (by decide) ?_
  refine lv_iadd hx hb dJ_504 ?_
  refine lv_toe (y := nI (5 * q + 1)) (nI_add (5 * q) 1) ?_
  refine va_sld hx hb hX hbl hbA hS (vp_in_nI (by omega) (by omega)) dJ_505 ?_
  refine lv_toe (y := xs (5 * q + 1)) (by rw [nI_clamp (by omega)]) ?_
  refine lw_calli (va_runV (As := [.int (xs (5 * q + 1))]) (rest := []) ⟨hx, hb, hml, hown, hts⟩ (hc _) (cwV 1 hts gJ_65 rfl rfl rfl (by decide +kernel) ⟨Nat.le_of_ble_eq_true rfl, Nat.le_of_ble_eq_true rfl⟩) (em_preV hK hN hV hZ hS hA hth (cC_0 _ _ _ _) rfl) rfl rfl hl.1 rfl (lv_room (Nat.le_of_ble_eq_true rfl)) dJ_506 ⟨by show _ ≤ 601024; omega, by show _ ≤ 7293034; omega⟩) hV hS hA (fun r1 X1 L1 tg1 u H1 locs1 hp hV1 hz hk hL1 hS1 => ?_)
  obtain ⟨er, S1, W1, hin1⟩ := hp
  obtain ⟨hW1, n3'⟩ := j_cls (L1 := L1) hW n2 n3 (fun q h1 h2 _ => hk q h1 h2) (fun b hb => (hL1 b hb).elim Or.inl (fun h => Or.inr (Or.inr h)))
  have hO1 := va_o1 hO (hk o (va_o1.lt hO) n1)
  have n1' : o ∉ L1 := fun z => (hL1 o z).elim n1 (fun z => by have := va_o1.lt hO; omega)
  refine lv_aload_n hx hb dJ_509 rfl (lv_at hl 3 rfl) ?_
  refine lv_aload_n hx hb dJ_510 rfl (lv_at hl 1 rfl) ?_
  refine lv_iload hx hb dJ_511 (lv_at hl 0 rfl) ?_
  refine lv_iconst (v := 1) hx hb dJ_513 (by decide) ?_
  refine lv_iadd hx hb dJ_514 ?_
  refine lv_toe (y := nI (5 * q + 1)) (nI_add (5 * q) 1) ?_
  refine va_sld hx hb hX hbl hbA hS1 (vp_in_nI (by omega) (by omega)) dJ_515 ?_
  refine lv_toe (y := xs (5 * q + 1)) (by rw [nI_clamp (by omega)]) ?_
  refine lr_calli (va_runV (As := [.int (xs (5 * q + 1))]) (rest := [.int r1]) ⟨hx, hb, hml, hown, hts⟩ (hr _) (cwV 1 hts gJ_68 rfl rfl rfl (by decide +kernel) ⟨Nat.le_of_ble_eq_true rfl, Nat.le_of_ble_eq_true rfl⟩) (er_preV hK hW1 (hE 0 (by decide)) (cR_0 _ _ _) rfl) rfl rfl hl.1 rfl (lv_room (Nat.le_of_ble_eq_true rfl)) dJ_516 ⟨by show _ ≤ 601024; omega, by show _ ≤ 7293034; omega⟩) hW1 hS1 hA (fun r2 v H2 locs2 hp2 hW2 hz2 hk2 hS2 => ?_)
  obtain ⟨e2, ev⟩ := hp2
  refine lv_icmp_eq (tgt := 772) hx hb dJ_519 rfl (fun _ => ?_) (fun h9 => absurd (er.trans e2.symm) h9)
  refine W.widen (k := 100 + 11 * (q + 1)) (n := 20000 + 2036 * (q + 1)) (by omega) (by omega) ?_
  rw [ev] at hW2
  exact nx X1 L1 tg1 u B' f H2 locs2 ls ⟨S1, W1, (hin1 0 0 _ hth).1, hV1.kept (fun a ha => hk2 a (hV1.lt ha) (n3' a ha)), hW2, va_o1 hO1 (hk2 o (va_o1.lt hO1) n2), ⟨n1', n2, n3', n4⟩, hS2, hl⟩
set_option maxHeartbeats 4000000 in
theorem j_letter (hfl : l.flags = pinnedFlags ++ [noTraceFlag]) (G : JG p s m args c D T t0 XR LR tgR b Ln xs) (hq : q < 512) (h5 : 5 * q + 5 ≤ Ln) (hLn : Ln ≤ 2560) (nx : JN p l e s m args below meth c Q D T t0 XR LR tgR b xa o q) (X : Nat → Nat → Nat) (L : List Nat) (tg : Nat → Nat × Nat) (A B : ew_R) (f : Nat → Int64) (H : Heap) (locs : List Loc) (ls : Array Slot) (I : JI s D T t0 XR LR tgR b xa o q (5 * q) X L tg A B f H locs ls) : W p l e room_1 s m args below meth c H locs (100 + 11 * q) (20000 + 2036 * q) Q (F0 m 524 ls []) := by
  obtain ⟨hx, hb, hml, hown, hts, hK, hN, hZ, hT, hC, hE, hX, hbl⟩ := G
  obtain ⟨S, W0, ha, hV, hW, hO, ⟨n1, n2, n3, n4⟩, hS, hl⟩ := I
  have hA : ∀ q, s.heap.size ≤ q → jA s q := fun _ h => h
  have hth : ew_in X L tg 0 0 (X 0 0) := W0.v0 0 (by simp)
  have hbA : ¬ jA s b := Nat.not_le.mpr hbl
  subst ha
  obtain ⟨r, B', hc, hr⟩ := pr_letter (l := l) (D := D) (T := T) ⟨hq, S, W0, hE⟩ (xs (5 * q + 1)) (xs (5 * q + 2))
  refine lv_aload_n hx hb dJ_524 rfl (lv_at hl 2 rfl) ?_
  refine lv_aload_n hx hb dJ_525 rfl (lv_at hl 1 rfl) ?_
  refine lv_iload hx hb dJ_526 (lv_at hl 0 rfl) ?_
  refine lv_iconst (v := 1) hx hb dJ_528 (by decide) ?_
  refine lv_iadd hx hb dJ_529 ?_
  refine lv_toe (y := nI (5 * q + 1)) (nI_add (5 * q) 1) ?_
  refine va_sld hx hb hX hbl hbA hS (vp_in_nI (by omega) (by omega)) dJ_530 ?_
  refine lv_toe (y := xs (5 * q + 1)) (by rw [nI_clamp (by omega)]) ?_
  refine lv_aload_n hx hb dJ_531 rfl (lv_at hl 1 rfl) ?_
  refine lv_iload hx hb dJ_532 (lv_at hl 0 rfl) ?_
  refine lv_iconst (v := 2) hx hb dJ_534 (by decide) ?_
  refine lv_iadd hx hb dJ_535 ?_
  refine lv_toe (y := nI (5 * q + 2)) (nI_add (5 * q) 2) ?_
  refine va_sld hx hb hX hbl hbA hS (vp_in_nI (by omega) (by omega)) dJ_536 ?_
  refine lv_toe (y := xs (5 * q + 2)) (by rw [nI_clamp (by omega)]) ?_
  refine lw_calli (va_runV (As := [.int (xs (5 * q + 1)), .int (xs (5 * q + 2))]) (rest := []) ⟨hx, hb, hml, hown, hts⟩ (hc _) (cwV 2 hts gJ_69 rfl rfl rfl (by decide +kernel) ⟨Nat.le_of_ble_eq_true rfl, Nat.le_of_ble_eq_true rfl⟩) (em_preV hK hN hV hZ hS hA hth (cC_0 _ _ _ _) rfl) rfl rfl hl.1 rfl (lv_room (Nat.le_of_ble_eq_true rfl)) dJ_537 ⟨by show _ ≤ 601024; omega, by show _ ≤ 7293034; omega⟩) hV hS hA (fun r1 X1 L1 tg1 u H1 locs1 hp hV1 hz hk hL1 hS1 => ?_)
  obtain ⟨er, S1, W1, hin1⟩ := hp
  obtain ⟨hW1, n3'⟩ := j_cls (L1 := L1) hW n2 n3 (fun q h1 h2 _ => hk q h1 h2) (fun b hb => (hL1 b hb).elim Or.inl (fun h => Or.inr (Or.inr h)))
  have hO1 := va_o1 hO (hk o (va_o1.lt hO) n1)
  have n1' : o ∉ L1 := fun z => (hL1 o z).elim n1 (fun z => by have := va_o1.lt hO; omega)
  refine lv_aload_n hx hb dJ_540 rfl (lv_at hl 3 rfl) ?_
  refine lv_aload_n hx hb dJ_541 rfl (lv_at hl 1 rfl) ?_
  refine lv_iload hx hb dJ_542 (lv_at hl 0 rfl) ?_
  refine lv_iconst (v := 1) hx hb dJ_544 (by decide) ?_
  refine lv_iadd hx hb dJ_545 ?_
  refine lv_toe (y := nI (5 * q + 1)) (nI_add (5 * q) 1) ?_
  refine va_sld hx hb hX hbl hbA hS1 (vp_in_nI (by omega) (by omega)) dJ_546 ?_
  refine lv_toe (y := xs (5 * q + 1)) (by rw [nI_clamp (by omega)]) ?_
  refine lv_aload_n hx hb dJ_547 rfl (lv_at hl 1 rfl) ?_
  refine lv_iload hx hb dJ_548 (lv_at hl 0 rfl) ?_
  refine lv_iconst (v := 2) hx hb dJ_550 (by decide) ?_
  refine lv_iadd hx hb dJ_551 ?_
  refine lv_toe (y := nI (5 * q + 2)) (nI_add (5 * q) 2) ?_
  refine va_sld hx hb hX hbl hbA hS1 (vp_in_nI (by omega) (by omega)) dJ_552 ?_
  refine lv_toe (y := xs (5 * q + 2)) (by rw [nI_clamp (by omega)]) ?_
  refine lr_calli (va_runV (As := [.int (xs (5 * q + 1)), .int (xs (5 * q + 2))]) (rest := [.int r1]) ⟨hx, hb, hml, hown, hts⟩ (hr _) (cwV 2 hts gJ_72 rfl rfl rfl (by decide +kernel) ⟨Nat.le_of_ble_eq_true rfl, Nat.le_of_ble_eq_true rfl⟩) (er_preV hK hW1 (hE 0 (by decide)) (cR_0 _ _ _) rfl) rfl rfl hl.1 rfl (lv_room (Nat.le_of_ble_eq_true rfl)) dJ_553 ⟨by show _ ≤ 601024; omega, by show _ ≤ 7293034; omega⟩) hW1 hS1 hA (fun r2 v H2 locs2 hp2 hW2 hz2 hk2 hS2 => ?_)
  obtain ⟨e2, ev⟩ := hp2
  refine lv_icmp_eq (tgt := 772) hx hb dJ_556 rfl (fun _ => ?_) (fun h9 => absurd (er.trans e2.symm) h9)
  refine W.widen (k := 100 + 11 * (q + 1)) (n := 20000 + 2036 * (q + 1)) (by omega) (by omega) ?_
  rw [ev] at hW2
  exact nx X1 L1 tg1 u B' f H2 locs2 ls ⟨S1, W1, (hin1 0 0 _ hth).1, hV1.kept (fun a ha => hk2 a (hV1.lt ha) (n3' a ha)), hW2, va_o1 hO1 (hk2 o (va_o1.lt hO1) n2), ⟨n1', n2, n3', n4⟩, hS2, hl⟩
set_option maxHeartbeats 4000000 in
theorem j_book (hfl : l.flags = pinnedFlags ++ [noTraceFlag]) (G : JG p s m args c D T t0 XR LR tgR b Ln xs) (hq : q < 512) (h5 : 5 * q + 5 ≤ Ln) (hLn : Ln ≤ 2560) (nx : JN p l e s m args below meth c Q D T t0 XR LR tgR b xa o q) (X : Nat → Nat → Nat) (L : List Nat) (tg : Nat → Nat × Nat) (A B : ew_R) (f : Nat → Int64) (H : Heap) (locs : List Loc) (ls : Array Slot) (I : JI s D T t0 XR LR tgR b xa o q (5 * q) X L tg A B f H locs ls) : W p l e room_1 s m args below meth c H locs (100 + 11 * q) (20000 + 2036 * q) Q (F0 m 561 ls []) := by
  obtain ⟨hx, hb, hml, hown, hts, hK, hN, hZ, hT, hC, hE, hX, hbl⟩ := G
  obtain ⟨S, W0, ha, hV, hW, hO, ⟨n1, n2, n3, n4⟩, hS, hl⟩ := I
  have hA : ∀ q, s.heap.size ≤ q → jA s q := fun _ h => h
  have hth : ew_in X L tg 0 0 (X 0 0) := W0.v0 0 (by simp)
  have hbA : ¬ jA s b := Nat.not_le.mpr hbl
  subst ha
  obtain ⟨r, B', hc, hr⟩ := pr_book (l := l) (D := D) (T := T) ⟨hq, S, W0, hE⟩ (xs (5 * q + 1)) (xs (5 * q + 2)) (xs (5 * q + 3))
  refine lv_aload_n hx hb dJ_561 rfl (lv_at hl 2 rfl) ?_
  refine lv_aload_n hx hb dJ_562 rfl (lv_at hl 1 rfl) ?_
  refine lv_iload hx hb dJ_563 (lv_at hl 0 rfl) ?_
  refine lv_iconst (v := 1) hx hb dJ_565 (by decide) ?_
  refine lv_iadd hx hb dJ_566 ?_
  refine lv_toe (y := nI (5 * q + 1)) (nI_add (5 * q) 1) ?_
  refine va_sld hx hb hX hbl hbA hS (vp_in_nI (by omega) (by omega)) dJ_567 ?_
  refine lv_toe (y := xs (5 * q + 1)) (by rw [nI_clamp (by omega)]) ?_
  refine lv_aload_n hx hb dJ_568 rfl (lv_at hl 1 rfl) ?_
  refine lv_iload hx hb dJ_569 (lv_at hl 0 rfl) ?_
  refine lv_iconst (v := 2) hx hb dJ_571 (by decide) ?_
  refine lv_iadd hx hb dJ_572 ?_
  refine lv_toe (y := nI (5 * q + 2)) (nI_add (5 * q) 2) ?_
  refine va_sld hx hb hX hbl hbA hS (vp_in_nI (by omega) (by omega)) dJ_573 ?_
  refine lv_toe (y := xs (5 * q + 2)) (by rw [nI_clamp (by omega)]) ?_
  refine lv_aload_n hx hb dJ_574 rfl (lv_at hl 1 rfl) ?_
  refine lv_iload hx hb dJ_575 (lv_at hl 0 rfl) ?_
  refine lv_iconst (v := 3) hx hb dJ_577 (by decide) ?_
  refine lv_iadd hx hb dJ_578 ?_
  refine lv_toe (y := nI (5 * q + 3)) (nI_add (5 * q) 3) ?_
  refine va_sld hx hb hX hbl hbA hS (vp_in_nI (by omega) (by omega)) dJ_579 ?_
  refine lv_toe (y := xs (5 * q + 3)) (by rw [nI_clamp (by omega)]) ?_
  refine lw_calli (va_runV (As := [.int (xs (5 * q + 1)), .int (xs (5 * q + 2)), .int (xs (5 * q + 3))]) (rest := []) ⟨hx, hb, hml, hown, hts⟩ (hc _) (cwV 3 hts gJ_73 rfl rfl rfl (by decide +kernel) ⟨Nat.le_of_ble_eq_true rfl, Nat.le_of_ble_eq_true rfl⟩) (em_preV hK hN hV hZ hS hA hth (cC_0 _ _ _ _) rfl) rfl rfl hl.1 rfl (lv_room (Nat.le_of_ble_eq_true rfl)) dJ_580 ⟨by show _ ≤ 601024; omega, by show _ ≤ 7293034; omega⟩) hV hS hA (fun r1 X1 L1 tg1 u H1 locs1 hp hV1 hz hk hL1 hS1 => ?_)
  obtain ⟨er, S1, W1, hin1⟩ := hp
  obtain ⟨hW1, n3'⟩ := j_cls (L1 := L1) hW n2 n3 (fun q h1 h2 _ => hk q h1 h2) (fun b hb => (hL1 b hb).elim Or.inl (fun h => Or.inr (Or.inr h)))
  have hO1 := va_o1 hO (hk o (va_o1.lt hO) n1)
  have n1' : o ∉ L1 := fun z => (hL1 o z).elim n1 (fun z => by have := va_o1.lt hO; omega)
  refine lv_aload_n hx hb dJ_583 rfl (lv_at hl 3 rfl) ?_
  refine lv_aload_n hx hb dJ_584 rfl (lv_at hl 1 rfl) ?_
  refine lv_iload hx hb dJ_585 (lv_at hl 0 rfl) ?_
  refine lv_iconst (v := 1) hx hb dJ_587 (by decide) ?_
  refine lv_iadd hx hb dJ_588 ?_
  refine lv_toe (y := nI (5 * q + 1)) (nI_add (5 * q) 1) ?_
  refine va_sld hx hb hX hbl hbA hS1 (vp_in_nI (by omega) (by omega)) dJ_589 ?_
  refine lv_toe (y := xs (5 * q + 1)) (by rw [nI_clamp (by omega)]) ?_
  refine lv_aload_n hx hb dJ_590 rfl (lv_at hl 1 rfl) ?_
  refine lv_iload hx hb dJ_591 (lv_at hl 0 rfl) ?_
  refine lv_iconst (v := 2) hx hb dJ_593 (by decide) ?_
  refine lv_iadd hx hb dJ_594 ?_
  refine lv_toe (y := nI (5 * q + 2)) (nI_add (5 * q) 2) ?_
  refine va_sld hx hb hX hbl hbA hS1 (vp_in_nI (by omega) (by omega)) dJ_595 ?_
  refine lv_toe (y := xs (5 * q + 2)) (by rw [nI_clamp (by omega)]) ?_
  refine lv_aload_n hx hb dJ_596 rfl (lv_at hl 1 rfl) ?_
  refine lv_iload hx hb dJ_597 (lv_at hl 0 rfl) ?_
  refine lv_iconst (v := 3) hx hb dJ_599 (by decide) ?_
  refine lv_iadd hx hb dJ_600 ?_
  refine lv_toe (y := nI (5 * q + 3)) (nI_add (5 * q) 3) ?_
  refine va_sld hx hb hX hbl hbA hS1 (vp_in_nI (by omega) (by omega)) dJ_601 ?_
  refine lv_toe (y := xs (5 * q + 3)) (by rw [nI_clamp (by omega)]) ?_
  refine lr_calli (va_runV (As := [.int (xs (5 * q + 1)), .int (xs (5 * q + 2)), .int (xs (5 * q + 3))]) (rest := [.int r1]) ⟨hx, hb, hml, hown, hts⟩ (hr _) (cwV 3 hts gJ_77 rfl rfl rfl (by decide +kernel) ⟨Nat.le_of_ble_eq_true rfl, Nat.le_of_ble_eq_true rfl⟩) (er_preV hK hW1 (hE 0 (by decide)) (cR_0 _ _ _) rfl) rfl rfl hl.1 rfl (lv_room (Nat.le_of_ble_eq_true rfl)) dJ_602 ⟨by show _ ≤ 601024; omega, by show _ ≤ 7293034; omega⟩) hW1 hS1 hA (fun r2 v H2 locs2 hp2 hW2 hz2 hk2 hS2 => ?_)
  obtain ⟨e2, ev⟩ := hp2
  refine lv_icmp_eq (tgt := 772) hx hb dJ_605 rfl (fun _ => ?_) (fun h9 => absurd (er.trans e2.symm) h9)
  refine W.widen (k := 100 + 11 * (q + 1)) (n := 20000 + 2036 * (q + 1)) (by omega) (by omega) ?_
  rw [ev] at hW2
  exact nx X1 L1 tg1 u B' f H2 locs2 ls ⟨S1, W1, (hin1 0 0 _ hth).1, hV1.kept (fun a ha => hk2 a (hV1.lt ha) (n3' a ha)), hW2, va_o1 hO1 (hk2 o (va_o1.lt hO1) n2), ⟨n1', n2, n3', n4⟩, hS2, hl⟩
set_option maxHeartbeats 4000000 in
theorem j_supplier (hfl : l.flags = pinnedFlags ++ [noTraceFlag]) (G : JG p s m args c D T t0 XR LR tgR b Ln xs) (hq : q < 512) (h5 : 5 * q + 5 ≤ Ln) (hLn : Ln ≤ 2560) (nx : JN p l e s m args below meth c Q D T t0 XR LR tgR b xa o q) (X : Nat → Nat → Nat) (L : List Nat) (tg : Nat → Nat × Nat) (A B : ew_R) (f : Nat → Int64) (H : Heap) (locs : List Loc) (ls : Array Slot) (I : JI s D T t0 XR LR tgR b xa o q (5 * q) X L tg A B f H locs ls) : W p l e room_1 s m args below meth c H locs (100 + 11 * q) (20000 + 2036 * q) Q (F0 m 610 ls []) := by
  obtain ⟨hx, hb, hml, hown, hts, hK, hN, hZ, hT, hC, hE, hX, hbl⟩ := G
  obtain ⟨S, W0, ha, hV, hW, hO, ⟨n1, n2, n3, n4⟩, hS, hl⟩ := I
  have hA : ∀ q, s.heap.size ≤ q → jA s q := fun _ h => h
  have hth : ew_in X L tg 0 0 (X 0 0) := W0.v0 0 (by simp)
  have hbA : ¬ jA s b := Nat.not_le.mpr hbl
  subst ha
  obtain ⟨r, B', hc, hr⟩ := pr_supplier (l := l) (D := D) (T := T) ⟨hq, S, W0, hE⟩ (xs (5 * q + 1))
  refine lv_aload_n hx hb dJ_610 rfl (lv_at hl 2 rfl) ?_
  refine lv_aload_n hx hb dJ_611 rfl (lv_at hl 1 rfl) ?_
  refine lv_iload hx hb dJ_612 (lv_at hl 0 rfl) ?_
  refine lv_iconst (v := 1) hx hb dJ_614 (by decide) ?_
  refine lv_iadd hx hb dJ_615 ?_
  refine lv_toe (y := nI (5 * q + 1)) (nI_add (5 * q) 1) ?_
  refine va_sld hx hb hX hbl hbA hS (vp_in_nI (by omega) (by omega)) dJ_616 ?_
  refine lv_toe (y := xs (5 * q + 1)) (by rw [nI_clamp (by omega)]) ?_
  refine lw_calli (va_runV (As := [.int (xs (5 * q + 1))]) (rest := []) ⟨hx, hb, hml, hown, hts⟩ (hc _) (cwV 1 hts gJ_78 rfl rfl rfl (by decide +kernel) ⟨Nat.le_of_ble_eq_true rfl, Nat.le_of_ble_eq_true rfl⟩) (em_preV hK hN hV hZ hS hA hth (cC_0 _ _ _ _) rfl) rfl rfl hl.1 rfl (lv_room (Nat.le_of_ble_eq_true rfl)) dJ_617 ⟨by show _ ≤ 601024; omega, by show _ ≤ 7293034; omega⟩) hV hS hA (fun r1 X1 L1 tg1 u H1 locs1 hp hV1 hz hk hL1 hS1 => ?_)
  obtain ⟨er, S1, W1, hin1⟩ := hp
  obtain ⟨hW1, n3'⟩ := j_cls (L1 := L1) hW n2 n3 (fun q h1 h2 _ => hk q h1 h2) (fun b hb => (hL1 b hb).elim Or.inl (fun h => Or.inr (Or.inr h)))
  have hO1 := va_o1 hO (hk o (va_o1.lt hO) n1)
  have n1' : o ∉ L1 := fun z => (hL1 o z).elim n1 (fun z => by have := va_o1.lt hO; omega)
  refine lv_aload_n hx hb dJ_620 rfl (lv_at hl 3 rfl) ?_
  refine lv_aload_n hx hb dJ_621 rfl (lv_at hl 1 rfl) ?_
  refine lv_iload hx hb dJ_622 (lv_at hl 0 rfl) ?_
  refine lv_iconst (v := 1) hx hb dJ_624 (by decide) ?_
  refine lv_iadd hx hb dJ_625 ?_
  refine lv_toe (y := nI (5 * q + 1)) (nI_add (5 * q) 1) ?_
  refine va_sld hx hb hX hbl hbA hS1 (vp_in_nI (by omega) (by omega)) dJ_626 ?_
  refine lv_toe (y := xs (5 * q + 1)) (by rw [nI_clamp (by omega)]) ?_
  refine lr_calli (va_runV (As := [.int (xs (5 * q + 1))]) (rest := [.int r1]) ⟨hx, hb, hml, hown, hts⟩ (hr _) (cwV 1 hts gJ_81 rfl rfl rfl (by decide +kernel) ⟨Nat.le_of_ble_eq_true rfl, Nat.le_of_ble_eq_true rfl⟩) (er_preV hK hW1 (hE 0 (by decide)) (cR_0 _ _ _) rfl) rfl rfl hl.1 rfl (lv_room (Nat.le_of_ble_eq_true rfl)) dJ_627 ⟨by show _ ≤ 601024; omega, by show _ ≤ 7293034; omega⟩) hW1 hS1 hA (fun r2 v H2 locs2 hp2 hW2 hz2 hk2 hS2 => ?_)
  obtain ⟨e2, ev⟩ := hp2
  refine lv_icmp_eq (tgt := 772) hx hb dJ_630 rfl (fun _ => ?_) (fun h9 => absurd (er.trans e2.symm) h9)
  refine W.widen (k := 100 + 11 * (q + 1)) (n := 20000 + 2036 * (q + 1)) (by omega) (by omega) ?_
  rw [ev] at hW2
  exact nx X1 L1 tg1 u B' f H2 locs2 ls ⟨S1, W1, (hin1 0 0 _ hth).1, hV1.kept (fun a ha => hk2 a (hV1.lt ha) (n3' a ha)), hW2, va_o1 hO1 (hk2 o (va_o1.lt hO1) n2), ⟨n1', n2, n3', n4⟩, hS2, hl⟩
set_option maxHeartbeats 4000000 in
theorem j_holder (hfl : l.flags = pinnedFlags ++ [noTraceFlag]) (G : JG p s m args c D T t0 XR LR tgR b Ln xs) (hq : q < 512) (h5 : 5 * q + 5 ≤ Ln) (hLn : Ln ≤ 2560) (nx : JN p l e s m args below meth c Q D T t0 XR LR tgR b xa o q) (X : Nat → Nat → Nat) (L : List Nat) (tg : Nat → Nat × Nat) (A B : ew_R) (f : Nat → Int64) (H : Heap) (locs : List Loc) (ls : Array Slot) (I : JI s D T t0 XR LR tgR b xa o q (5 * q) X L tg A B f H locs ls) : W p l e room_1 s m args below meth c H locs (100 + 11 * q) (20000 + 2036 * q) Q (F0 m 635 ls []) := by
  obtain ⟨hx, hb, hml, hown, hts, hK, hN, hZ, hT, hC, hE, hX, hbl⟩ := G
  obtain ⟨S, W0, ha, hV, hW, hO, ⟨n1, n2, n3, n4⟩, hS, hl⟩ := I
  have hA : ∀ q, s.heap.size ≤ q → jA s q := fun _ h => h
  have hth : ew_in X L tg 0 0 (X 0 0) := W0.v0 0 (by simp)
  have hbA : ¬ jA s b := Nat.not_le.mpr hbl
  subst ha
  obtain ⟨r, B', hc, hr⟩ := pr_holder (l := l) (D := D) (T := T) ⟨hq, S, W0, hE⟩ (xs (5 * q + 1))
  refine lv_aload_n hx hb dJ_635 rfl (lv_at hl 2 rfl) ?_
  refine lv_aload_n hx hb dJ_636 rfl (lv_at hl 1 rfl) ?_
  refine lv_iload hx hb dJ_637 (lv_at hl 0 rfl) ?_
  refine lv_iconst (v := 1) hx hb dJ_639 (by decide) ?_
  refine lv_iadd hx hb dJ_640 ?_
  refine lv_toe (y := nI (5 * q + 1)) (nI_add (5 * q) 1) ?_
  refine va_sld hx hb hX hbl hbA hS (vp_in_nI (by omega) (by omega)) dJ_641 ?_
  refine lv_toe (y := xs (5 * q + 1)) (by rw [nI_clamp (by omega)]) ?_
  refine lw_calli (va_runV (As := [.int (xs (5 * q + 1))]) (rest := []) ⟨hx, hb, hml, hown, hts⟩ (hc _) (cwV 1 hts gJ_82 rfl rfl rfl (by decide +kernel) ⟨Nat.le_of_ble_eq_true rfl, Nat.le_of_ble_eq_true rfl⟩) (em_preV hK hN hV hZ hS hA hth (cC_0 _ _ _ _) rfl) rfl rfl hl.1 rfl (lv_room (Nat.le_of_ble_eq_true rfl)) dJ_642 ⟨by show _ ≤ 601024; omega, by show _ ≤ 7293034; omega⟩) hV hS hA (fun r1 X1 L1 tg1 u H1 locs1 hp hV1 hz hk hL1 hS1 => ?_)
  obtain ⟨er, S1, W1, hin1⟩ := hp
  obtain ⟨hW1, n3'⟩ := j_cls (L1 := L1) hW n2 n3 (fun q h1 h2 _ => hk q h1 h2) (fun b hb => (hL1 b hb).elim Or.inl (fun h => Or.inr (Or.inr h)))
  have hO1 := va_o1 hO (hk o (va_o1.lt hO) n1)
  have n1' : o ∉ L1 := fun z => (hL1 o z).elim n1 (fun z => by have := va_o1.lt hO; omega)
  refine lv_aload_n hx hb dJ_645 rfl (lv_at hl 3 rfl) ?_
  refine lv_aload_n hx hb dJ_646 rfl (lv_at hl 1 rfl) ?_
  refine lv_iload hx hb dJ_647 (lv_at hl 0 rfl) ?_
  refine lv_iconst (v := 1) hx hb dJ_649 (by decide) ?_
  refine lv_iadd hx hb dJ_650 ?_
  refine lv_toe (y := nI (5 * q + 1)) (nI_add (5 * q) 1) ?_
  refine va_sld hx hb hX hbl hbA hS1 (vp_in_nI (by omega) (by omega)) dJ_651 ?_
  refine lv_toe (y := xs (5 * q + 1)) (by rw [nI_clamp (by omega)]) ?_
  refine lr_calli (va_runV (As := [.int (xs (5 * q + 1))]) (rest := [.int r1]) ⟨hx, hb, hml, hown, hts⟩ (hr _) (cwV 1 hts gJ_85 rfl rfl rfl (by decide +kernel) ⟨Nat.le_of_ble_eq_true rfl, Nat.le_of_ble_eq_true rfl⟩) (er_preV hK hW1 (hE 0 (by decide)) (cR_0 _ _ _) rfl) rfl rfl hl.1 rfl (lv_room (Nat.le_of_ble_eq_true rfl)) dJ_652 ⟨by show _ ≤ 601024; omega, by show _ ≤ 7293034; omega⟩) hW1 hS1 hA (fun r2 v H2 locs2 hp2 hW2 hz2 hk2 hS2 => ?_)
  obtain ⟨e2, ev⟩ := hp2
  refine lv_icmp_eq (tgt := 772) hx hb dJ_655 rfl (fun _ => ?_) (fun h9 => absurd (er.trans e2.symm) h9)
  refine W.widen (k := 100 + 11 * (q + 1)) (n := 20000 + 2036 * (q + 1)) (by omega) (by omega) ?_
  rw [ev] at hW2
  exact nx X1 L1 tg1 u B' f H2 locs2 ls ⟨S1, W1, (hin1 0 0 _ hth).1, hV1.kept (fun a ha => hk2 a (hV1.lt ha) (n3' a ha)), hW2, va_o1 hO1 (hk2 o (va_o1.lt hO1) n2), ⟨n1', n2, n3', n4⟩, hS2, hl⟩
set_option maxHeartbeats 4000000 in
theorem j_promised (hfl : l.flags = pinnedFlags ++ [noTraceFlag]) (G : JG p s m args c D T t0 XR LR tgR b Ln xs) (hq : q < 512) (h5 : 5 * q + 5 ≤ Ln) (hLn : Ln ≤ 2560) (nx : JN p l e s m args below meth c Q D T t0 XR LR tgR b xa o q) (X : Nat → Nat → Nat) (L : List Nat) (tg : Nat → Nat × Nat) (A B : ew_R) (f : Nat → Int64) (H : Heap) (locs : List Loc) (ls : Array Slot) (I : JI s D T t0 XR LR tgR b xa o q (5 * q) X L tg A B f H locs ls) : W p l e room_1 s m args below meth c H locs (100 + 11 * q) (20000 + 2036 * q) Q (F0 m 660 ls []) := by
  obtain ⟨hx, hb, hml, hown, hts, hK, hN, hZ, hT, hC, hE, hX, hbl⟩ := G
  obtain ⟨S, W0, ha, hV, hW, hO, ⟨n1, n2, n3, n4⟩, hS, hl⟩ := I
  have hA : ∀ q, s.heap.size ≤ q → jA s q := fun _ h => h
  have hth : ew_in X L tg 0 0 (X 0 0) := W0.v0 0 (by simp)
  have hbA : ¬ jA s b := Nat.not_le.mpr hbl
  subst ha
  obtain ⟨r, B', hc, hr⟩ := pr_promised (l := l) (D := D) (T := T) ⟨hq, S, W0, hE⟩ (xs (5 * q + 1))
  refine lv_aload_n hx hb dJ_660 rfl (lv_at hl 2 rfl) ?_
  refine lv_aload_n hx hb dJ_661 rfl (lv_at hl 1 rfl) ?_
  refine lv_iload hx hb dJ_662 (lv_at hl 0 rfl) ?_
  refine lv_iconst (v := 1) hx hb dJ_664 (by decide) ?_
  refine lv_iadd hx hb dJ_665 ?_
  refine lv_toe (y := nI (5 * q + 1)) (nI_add (5 * q) 1) ?_
  refine va_sld hx hb hX hbl hbA hS (vp_in_nI (by omega) (by omega)) dJ_666 ?_
  refine lv_toe (y := xs (5 * q + 1)) (by rw [nI_clamp (by omega)]) ?_
  refine lw_calli (va_runV (As := [.int (xs (5 * q + 1))]) (rest := []) ⟨hx, hb, hml, hown, hts⟩ (hc _) (cwV 1 hts gJ_86 rfl rfl rfl (by decide +kernel) ⟨Nat.le_of_ble_eq_true rfl, Nat.le_of_ble_eq_true rfl⟩) (em_preV hK hN hV hZ hS hA hth (cC_0 _ _ _ _) rfl) rfl rfl hl.1 rfl (lv_room (Nat.le_of_ble_eq_true rfl)) dJ_667 ⟨by show _ ≤ 601024; omega, by show _ ≤ 7293034; omega⟩) hV hS hA (fun r1 X1 L1 tg1 u H1 locs1 hp hV1 hz hk hL1 hS1 => ?_)
  obtain ⟨er, S1, W1, hin1⟩ := hp
  obtain ⟨hW1, n3'⟩ := j_cls (L1 := L1) hW n2 n3 (fun q h1 h2 _ => hk q h1 h2) (fun b hb => (hL1 b hb).elim Or.inl (fun h => Or.inr (Or.inr h)))
  have hO1 := va_o1 hO (hk o (va_o1.lt hO) n1)
  have n1' : o ∉ L1 := fun z => (hL1 o z).elim n1 (fun z => by have := va_o1.lt hO; omega)
  refine lv_aload_n hx hb dJ_670 rfl (lv_at hl 3 rfl) ?_
  refine lv_aload_n hx hb dJ_671 rfl (lv_at hl 1 rfl) ?_
  refine lv_iload hx hb dJ_672 (lv_at hl 0 rfl) ?_
  refine lv_iconst (v := 1) hx hb dJ_674 (by decide) ?_
  refine lv_iadd hx hb dJ_675 ?_
  refine lv_toe (y := nI (5 * q + 1)) (nI_add (5 * q) 1) ?_
  refine va_sld hx hb hX hbl hbA hS1 (vp_in_nI (by omega) (by omega)) dJ_676 ?_
  refine lv_toe (y := xs (5 * q + 1)) (by rw [nI_clamp (by omega)]) ?_
  refine lr_calli (va_runV (As := [.int (xs (5 * q + 1))]) (rest := [.int r1]) ⟨hx, hb, hml, hown, hts⟩ (hr _) (cwV 1 hts gJ_89 rfl rfl rfl (by decide +kernel) ⟨Nat.le_of_ble_eq_true rfl, Nat.le_of_ble_eq_true rfl⟩) (er_preV hK hW1 (hE 0 (by decide)) (cR_0 _ _ _) rfl) rfl rfl hl.1 rfl (lv_room (Nat.le_of_ble_eq_true rfl)) dJ_677 ⟨by show _ ≤ 601024; omega, by show _ ≤ 7293034; omega⟩) hW1 hS1 hA (fun r2 v H2 locs2 hp2 hW2 hz2 hk2 hS2 => ?_)
  obtain ⟨e2, ev⟩ := hp2
  refine lv_icmp_eq (tgt := 772) hx hb dJ_680 rfl (fun _ => ?_) (fun h9 => absurd (er.trans e2.symm) h9)
  refine W.widen (k := 100 + 11 * (q + 1)) (n := 20000 + 2036 * (q + 1)) (by omega) (by omega) ?_
  rw [ev] at hW2
  exact nx X1 L1 tg1 u B' f H2 locs2 ls ⟨S1, W1, (hin1 0 0 _ hth).1, hV1.kept (fun a ha => hk2 a (hV1.lt ha) (n3' a ha)), hW2, va_o1 hO1 (hk2 o (va_o1.lt hO1) n2), ⟨n1', n2, n3', n4⟩, hS2, hl⟩
set_option maxHeartbeats 4000000 in
theorem j_balance (hfl : l.flags = pinnedFlags ++ [noTraceFlag]) (G : JG p s m args c D T t0 XR LR tgR b Ln xs) (hq : q < 512) (h5 : 5 * q + 5 ≤ Ln) (hLn : Ln ≤ 2560) (nx : JN p l e s m args below meth c Q D T t0 XR LR tgR b xa o q) (X : Nat → Nat → Nat) (L : List Nat) (tg : Nat → Nat × Nat) (A B : ew_R) (f : Nat → Int64) (H : Heap) (locs : List Loc) (ls : Array Slot) (I : JI s D T t0 XR LR tgR b xa o q (5 * q) X L tg A B f H locs ls) : W p l e room_1 s m args below meth c H locs (100 + 11 * q) (20000 + 2036 * q) Q (F0 m 685 ls []) := by
  obtain ⟨hx, hb, hml, hown, hts, hK, hN, hZ, hT, hC, hE, hX, hbl⟩ := G
  obtain ⟨S, W0, ha, hV, hW, hO, ⟨n1, n2, n3, n4⟩, hS, hl⟩ := I
  have hA : ∀ q, s.heap.size ≤ q → jA s q := fun _ h => h
  have hth : ew_in X L tg 0 0 (X 0 0) := W0.v0 0 (by simp)
  have hbA : ¬ jA s b := Nat.not_le.mpr hbl
  subst ha
  obtain ⟨r, B', hc, hr⟩ := pr_balance (l := l) (D := D) (T := T) ⟨hq, S, W0, hE⟩ (xs (5 * q + 1))
  refine lv_aload_n hx hb dJ_685 rfl (lv_at hl 2 rfl) ?_
  refine lv_aload_n hx hb dJ_686 rfl (lv_at hl 1 rfl) ?_
  refine lv_iload hx hb dJ_687 (lv_at hl 0 rfl) ?_
  refine lv_iconst (v := 1) hx hb dJ_689 (by decide) ?_
  refine lv_iadd hx hb dJ_690 ?_
  refine lv_toe (y := nI (5 * q + 1)) (nI_add (5 * q) 1) ?_
  refine va_sld hx hb hX hbl hbA hS (vp_in_nI (by omega) (by omega)) dJ_691 ?_
  refine lv_toe (y := xs (5 * q + 1)) (by rw [nI_clamp (by omega)]) ?_
  refine lw_calli (va_runV (As := [.int (xs (5 * q + 1))]) (rest := []) ⟨hx, hb, hml, hown, hts⟩ (hc _) (cwV 1 hts gJ_90 rfl rfl rfl (by decide +kernel) ⟨Nat.le_of_ble_eq_true rfl, Nat.le_of_ble_eq_true rfl⟩) (em_preV hK hN hV hZ hS hA hth (cC_0 _ _ _ _) rfl) rfl rfl hl.1 rfl (lv_room (Nat.le_of_ble_eq_true rfl)) dJ_692 ⟨by show _ ≤ 601024; omega, by show _ ≤ 7293034; omega⟩) hV hS hA (fun r1 X1 L1 tg1 u H1 locs1 hp hV1 hz hk hL1 hS1 => ?_)
  obtain ⟨er, S1, W1, hin1⟩ := hp
  obtain ⟨hW1, n3'⟩ := j_cls (L1 := L1) hW n2 n3 (fun q h1 h2 _ => hk q h1 h2) (fun b hb => (hL1 b hb).elim Or.inl (fun h => Or.inr (Or.inr h)))
  have hO1 := va_o1 hO (hk o (va_o1.lt hO) n1)
  have n1' : o ∉ L1 := fun z => (hL1 o z).elim n1 (fun z => by have := va_o1.lt hO; omega)
  refine lv_aload_n hx hb dJ_695 rfl (lv_at hl 3 rfl) ?_
  refine lv_aload_n hx hb dJ_696 rfl (lv_at hl 1 rfl) ?_
  refine lv_iload hx hb dJ_697 (lv_at hl 0 rfl) ?_
  refine lv_iconst (v := 1) hx hb dJ_699 (by decide) ?_
  refine lv_iadd hx hb dJ_700 ?_
  refine lv_toe (y := nI (5 * q + 1)) (nI_add (5 * q) 1) ?_
  refine va_sld hx hb hX hbl hbA hS1 (vp_in_nI (by omega) (by omega)) dJ_701 ?_
  refine lv_toe (y := xs (5 * q + 1)) (by rw [nI_clamp (by omega)]) ?_
  refine lr_calli (va_runV (As := [.int (xs (5 * q + 1))]) (rest := [.int r1]) ⟨hx, hb, hml, hown, hts⟩ (hr _) (cwV 1 hts gJ_93 rfl rfl rfl (by decide +kernel) ⟨Nat.le_of_ble_eq_true rfl, Nat.le_of_ble_eq_true rfl⟩) (er_preV hK hW1 (hE 0 (by decide)) (cR_0 _ _ _) rfl) rfl rfl hl.1 rfl (lv_room (Nat.le_of_ble_eq_true rfl)) dJ_702 ⟨by show _ ≤ 601024; omega, by show _ ≤ 7293034; omega⟩) hW1 hS1 hA (fun r2 v H2 locs2 hp2 hW2 hz2 hk2 hS2 => ?_)
  obtain ⟨e2, ev⟩ := hp2
  refine lv_icmp_eq (tgt := 772) hx hb dJ_705 rfl (fun _ => ?_) (fun h9 => absurd (er.trans e2.symm) h9)
  refine W.widen (k := 100 + 11 * (q + 1)) (n := 20000 + 2036 * (q + 1)) (by omega) (by omega) ?_
  rw [ev] at hW2
  exact nx X1 L1 tg1 u B' f H2 locs2 ls ⟨S1, W1, (hin1 0 0 _ hth).1, hV1.kept (fun a ha => hk2 a (hV1.lt ha) (n3' a ha)), hW2, va_o1 hO1 (hk2 o (va_o1.lt hO1) n2), ⟨n1', n2, n3', n4⟩, hS2, hl⟩
set_option maxHeartbeats 4000000 in
theorem j_queue (hfl : l.flags = pinnedFlags ++ [noTraceFlag]) (G : JG p s m args c D T t0 XR LR tgR b Ln xs) (hq : q < 512) (h5 : 5 * q + 5 ≤ Ln) (hLn : Ln ≤ 2560) (nx : JN p l e s m args below meth c Q D T t0 XR LR tgR b xa o q) (X : Nat → Nat → Nat) (L : List Nat) (tg : Nat → Nat × Nat) (A B : ew_R) (f : Nat → Int64) (H : Heap) (locs : List Loc) (ls : Array Slot) (I : JI s D T t0 XR LR tgR b xa o q (5 * q) X L tg A B f H locs ls) : W p l e room_1 s m args below meth c H locs (100 + 11 * q) (20000 + 2036 * q) Q (F0 m 710 ls []) := by
  obtain ⟨hx, hb, hml, hown, hts, hK, hN, hZ, hT, hC, hE, hX, hbl⟩ := G
  obtain ⟨S, W0, ha, hV, hW, hO, ⟨n1, n2, n3, n4⟩, hS, hl⟩ := I
  have hA : ∀ q, s.heap.size ≤ q → jA s q := fun _ h => h
  have hth : ew_in X L tg 0 0 (X 0 0) := W0.v0 0 (by simp)
  have hbA : ¬ jA s b := Nat.not_le.mpr hbl
  subst ha
  obtain ⟨r, B', hc, hr⟩ := pr_queue (l := l) (D := D) (T := T) ⟨hq, S, W0, hE⟩ (xs (5 * q + 1)) (xs (5 * q + 2))
  refine lv_aload_n hx hb dJ_710 rfl (lv_at hl 2 rfl) ?_
  refine lv_aload_n hx hb dJ_711 rfl (lv_at hl 1 rfl) ?_
  refine lv_iload hx hb dJ_712 (lv_at hl 0 rfl) ?_
  refine lv_iconst (v := 1) hx hb dJ_714 (by decide) ?_
  refine lv_iadd hx hb dJ_715 ?_
  refine lv_toe (y := nI (5 * q + 1)) (nI_add (5 * q) 1) ?_
  refine va_sld hx hb hX hbl hbA hS (vp_in_nI (by omega) (by omega)) dJ_716 ?_
  refine lv_toe (y := xs (5 * q + 1)) (by rw [nI_clamp (by omega)]) ?_
  refine lv_aload_n hx hb dJ_717 rfl (lv_at hl 1 rfl) ?_
  refine lv_iload hx hb dJ_718 (lv_at hl 0 rfl) ?_
  refine lv_iconst (v := 2) hx hb dJ_720 (by decide) ?_
  refine lv_iadd hx hb dJ_721 ?_
  refine lv_toe (y := nI (5 * q + 2)) (nI_add (5 * q) 2) ?_
  refine va_sld hx hb hX hbl hbA hS (vp_in_nI (by omega) (by omega)) dJ_722 ?_
  refine lv_toe (y := xs (5 * q + 2)) (by rw [nI_clamp (by omega)]) ?_
  refine lw_calli (va_runV (As := [.int (xs (5 * q + 1)), .int (xs (5 * q + 2))]) (rest := []) ⟨hx, hb, hml, hown, hts⟩ (hc _) (cwV 2 hts gJ_94 rfl rfl rfl (by decide +kernel) ⟨Nat.le_of_ble_eq_true rfl, Nat.le_of_ble_eq_true rfl⟩) (em_preV hK hN hV hZ hS hA hth (cC_0 _ _ _ _) rfl) rfl rfl hl.1 rfl (lv_room (Nat.le_of_ble_eq_true rfl)) dJ_723 ⟨by show _ ≤ 601024; omega, by show _ ≤ 7293034; omega⟩) hV hS hA (fun r1 X1 L1 tg1 u H1 locs1 hp hV1 hz hk hL1 hS1 => ?_)
  obtain ⟨er, S1, W1, hin1⟩ := hp
  obtain ⟨hW1, n3'⟩ := j_cls (L1 := L1) hW n2 n3 (fun q h1 h2 _ => hk q h1 h2) (fun b hb => (hL1 b hb).elim Or.inl (fun h => Or.inr (Or.inr h)))
  have hO1 := va_o1 hO (hk o (va_o1.lt hO) n1)
  have n1' : o ∉ L1 := fun z => (hL1 o z).elim n1 (fun z => by have := va_o1.lt hO; omega)
  refine lv_aload_n hx hb dJ_726 rfl (lv_at hl 3 rfl) ?_
  refine lv_aload_n hx hb dJ_727 rfl (lv_at hl 1 rfl) ?_
  refine lv_iload hx hb dJ_728 (lv_at hl 0 rfl) ?_
  refine lv_iconst (v := 1) hx hb dJ_730 (by decide) ?_
  refine lv_iadd hx hb dJ_731 ?_
  refine lv_toe (y := nI (5 * q + 1)) (nI_add (5 * q) 1) ?_
  refine va_sld hx hb hX hbl hbA hS1 (vp_in_nI (by omega) (by omega)) dJ_732 ?_
  refine lv_toe (y := xs (5 * q + 1)) (by rw [nI_clamp (by omega)]) ?_
  refine lv_aload_n hx hb dJ_733 rfl (lv_at hl 1 rfl) ?_
  refine lv_iload hx hb dJ_734 (lv_at hl 0 rfl) ?_
  refine lv_iconst (v := 2) hx hb dJ_736 (by decide) ?_
  refine lv_iadd hx hb dJ_737 ?_
  refine lv_toe (y := nI (5 * q + 2)) (nI_add (5 * q) 2) ?_
  refine va_sld hx hb hX hbl hbA hS1 (vp_in_nI (by omega) (by omega)) dJ_738 ?_
  refine lv_toe (y := xs (5 * q + 2)) (by rw [nI_clamp (by omega)]) ?_
  refine lr_calli (va_runV (As := [.int (xs (5 * q + 1)), .int (xs (5 * q + 2))]) (rest := [.int r1]) ⟨hx, hb, hml, hown, hts⟩ (hr _) (cwV 2 hts gJ_97 rfl rfl rfl (by decide +kernel) ⟨Nat.le_of_ble_eq_true rfl, Nat.le_of_ble_eq_true rfl⟩) (er_preV hK hW1 (hE 0 (by decide)) (cR_0 _ _ _) rfl) rfl rfl hl.1 rfl (lv_room (Nat.le_of_ble_eq_true rfl)) dJ_739 ⟨by show _ ≤ 601024; omega, by show _ ≤ 7293034; omega⟩) hW1 hS1 hA (fun r2 v H2 locs2 hp2 hW2 hz2 hk2 hS2 => ?_)
  obtain ⟨e2, ev⟩ := hp2
  refine lv_icmp_eq (tgt := 772) hx hb dJ_742 rfl (fun _ => ?_) (fun h9 => absurd (er.trans e2.symm) h9)
  refine W.widen (k := 100 + 11 * (q + 1)) (n := 20000 + 2036 * (q + 1)) (by omega) (by omega) ?_
  rw [ev] at hW2
  exact nx X1 L1 tg1 u B' f H2 locs2 ls ⟨S1, W1, (hin1 0 0 _ hth).1, hV1.kept (fun a ha => hk2 a (hV1.lt ha) (n3' a ha)), hW2, va_o1 hO1 (hk2 o (va_o1.lt hO1) n2), ⟨n1', n2, n3', n4⟩, hS2, hl⟩
set_option maxHeartbeats 4000000 in
theorem j_settled (hfl : l.flags = pinnedFlags ++ [noTraceFlag]) (G : JG p s m args c D T t0 XR LR tgR b Ln xs) (hq : q < 512) (h5 : 5 * q + 5 ≤ Ln) (hLn : Ln ≤ 2560) (nx : JN p l e s m args below meth c Q D T t0 XR LR tgR b xa o q) (X : Nat → Nat → Nat) (L : List Nat) (tg : Nat → Nat × Nat) (A B : ew_R) (f : Nat → Int64) (H : Heap) (locs : List Loc) (ls : Array Slot) (I : JI s D T t0 XR LR tgR b xa o q (5 * q) X L tg A B f H locs ls) : W p l e room_1 s m args below meth c H locs (100 + 11 * q) (20000 + 2036 * q) Q (F0 m 747 ls []) := by
  obtain ⟨hx, hb, hml, hown, hts, hK, hN, hZ, hT, hC, hE, hX, hbl⟩ := G
  obtain ⟨S, W0, ha, hV, hW, hO, ⟨n1, n2, n3, n4⟩, hS, hl⟩ := I
  have hA : ∀ q, s.heap.size ≤ q → jA s q := fun _ h => h
  have hth : ew_in X L tg 0 0 (X 0 0) := W0.v0 0 (by simp)
  have hbA : ¬ jA s b := Nat.not_le.mpr hbl
  subst ha
  obtain ⟨r, B', hc, hr⟩ := pr_settled (l := l) (D := D) (T := T) ⟨hq, S, W0, hE⟩ (xs (5 * q + 1))
  refine lv_aload_n hx hb dJ_747 rfl (lv_at hl 2 rfl) ?_
  refine lv_aload_n hx hb dJ_748 rfl (lv_at hl 1 rfl) ?_
  refine lv_iload hx hb dJ_749 (lv_at hl 0 rfl) ?_
  refine lv_iconst (v := 1) hx hb dJ_751 (by decide) ?_
  refine lv_iadd hx hb dJ_752 ?_
  refine lv_toe (y := nI (5 * q + 1)) (nI_add (5 * q) 1) ?_
  refine va_sld hx hb hX hbl hbA hS (vp_in_nI (by omega) (by omega)) dJ_753 ?_
  refine lv_toe (y := xs (5 * q + 1)) (by rw [nI_clamp (by omega)]) ?_
  refine lw_calli (va_runV (As := [.int (xs (5 * q + 1))]) (rest := []) ⟨hx, hb, hml, hown, hts⟩ (hc _) (cwV 1 hts gJ_98 rfl rfl rfl (by decide +kernel) ⟨Nat.le_of_ble_eq_true rfl, Nat.le_of_ble_eq_true rfl⟩) (em_preV hK hN hV hZ hS hA hth (cC_0 _ _ _ _) rfl) rfl rfl hl.1 rfl (lv_room (Nat.le_of_ble_eq_true rfl)) dJ_754 ⟨by show _ ≤ 601024; omega, by show _ ≤ 7293034; omega⟩) hV hS hA (fun r1 X1 L1 tg1 u H1 locs1 hp hV1 hz hk hL1 hS1 => ?_)
  obtain ⟨er, S1, W1, hin1⟩ := hp
  obtain ⟨hW1, n3'⟩ := j_cls (L1 := L1) hW n2 n3 (fun q h1 h2 _ => hk q h1 h2) (fun b hb => (hL1 b hb).elim Or.inl (fun h => Or.inr (Or.inr h)))
  have hO1 := va_o1 hO (hk o (va_o1.lt hO) n1)
  have n1' : o ∉ L1 := fun z => (hL1 o z).elim n1 (fun z => by have := va_o1.lt hO; omega)
  refine lv_aload_n hx hb dJ_757 rfl (lv_at hl 3 rfl) ?_
  refine lv_aload_n hx hb dJ_758 rfl (lv_at hl 1 rfl) ?_
  refine lv_iload hx hb dJ_759 (lv_at hl 0 rfl) ?_
  refine lv_iconst (v := 1) hx hb dJ_761 (by decide) ?_
  refine lv_iadd hx hb dJ_762 ?_
  refine lv_toe (y := nI (5 * q + 1)) (nI_add (5 * q) 1) ?_
  refine va_sld hx hb hX hbl hbA hS1 (vp_in_nI (by omega) (by omega)) dJ_763 ?_
  refine lv_toe (y := xs (5 * q + 1)) (by rw [nI_clamp (by omega)]) ?_
  refine lr_calli (va_runV (As := [.int (xs (5 * q + 1))]) (rest := [.int r1]) ⟨hx, hb, hml, hown, hts⟩ (hr _) (cwV 1 hts gJ_101 rfl rfl rfl (by decide +kernel) ⟨Nat.le_of_ble_eq_true rfl, Nat.le_of_ble_eq_true rfl⟩) (er_preV hK hW1 (hE 0 (by decide)) (cR_0 _ _ _) rfl) rfl rfl hl.1 rfl (lv_room (Nat.le_of_ble_eq_true rfl)) dJ_764 ⟨by show _ ≤ 601024; omega, by show _ ≤ 7293034; omega⟩) hW1 hS1 hA (fun r2 v H2 locs2 hp2 hW2 hz2 hk2 hS2 => ?_)
  obtain ⟨e2, ev⟩ := hp2
  refine lv_icmp_eq (tgt := 772) hx hb dJ_767 rfl (fun _ => ?_) (fun h9 => absurd (er.trans e2.symm) h9)
  refine W.widen (k := 100 + 11 * (q + 1)) (n := 20000 + 2036 * (q + 1)) (by omega) (by omega) ?_
  rw [ev] at hW2
  exact nx X1 L1 tg1 u B' f H2 locs2 ls ⟨S1, W1, (hin1 0 0 _ hth).1, hV1.kept (fun a ha => hk2 a (hV1.lt ha) (n3' a ha)), hW2, va_o1 hO1 (hk2 o (va_o1.lt hO1) n2), ⟨n1', n2, n3', n4⟩, hS2, hl⟩
set_option maxHeartbeats 4000000 in
theorem j_addCopy (hfl : l.flags = pinnedFlags ++ [noTraceFlag]) (G : JG p s m args c D T t0 XR LR tgR b Ln xs) (hq : q < 512) (h5 : 5 * q + 5 ≤ Ln) (hLn : Ln ≤ 2560) (nx : JN p l e s m args below meth c Q D T t0 XR LR tgR b xa o q) (X : Nat → Nat → Nat) (L : List Nat) (tg : Nat → Nat × Nat) (A B : ew_R) (f : Nat → Int64) (H : Heap) (locs : List Loc) (ls : Array Slot) (I : JI s D T t0 XR LR tgR b xa o q (5 * q) X L tg A B f H locs ls) : W p l e room_1 s m args below meth c H locs (100 + 11 * q) (20000 + 2036 * q) Q (F0 m 116 ls []) := by
  obtain ⟨hx, hb, hml, hown, hts, hK, hN, hZ, hT, hC, hE, hX, hbl⟩ := G
  obtain ⟨S, W0, ha, hV, hW, hO, ⟨n1, n2, n3, n4⟩, hS, hl⟩ := I
  have hA : ∀ q, s.heap.size ≤ q → jA s q := fun _ h => h
  have hth : ew_in X L tg 0 0 (X 0 0) := W0.v0 0 (by simp)
  have hbA : ¬ jA s b := Nat.not_le.mpr hbl
  subst ha
  obtain ⟨r, B', hc, hr⟩ := pw_addCopy (l := l) (D := D) (T := T) hfl ⟨hq, S, W0, hE⟩ (xs (5 * q + 1)) (xs (5 * q + 2))
  refine lv_aload_n hx hb dJ_116 rfl (lv_at hl 2 rfl) ?_
  refine lv_aload_n hx hb dJ_117 rfl (lv_at hl 1 rfl) ?_
  refine lv_iload hx hb dJ_118 (lv_at hl 0 rfl) ?_
  refine lv_iconst (v := 1) hx hb dJ_120 (by decide) ?_
  refine lv_iadd hx hb dJ_121 ?_
  refine lv_toe (y := nI (5 * q + 1)) (nI_add (5 * q) 1) ?_
  refine va_sld hx hb hX hbl hbA hS (vp_in_nI (by omega) (by omega)) dJ_122 ?_
  refine lv_toe (y := xs (5 * q + 1)) (by rw [nI_clamp (by omega)]) ?_
  refine lv_aload_n hx hb dJ_123 rfl (lv_at hl 1 rfl) ?_
  refine lv_iload hx hb dJ_124 (lv_at hl 0 rfl) ?_
  refine lv_iconst (v := 2) hx hb dJ_126 (by decide) ?_
  refine lv_iadd hx hb dJ_127 ?_
  refine lv_toe (y := nI (5 * q + 2)) (nI_add (5 * q) 2) ?_
  refine va_sld hx hb hX hbl hbA hS (vp_in_nI (by omega) (by omega)) dJ_128 ?_
  refine lv_toe (y := xs (5 * q + 2)) (by rw [nI_clamp (by omega)]) ?_
  refine lv_aload_n hx hb dJ_129 rfl (lv_at hl 4 rfl) ?_
  refine lw_scall (lw_runSW (As := .ref (X 0 0) :: ([.int (xs (5 * q + 1)), .int (xs (5 * q + 2))] ++ [.ref o])) (rest := []) ⟨hx, hb, hml, hown, hts⟩ (hc o f _) (w_cw (n := 4) hts kww_addCopy kwl_addCopy kws_addCopy rfl rfl (by decide +kernel) ⟨Nat.le_of_ble_eq_true rfl, Nat.le_of_ble_eq_true rfl⟩) (w_preS hK hN hV hO n1 n4 hZ hT hC hS hA) rfl rfl hl.1 rfl (lv_room (Nat.le_of_ble_eq_true rfl)) dJ_130 ⟨by show _ ≤ 601024; omega, by show _ ≤ 7293034; omega⟩) hV n4 hS hA (fun r1 u H1 locs1 hp hV1 hO1 n1' hz hk hL1 hS1 => ?_)
  obtain ⟨er, ef, S1, W1, hin1⟩ := hp
  obtain ⟨hW1, n3'⟩ := j_cls (L1 := u.1.2.1) hW n2 n3 hk hL1
  refine lv_istore (lv' := (5, .int r1) :: [(4, .int (nI (5 * q))), (0, .ref b), (1, .ref (X 0 0)), (2, .ref (XR 0 0)), (3, .ref o)]) hx hb dJ_133 hl (by decide) rfl (fun ls hl => ?_)
  refine lv_aload_n hx hb dJ_135 rfl (lv_at hl 4 rfl) ?_
  refine lv_aload_n hx hb dJ_136 rfl (lv_at hl 2 rfl) ?_
  refine lv_iload hx hb dJ_137 (lv_at hl 1 rfl) ?_
  refine lv_iconst (v := 1) hx hb dJ_139 (by decide) ?_
  refine lv_iadd hx hb dJ_140 ?_
  refine lv_toe (y := nI (5 * q + 1)) (nI_add (5 * q) 1) ?_
  refine va_sld hx hb hX hbl hbA hS1 (vp_in_nI (by omega) (by omega)) dJ_141 ?_
  refine lv_toe (y := xs (5 * q + 1)) (by rw [nI_clamp (by omega)]) ?_
  refine lv_aload_n hx hb dJ_142 rfl (lv_at hl 2 rfl) ?_
  refine lv_iload hx hb dJ_143 (lv_at hl 1 rfl) ?_
  refine lv_iconst (v := 2) hx hb dJ_145 (by decide) ?_
  refine lv_iadd hx hb dJ_146 ?_
  refine lv_toe (y := nI (5 * q + 2)) (nI_add (5 * q) 2) ?_
  refine va_sld hx hb hX hbl hbA hS1 (vp_in_nI (by omega) (by omega)) dJ_147 ?_
  refine lv_toe (y := xs (5 * q + 2)) (by rw [nI_clamp (by omega)]) ?_
  refine lr_calli (va_runV (As := [.int (xs (5 * q + 1)), .int (xs (5 * q + 2))]) (rest := []) ⟨hx, hb, hml, hown, hts⟩ (hr _) (cwV 2 hts gJ_36 rfl rfl rfl (by decide +kernel) ⟨Nat.le_of_ble_eq_true rfl, Nat.le_of_ble_eq_true rfl⟩) (er_preV hK hW1 (hE 0 (by decide)) (cR_0 _ _ _) rfl) rfl rfl hl.1 rfl (lv_room (Nat.le_of_ble_eq_true rfl)) dJ_148 ⟨by show _ ≤ 601024; omega, by show _ ≤ 7293034; omega⟩) hW1 hS1 hA (fun r2 v H2 locs2 hp2 hW2 hz2 hk2 hS2 => ?_)
  obtain ⟨e2, ev⟩ := hp2
  rw [ev] at hW2
  have hV2 := hV1.kept (fun a ha => hk2 a (hV1.lt ha) (n3' a ha))
  have hO2 := va_o1 hO1 (hk2 o (va_o1.lt hO1) n2)
  refine lv_istore (lv' := (6, .int r2) :: (5, .int r1) :: [(4, .int (nI (5 * q))), (0, .ref b), (1, .ref (X 0 0)), (2, .ref (XR 0 0)), (3, .ref o)]) hx hb dJ_151 hl (by decide) rfl (fun ls hl => ?_)
  refine lv_aload_n hx hb dJ_153 rfl (lv_at hl 5 rfl) ?_
  refine lr_calli (va_runV (As := []) (rest := []) ⟨hx, hb, hml, hown, hts⟩ (r_thrown l D T XR LR tgR _ hE B') (cwV 0 hts gJ_37 rfl rfl rfl (by decide +kernel) ⟨Nat.le_of_ble_eq_true rfl, Nat.le_of_ble_eq_true rfl⟩) (er_preV hK hW2 (hE 0 (by decide)) (cR_0 _ _ _) rfl) rfl rfl hl.1 rfl (lv_room (Nat.le_of_ble_eq_true rfl)) dJ_154 ⟨by show _ ≤ 601024; omega, by show _ ≤ 7293034; omega⟩) hW2 hS2 hA (fun r3 v3 H3 locs3 hp3 hW3 hz3 hk3 hS3 => ?_)
  obtain ⟨e3, ev3⟩ := hp3
  rw [ev3] at hW3
  have e3 : r3 = B' 0 0 0 := e3
  have hV3 := hV2.kept (fun a ha => hk3 a (hV2.lt ha) (n3' a ha))
  have hO3 := va_o1 hO2 (hk3 o (va_o1.lt hO2) n2)
  refine lv_iload hx hb dJ_157 (lv_at hl 1 rfl) ?_
  refine lv_icmp_eq (tgt := 164) hx hb dJ_159 rfl (fun _ => ?_) (fun h9 => absurd (e3.trans er.symm) h9)
  have fin : ∀ ls, lv_has ls 7 ((6, .int r2) :: (5, .int r1) :: [(4, .int (nI (5 * q))), (0, .ref b), (1, .ref (X 0 0)), (2, .ref (XR 0 0)), (3, .ref o)]) → W p l e room_1 s m args below meth c H3 locs3 (100 + 11 * q + 11 + 0 + 0) (20000 + 2036 * q + 2036 + 0 + 0) Q (F0 m 181 ls []) := fun ls hl => by
    refine lv_goto (tgt := 772) hx hb dJ_181 rfl ?_
    refine W.widen (k := 100 + 11 * (q + 1)) (n := 20000 + 2036 * (q + 1)) (by omega) (by omega) ?_
    exact nx u.1.1 u.1.2.1 u.1.2.2.1 u.1.2.2.2 B' u.2 H3 locs3 ls ⟨S1, W1, (hin1 0 0 _ hth).1, hV3, hW3, hO3, ⟨n1', n2, n3', n4⟩, hS3, lv_sub hl [2, 3, 4, 5, 6] rfl⟩
  refine lv_iload hx hb dJ_164 (lv_at hl 1 rfl) ?_
  refine lv_if_ne (tgt := 181) hx hb dJ_166 rfl (fun _ => fin ls hl) (fun h9 => ?_)
  have k0 : r1 = 0 := h9
  refine lv_aload_n hx hb dJ_169 rfl (lv_at hl 6 rfl) ?_
  refine lv_iconst (v := 0) hx hb dJ_170 (by decide) ?_
  refine va_lald hx hb hK hO3 0 6 rfl rfl (show vp_in (nI 0) 1 from vp_in_nI (by decide) (by decide)) dJ_171 ?_
  refine lv_iload hx hb dJ_172 (lv_at hl 0 rfl) ?_
  refine lv_i2l (v := r.toInt64) hx hb dJ_174 (by rw [e2]) ?_
  refine W.lcmp hx hb dJ_175 ?_
  have e9 : lg_cmp (u.2 (Int32.toNatClampNeg 0)) r.toInt64 = 0 := by
    have h8 : u.2 (Int32.toNatClampNeg 0) = r.toInt64 := ef k0
    rw [h8]
    simp [lg_cmp]
  exact lv_if_eq (tgt := 181) hx hb dJ_176 rfl (fun _ => fin ls hl) (fun h9 => absurd e9 h9)
set_option maxHeartbeats 4000000 in
theorem j_request (hfl : l.flags = pinnedFlags ++ [noTraceFlag]) (G : JG p s m args c D T t0 XR LR tgR b Ln xs) (hq : q < 512) (h5 : 5 * q + 5 ≤ Ln) (hLn : Ln ≤ 2560) (nx : JN p l e s m args below meth c Q D T t0 XR LR tgR b xa o q) (X : Nat → Nat → Nat) (L : List Nat) (tg : Nat → Nat × Nat) (A B : ew_R) (f : Nat → Int64) (H : Heap) (locs : List Loc) (ls : Array Slot) (I : JI s D T t0 XR LR tgR b xa o q (5 * q) X L tg A B f H locs ls) : W p l e room_1 s m args below meth c H locs (100 + 11 * q) (20000 + 2036 * q) Q (F0 m 184 ls []) := by
  obtain ⟨hx, hb, hml, hown, hts, hK, hN, hZ, hT, hC, hE, hX, hbl⟩ := G
  obtain ⟨S, W0, ha, hV, hW, hO, ⟨n1, n2, n3, n4⟩, hS, hl⟩ := I
  have hA : ∀ q, s.heap.size ≤ q → jA s q := fun _ h => h
  have hth : ew_in X L tg 0 0 (X 0 0) := W0.v0 0 (by simp)
  have hbA : ¬ jA s b := Nat.not_le.mpr hbl
  subst ha
  obtain ⟨r, B', hc, hr⟩ := pw_request (l := l) (D := D) (T := T) hfl ⟨hq, S, W0, hE⟩ (xs (5 * q + 1)) (xs (5 * q + 2)) (xs (5 * q + 3)) (xs (5 * q + 4))
  refine lv_aload_n hx hb dJ_184 rfl (lv_at hl 2 rfl) ?_
  refine lv_aload_n hx hb dJ_185 rfl (lv_at hl 1 rfl) ?_
  refine lv_iload hx hb dJ_186 (lv_at hl 0 rfl) ?_
  refine lv_iconst (v := 1) hx hb dJ_188 (by decide) ?_
  refine lv_iadd hx hb dJ_189 ?_
  refine lv_toe (y := nI (5 * q + 1)) (nI_add (5 * q) 1) ?_
  refine va_sld hx hb hX hbl hbA hS (vp_in_nI (by omega) (by omega)) dJ_190 ?_
  refine lv_toe (y := xs (5 * q + 1)) (by rw [nI_clamp (by omega)]) ?_
  refine lv_aload_n hx hb dJ_191 rfl (lv_at hl 1 rfl) ?_
  refine lv_iload hx hb dJ_192 (lv_at hl 0 rfl) ?_
  refine lv_iconst (v := 2) hx hb dJ_194 (by decide) ?_
  refine lv_iadd hx hb dJ_195 ?_
  refine lv_toe (y := nI (5 * q + 2)) (nI_add (5 * q) 2) ?_
  refine va_sld hx hb hX hbl hbA hS (vp_in_nI (by omega) (by omega)) dJ_196 ?_
  refine lv_toe (y := xs (5 * q + 2)) (by rw [nI_clamp (by omega)]) ?_
  refine lv_aload_n hx hb dJ_197 rfl (lv_at hl 1 rfl) ?_
  refine lv_iload hx hb dJ_198 (lv_at hl 0 rfl) ?_
  refine lv_iconst (v := 3) hx hb dJ_200 (by decide) ?_
  refine lv_iadd hx hb dJ_201 ?_
  refine lv_toe (y := nI (5 * q + 3)) (nI_add (5 * q) 3) ?_
  refine va_sld hx hb hX hbl hbA hS (vp_in_nI (by omega) (by omega)) dJ_202 ?_
  refine lv_toe (y := xs (5 * q + 3)) (by rw [nI_clamp (by omega)]) ?_
  refine lv_aload_n hx hb dJ_203 rfl (lv_at hl 1 rfl) ?_
  refine lv_iload hx hb dJ_204 (lv_at hl 0 rfl) ?_
  refine lv_iconst (v := 4) hx hb dJ_206 (by decide) ?_
  refine lv_iadd hx hb dJ_207 ?_
  refine lv_toe (y := nI (5 * q + 4)) (nI_add (5 * q) 4) ?_
  refine va_sld hx hb hX hbl hbA hS (vp_in_nI (by omega) (by omega)) dJ_208 ?_
  refine lv_toe (y := xs (5 * q + 4)) (by rw [nI_clamp (by omega)]) ?_
  refine lv_aload_n hx hb dJ_209 rfl (lv_at hl 4 rfl) ?_
  refine lw_scall (lw_runSW (As := .ref (X 0 0) :: ([.int (xs (5 * q + 1)), .int (xs (5 * q + 2)), .int (xs (5 * q + 3)), .int (xs (5 * q + 4))] ++ [.ref o])) (rest := []) ⟨hx, hb, hml, hown, hts⟩ (hc o f _) (w_cw (n := 6) hts kww_request kwl_request kws_request rfl rfl (by decide +kernel) ⟨Nat.le_of_ble_eq_true rfl, Nat.le_of_ble_eq_true rfl⟩) (w_preS hK hN hV hO n1 n4 hZ hT hC hS hA) rfl rfl hl.1 rfl (lv_room (Nat.le_of_ble_eq_true rfl)) dJ_210 ⟨by show _ ≤ 601024; omega, by show _ ≤ 7293034; omega⟩) hV n4 hS hA (fun r1 u H1 locs1 hp hV1 hO1 n1' hz hk hL1 hS1 => ?_)
  obtain ⟨er, ef, S1, W1, hin1⟩ := hp
  obtain ⟨hW1, n3'⟩ := j_cls (L1 := u.1.2.1) hW n2 n3 hk hL1
  refine lv_istore (lv' := (5, .int r1) :: [(4, .int (nI (5 * q))), (0, .ref b), (1, .ref (X 0 0)), (2, .ref (XR 0 0)), (3, .ref o)]) hx hb dJ_213 hl (by decide) rfl (fun ls hl => ?_)
  refine lv_aload_n hx hb dJ_215 rfl (lv_at hl 4 rfl) ?_
  refine lv_aload_n hx hb dJ_216 rfl (lv_at hl 2 rfl) ?_
  refine lv_iload hx hb dJ_217 (lv_at hl 1 rfl) ?_
  refine lv_iconst (v := 1) hx hb dJ_219 (by decide) ?_
  refine lv_iadd hx hb dJ_220 ?_
  refine lv_toe (y := nI (5 * q + 1)) (nI_add (5 * q) 1) ?_
  refine va_sld hx hb hX hbl hbA hS1 (vp_in_nI (by omega) (by omega)) dJ_221 ?_
  refine lv_toe (y := xs (5 * q + 1)) (by rw [nI_clamp (by omega)]) ?_
  refine lv_aload_n hx hb dJ_222 rfl (lv_at hl 2 rfl) ?_
  refine lv_iload hx hb dJ_223 (lv_at hl 1 rfl) ?_
  refine lv_iconst (v := 2) hx hb dJ_225 (by decide) ?_
  refine lv_iadd hx hb dJ_226 ?_
  refine lv_toe (y := nI (5 * q + 2)) (nI_add (5 * q) 2) ?_
  refine va_sld hx hb hX hbl hbA hS1 (vp_in_nI (by omega) (by omega)) dJ_227 ?_
  refine lv_toe (y := xs (5 * q + 2)) (by rw [nI_clamp (by omega)]) ?_
  refine lv_aload_n hx hb dJ_228 rfl (lv_at hl 2 rfl) ?_
  refine lv_iload hx hb dJ_229 (lv_at hl 1 rfl) ?_
  refine lv_iconst (v := 3) hx hb dJ_231 (by decide) ?_
  refine lv_iadd hx hb dJ_232 ?_
  refine lv_toe (y := nI (5 * q + 3)) (nI_add (5 * q) 3) ?_
  refine va_sld hx hb hX hbl hbA hS1 (vp_in_nI (by omega) (by omega)) dJ_233 ?_
  refine lv_toe (y := xs (5 * q + 3)) (by rw [nI_clamp (by omega)]) ?_
  refine lv_aload_n hx hb dJ_234 rfl (lv_at hl 2 rfl) ?_
  refine lv_iload hx hb dJ_235 (lv_at hl 1 rfl) ?_
  refine lv_iconst (v := 4) hx hb dJ_237 (by decide) ?_
  refine lv_iadd hx hb dJ_238 ?_
  refine lv_toe (y := nI (5 * q + 4)) (nI_add (5 * q) 4) ?_
  refine va_sld hx hb hX hbl hbA hS1 (vp_in_nI (by omega) (by omega)) dJ_239 ?_
  refine lv_toe (y := xs (5 * q + 4)) (by rw [nI_clamp (by omega)]) ?_
  refine lr_calli (va_runV (As := [.int (xs (5 * q + 1)), .int (xs (5 * q + 2)), .int (xs (5 * q + 3)), .int (xs (5 * q + 4))]) (rest := []) ⟨hx, hb, hml, hown, hts⟩ (hr _) (cwV 4 hts gJ_44 rfl rfl rfl (by decide +kernel) ⟨Nat.le_of_ble_eq_true rfl, Nat.le_of_ble_eq_true rfl⟩) (er_preV hK hW1 (hE 0 (by decide)) (cR_0 _ _ _) rfl) rfl rfl hl.1 rfl (lv_room (Nat.le_of_ble_eq_true rfl)) dJ_240 ⟨by show _ ≤ 601024; omega, by show _ ≤ 7293034; omega⟩) hW1 hS1 hA (fun r2 v H2 locs2 hp2 hW2 hz2 hk2 hS2 => ?_)
  obtain ⟨e2, ev⟩ := hp2
  rw [ev] at hW2
  have hV2 := hV1.kept (fun a ha => hk2 a (hV1.lt ha) (n3' a ha))
  have hO2 := va_o1 hO1 (hk2 o (va_o1.lt hO1) n2)
  refine lv_istore (lv' := (6, .int r2) :: (5, .int r1) :: [(4, .int (nI (5 * q))), (0, .ref b), (1, .ref (X 0 0)), (2, .ref (XR 0 0)), (3, .ref o)]) hx hb dJ_243 hl (by decide) rfl (fun ls hl => ?_)
  refine lv_aload_n hx hb dJ_245 rfl (lv_at hl 5 rfl) ?_
  refine lr_calli (va_runV (As := []) (rest := []) ⟨hx, hb, hml, hown, hts⟩ (r_thrown l D T XR LR tgR _ hE B') (cwV 0 hts gJ_37 rfl rfl rfl (by decide +kernel) ⟨Nat.le_of_ble_eq_true rfl, Nat.le_of_ble_eq_true rfl⟩) (er_preV hK hW2 (hE 0 (by decide)) (cR_0 _ _ _) rfl) rfl rfl hl.1 rfl (lv_room (Nat.le_of_ble_eq_true rfl)) dJ_246 ⟨by show _ ≤ 601024; omega, by show _ ≤ 7293034; omega⟩) hW2 hS2 hA (fun r3 v3 H3 locs3 hp3 hW3 hz3 hk3 hS3 => ?_)
  obtain ⟨e3, ev3⟩ := hp3
  rw [ev3] at hW3
  have e3 : r3 = B' 0 0 0 := e3
  have hV3 := hV2.kept (fun a ha => hk3 a (hV2.lt ha) (n3' a ha))
  have hO3 := va_o1 hO2 (hk3 o (va_o1.lt hO2) n2)
  refine lv_iload hx hb dJ_249 (lv_at hl 1 rfl) ?_
  refine lv_icmp_eq (tgt := 256) hx hb dJ_251 rfl (fun _ => ?_) (fun h9 => absurd (e3.trans er.symm) h9)
  have fin : ∀ ls, lv_has ls 7 ((6, .int r2) :: (5, .int r1) :: [(4, .int (nI (5 * q))), (0, .ref b), (1, .ref (X 0 0)), (2, .ref (XR 0 0)), (3, .ref o)]) → W p l e room_1 s m args below meth c H3 locs3 (100 + 11 * q + 11 + 0 + 0) (20000 + 2036 * q + 2036 + 0 + 0) Q (F0 m 273 ls []) := fun ls hl => by
    refine lv_goto (tgt := 772) hx hb dJ_273 rfl ?_
    refine W.widen (k := 100 + 11 * (q + 1)) (n := 20000 + 2036 * (q + 1)) (by omega) (by omega) ?_
    exact nx u.1.1 u.1.2.1 u.1.2.2.1 u.1.2.2.2 B' u.2 H3 locs3 ls ⟨S1, W1, (hin1 0 0 _ hth).1, hV3, hW3, hO3, ⟨n1', n2, n3', n4⟩, hS3, lv_sub hl [2, 3, 4, 5, 6] rfl⟩
  refine lv_iload hx hb dJ_256 (lv_at hl 1 rfl) ?_
  refine lv_if_ne (tgt := 273) hx hb dJ_258 rfl (fun _ => fin ls hl) (fun h9 => ?_)
  have k0 : r1 = 0 := h9
  refine lv_aload_n hx hb dJ_261 rfl (lv_at hl 6 rfl) ?_
  refine lv_iconst (v := 0) hx hb dJ_262 (by decide) ?_
  refine va_lald hx hb hK hO3 0 6 rfl rfl (show vp_in (nI 0) 1 from vp_in_nI (by decide) (by decide)) dJ_263 ?_
  refine lv_iload hx hb dJ_264 (lv_at hl 0 rfl) ?_
  refine lv_i2l (v := r.toInt64) hx hb dJ_266 (by rw [e2]) ?_
  refine W.lcmp hx hb dJ_267 ?_
  have e9 : lg_cmp (u.2 (Int32.toNatClampNeg 0)) r.toInt64 = 0 := by
    have h8 : u.2 (Int32.toNatClampNeg 0) = r.toInt64 := ef k0
    rw [h8]
    simp [lg_cmp]
  exact lv_if_eq (tgt := 273) hx hb dJ_268 rfl (fun _ => fin ls hl) (fun h9 => absurd e9 h9)
set_option maxHeartbeats 4000000 in
theorem j_act (hfl : l.flags = pinnedFlags ++ [noTraceFlag]) (G : JG p s m args c D T t0 XR LR tgR b Ln xs) (hq : q < 512) (h5 : 5 * q + 5 ≤ Ln) (hLn : Ln ≤ 2560) (nx : JN p l e s m args below meth c Q D T t0 XR LR tgR b xa o q) (X : Nat → Nat → Nat) (L : List Nat) (tg : Nat → Nat × Nat) (A B : ew_R) (f : Nat → Int64) (H : Heap) (locs : List Loc) (ls : Array Slot) (I : JI s D T t0 XR LR tgR b xa o q (5 * q) X L tg A B f H locs ls) : W p l e room_1 s m args below meth c H locs (100 + 11 * q) (20000 + 2036 * q) Q (F0 m 276 ls []) := by
  obtain ⟨hx, hb, hml, hown, hts, hK, hN, hZ, hT, hC, hE, hX, hbl⟩ := G
  obtain ⟨S, W0, ha, hV, hW, hO, ⟨n1, n2, n3, n4⟩, hS, hl⟩ := I
  have hA : ∀ q, s.heap.size ≤ q → jA s q := fun _ h => h
  have hth : ew_in X L tg 0 0 (X 0 0) := W0.v0 0 (by simp)
  have hbA : ¬ jA s b := Nat.not_le.mpr hbl
  subst ha
  obtain ⟨r, B', hc, hr⟩ := pw_act (l := l) (D := D) (T := T) hfl ⟨hq, S, W0, hE⟩ (xs (5 * q + 1)) (xs (5 * q + 2)) (xs (5 * q + 3)) (xs (5 * q + 4))
  refine lv_aload_n hx hb dJ_276 rfl (lv_at hl 2 rfl) ?_
  refine lv_aload_n hx hb dJ_277 rfl (lv_at hl 1 rfl) ?_
  refine lv_iload hx hb dJ_278 (lv_at hl 0 rfl) ?_
  refine lv_iconst (v := 1) hx hb dJ_280 (by decide) ?_
  refine lv_iadd hx hb dJ_281 ?_
  refine lv_toe (y := nI (5 * q + 1)) (nI_add (5 * q) 1) ?_
  refine va_sld hx hb hX hbl hbA hS (vp_in_nI (by omega) (by omega)) dJ_282 ?_
  refine lv_toe (y := xs (5 * q + 1)) (by rw [nI_clamp (by omega)]) ?_
  refine lv_aload_n hx hb dJ_283 rfl (lv_at hl 1 rfl) ?_
  refine lv_iload hx hb dJ_284 (lv_at hl 0 rfl) ?_
  refine lv_iconst (v := 2) hx hb dJ_286 (by decide) ?_
  refine lv_iadd hx hb dJ_287 ?_
  refine lv_toe (y := nI (5 * q + 2)) (nI_add (5 * q) 2) ?_
  refine va_sld hx hb hX hbl hbA hS (vp_in_nI (by omega) (by omega)) dJ_288 ?_
  refine lv_toe (y := xs (5 * q + 2)) (by rw [nI_clamp (by omega)]) ?_
  refine lv_aload_n hx hb dJ_289 rfl (lv_at hl 1 rfl) ?_
  refine lv_iload hx hb dJ_290 (lv_at hl 0 rfl) ?_
  refine lv_iconst (v := 3) hx hb dJ_292 (by decide) ?_
  refine lv_iadd hx hb dJ_293 ?_
  refine lv_toe (y := nI (5 * q + 3)) (nI_add (5 * q) 3) ?_
  refine va_sld hx hb hX hbl hbA hS (vp_in_nI (by omega) (by omega)) dJ_294 ?_
  refine lv_toe (y := xs (5 * q + 3)) (by rw [nI_clamp (by omega)]) ?_
  refine lv_aload_n hx hb dJ_295 rfl (lv_at hl 1 rfl) ?_
  refine lv_iload hx hb dJ_296 (lv_at hl 0 rfl) ?_
  refine lv_iconst (v := 4) hx hb dJ_298 (by decide) ?_
  refine lv_iadd hx hb dJ_299 ?_
  refine lv_toe (y := nI (5 * q + 4)) (nI_add (5 * q) 4) ?_
  refine va_sld hx hb hX hbl hbA hS (vp_in_nI (by omega) (by omega)) dJ_300 ?_
  refine lv_toe (y := xs (5 * q + 4)) (by rw [nI_clamp (by omega)]) ?_
  refine lv_aload_n hx hb dJ_301 rfl (lv_at hl 4 rfl) ?_
  refine lw_scall (lw_runSW (As := .ref (X 0 0) :: ([.int (xs (5 * q + 1)), .int (xs (5 * q + 2)), .int (xs (5 * q + 3)), .int (xs (5 * q + 4))] ++ [.ref o])) (rest := []) ⟨hx, hb, hml, hown, hts⟩ (hc o f _) (w_cw (n := 6) hts kww_act kwl_act kws_act rfl rfl (by decide +kernel) ⟨Nat.le_of_ble_eq_true rfl, Nat.le_of_ble_eq_true rfl⟩) (w_preS hK hN hV hO n1 n4 hZ hT hC hS hA) rfl rfl hl.1 rfl (lv_room (Nat.le_of_ble_eq_true rfl)) dJ_302 ⟨by show _ ≤ 601024; omega, by show _ ≤ 7293034; omega⟩) hV n4 hS hA (fun r1 u H1 locs1 hp hV1 hO1 n1' hz hk hL1 hS1 => ?_)
  obtain ⟨er, ef, S1, W1, hin1⟩ := hp
  obtain ⟨hW1, n3'⟩ := j_cls (L1 := u.1.2.1) hW n2 n3 hk hL1
  refine lv_istore (lv' := (5, .int r1) :: [(4, .int (nI (5 * q))), (0, .ref b), (1, .ref (X 0 0)), (2, .ref (XR 0 0)), (3, .ref o)]) hx hb dJ_305 hl (by decide) rfl (fun ls hl => ?_)
  refine lv_aload_n hx hb dJ_307 rfl (lv_at hl 4 rfl) ?_
  refine lv_aload_n hx hb dJ_308 rfl (lv_at hl 2 rfl) ?_
  refine lv_iload hx hb dJ_309 (lv_at hl 1 rfl) ?_
  refine lv_iconst (v := 1) hx hb dJ_311 (by decide) ?_
  refine lv_iadd hx hb dJ_312 ?_
  refine lv_toe (y := nI (5 * q + 1)) (nI_add (5 * q) 1) ?_
  refine va_sld hx hb hX hbl hbA hS1 (vp_in_nI (by omega) (by omega)) dJ_313 ?_
  refine lv_toe (y := xs (5 * q + 1)) (by rw [nI_clamp (by omega)]) ?_
  refine lv_aload_n hx hb dJ_314 rfl (lv_at hl 2 rfl) ?_
  refine lv_iload hx hb dJ_315 (lv_at hl 1 rfl) ?_
  refine lv_iconst (v := 2) hx hb dJ_317 (by decide) ?_
  refine lv_iadd hx hb dJ_318 ?_
  refine lv_toe (y := nI (5 * q + 2)) (nI_add (5 * q) 2) ?_
  refine va_sld hx hb hX hbl hbA hS1 (vp_in_nI (by omega) (by omega)) dJ_319 ?_
  refine lv_toe (y := xs (5 * q + 2)) (by rw [nI_clamp (by omega)]) ?_
  refine lv_aload_n hx hb dJ_320 rfl (lv_at hl 2 rfl) ?_
  refine lv_iload hx hb dJ_321 (lv_at hl 1 rfl) ?_
  refine lv_iconst (v := 3) hx hb dJ_323 (by decide) ?_
  refine lv_iadd hx hb dJ_324 ?_
  refine lv_toe (y := nI (5 * q + 3)) (nI_add (5 * q) 3) ?_
  refine va_sld hx hb hX hbl hbA hS1 (vp_in_nI (by omega) (by omega)) dJ_325 ?_
  refine lv_toe (y := xs (5 * q + 3)) (by rw [nI_clamp (by omega)]) ?_
  refine lv_aload_n hx hb dJ_326 rfl (lv_at hl 2 rfl) ?_
  refine lv_iload hx hb dJ_327 (lv_at hl 1 rfl) ?_
  refine lv_iconst (v := 4) hx hb dJ_329 (by decide) ?_
  refine lv_iadd hx hb dJ_330 ?_
  refine lv_toe (y := nI (5 * q + 4)) (nI_add (5 * q) 4) ?_
  refine va_sld hx hb hX hbl hbA hS1 (vp_in_nI (by omega) (by omega)) dJ_331 ?_
  refine lv_toe (y := xs (5 * q + 4)) (by rw [nI_clamp (by omega)]) ?_
  refine lr_calli (va_runV (As := [.int (xs (5 * q + 1)), .int (xs (5 * q + 2)), .int (xs (5 * q + 3)), .int (xs (5 * q + 4))]) (rest := []) ⟨hx, hb, hml, hown, hts⟩ (hr _) (cwV 4 hts gJ_47 rfl rfl rfl (by decide +kernel) ⟨Nat.le_of_ble_eq_true rfl, Nat.le_of_ble_eq_true rfl⟩) (er_preV hK hW1 (hE 0 (by decide)) (cR_0 _ _ _) rfl) rfl rfl hl.1 rfl (lv_room (Nat.le_of_ble_eq_true rfl)) dJ_332 ⟨by show _ ≤ 601024; omega, by show _ ≤ 7293034; omega⟩) hW1 hS1 hA (fun r2 v H2 locs2 hp2 hW2 hz2 hk2 hS2 => ?_)
  obtain ⟨e2, ev⟩ := hp2
  rw [ev] at hW2
  have hV2 := hV1.kept (fun a ha => hk2 a (hV1.lt ha) (n3' a ha))
  have hO2 := va_o1 hO1 (hk2 o (va_o1.lt hO1) n2)
  refine lv_istore (lv' := (6, .int r2) :: (5, .int r1) :: [(4, .int (nI (5 * q))), (0, .ref b), (1, .ref (X 0 0)), (2, .ref (XR 0 0)), (3, .ref o)]) hx hb dJ_335 hl (by decide) rfl (fun ls hl => ?_)
  refine lv_aload_n hx hb dJ_337 rfl (lv_at hl 5 rfl) ?_
  refine lr_calli (va_runV (As := []) (rest := []) ⟨hx, hb, hml, hown, hts⟩ (r_thrown l D T XR LR tgR _ hE B') (cwV 0 hts gJ_37 rfl rfl rfl (by decide +kernel) ⟨Nat.le_of_ble_eq_true rfl, Nat.le_of_ble_eq_true rfl⟩) (er_preV hK hW2 (hE 0 (by decide)) (cR_0 _ _ _) rfl) rfl rfl hl.1 rfl (lv_room (Nat.le_of_ble_eq_true rfl)) dJ_338 ⟨by show _ ≤ 601024; omega, by show _ ≤ 7293034; omega⟩) hW2 hS2 hA (fun r3 v3 H3 locs3 hp3 hW3 hz3 hk3 hS3 => ?_)
  obtain ⟨e3, ev3⟩ := hp3
  rw [ev3] at hW3
  have e3 : r3 = B' 0 0 0 := e3
  have hV3 := hV2.kept (fun a ha => hk3 a (hV2.lt ha) (n3' a ha))
  have hO3 := va_o1 hO2 (hk3 o (va_o1.lt hO2) n2)
  refine lv_iload hx hb dJ_341 (lv_at hl 1 rfl) ?_
  refine lv_icmp_eq (tgt := 348) hx hb dJ_343 rfl (fun _ => ?_) (fun h9 => absurd (e3.trans er.symm) h9)
  have fin : ∀ ls, lv_has ls 7 ((6, .int r2) :: (5, .int r1) :: [(4, .int (nI (5 * q))), (0, .ref b), (1, .ref (X 0 0)), (2, .ref (XR 0 0)), (3, .ref o)]) → W p l e room_1 s m args below meth c H3 locs3 (100 + 11 * q + 11 + 0 + 0) (20000 + 2036 * q + 2036 + 0 + 0) Q (F0 m 365 ls []) := fun ls hl => by
    refine lv_goto (tgt := 772) hx hb dJ_365 rfl ?_
    refine W.widen (k := 100 + 11 * (q + 1)) (n := 20000 + 2036 * (q + 1)) (by omega) (by omega) ?_
    exact nx u.1.1 u.1.2.1 u.1.2.2.1 u.1.2.2.2 B' u.2 H3 locs3 ls ⟨S1, W1, (hin1 0 0 _ hth).1, hV3, hW3, hO3, ⟨n1', n2, n3', n4⟩, hS3, lv_sub hl [2, 3, 4, 5, 6] rfl⟩
  refine lv_iload hx hb dJ_348 (lv_at hl 1 rfl) ?_
  refine lv_if_ne (tgt := 365) hx hb dJ_350 rfl (fun _ => fin ls hl) (fun h9 => ?_)
  have k0 : r1 = 0 := h9
  refine lv_aload_n hx hb dJ_353 rfl (lv_at hl 6 rfl) ?_
  refine lv_iconst (v := 0) hx hb dJ_354 (by decide) ?_
  refine va_lald hx hb hK hO3 0 6 rfl rfl (show vp_in (nI 0) 1 from vp_in_nI (by decide) (by decide)) dJ_355 ?_
  refine lv_iload hx hb dJ_356 (lv_at hl 0 rfl) ?_
  refine lv_i2l (v := r.toInt64) hx hb dJ_358 (by rw [e2]) ?_
  refine W.lcmp hx hb dJ_359 ?_
  have e9 : lg_cmp (u.2 (Int32.toNatClampNeg 0)) r.toInt64 = 0 := by
    have h8 : u.2 (Int32.toNatClampNeg 0) = r.toInt64 := ef k0
    rw [h8]
    simp [lg_cmp]
  exact lv_if_eq (tgt := 365) hx hb dJ_360 rfl (fun _ => fin ls hl) (fun h9 => absurd e9 h9)
set_option maxHeartbeats 4000000 in
theorem j_resend (hfl : l.flags = pinnedFlags ++ [noTraceFlag]) (G : JG p s m args c D T t0 XR LR tgR b Ln xs) (hq : q < 512) (h5 : 5 * q + 5 ≤ Ln) (hLn : Ln ≤ 2560) (nx : JN p l e s m args below meth c Q D T t0 XR LR tgR b xa o q) (X : Nat → Nat → Nat) (L : List Nat) (tg : Nat → Nat × Nat) (A B : ew_R) (f : Nat → Int64) (H : Heap) (locs : List Loc) (ls : Array Slot) (I : JI s D T t0 XR LR tgR b xa o q (5 * q) X L tg A B f H locs ls) : W p l e room_1 s m args below meth c H locs (100 + 11 * q) (20000 + 2036 * q) Q (F0 m 393 ls []) := by
  obtain ⟨hx, hb, hml, hown, hts, hK, hN, hZ, hT, hC, hE, hX, hbl⟩ := G
  obtain ⟨S, W0, ha, hV, hW, hO, ⟨n1, n2, n3, n4⟩, hS, hl⟩ := I
  have hA : ∀ q, s.heap.size ≤ q → jA s q := fun _ h => h
  have hth : ew_in X L tg 0 0 (X 0 0) := W0.v0 0 (by simp)
  have hbA : ¬ jA s b := Nat.not_le.mpr hbl
  subst ha
  obtain ⟨r, B', hc, hr⟩ := pw_resend (l := l) (D := D) (T := T) hfl ⟨hq, S, W0, hE⟩ (xs (5 * q + 1)) (xs (5 * q + 2))
  refine lv_aload_n hx hb dJ_393 rfl (lv_at hl 2 rfl) ?_
  refine lv_aload_n hx hb dJ_394 rfl (lv_at hl 1 rfl) ?_
  refine lv_iload hx hb dJ_395 (lv_at hl 0 rfl) ?_
  refine lv_iconst (v := 1) hx hb dJ_397 (by decide) ?_
  refine lv_iadd hx hb dJ_398 ?_
  refine lv_toe (y := nI (5 * q + 1)) (nI_add (5 * q) 1) ?_
  refine va_sld hx hb hX hbl hbA hS (vp_in_nI (by omega) (by omega)) dJ_399 ?_
  refine lv_toe (y := xs (5 * q + 1)) (by rw [nI_clamp (by omega)]) ?_
  refine lv_aload_n hx hb dJ_400 rfl (lv_at hl 1 rfl) ?_
  refine lv_iload hx hb dJ_401 (lv_at hl 0 rfl) ?_
  refine lv_iconst (v := 2) hx hb dJ_403 (by decide) ?_
  refine lv_iadd hx hb dJ_404 ?_
  refine lv_toe (y := nI (5 * q + 2)) (nI_add (5 * q) 2) ?_
  refine va_sld hx hb hX hbl hbA hS (vp_in_nI (by omega) (by omega)) dJ_405 ?_
  refine lv_toe (y := xs (5 * q + 2)) (by rw [nI_clamp (by omega)]) ?_
  refine lv_aload_n hx hb dJ_406 rfl (lv_at hl 4 rfl) ?_
  refine lw_scall (lw_runSW (As := .ref (X 0 0) :: ([.int (xs (5 * q + 1)), .int (xs (5 * q + 2))] ++ [.ref o])) (rest := []) ⟨hx, hb, hml, hown, hts⟩ (hc o f _) (w_cw (n := 4) hts kww_resend kwl_resend kws_resend rfl rfl (by decide +kernel) ⟨Nat.le_of_ble_eq_true rfl, Nat.le_of_ble_eq_true rfl⟩) (w_preS hK hN hV hO n1 n4 hZ hT hC hS hA) rfl rfl hl.1 rfl (lv_room (Nat.le_of_ble_eq_true rfl)) dJ_407 ⟨by show _ ≤ 601024; omega, by show _ ≤ 7293034; omega⟩) hV n4 hS hA (fun r1 u H1 locs1 hp hV1 hO1 n1' hz hk hL1 hS1 => ?_)
  obtain ⟨er, ef, S1, W1, hin1⟩ := hp
  obtain ⟨hW1, n3'⟩ := j_cls (L1 := u.1.2.1) hW n2 n3 hk hL1
  refine lv_istore (lv' := (5, .int r1) :: [(4, .int (nI (5 * q))), (0, .ref b), (1, .ref (X 0 0)), (2, .ref (XR 0 0)), (3, .ref o)]) hx hb dJ_410 hl (by decide) rfl (fun ls hl => ?_)
  refine lv_aload_n hx hb dJ_412 rfl (lv_at hl 4 rfl) ?_
  refine lv_aload_n hx hb dJ_413 rfl (lv_at hl 2 rfl) ?_
  refine lv_iload hx hb dJ_414 (lv_at hl 1 rfl) ?_
  refine lv_iconst (v := 1) hx hb dJ_416 (by decide) ?_
  refine lv_iadd hx hb dJ_417 ?_
  refine lv_toe (y := nI (5 * q + 1)) (nI_add (5 * q) 1) ?_
  refine va_sld hx hb hX hbl hbA hS1 (vp_in_nI (by omega) (by omega)) dJ_418 ?_
  refine lv_toe (y := xs (5 * q + 1)) (by rw [nI_clamp (by omega)]) ?_
  refine lv_aload_n hx hb dJ_419 rfl (lv_at hl 2 rfl) ?_
  refine lv_iload hx hb dJ_420 (lv_at hl 1 rfl) ?_
  refine lv_iconst (v := 2) hx hb dJ_422 (by decide) ?_
  refine lv_iadd hx hb dJ_423 ?_
  refine lv_toe (y := nI (5 * q + 2)) (nI_add (5 * q) 2) ?_
  refine va_sld hx hb hX hbl hbA hS1 (vp_in_nI (by omega) (by omega)) dJ_424 ?_
  refine lv_toe (y := xs (5 * q + 2)) (by rw [nI_clamp (by omega)]) ?_
  refine lr_calli (va_runV (As := [.int (xs (5 * q + 1)), .int (xs (5 * q + 2))]) (rest := []) ⟨hx, hb, hml, hown, hts⟩ (hr _) (cwV 2 hts gJ_55 rfl rfl rfl (by decide +kernel) ⟨Nat.le_of_ble_eq_true rfl, Nat.le_of_ble_eq_true rfl⟩) (er_preV hK hW1 (hE 0 (by decide)) (cR_0 _ _ _) rfl) rfl rfl hl.1 rfl (lv_room (Nat.le_of_ble_eq_true rfl)) dJ_425 ⟨by show _ ≤ 601024; omega, by show _ ≤ 7293034; omega⟩) hW1 hS1 hA (fun r2 v H2 locs2 hp2 hW2 hz2 hk2 hS2 => ?_)
  obtain ⟨e2, ev⟩ := hp2
  rw [ev] at hW2
  have hV2 := hV1.kept (fun a ha => hk2 a (hV1.lt ha) (n3' a ha))
  have hO2 := va_o1 hO1 (hk2 o (va_o1.lt hO1) n2)
  refine lv_istore (lv' := (6, .int r2) :: (5, .int r1) :: [(4, .int (nI (5 * q))), (0, .ref b), (1, .ref (X 0 0)), (2, .ref (XR 0 0)), (3, .ref o)]) hx hb dJ_428 hl (by decide) rfl (fun ls hl => ?_)
  refine lv_aload_n hx hb dJ_430 rfl (lv_at hl 5 rfl) ?_
  refine lr_calli (va_runV (As := []) (rest := []) ⟨hx, hb, hml, hown, hts⟩ (r_thrown l D T XR LR tgR _ hE B') (cwV 0 hts gJ_37 rfl rfl rfl (by decide +kernel) ⟨Nat.le_of_ble_eq_true rfl, Nat.le_of_ble_eq_true rfl⟩) (er_preV hK hW2 (hE 0 (by decide)) (cR_0 _ _ _) rfl) rfl rfl hl.1 rfl (lv_room (Nat.le_of_ble_eq_true rfl)) dJ_431 ⟨by show _ ≤ 601024; omega, by show _ ≤ 7293034; omega⟩) hW2 hS2 hA (fun r3 v3 H3 locs3 hp3 hW3 hz3 hk3 hS3 => ?_)
  obtain ⟨e3, ev3⟩ := hp3
  rw [ev3] at hW3
  have e3 : r3 = B' 0 0 0 := e3
  have hV3 := hV2.kept (fun a ha => hk3 a (hV2.lt ha) (n3' a ha))
  have hO3 := va_o1 hO2 (hk3 o (va_o1.lt hO2) n2)
  refine lv_iload hx hb dJ_434 (lv_at hl 1 rfl) ?_
  refine lv_icmp_eq (tgt := 441) hx hb dJ_436 rfl (fun _ => ?_) (fun h9 => absurd (e3.trans er.symm) h9)
  have fin : ∀ ls, lv_has ls 7 ((6, .int r2) :: (5, .int r1) :: [(4, .int (nI (5 * q))), (0, .ref b), (1, .ref (X 0 0)), (2, .ref (XR 0 0)), (3, .ref o)]) → W p l e room_1 s m args below meth c H3 locs3 (100 + 11 * q + 11 + 0 + 0) (20000 + 2036 * q + 2036 + 0 + 0) Q (F0 m 458 ls []) := fun ls hl => by
    refine lv_goto (tgt := 772) hx hb dJ_458 rfl ?_
    refine W.widen (k := 100 + 11 * (q + 1)) (n := 20000 + 2036 * (q + 1)) (by omega) (by omega) ?_
    exact nx u.1.1 u.1.2.1 u.1.2.2.1 u.1.2.2.2 B' u.2 H3 locs3 ls ⟨S1, W1, (hin1 0 0 _ hth).1, hV3, hW3, hO3, ⟨n1', n2, n3', n4⟩, hS3, lv_sub hl [2, 3, 4, 5, 6] rfl⟩
  refine lv_iload hx hb dJ_441 (lv_at hl 1 rfl) ?_
  refine lv_if_ne (tgt := 458) hx hb dJ_443 rfl (fun _ => fin ls hl) (fun h9 => ?_)
  have k0 : r1 = 0 := h9
  refine lv_aload_n hx hb dJ_446 rfl (lv_at hl 6 rfl) ?_
  refine lv_iconst (v := 0) hx hb dJ_447 (by decide) ?_
  refine va_lald hx hb hK hO3 0 6 rfl rfl (show vp_in (nI 0) 1 from vp_in_nI (by decide) (by decide)) dJ_448 ?_
  refine lv_iload hx hb dJ_449 (lv_at hl 0 rfl) ?_
  refine lv_i2l (v := r.toInt64) hx hb dJ_451 (by rw [e2]) ?_
  refine W.lcmp hx hb dJ_452 ?_
  have e9 : lg_cmp (u.2 (Int32.toNatClampNeg 0)) r.toInt64 = 0 := by
    have h8 : u.2 (Int32.toNatClampNeg 0) = r.toInt64 := ef k0
    rw [h8]
    simp [lg_cmp]
  exact lv_if_eq (tgt := 458) hx hb dJ_453 rfl (fun _ => fin ls hl) (fun h9 => absurd e9 h9)
end JC
