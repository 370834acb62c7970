/-! The law's loop -/
theorem j_cmp1 {Ln q : Nat} (h0 : 5 * q ≤ Ln) (h : Ln < 5 * q + 5) (hl : Ln ≤ 2560) : Int32.ofNat Ln - 5 < nI (5 * q) := by
  rcases Nat.lt_or_ge Ln 5 with h5 | h5
  · have hq : q = 0 := by omega
    subst hq
    have hc : Ln = 0 ∨ Ln = 1 ∨ Ln = 2 ∨ Ln = 3 ∨ Ln = 4 := by omega
    rcases hc with rfl | rfl | rfl | rfl | rfl <;> decide +kernel
  · have e : Int32.ofNat Ln - 5 = nI (Ln - 5) := pk_sub (a := Ln) (b := 5) h5
    rw [e]
    exact (nI_ltI (by omega) (by omega)).mpr (by omega)
theorem j_cmp2 {Ln q : Nat} (h : 5 * q + 5 ≤ Ln) (hl : Ln ≤ 2560) : ¬ Int32.ofNat Ln - 5 < nI (5 * q) := by
  have e : Int32.ofNat Ln - 5 = nI (Ln - 5) := pk_sub (a := Ln) (b := 5) (by omega)
  rw [e]
  exact fun z => absurd ((nI_ltI (by omega) (by omega)).mp z) (by omega)
section JL
variable {p : Program} {l : Launch} {e : Env} {s : State} {m : MethodId} {args : Array Value} {below : List Frame} {meth : Method} {c : Code} {Q : State → Prop} {D : va_G} {T : Nat → ClassId} {t0 : Nat × Nat} {XR : Nat → Nat → Nat} {LR : List Nat} {tgR : Nat → Nat × Nat} {b Ln : Nat} {xs : Nat → Int32} {xa o : Nat}
set_option maxHeartbeats 4000000 in
theorem j_loop (hfl : l.flags = pinnedFlags ++ [noTraceFlag]) (G : JG p s m args c D T t0 XR LR tgR b Ln xs) (hLn : Ln ≤ 2560) (fin : ∀ (H : Heap) (locs : List Loc) (ls : Array Slot), va_S (jA s) s.heap H locs → W p l e room_1 s m args below meth c H locs 601024 7293034 Q (F0 m 778 ls [])) :
    ∀ (r q : Nat), 5 * q ≤ Ln → Ln < 5 * q + 5 * r + 5 → ∀ (X : Nat → Nat → Nat) (L : List Nat) (tg : Nat → Nat × Nat) (A B : ew_R) (f : Nat → Int64) (H : Heap) (locs : List Loc) (ls : Array Slot), JI s D T t0 XR LR tgR b xa o q (5 * q) X L tg A B f H locs ls → W p l e room_1 s m args below meth c H locs (100 + 11 * q) (20000 + 2036 * q) Q (F0 m 23 ls []) := by
  have hx := G.1
  have hb := G.2.1
  have hX := G.2.2.2.2.2.2.2.2.2.2.2.1
  have hbl := G.2.2.2.2.2.2.2.2.2.2.2.2
  have hbA : ¬ jA s b := Nat.not_le.mpr hbl
  have out : ∀ (q : Nat), 5 * q ≤ Ln → Ln < 5 * q + 5 → ∀ (X : Nat → Nat → Nat) (L : List Nat) (tg : Nat → Nat × Nat) (A B : ew_R) (f : Nat → Int64) (H : Heap) (locs : List Loc) (ls : Array Slot), JI s D T t0 XR LR tgR b xa o q (5 * q) X L tg A B f H locs ls → W p l e room_1 s m args below meth c H locs (100 + 11 * q) (20000 + 2036 * q) Q (F0 m 23 ls []) := by
    intro q h0 h1 X L tg A B f H locs ls I
    obtain ⟨-, -, -, -, -, -, -, hS, hl⟩ := I
    refine lv_iload hx hb dJ_23 (lv_at hl 0 rfl) ?_
    refine lv_aload_n hx hb dJ_25 rfl (lv_at hl 1 rfl) ?_
    refine va_slen hx hb hX hbl hbA hS dJ_26 ?_
    refine lv_iconst (v := 5) hx hb dJ_27 (by decide) ?_
    refine lv_isub hx hb dJ_28 ?_
    refine lv_icmp_gt (tgt := 778) hx hb dJ_29 rfl (fun _ => ?_) (fun h9 => absurd (j_cmp1 h0 h1 hLn) h9)
    refine W.widen (k := 601024) (n := 7293034) (by omega) (by omega) ?_
    exact fin H locs ls hS
  intro r
  induction r with
  | zero => exact fun q h0 h1 => out q h0 (by omega)
  | succ r ih =>
    intro q h0 h1 X L tg A B f H locs ls I
    rcases Nat.lt_or_ge Ln (5 * q + 5) with h5 | h5
    · exact out q h0 h5 X L tg A B f H locs ls I
    · have hq : q < 512 := by omega
      have nx : JN p l e s m args below meth c Q D T t0 XR LR tgR b xa o q := by
        intro X L tg A B f H locs ls I
        obtain ⟨i1, i2, i3, i4, i5, i6, i7, hS, hl⟩ := I
        refine lv_iinc (k := 0) (v := nI (5 * (q + 1))) (lv' := [(4, .int (nI (5 * (q + 1)))), (0, .ref b), (1, .ref xa), (2, .ref (XR 0 0)), (3, .ref o)]) hx hb dJ_772 hl rfl (nI_add (5 * q) 5) (by decide) rfl (fun ls hl => ?_)
        refine lv_goto (tgt := 23) hx hb dJ_775 rfl ?_
        exact ih (q + 1) (by omega) (by omega) X L tg A B f H locs ls ⟨i1, i2, i3, i4, i5, i6, i7, hS, hl⟩
      have I0 := I
      obtain ⟨-, -, -, -, -, -, -, hS, hl⟩ := I
      refine lv_iload hx hb dJ_23 (lv_at hl 0 rfl) ?_
      refine lv_aload_n hx hb dJ_25 rfl (lv_at hl 1 rfl) ?_
      refine va_slen hx hb hX hbl hbA hS dJ_26 ?_
      refine lv_iconst (v := 5) hx hb dJ_27 (by decide) ?_
      refine lv_isub hx hb dJ_28 ?_
      refine lv_icmp_gt (tgt := 778) hx hb dJ_29 rfl (fun h9 => absurd h9 (j_cmp2 h5 hLn)) (fun _ => ?_)
      refine lv_aload_n hx hb dJ_32 rfl (lv_at hl 1 rfl) ?_
      refine lv_iload hx hb dJ_33 (lv_at hl 0 rfl) ?_
      refine va_sld hx hb hX hbl hbA hS (vp_in_nI (by omega) (by omega)) dJ_35 ?_
      refine lv_bipush (v := 15) hx hb dJ_36 (by decide) ?_
      refine lv_iand hx hb dJ_38 ?_
      obtain ⟨k, hk, e9⟩ := and15 (xs (nI (5 * q)).toNatClampNeg)
      refine lv_toe (y := nI k) e9 ?_
      have hc : k = 0 ∨ k = 1 ∨ k = 2 ∨ k = 3 ∨ k = 4 ∨ k = 5 ∨ k = 6 ∨ k = 7 ∨ k = 8 ∨ k = 9 ∨ k = 10 ∨ k = 11 ∨ k = 12 ∨ k = 13 ∨ k = 14 ∨ k = 15 := by omega
      rcases hc with rfl | rfl | rfl | rfl | rfl | rfl | rfl | rfl | rfl | rfl | rfl | rfl | rfl | rfl | rfl | rfl
      · exact lv_tableIn (tgt := 116) hx hb dJ_39 (by decide) (by decide) rfl rfl (j_addCopy hfl G hq h5 hLn nx X L tg A B f H locs ls I0)
      · exact lv_tableIn (tgt := 184) hx hb dJ_39 (by decide) (by decide) rfl rfl (j_request hfl G hq h5 hLn nx X L tg A B f H locs ls I0)
      · exact lv_tableIn (tgt := 276) hx hb dJ_39 (by decide) (by decide) rfl rfl (j_act hfl G hq h5 hLn nx X L tg A B f H locs ls I0)
      · exact lv_tableIn (tgt := 368) hx hb dJ_39 (by decide) (by decide) rfl rfl (j_pass hfl G hq h5 hLn nx X L tg A B f H locs ls I0)
      · exact lv_tableIn (tgt := 393) hx hb dJ_39 (by decide) (by decide) rfl rfl (j_resend hfl G hq h5 hLn nx X L tg A B f H locs ls I0)
      · exact lv_tableIn (tgt := 461) hx hb dJ_39 (by decide) (by decide) rfl rfl (j_letters hfl G hq h5 hLn nx X L tg A B f H locs ls I0)
      · exact lv_tableIn (tgt := 474) hx hb dJ_39 (by decide) (by decide) rfl rfl (j_carry hfl G hq h5 hLn nx X L tg A B f H locs ls I0)
      · exact lv_tableIn (tgt := 499) hx hb dJ_39 (by decide) (by decide) rfl rfl (j_drop hfl G hq h5 hLn nx X L tg A B f H locs ls I0)
      · exact lv_tableIn (tgt := 524) hx hb dJ_39 (by decide) (by decide) rfl rfl (j_letter hfl G hq h5 hLn nx X L tg A B f H locs ls I0)
      · exact lv_tableIn (tgt := 561) hx hb dJ_39 (by decide) (by decide) rfl rfl (j_book hfl G hq h5 hLn nx X L tg A B f H locs ls I0)
      · exact lv_tableIn (tgt := 610) hx hb dJ_39 (by decide) (by decide) rfl rfl (j_supplier hfl G hq h5 hLn nx X L tg A B f H locs ls I0)
      · exact lv_tableIn (tgt := 635) hx hb dJ_39 (by decide) (by decide) rfl rfl (j_holder hfl G hq h5 hLn nx X L tg A B f H locs ls I0)
      · exact lv_tableIn (tgt := 660) hx hb dJ_39 (by decide) (by decide) rfl rfl (j_promised hfl G hq h5 hLn nx X L tg A B f H locs ls I0)
      · exact lv_tableIn (tgt := 685) hx hb dJ_39 (by decide) (by decide) rfl rfl (j_balance hfl G hq h5 hLn nx X L tg A B f H locs ls I0)
      · exact lv_tableIn (tgt := 710) hx hb dJ_39 (by decide) (by decide) rfl rfl (j_queue hfl G hq h5 hLn nx X L tg A B f H locs ls I0)
      · exact lv_tableIn (tgt := 747) hx hb dJ_39 (by decide) (by decide) rfl rfl (j_settled hfl G hq h5 hLn nx X L tg A B f H locs ls I0)
end JL
