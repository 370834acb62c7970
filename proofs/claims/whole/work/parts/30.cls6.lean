theorem oC_up {X : Nat → Nat} {r : Nat → Int32} {n d o v : Nat} (hf : r 1001 = nI n) (hn : n + 1 < 2 ^ 31) (ho : o / 64 = d) (hv : X (512 * d + n) = v) : (fun j => if j < (nI (n + 1)).toNatClampNeg then some (X (512 * (o / 64) + j)) else none) = va_up (fun j => if j < (r 1001).toNatClampNeg then some (X (512 * (o / 64) + j)) else none) (nI n).toNatClampNeg (some v) := by
  funext j
  rw [hf, nI_clamp hn, nI_clamp (show n < 2 ^ 31 by omega)]
  by_cases h : j = n
  · subst h
    rw [va_up_self, if_pos (by omega), ho, hv]
  · rw [va_up_ne _ _ h]
    by_cases h2 : j < n
    · rw [if_pos (by omega), if_pos h2]
    · rw [if_neg (by omega), if_neg h2]
theorem oC_up_14 {T : Nat → ClassId} {X : Nat → Nat → Nat} {r : Nat → Int32} {n d o v : Nat} (hf : r 1001 = nI n) (hn : n + 1 < 2 ^ 31) (ho : o / 64 = d) (hv : X 6 (512 * d + n) = v) : cfC T X 14 o (va_up r 1001 (nI (n + 1))) = .inl (T 5, (r 1000).toNatClampNeg, .inr (.inr (.inr (.inr (va_up (fun j => if j < (r 1001).toNatClampNeg then some (X 6 (512 * (o / 64) + j)) else none) (nI n).toNatClampNeg (some v)))))) := by
  rw [← oC_up (X := X 6) hf hn ho hv]
  rfl
theorem oC_up_20 {T : Nat → ClassId} {X : Nat → Nat → Nat} {r : Nat → Int32} {n d o v : Nat} (hf : r 1001 = nI n) (hn : n + 1 < 2 ^ 31) (ho : o / 64 = d) (hv : X 19 (512 * d + n) = v) : cfC T X 20 o (va_up r 1001 (nI (n + 1))) = .inl (T 5, (r 1000).toNatClampNeg, .inr (.inr (.inr (.inr (va_up (fun j => if j < (r 1001).toNatClampNeg then some (X 19 (512 * (o / 64) + j)) else none) (nI n).toNatClampNeg (some v)))))) := by
  rw [← oC_up (X := X 19) hf hn ho hv]
  rfl

def z_AL_add3_8 (A : ew_R) (d : Nat) (n : Nat) (o : Nat) (cap : Nat) : ew_R :=
  up3 (up3 A 14 o 1001 (nI (n + 1))) 8 d 2 (nI (n + 1))
set_option maxHeartbeats 4000000 in
set_option maxRecDepth 100000 in
theorem c_AL_add3_8 (l : Launch) (D : va_G) (T : Nat → ClassId) (X : Nat → Nat → Nat) (L : List Nat) (tg : Nat → Nat × Nat) (sz : Nat) (A : ew_R) (d : Nat) (n : Nat) (o : Nat) (th : Nat) (hth : ew_in X L tg 8 d th) (le : Nat) (hle : ew_in X L tg 6 (512 * d + n) le) (ar : Nat) (har : ew_in X L tg 14 o ar) (cap : Nat) (q1 : A 8 d 1 = nI o) (ho : o / 64 = d) (ho2 : o < 2 ^ 20) (qs : A 8 d 2 = nI n) (qc : A 14 o 1000 = nI cap) (qf : A 14 o 1001 = nI n) (hnc : n < cap) (hcap : cap ≤ 1000) : Met l yAL_add3 wsAL_add3 ({ frames := 5, cells := 0, slots := 0, locals := 113 }) (ec_Pc D vwCl (tysA T) (cfC T) X L tg A sz [.ref th, .ref le, .ref ar, .int (nI n)]) (er_Qv D vwCl (cfC T) X L tg sz (fun u => u = z_AL_add3_8 A d n o cap)) 0 0 (ew_A L sz) := by
  refine ec_met (by decide) rfl (Nat.le_of_ble_eq_true rfl) ?_
  intro p e s m below meth c ls hx hb hr hts hown hlocks hml hV hK hN hS hA hl hsz
  subst hsz
  have hl : lv_has ls 4 [(0, .ref th), (1, .ref le), (2, .ref ar), (3, .int (nI n))] := hl
  refine lv_iload_n hx hb dAL_add3_0 rfl (lv_at hl 3 rfl) ?_
  refine lv_aload_n hx hb dAL_add3_1 rfl (lv_at hl 2 rfl) ?_
  refine ew_alen (v := nI cap) hx hb hK hV har (cC_14 _ _ _ _) 5 rfl (by show nI _ = _; rw [qc, nI_clamp (by omega)]) dAL_add3_2 ?_
  refine lv_icmp_ne (tgt := 11) hx hb dAL_add3_3 rfl (fun _ => ?_) (fun h9 => absurd h9 (fun z9 => (show ¬ (n = cap) by omega) ((nI_eq (a := n) (b := cap) (by omega) (by omega)).mp z9)))
  refine lv_aload_n hx hb dAL_add3_11 rfl (lv_at hl 2 rfl) ?_
  refine lv_iload_n hx hb dAL_add3_12 rfl (lv_at hl 3 rfl) ?_
  refine lv_aload_n hx hb dAL_add3_13 rfl (lv_at hl 1 rfl) ?_
  refine ew_aast (E := "java/lang/Object") hx hb hK hV hS har (cC_14 _ _ _ _) 5 rfl hle (cC_6 _ _ _ _) rfl (hN.at 5 rfl) (ec_oin qc (by omega) (by omega)) 1001 (nI (n + 1)) (oC_up_14 qf (by omega) ho hle.1) dAL_add3_14 (fun H locs hV hS => ?_)
  refine lv_aload_n hx hb dAL_add3_15 rfl (lv_at hl 0 rfl) ?_
  refine lv_iload_n hx hb dAL_add3_16 rfl (lv_at hl 3 rfl) ?_
  refine lv_iconst (v := 1) hx hb dAL_add3_17 (by decide) ?_
  refine lv_iadd hx hb dAL_add3_18 ?_
  refine lv_toe (y := nI (n + 1)) (nI_add n 1) ?_
  refine ew_put (ty := .int) hx hb hts hown hK hV hS fAL_48 gAL hth (cC_8 _ _ _ _) 2 _ (pC_8_2 _ _ _ _ _) rfl (by decide +kernel) rfl rfl (Nat.le_of_ble_eq_true rfl) dAL_add3_19 (fun H locs hV hS => ?_)
  exact er_vret hx hb hr hlocks hV hS dAL_add3_22 (Eq.symm (by unfold z_AL_add3_8; rfl))

def z_AL_add_8 (A : ew_R) (d : Nat) (n : Nat) (o : Nat) (cap : Nat) : Int32 × ew_R :=
  (1, (z_AL_add3_8 (up3 A 8 d 0 ((A 8 d 0) + 1)) d n o cap))
set_option maxHeartbeats 4000000 in
set_option maxRecDepth 100000 in
theorem c_AL_add_8 (l : Launch) (D : va_G) (T : Nat → ClassId) (X : Nat → Nat → Nat) (L : List Nat) (tg : Nat → Nat × Nat) (sz : Nat) (A : ew_R) (d : Nat) (n : Nat) (th : Nat) (hth : ew_in X L tg 8 d th) (le : Nat) (hle : ew_in X L tg 6 (512 * d + n) le) (o : Nat) (cap : Nat) (e14_0 : ew_in X L tg 14 o (X 14 o)) (q1 : A 8 d 1 = nI o) (ho : o / 64 = d) (ho2 : o < 2 ^ 20) (qs : A 8 d 2 = nI n) (qc : A 14 o 1000 = nI cap) (qf : A 14 o 1001 = nI n) (hnc : n < cap) (hcap : cap ≤ 1000) : Met l yAL_add wsAL_add ({ frames := 6, cells := 0, slots := 0, locals := 136 }) (ec_Pc D vwCl (tysA T) (cfC T) X L tg A sz [.ref th, .ref le]) (er_Qi D vwCl (cfC T) X L tg sz (fun r u => r = (z_AL_add_8 A d n o cap).1 ∧ u = (z_AL_add_8 A d n o cap).2)) 0 0 (ew_A L sz) := by
  refine ec_met (by decide) rfl (Nat.le_of_ble_eq_true rfl) ?_
  intro p e s m below meth c ls hx hb hr hts hown hlocks hml hV hK hN hS hA hl hsz
  subst hsz
  have hl : lv_has ls 2 [(0, .ref th), (1, .ref le)] := hl
  refine lv_aload_n hx hb dAL_add_0 rfl (lv_at hl 0 rfl) ?_
  refine lv_dup hx hb dAL_add_1 rfl ?_
  refine ew_getS (C := RAL) (T := TAL) (N := 3) (ci := 8) (k := 0) (v := .int (A 8 d 0)) hx hb hts hown hK hV ulAL rfl (by decide) kw_230 kw_231 hth (cC_8 _ _ _ _) rfl dAL_add_2 ?_
  refine lv_iconst (v := 1) hx hb dAL_add_5 (by decide) ?_
  refine lv_iadd hx hb dAL_add_6 ?_
  refine ew_putS (C := RAL) (T := TAL) (N := 3) (ci := 8) (k := 0) (ty := .int) hx hb hts hown hK hV hS ulAL rfl (by decide) kw_230 kw_231 gAL hth (cC_8 _ _ _ _) 0 _ (pC_8_0 _ _ _ _ _) rfl (by decide +kernel) rfl rfl (Nat.le_of_ble_eq_true rfl) dAL_add_7 (fun H locs hV hS => ?_)
  refine lv_aload_n hx hb dAL_add_10 rfl (lv_at hl 0 rfl) ?_
  refine lv_aload_n hx hb dAL_add_11 rfl (lv_at hl 1 rfl) ?_
  refine lv_aload_n hx hb dAL_add_12 rfl (lv_at hl 0 rfl) ?_
  refine ew_get (v := .ref (X 14 o)) hx hb hts hown hK hV fAL_9 hth (cC_8 _ _ _ _) (ec_rd (by simpa [up3, va_up] using q1) (by omega)) dAL_add_13 ?_
  refine lv_aload_n hx hb dAL_add_16 rfl (lv_at hl 0 rfl) ?_
  refine ew_get (v := .int (A 8 d 2)) hx hb hts hown hK hV fAL_48 hth (cC_8 _ _ _ _) (by simp [up3, va_up, oC_8]) dAL_add_17 ?_
  refine lv_toe (y := nI n) qs ?_
  refine er_callv (va_runV (As := [.ref le, .ref (X 14 o), .int (nI n)]) (rest := []) ⟨hx, hb, hml, hown, hts⟩ (c_AL_add3_8 l D T X L tg _ (up3 A 8 d 0 ((A 8 d 0) + 1)) d n o th hth le hle (X 14 o) e14_0 cap (by simpa [up3, va_up] using q1) ho ho2 (by simpa [up3, va_up] using qs) (by simpa [up3, va_up] using qc) (by simpa [up3, va_up] using qf) hnc hcap) (cwV 3 hts gAL_131 rfl rfl rfl (by decide +kernel) ⟨Nat.le_of_ble_eq_true rfl, Nat.le_of_ble_eq_true rfl⟩) (ec_preV hK hN hV hth (cC_8 _ _ _ _) rfl) rfl rfl hl.1 rfl (lv_room (Nat.le_of_ble_eq_true rfl)) dAL_add_20 ⟨Nat.le_of_ble_eq_true rfl, Nat.le_of_ble_eq_true rfl⟩) hV hS hA (fun u1 H locs eu1 hV hS => ?_)
  have eu1 : u1 = z_AL_add3_8 (up3 A 8 d 0 ((A 8 d 0) + 1)) d n o cap := eu1
  refine lv_iconst (v := 1) hx hb dAL_add_23 (by decide) ?_
  subst eu1
  exact er_zret hx hb hr hlocks hV hS dAL_add_24 (by decide) ⟨Eq.symm (by unfold z_AL_add_8; rfl), Eq.symm (by unfold z_AL_add_8; rfl)⟩

def z_AL_add3_16 (A : ew_R) (d : Nat) (n : Nat) (o : Nat) (cap : Nat) : ew_R :=
  up3 (up3 A 20 o 1001 (nI (n + 1))) 16 d 2 (nI (n + 1))
set_option maxHeartbeats 4000000 in
set_option maxRecDepth 100000 in
theorem c_AL_add3_16 (l : Launch) (D : va_G) (T : Nat → ClassId) (X : Nat → Nat → Nat) (L : List Nat) (tg : Nat → Nat × Nat) (sz : Nat) (A : ew_R) (d : Nat) (n : Nat) (o : Nat) (th : Nat) (hth : ew_in X L tg 16 d th) (le : Nat) (hle : ew_in X L tg 19 (512 * d + n) le) (ar : Nat) (har : ew_in X L tg 20 o ar) (cap : Nat) (q1 : A 16 d 1 = nI o) (ho : o / 64 = d) (ho2 : o < 2 ^ 20) (qs : A 16 d 2 = nI n) (qc : A 20 o 1000 = nI cap) (qf : A 20 o 1001 = nI n) (hnc : n < cap) (hcap : cap ≤ 1000) : Met l yAL_add3 wsAL_add3 ({ frames := 5, cells := 0, slots := 0, locals := 113 }) (ec_Pc D vwCl (tysA T) (cfC T) X L tg A sz [.ref th, .ref le, .ref ar, .int (nI n)]) (er_Qv D vwCl (cfC T) X L tg sz (fun u => u = z_AL_add3_16 A d n o cap)) 0 0 (ew_A L sz) := by
  refine ec_met (by decide) rfl (Nat.le_of_ble_eq_true rfl) ?_
  intro p e s m below meth c ls hx hb hr hts hown hlocks hml hV hK hN hS hA hl hsz
  subst hsz
  have hl : lv_has ls 4 [(0, .ref th), (1, .ref le), (2, .ref ar), (3, .int (nI n))] := hl
  refine lv_iload_n hx hb dAL_add3_0 rfl (lv_at hl 3 rfl) ?_
  refine lv_aload_n hx hb dAL_add3_1 rfl (lv_at hl 2 rfl) ?_
  refine ew_alen (v := nI cap) hx hb hK hV har (cC_20 _ _ _ _) 5 rfl (by show nI _ = _; rw [qc, nI_clamp (by omega)]) dAL_add3_2 ?_
  refine lv_icmp_ne (tgt := 11) hx hb dAL_add3_3 rfl (fun _ => ?_) (fun h9 => absurd h9 (fun z9 => (show ¬ (n = cap) by omega) ((nI_eq (a := n) (b := cap) (by omega) (by omega)).mp z9)))
  refine lv_aload_n hx hb dAL_add3_11 rfl (lv_at hl 2 rfl) ?_
  refine lv_iload_n hx hb dAL_add3_12 rfl (lv_at hl 3 rfl) ?_
  refine lv_aload_n hx hb dAL_add3_13 rfl (lv_at hl 1 rfl) ?_
  refine ew_aast (E := "java/lang/Object") hx hb hK hV hS har (cC_20 _ _ _ _) 5 rfl hle (cC_19 _ _ _ _) rfl (hN.at 5 rfl) (ec_oin qc (by omega) (by omega)) 1001 (nI (n + 1)) (oC_up_20 qf (by omega) ho hle.1) dAL_add3_14 (fun H locs hV hS => ?_)
  refine lv_aload_n hx hb dAL_add3_15 rfl (lv_at hl 0 rfl) ?_
  refine lv_iload_n hx hb dAL_add3_16 rfl (lv_at hl 3 rfl) ?_
  refine lv_iconst (v := 1) hx hb dAL_add3_17 (by decide) ?_
  refine lv_iadd hx hb dAL_add3_18 ?_
  refine lv_toe (y := nI (n + 1)) (nI_add n 1) ?_
  refine ew_put (ty := .int) hx hb hts hown hK hV hS fAL_48 gAL hth (cC_16 _ _ _ _) 2 _ (pC_16_2 _ _ _ _ _) rfl (by decide +kernel) rfl rfl (Nat.le_of_ble_eq_true rfl) dAL_add3_19 (fun H locs hV hS => ?_)
  exact er_vret hx hb hr hlocks hV hS dAL_add3_22 (Eq.symm (by unfold z_AL_add3_16; rfl))

def z_AL_add_16 (A : ew_R) (d : Nat) (n : Nat) (o : Nat) (cap : Nat) : Int32 × ew_R :=
  (1, (z_AL_add3_16 (up3 A 16 d 0 ((A 16 d 0) + 1)) d n o cap))
set_option maxHeartbeats 4000000 in
set_option maxRecDepth 100000 in
theorem c_AL_add_16 (l : Launch) (D : va_G) (T : Nat → ClassId) (X : Nat → Nat → Nat) (L : List Nat) (tg : Nat → Nat × Nat) (sz : Nat) (A : ew_R) (d : Nat) (n : Nat) (th : Nat) (hth : ew_in X L tg 16 d th) (le : Nat) (hle : ew_in X L tg 19 (512 * d + n) le) (o : Nat) (cap : Nat) (e20_0 : ew_in X L tg 20 o (X 20 o)) (q1 : A 16 d 1 = nI o) (ho : o / 64 = d) (ho2 : o < 2 ^ 20) (qs : A 16 d 2 = nI n) (qc : A 20 o 1000 = nI cap) (qf : A 20 o 1001 = nI n) (hnc : n < cap) (hcap : cap ≤ 1000) : Met l yAL_add wsAL_add ({ frames := 6, cells := 0, slots := 0, locals := 136 }) (ec_Pc D vwCl (tysA T) (cfC T) X L tg A sz [.ref th, .ref le]) (er_Qi D vwCl (cfC T) X L tg sz (fun r u => r = (z_AL_add_16 A d n o cap).1 ∧ u = (z_AL_add_16 A d n o cap).2)) 0 0 (ew_A L sz) := by
  refine ec_met (by decide) rfl (Nat.le_of_ble_eq_true rfl) ?_
  intro p e s m below meth c ls hx hb hr hts hown hlocks hml hV hK hN hS hA hl hsz
  subst hsz
  have hl : lv_has ls 2 [(0, .ref th), (1, .ref le)] := hl
  refine lv_aload_n hx hb dAL_add_0 rfl (lv_at hl 0 rfl) ?_
  refine lv_dup hx hb dAL_add_1 rfl ?_
  refine ew_getS (C := RAL) (T := TAL) (N := 3) (ci := 8) (k := 0) (v := .int (A 16 d 0)) hx hb hts hown hK hV ulAL rfl (by decide) kw_230 kw_231 hth (cC_16 _ _ _ _) rfl dAL_add_2 ?_
  refine lv_iconst (v := 1) hx hb dAL_add_5 (by decide) ?_
  refine lv_iadd hx hb dAL_add_6 ?_
  refine ew_putS (C := RAL) (T := TAL) (N := 3) (ci := 8) (k := 0) (ty := .int) hx hb hts hown hK hV hS ulAL rfl (by decide) kw_230 kw_231 gAL hth (cC_16 _ _ _ _) 0 _ (pC_16_0 _ _ _ _ _) rfl (by decide +kernel) rfl rfl (Nat.le_of_ble_eq_true rfl) dAL_add_7 (fun H locs hV hS => ?_)
  refine lv_aload_n hx hb dAL_add_10 rfl (lv_at hl 0 rfl) ?_
  refine lv_aload_n hx hb dAL_add_11 rfl (lv_at hl 1 rfl) ?_
  refine lv_aload_n hx hb dAL_add_12 rfl (lv_at hl 0 rfl) ?_
  refine ew_get (v := .ref (X 20 o)) hx hb hts hown hK hV fAL_9 hth (cC_16 _ _ _ _) (ec_rd (by simpa [up3, va_up] using q1) (by omega)) dAL_add_13 ?_
  refine lv_aload_n hx hb dAL_add_16 rfl (lv_at hl 0 rfl) ?_
  refine ew_get (v := .int (A 16 d 2)) hx hb hts hown hK hV fAL_48 hth (cC_16 _ _ _ _) (by simp [up3, va_up, oC_16]) dAL_add_17 ?_
  refine lv_toe (y := nI n) qs ?_
  refine er_callv (va_runV (As := [.ref le, .ref (X 20 o), .int (nI n)]) (rest := []) ⟨hx, hb, hml, hown, hts⟩ (c_AL_add3_16 l D T X L tg _ (up3 A 16 d 0 ((A 16 d 0) + 1)) d n o th hth le hle (X 20 o) e20_0 cap (by simpa [up3, va_up] using q1) ho ho2 (by simpa [up3, va_up] using qs) (by simpa [up3, va_up] using qc) (by simpa [up3, va_up] using qf) hnc hcap) (cwV 3 hts gAL_131 rfl rfl rfl (by decide +kernel) ⟨Nat.le_of_ble_eq_true rfl, Nat.le_of_ble_eq_true rfl⟩) (ec_preV hK hN hV hth (cC_16 _ _ _ _) rfl) rfl rfl hl.1 rfl (lv_room (Nat.le_of_ble_eq_true rfl)) dAL_add_20 ⟨Nat.le_of_ble_eq_true rfl, Nat.le_of_ble_eq_true rfl⟩) hV hS hA (fun u1 H locs eu1 hV hS => ?_)
  have eu1 : u1 = z_AL_add3_16 (up3 A 16 d 0 ((A 16 d 0) + 1)) d n o cap := eu1
  refine lv_iconst (v := 1) hx hb dAL_add_23 (by decide) ?_
  subst eu1
  exact er_zret hx hb hr hlocks hV hS dAL_add_24 (by decide) ⟨Eq.symm (by unfold z_AL_add_16; rfl), Eq.symm (by unfold z_AL_add_16; rfl)⟩
