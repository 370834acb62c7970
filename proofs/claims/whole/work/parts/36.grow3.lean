def z_AL_add3_8f (A : ew_R) (d o n : Nat) : ew_R := up3 (up3 (up3 (z_gr 14 A o n (n + n / 2)) 8 d 1 (nI (o + 1))) 14 (o + 1) 1001 (nI (n + 1))) 8 d 2 (nI (n + 1))
def z_AL_add_8f (A : ew_R) (d o n : Nat) : ew_R := z_AL_add3_8f (up3 A 8 d 0 (A 8 d 0 + 1)) d o n
set_option maxHeartbeats 4000000 in
set_option maxRecDepth 100000 in
theorem c_AL_add3_8f (l : Launch) (D : va_G) (T : Nat → ClassId) (t0 : Nat × Nat) (X : Nat → Nat → Nat) (L : List Nat) (tg : Nat → Nat × Nat) (sz : Nat) (A : ew_R) (d o n th le a0 : Nat) (hth : ew_in X L tg 8 d th) (hle : ew_in X L tg 6 (512 * d + n) le) (h0 : ew_in X L tg 14 o a0) (h4 : 4 ≤ n) (hn : n ≤ 600) (q1 : A 8 d 1 = nI o) (qs : A 8 d 2 = nI n) (ho : o / 64 = d) (ho1 : (o + 1) / 64 = d) (ho2 : o + 1 < 2 ^ 20) (qc : A 14 o 1000 = nI n) (qf : A 14 o 1001 = nI n) (hcl : clC X L tg A) (hnew : ∀ b ∈ L, (14, o + 1) ≠ tg b) : Met l yAL_add3 wsAL_add3 ({ frames := 5, cells := 1, slots := 1000, locals := 160 }) (em_Pc D vwCl (tysA T) (cfC T) t0 X L tg A sz [.ref th, .ref le, .ref a0, .int (nI n)]) (em_Qv D vwCl (cfC T) L sz (fun u => em_one 14 (o + 1) X L tg u.1 u.2.1 u.2.2.1 ∧ u.2.2.2 = z_AL_add3_8f A d o n)) 1 1000 (ew_A L sz) := by
  refine em_met (by decide) rfl (Nat.le_of_ble_eq_true rfl) ?_
  intro p e s m below meth c ls hx hb hr hts hown hlocks hml hnm hV hK hN hZ hS hA hl hsz
  subst hsz
  have hl : lv_has ls 4 [(0, .ref th), (1, .ref le), (2, .ref a0), (3, .int (nI n))] := hl
  refine lv_iload_n hx hb dAL_add3_0 rfl (lv_at hl 3 rfl) ?_
  refine lv_aload_n hx hb dAL_add3_1 rfl (lv_at hl 2 rfl) ?_
  refine ew_alen (v := nI n) hx hb hK hV h0 (cG_full_14 qc qf ho (by omega) (by omega)) 5 rfl rfl dAL_add3_2 ?_
  refine lv_icmp_ne (tgt := 11) hx hb dAL_add3_3 rfl (fun h9 => absurd rfl h9) (fun _ => ?_)
  refine lv_aload_n hx hb dAL_add3_6 rfl (lv_at hl 0 rfl) ?_
  refine em_callq (va_runV (As := []) (rest := []) ⟨hx, hb, hml, hown, hts⟩ (c_AL_grow0_8f l D T t0 X L tg _ A d o n th a0 hth h0 h4 hn q1 qs ho ho1 ho2 qc qf hcl hnew) (cwV 0 hts gAL_129 rfl rfl rfl (by decide +kernel) ⟨Nat.le_of_ble_eq_true rfl, Nat.le_of_ble_eq_true rfl⟩) (em_preV hK hN hV hZ hS hA hth (cC_8 _ _ _ _) rfl) rfl rfl hl.1 rfl (lv_room (Nat.le_of_ble_eq_true rfl)) dAL_add3_7 ⟨Nat.le_of_ble_eq_true rfl, Nat.le_of_ble_eq_true rfl⟩) hV hS hA (fun r X1 L1 tg1 u H locs hp hV hS => ?_)
  obtain ⟨e1, h1, e2⟩ := hp
  have e2 : u = (up3 (z_gr 14 A o n (n + n / 2)) 8 d 1 (nI (o + 1))) := e2
  subst e1
  subst e2
  have f0 : (up3 (z_gr 14 A o n (n + n / 2)) 8 d 1 (nI (o + 1))) 14 (o + 1) 1000 = nI (n + n / 2) := by simp [z_gr, up3, va_up]
  have f1 : (up3 (z_gr 14 A o n (n + n / 2)) 8 d 1 (nI (o + 1))) 14 (o + 1) 1001 = nI n := by simp [z_gr, up3, va_up]
  have hle1 := h1.2.1 _ _ _ hle
  refine lv_astore_n (lv' := [(2, .ref (X1 14 (o + 1))), (0, .ref th), (1, .ref le), (3, .int (nI n))]) hx hb dAL_add3_10 rfl hl (by decide) rfl (fun ls hl => ?_)
  refine lv_aload_n hx hb dAL_add3_11 rfl (lv_at hl 0 rfl) ?_
  refine lv_iload_n hx hb dAL_add3_12 rfl (lv_at hl 3 rfl) ?_
  refine lv_aload_n hx hb dAL_add3_13 rfl (lv_at hl 2 rfl) ?_
  refine ew_aast (E := "java/lang/Object") hx hb hK hV hS h1.2.2.1 (cC_14 _ _ _ _) 5 rfl hle1 (cC_6 _ _ _ _) rfl (hN.at 5 rfl) (ec_oin f0 (by omega) (by omega)) 1001 (nI (n + 1)) (oC_up_14 f1 (by omega) ho1 hle1.1) dAL_add3_14 (fun H locs hV hS => ?_)
  refine lv_aload_n hx hb dAL_add3_15 rfl (lv_at hl 1 rfl) ?_
  refine lv_iload_n hx hb dAL_add3_16 rfl (lv_at hl 3 rfl) ?_
  refine lv_iconst (v := 1) hx hb dAL_add3_17 (by decide) ?_
  refine lv_iadd hx hb dAL_add3_18 ?_
  refine lv_toe (y := nI (n + 1)) (nI_add n 1) ?_
  refine ew_put (ty := .int) hx hb hts hown hK hV hS fAL_48 gAL (h1.2.1 _ _ _ hth) (cC_8 _ _ _ _) 2 _ (pC_8_2 _ _ _ _ _) rfl (by decide +kernel) rfl rfl (Nat.le_of_ble_eq_true rfl) dAL_add3_19 (fun H locs hV hS => ?_)
  exact em_vret hx hb hr hlocks hV hS dAL_add3_22 ⟨h1, rfl⟩
set_option maxHeartbeats 4000000 in
set_option maxRecDepth 100000 in
theorem c_AL_add_8f (l : Launch) (D : va_G) (T : Nat → ClassId) (t0 : Nat × Nat) (X : Nat → Nat → Nat) (L : List Nat) (tg : Nat → Nat × Nat) (sz : Nat) (A : ew_R) (d o n th le a0 : Nat) (hth : ew_in X L tg 8 d th) (hle : ew_in X L tg 6 (512 * d + n) le) (h0 : ew_in X L tg 14 o a0) (h4 : 4 ≤ n) (hn : n ≤ 600) (q1 : A 8 d 1 = nI o) (qs : A 8 d 2 = nI n) (ho : o / 64 = d) (ho1 : (o + 1) / 64 = d) (ho2 : o + 1 < 2 ^ 20) (qc : A 14 o 1000 = nI n) (qf : A 14 o 1001 = nI n) (hcl : clC X L tg A) (hnew : ∀ b ∈ L, (14, o + 1) ≠ tg b) : Met l yAL_add wsAL_add ({ frames := 6, cells := 1, slots := 1000, locals := 190 }) (em_Pc D vwCl (tysA T) (cfC T) t0 X L tg A sz [.ref th, .ref le]) (em_Qi D vwCl (cfC T) L sz (fun r u => r = 1 ∧ em_one 14 (o + 1) X L tg u.1 u.2.1 u.2.2.1 ∧ u.2.2.2 = z_AL_add_8f A d o n)) 1 1000 (ew_A L sz) := by
  refine em_met (by decide) rfl (Nat.le_of_ble_eq_true rfl) ?_
  intro p e s m below meth c ls hx hb hr hts hown hlocks hml hnm hV hK hN hZ hS hA hl hsz
  subst hsz
  have hl : lv_has ls 2 [(0, .ref th), (1, .ref le)] := hl
  refine lv_aload_n hx hb dAL_add_0 rfl (lv_at hl 0 rfl) ?_
  refine lv_dup hx hb dAL_add_1 rfl ?_
  refine ew_getS (C := RAL) (T := TAL) (N := 3) (ci := 8) (k := 0) (v := .int (A 8 d 0)) hx hb hts hown hK hV ulAL rfl (by decide) kw_230 kw_231 hth (cC_8 _ _ _ _) rfl dAL_add_2 ?_
  refine lv_iconst (v := 1) hx hb dAL_add_5 (by decide) ?_
  refine lv_iadd hx hb dAL_add_6 ?_
  refine ew_putS (C := RAL) (T := TAL) (N := 3) (ci := 8) (k := 0) (ty := .int) hx hb hts hown hK hV hS ulAL rfl (by decide) kw_230 kw_231 gAL hth (cC_8 _ _ _ _) 0 _ (pC_8_0 _ _ _ _ _) rfl (by decide +kernel) rfl rfl (Nat.le_of_ble_eq_true rfl) dAL_add_7 (fun H locs hV hS => ?_)
  have q1' : up3 A 8 d 0 (A 8 d 0 + 1) 8 d 1 = nI o := by simpa [up3, va_up] using q1
  have qs' : up3 A 8 d 0 (A 8 d 0 + 1) 8 d 2 = nI n := by simpa [up3, va_up] using qs
  have hcl' : clC X L tg (up3 A 8 d 0 (A 8 d 0 + 1)) := clC_up hcl (fun _ _ h => h)
  have qc' : up3 A 8 d 0 (A 8 d 0 + 1) 14 o 1000 = nI n := by simpa [up3, va_up] using qc
  have qf' : up3 A 8 d 0 (A 8 d 0 + 1) 14 o 1001 = nI n := by simpa [up3, va_up] using qf
  refine lv_aload_n hx hb dAL_add_10 rfl (lv_at hl 0 rfl) ?_
  refine lv_aload_n hx hb dAL_add_11 rfl (lv_at hl 1 rfl) ?_
  refine lv_aload_n hx hb dAL_add_12 rfl (lv_at hl 0 rfl) ?_
  refine ew_get (v := .ref a0) hx hb hts hown hK hV fAL_9 hth (cC_8 _ _ _ _) (by show some (Value.ref (X 14 (up3 A 8 d 0 (A 8 d 0 + 1) 8 d 1).toNatClampNeg)) = _; rw [q1', nI_clamp (by omega), h0.1]) dAL_add_13 ?_
  refine lv_aload_n hx hb dAL_add_16 rfl (lv_at hl 0 rfl) ?_
  refine ew_get (v := .int (nI n)) hx hb hts hown hK hV fAL_48 hth (cC_8 _ _ _ _) (by show some (Value.int (up3 A 8 d 0 (A 8 d 0 + 1) 8 d 2)) = _; rw [qs']) dAL_add_17 ?_
  refine em_callv (va_runV (As := [.ref le, .ref a0, .int (nI n)]) (rest := []) ⟨hx, hb, hml, hown, hts⟩ (c_AL_add3_8f l D T t0 X L tg _ (up3 A 8 d 0 (A 8 d 0 + 1)) d o n th le a0 hth hle h0 h4 hn q1' qs' ho ho1 ho2 qc' qf' hcl' hnew) (cwV 3 hts gAL_131 rfl rfl rfl (by decide +kernel) ⟨Nat.le_of_ble_eq_true rfl, Nat.le_of_ble_eq_true rfl⟩) (em_preV hK hN hV hZ hS hA hth (cC_8 _ _ _ _) rfl) rfl rfl hl.1 rfl (lv_room (Nat.le_of_ble_eq_true rfl)) dAL_add_20 ⟨Nat.le_of_ble_eq_true rfl, Nat.le_of_ble_eq_true rfl⟩) hV hS hA (fun X1 L1 tg1 u H locs hp hV hS => ?_)
  refine lv_iconst (v := 1) hx hb dAL_add_23 (by decide) ?_
  exact em_zret hx hb hr hlocks hV hS dAL_add_24 (by decide) ⟨rfl, hp⟩
def z_AL_add3_8s (A : ew_R) (d o : Nat) : ew_R := up3 (up3 (up3 (z_ga 14 A o 10) 8 d 1 (nI (o + 1))) 14 (o + 1) 1001 (nI (0 + 1))) 8 d 2 (nI (0 + 1))
def z_AL_add_8s (A : ew_R) (d o : Nat) : ew_R := z_AL_add3_8s (up3 A 8 d 0 (A 8 d 0 + 1)) d o
set_option maxHeartbeats 4000000 in
set_option maxRecDepth 100000 in
theorem c_AL_add3_8s (l : Launch) (D : va_G) (T : Nat → ClassId) (t0 : Nat × Nat) (X : Nat → Nat → Nat) (L : List Nat) (tg : Nat → Nat × Nat) (sz : Nat) (A : ew_R) (d o th le : Nat) (hth : ew_in X L tg 8 d th) (hle : ew_in X L tg 6 (512 * d + 0) le) (hx0 : X 14 o = t0.1) (q1 : A 8 d 1 = nI o) (qs : A 8 d 2 = nI 0) (ho : o / 64 = d) (ho1 : (o + 1) / 64 = d) (ho2 : o + 1 < 2 ^ 20) (hcl : clC X L tg A) (hnew : ∀ b ∈ L, (14, o + 1) ≠ tg b) : Met l yAL_add3 wsAL_add3 ({ frames := 5, cells := 1, slots := 1000, locals := 160 }) (em_Pc D vwCl (tysA T) (cfC T) t0 X L tg A sz [.ref th, .ref le, .ref t0.1, .int (nI 0)]) (em_Qv D vwCl (cfC T) L sz (fun u => em_one 14 (o + 1) X L tg u.1 u.2.1 u.2.2.1 ∧ u.2.2.2 = z_AL_add3_8s A d o)) 1 1000 (ew_A L sz) := by
  refine em_met (by decide) rfl (Nat.le_of_ble_eq_true rfl) ?_
  intro p e s m below meth c ls hx hb hr hts hown hlocks hml hnm hV hK hN hZ hS hA hl hsz
  subst hsz
  have hl : lv_has ls 4 [(0, .ref th), (1, .ref le), (2, .ref t0.1), (3, .int (nI 0))] := hl
  refine lv_iload_n hx hb dAL_add3_0 rfl (lv_at hl 3 rfl) ?_
  refine lv_aload_n hx hb dAL_add3_1 rfl (lv_at hl 2 rfl) ?_
  refine va_tlen (v := nI 0) hx hb hZ.1.2 hS rfl dAL_add3_2 ?_
  refine lv_icmp_ne (tgt := 11) hx hb dAL_add3_3 rfl (fun h9 => absurd rfl h9) (fun _ => ?_)
  refine lv_aload_n hx hb dAL_add3_6 rfl (lv_at hl 0 rfl) ?_
  refine em_callq (va_runV (As := []) (rest := []) ⟨hx, hb, hml, hown, hts⟩ (c_AL_grow0_8s l D T t0 X L tg _ A d o th hth hx0 q1 qs ho ho1 ho2 hcl hnew) (cwV 0 hts gAL_129 rfl rfl rfl (by decide +kernel) ⟨Nat.le_of_ble_eq_true rfl, Nat.le_of_ble_eq_true rfl⟩) (em_preV hK hN hV hZ hS hA hth (cC_8 _ _ _ _) rfl) rfl rfl hl.1 rfl (lv_room (Nat.le_of_ble_eq_true rfl)) dAL_add3_7 ⟨Nat.le_of_ble_eq_true rfl, Nat.le_of_ble_eq_true rfl⟩) hV hS hA (fun r X1 L1 tg1 u H locs hp hV hS => ?_)
  obtain ⟨e1, h1, e2⟩ := hp
  have e2 : u = (up3 (z_ga 14 A o 10) 8 d 1 (nI (o + 1))) := e2
  subst e1
  subst e2
  have f0 : (up3 (z_ga 14 A o 10) 8 d 1 (nI (o + 1))) 14 (o + 1) 1000 = nI (10) := by simp [z_ga, up3, va_up]
  have f1 : (up3 (z_ga 14 A o 10) 8 d 1 (nI (o + 1))) 14 (o + 1) 1001 = nI 0 := by simp [z_ga, up3, va_up, nI]
  have hle1 := h1.2.1 _ _ _ hle
  refine lv_astore_n (lv' := [(2, .ref (X1 14 (o + 1))), (0, .ref th), (1, .ref le), (3, .int (nI 0))]) hx hb dAL_add3_10 rfl hl (by decide) rfl (fun ls hl => ?_)
  refine lv_aload_n hx hb dAL_add3_11 rfl (lv_at hl 0 rfl) ?_
  refine lv_iload_n hx hb dAL_add3_12 rfl (lv_at hl 3 rfl) ?_
  refine lv_aload_n hx hb dAL_add3_13 rfl (lv_at hl 2 rfl) ?_
  refine ew_aast (E := "java/lang/Object") hx hb hK hV hS h1.2.2.1 (cC_14 _ _ _ _) 5 rfl hle1 (cC_6 _ _ _ _) rfl (hN.at 5 rfl) (ec_oin f0 (by omega) (by omega)) 1001 (nI (0 + 1)) (oC_up_14 f1 (by omega) ho1 hle1.1) dAL_add3_14 (fun H locs hV hS => ?_)
  refine lv_aload_n hx hb dAL_add3_15 rfl (lv_at hl 1 rfl) ?_
  refine lv_iload_n hx hb dAL_add3_16 rfl (lv_at hl 3 rfl) ?_
  refine lv_iconst (v := 1) hx hb dAL_add3_17 (by decide) ?_
  refine lv_iadd hx hb dAL_add3_18 ?_
  refine lv_toe (y := nI (0 + 1)) (nI_add 0 1) ?_
  refine ew_put (ty := .int) hx hb hts hown hK hV hS fAL_48 gAL (h1.2.1 _ _ _ hth) (cC_8 _ _ _ _) 2 _ (pC_8_2 _ _ _ _ _) rfl (by decide +kernel) rfl rfl (Nat.le_of_ble_eq_true rfl) dAL_add3_19 (fun H locs hV hS => ?_)
  exact em_vret hx hb hr hlocks hV hS dAL_add3_22 ⟨h1, rfl⟩
set_option maxHeartbeats 4000000 in
set_option maxRecDepth 100000 in
theorem c_AL_add_8s (l : Launch) (D : va_G) (T : Nat → ClassId) (t0 : Nat × Nat) (X : Nat → Nat → Nat) (L : List Nat) (tg : Nat → Nat × Nat) (sz : Nat) (A : ew_R) (d o th le : Nat) (hth : ew_in X L tg 8 d th) (hle : ew_in X L tg 6 (512 * d + 0) le) (hx0 : X 14 o = t0.1) (q1 : A 8 d 1 = nI o) (qs : A 8 d 2 = nI 0) (ho : o / 64 = d) (ho1 : (o + 1) / 64 = d) (ho2 : o + 1 < 2 ^ 20) (hcl : clC X L tg A) (hnew : ∀ b ∈ L, (14, o + 1) ≠ tg b) : Met l yAL_add wsAL_add ({ frames := 6, cells := 1, slots := 1000, locals := 190 }) (em_Pc D vwCl (tysA T) (cfC T) t0 X L tg A sz [.ref th, .ref le]) (em_Qi D vwCl (cfC T) L sz (fun r u => r = 1 ∧ em_one 14 (o + 1) X L tg u.1 u.2.1 u.2.2.1 ∧ u.2.2.2 = z_AL_add_8s A d o)) 1 1000 (ew_A L sz) := by
  refine em_met (by decide) rfl (Nat.le_of_ble_eq_true rfl) ?_
  intro p e s m below meth c ls hx hb hr hts hown hlocks hml hnm hV hK hN hZ hS hA hl hsz
  subst hsz
  have hl : lv_has ls 2 [(0, .ref th), (1, .ref le)] := hl
  refine lv_aload_n hx hb dAL_add_0 rfl (lv_at hl 0 rfl) ?_
  refine lv_dup hx hb dAL_add_1 rfl ?_
  refine ew_getS (C := RAL) (T := TAL) (N := 3) (ci := 8) (k := 0) (v := .int (A 8 d 0)) hx hb hts hown hK hV ulAL rfl (by decide) kw_230 kw_231 hth (cC_8 _ _ _ _) rfl dAL_add_2 ?_
  refine lv_iconst (v := 1) hx hb dAL_add_5 (by decide) ?_
  refine lv_iadd hx hb dAL_add_6 ?_
  refine ew_putS (C := RAL) (T := TAL) (N := 3) (ci := 8) (k := 0) (ty := .int) hx hb hts hown hK hV hS ulAL rfl (by decide) kw_230 kw_231 gAL hth (cC_8 _ _ _ _) 0 _ (pC_8_0 _ _ _ _ _) rfl (by decide +kernel) rfl rfl (Nat.le_of_ble_eq_true rfl) dAL_add_7 (fun H locs hV hS => ?_)
  have q1' : up3 A 8 d 0 (A 8 d 0 + 1) 8 d 1 = nI o := by simpa [up3, va_up] using q1
  have qs' : up3 A 8 d 0 (A 8 d 0 + 1) 8 d 2 = nI 0 := by simpa [up3, va_up] using qs
  have hcl' : clC X L tg (up3 A 8 d 0 (A 8 d 0 + 1)) := clC_up hcl (fun _ _ h => h)
  refine lv_aload_n hx hb dAL_add_10 rfl (lv_at hl 0 rfl) ?_
  refine lv_aload_n hx hb dAL_add_11 rfl (lv_at hl 1 rfl) ?_
  refine lv_aload_n hx hb dAL_add_12 rfl (lv_at hl 0 rfl) ?_
  refine ew_get (v := .ref t0.1) hx hb hts hown hK hV fAL_9 hth (cC_8 _ _ _ _) (by show some (Value.ref (X 14 (up3 A 8 d 0 (A 8 d 0 + 1) 8 d 1).toNatClampNeg)) = _; rw [q1', nI_clamp (by omega), hx0]) dAL_add_13 ?_
  refine lv_aload_n hx hb dAL_add_16 rfl (lv_at hl 0 rfl) ?_
  refine ew_get (v := .int (nI 0)) hx hb hts hown hK hV fAL_48 hth (cC_8 _ _ _ _) (by show some (Value.int (up3 A 8 d 0 (A 8 d 0 + 1) 8 d 2)) = _; rw [qs']) dAL_add_17 ?_
  refine em_callv (va_runV (As := [.ref le, .ref t0.1, .int (nI 0)]) (rest := []) ⟨hx, hb, hml, hown, hts⟩ (c_AL_add3_8s l D T t0 X L tg _ (up3 A 8 d 0 (A 8 d 0 + 1)) d o th le hth hle hx0 q1' qs' ho ho1 ho2 hcl' hnew) (cwV 3 hts gAL_131 rfl rfl rfl (by decide +kernel) ⟨Nat.le_of_ble_eq_true rfl, Nat.le_of_ble_eq_true rfl⟩) (em_preV hK hN hV hZ hS hA hth (cC_8 _ _ _ _) rfl) rfl rfl hl.1 rfl (lv_room (Nat.le_of_ble_eq_true rfl)) dAL_add_20 ⟨Nat.le_of_ble_eq_true rfl, Nat.le_of_ble_eq_true rfl⟩) hV hS hA (fun X1 L1 tg1 u H locs hp hV hS => ?_)
  refine lv_iconst (v := 1) hx hb dAL_add_23 (by decide) ?_
  exact em_zret hx hb hr hlocks hV hS dAL_add_24 (by decide) ⟨rfl, hp⟩
def z_AL_add3_16f (A : ew_R) (d o n : Nat) : ew_R := up3 (up3 (up3 (z_gr 20 A o n (n + n / 2)) 16 d 1 (nI (o + 1))) 20 (o + 1) 1001 (nI (n + 1))) 16 d 2 (nI (n + 1))
def z_AL_add_16f (A : ew_R) (d o n : Nat) : ew_R := z_AL_add3_16f (up3 A 16 d 0 (A 16 d 0 + 1)) d o n
set_option maxHeartbeats 4000000 in
set_option maxRecDepth 100000 in
theorem c_AL_add3_16f (l : Launch) (D : va_G) (T : Nat → ClassId) (t0 : Nat × Nat) (X : Nat → Nat → Nat) (L : List Nat) (tg : Nat → Nat × Nat) (sz : Nat) (A : ew_R) (d o n th le a0 : Nat) (hth : ew_in X L tg 16 d th) (hle : ew_in X L tg 19 (512 * d + n) le) (h0 : ew_in X L tg 20 o a0) (h4 : 4 ≤ n) (hn : n ≤ 600) (q1 : A 16 d 1 = nI o) (qs : A 16 d 2 = nI n) (ho : o / 64 = d) (ho1 : (o + 1) / 64 = d) (ho2 : o + 1 < 2 ^ 20) (qc : A 20 o 1000 = nI n) (qf : A 20 o 1001 = nI n) (hcl : clC X L tg A) (hnew : ∀ b ∈ L, (20, o + 1) ≠ tg b) : Met l yAL_add3 wsAL_add3 ({ frames := 5, cells := 1, slots := 1000, locals := 160 }) (em_Pc D vwCl (tysA T) (cfC T) t0 X L tg A sz [.ref th, .ref le, .ref a0, .int (nI n)]) (em_Qv D vwCl (cfC T) L sz (fun u => em_one 20 (o + 1) X L tg u.1 u.2.1 u.2.2.1 ∧ u.2.2.2 = z_AL_add3_16f A d o n)) 1 1000 (ew_A L sz) := by
  refine em_met (by decide) rfl (Nat.le_of_ble_eq_true rfl) ?_
  intro p e s m below meth c ls hx hb hr hts hown hlocks hml hnm hV hK hN hZ hS hA hl hsz
  subst hsz
  have hl : lv_has ls 4 [(0, .ref th), (1, .ref le), (2, .ref a0), (3, .int (nI n))] := hl
  refine lv_iload_n hx hb dAL_add3_0 rfl (lv_at hl 3 rfl) ?_
  refine lv_aload_n hx hb dAL_add3_1 rfl (lv_at hl 2 rfl) ?_
  refine ew_alen (v := nI n) hx hb hK hV h0 (cG_full_20 qc qf ho (by omega) (by omega)) 5 rfl rfl dAL_add3_2 ?_
  refine lv_icmp_ne (tgt := 11) hx hb dAL_add3_3 rfl (fun h9 => absurd rfl h9) (fun _ => ?_)
  refine lv_aload_n hx hb dAL_add3_6 rfl (lv_at hl 0 rfl) ?_
  refine em_callq (va_runV (As := []) (rest := []) ⟨hx, hb, hml, hown, hts⟩ (c_AL_grow0_16f l D T t0 X L tg _ A d o n th a0 hth h0 h4 hn q1 qs ho ho1 ho2 qc qf hcl hnew) (cwV 0 hts gAL_129 rfl rfl rfl (by decide +kernel) ⟨Nat.le_of_ble_eq_true rfl, Nat.le_of_ble_eq_true rfl⟩) (em_preV hK hN hV hZ hS hA hth (cC_16 _ _ _ _) rfl) rfl rfl hl.1 rfl (lv_room (Nat.le_of_ble_eq_true rfl)) dAL_add3_7 ⟨Nat.le_of_ble_eq_true rfl, Nat.le_of_ble_eq_true rfl⟩) hV hS hA (fun r X1 L1 tg1 u H locs hp hV hS => ?_)
  obtain ⟨e1, h1, e2⟩ := hp
  have e2 : u = (up3 (z_gr 20 A o n (n + n / 2)) 16 d 1 (nI (o + 1))) := e2
  subst e1
  subst e2
  have f0 : (up3 (z_gr 20 A o n (n + n / 2)) 16 d 1 (nI (o + 1))) 20 (o + 1) 1000 = nI (n + n / 2) := by simp [z_gr, up3, va_up]
  have f1 : (up3 (z_gr 20 A o n (n + n / 2)) 16 d 1 (nI (o + 1))) 20 (o + 1) 1001 = nI n := by simp [z_gr, up3, va_up]
  have hle1 := h1.2.1 _ _ _ hle
  refine lv_astore_n (lv' := [(2, .ref (X1 20 (o + 1))), (0, .ref th), (1, .ref le), (3, .int (nI n))]) hx hb dAL_add3_10 rfl hl (by decide) rfl (fun ls hl => ?_)
  refine lv_aload_n hx hb dAL_add3_11 rfl (lv_at hl 0 rfl) ?_
  refine lv_iload_n hx hb dAL_add3_12 rfl (lv_at hl 3 rfl) ?_
  refine lv_aload_n hx hb dAL_add3_13 rfl (lv_at hl 2 rfl) ?_
  refine ew_aast (E := "java/lang/Object") hx hb hK hV hS h1.2.2.1 (cC_20 _ _ _ _) 5 rfl hle1 (cC_19 _ _ _ _) rfl (hN.at 5 rfl) (ec_oin f0 (by omega) (by omega)) 1001 (nI (n + 1)) (oC_up_20 f1 (by omega) ho1 hle1.1) dAL_add3_14 (fun H locs hV hS => ?_)
  refine lv_aload_n hx hb dAL_add3_15 rfl (lv_at hl 1 rfl) ?_
  refine lv_iload_n hx hb dAL_add3_16 rfl (lv_at hl 3 rfl) ?_
  refine lv_iconst (v := 1) hx hb dAL_add3_17 (by decide) ?_
  refine lv_iadd hx hb dAL_add3_18 ?_
  refine lv_toe (y := nI (n + 1)) (nI_add n 1) ?_
  refine ew_put (ty := .int) hx hb hts hown hK hV hS fAL_48 gAL (h1.2.1 _ _ _ hth) (cC_16 _ _ _ _) 2 _ (pC_16_2 _ _ _ _ _) rfl (by decide +kernel) rfl rfl (Nat.le_of_ble_eq_true rfl) dAL_add3_19 (fun H locs hV hS => ?_)
  exact em_vret hx hb hr hlocks hV hS dAL_add3_22 ⟨h1, rfl⟩
set_option maxHeartbeats 4000000 in
set_option maxRecDepth 100000 in
theorem c_AL_add_16f (l : Launch) (D : va_G) (T : Nat → ClassId) (t0 : Nat × Nat) (X : Nat → Nat → Nat) (L : List Nat) (tg : Nat → Nat × Nat) (sz : Nat) (A : ew_R) (d o n th le a0 : Nat) (hth : ew_in X L tg 16 d th) (hle : ew_in X L tg 19 (512 * d + n) le) (h0 : ew_in X L tg 20 o a0) (h4 : 4 ≤ n) (hn : n ≤ 600) (q1 : A 16 d 1 = nI o) (qs : A 16 d 2 = nI n) (ho : o / 64 = d) (ho1 : (o + 1) / 64 = d) (ho2 : o + 1 < 2 ^ 20) (qc : A 20 o 1000 = nI n) (qf : A 20 o 1001 = nI n) (hcl : clC X L tg A) (hnew : ∀ b ∈ L, (20, o + 1) ≠ tg b) : Met l yAL_add wsAL_add ({ frames := 6, cells := 1, slots := 1000, locals := 190 }) (em_Pc D vwCl (tysA T) (cfC T) t0 X L tg A sz [.ref th, .ref le]) (em_Qi D vwCl (cfC T) L sz (fun r u => r = 1 ∧ em_one 20 (o + 1) X L tg u.1 u.2.1 u.2.2.1 ∧ u.2.2.2 = z_AL_add_16f A d o n)) 1 1000 (ew_A L sz) := by
  refine em_met (by decide) rfl (Nat.le_of_ble_eq_true rfl) ?_
  intro p e s m below meth c ls hx hb hr hts hown hlocks hml hnm hV hK hN hZ hS hA hl hsz
  subst hsz
  have hl : lv_has ls 2 [(0, .ref th), (1, .ref le)] := hl
  refine lv_aload_n hx hb dAL_add_0 rfl (lv_at hl 0 rfl) ?_
  refine lv_dup hx hb dAL_add_1 rfl ?_
  refine ew_getS (C := RAL) (T := TAL) (N := 3) (ci := 8) (k := 0) (v := .int (A 16 d 0)) hx hb hts hown hK hV ulAL rfl (by decide) kw_230 kw_231 hth (cC_16 _ _ _ _) rfl dAL_add_2 ?_
  refine lv_iconst (v := 1) hx hb dAL_add_5 (by decide) ?_
  refine lv_iadd hx hb dAL_add_6 ?_
  refine ew_putS (C := RAL) (T := TAL) (N := 3) (ci := 8) (k := 0) (ty := .int) hx hb hts hown hK hV hS ulAL rfl (by decide) kw_230 kw_231 gAL hth (cC_16 _ _ _ _) 0 _ (pC_16_0 _ _ _ _ _) rfl (by decide +kernel) rfl rfl (Nat.le_of_ble_eq_true rfl) dAL_add_7 (fun H locs hV hS => ?_)
  have q1' : up3 A 16 d 0 (A 16 d 0 + 1) 16 d 1 = nI o := by simpa [up3, va_up] using q1
  have qs' : up3 A 16 d 0 (A 16 d 0 + 1) 16 d 2 = nI n := by simpa [up3, va_up] using qs
  have hcl' : clC X L tg (up3 A 16 d 0 (A 16 d 0 + 1)) := clC_up hcl (fun _ _ h => h)
  have qc' : up3 A 16 d 0 (A 16 d 0 + 1) 20 o 1000 = nI n := by simpa [up3, va_up] using qc
  have qf' : up3 A 16 d 0 (A 16 d 0 + 1) 20 o 1001 = nI n := by simpa [up3, va_up] using qf
  refine lv_aload_n hx hb dAL_add_10 rfl (lv_at hl 0 rfl) ?_
  refine lv_aload_n hx hb dAL_add_11 rfl (lv_at hl 1 rfl) ?_
  refine lv_aload_n hx hb dAL_add_12 rfl (lv_at hl 0 rfl) ?_
  refine ew_get (v := .ref a0) hx hb hts hown hK hV fAL_9 hth (cC_16 _ _ _ _) (by show some (Value.ref (X 20 (up3 A 16 d 0 (A 16 d 0 + 1) 16 d 1).toNatClampNeg)) = _; rw [q1', nI_clamp (by omega), h0.1]) dAL_add_13 ?_
  refine lv_aload_n hx hb dAL_add_16 rfl (lv_at hl 0 rfl) ?_
  refine ew_get (v := .int (nI n)) hx hb hts hown hK hV fAL_48 hth (cC_16 _ _ _ _) (by show some (Value.int (up3 A 16 d 0 (A 16 d 0 + 1) 16 d 2)) = _; rw [qs']) dAL_add_17 ?_
  refine em_callv (va_runV (As := [.ref le, .ref a0, .int (nI n)]) (rest := []) ⟨hx, hb, hml, hown, hts⟩ (c_AL_add3_16f l D T t0 X L tg _ (up3 A 16 d 0 (A 16 d 0 + 1)) d o n th le a0 hth hle h0 h4 hn q1' qs' ho ho1 ho2 qc' qf' hcl' hnew) (cwV 3 hts gAL_131 rfl rfl rfl (by decide +kernel) ⟨Nat.le_of_ble_eq_true rfl, Nat.le_of_ble_eq_true rfl⟩) (em_preV hK hN hV hZ hS hA hth (cC_16 _ _ _ _) rfl) rfl rfl hl.1 rfl (lv_room (Nat.le_of_ble_eq_true rfl)) dAL_add_20 ⟨Nat.le_of_ble_eq_true rfl, Nat.le_of_ble_eq_true rfl⟩) hV hS hA (fun X1 L1 tg1 u H locs hp hV hS => ?_)
  refine lv_iconst (v := 1) hx hb dAL_add_23 (by decide) ?_
  exact em_zret hx hb hr hlocks hV hS dAL_add_24 (by decide) ⟨rfl, hp⟩
def z_AL_add3_16s (A : ew_R) (d o : Nat) : ew_R := up3 (up3 (up3 (z_ga 20 A o 10) 16 d 1 (nI (o + 1))) 20 (o + 1) 1001 (nI (0 + 1))) 16 d 2 (nI (0 + 1))
def z_AL_add_16s (A : ew_R) (d o : Nat) : ew_R := z_AL_add3_16s (up3 A 16 d 0 (A 16 d 0 + 1)) d o
set_option maxHeartbeats 4000000 in
set_option maxRecDepth 100000 in
theorem c_AL_add3_16s (l : Launch) (D : va_G) (T : Nat → ClassId) (t0 : Nat × Nat) (X : Nat → Nat → Nat) (L : List Nat) (tg : Nat → Nat × Nat) (sz : Nat) (A : ew_R) (d o th le : Nat) (hth : ew_in X L tg 16 d th) (hle : ew_in X L tg 19 (512 * d + 0) le) (hx0 : X 20 o = t0.1) (q1 : A 16 d 1 = nI o) (qs : A 16 d 2 = nI 0) (ho : o / 64 = d) (ho1 : (o + 1) / 64 = d) (ho2 : o + 1 < 2 ^ 20) (hcl : clC X L tg A) (hnew : ∀ b ∈ L, (20, o + 1) ≠ tg b) : Met l yAL_add3 wsAL_add3 ({ frames := 5, cells := 1, slots := 1000, locals := 160 }) (em_Pc D vwCl (tysA T) (cfC T) t0 X L tg A sz [.ref th, .ref le, .ref t0.1, .int (nI 0)]) (em_Qv D vwCl (cfC T) L sz (fun u => em_one 20 (o + 1) X L tg u.1 u.2.1 u.2.2.1 ∧ u.2.2.2 = z_AL_add3_16s A d o)) 1 1000 (ew_A L sz) := by
  refine em_met (by decide) rfl (Nat.le_of_ble_eq_true rfl) ?_
  intro p e s m below meth c ls hx hb hr hts hown hlocks hml hnm hV hK hN hZ hS hA hl hsz
  subst hsz
  have hl : lv_has ls 4 [(0, .ref th), (1, .ref le), (2, .ref t0.1), (3, .int (nI 0))] := hl
  refine lv_iload_n hx hb dAL_add3_0 rfl (lv_at hl 3 rfl) ?_
  refine lv_aload_n hx hb dAL_add3_1 rfl (lv_at hl 2 rfl) ?_
  refine va_tlen (v := nI 0) hx hb hZ.1.2 hS rfl dAL_add3_2 ?_
  refine lv_icmp_ne (tgt := 11) hx hb dAL_add3_3 rfl (fun h9 => absurd rfl h9) (fun _ => ?_)
  refine lv_aload_n hx hb dAL_add3_6 rfl (lv_at hl 0 rfl) ?_
  refine em_callq (va_runV (As := []) (rest := []) ⟨hx, hb, hml, hown, hts⟩ (c_AL_grow0_16s l D T t0 X L tg _ A d o th hth hx0 q1 qs ho ho1 ho2 hcl hnew) (cwV 0 hts gAL_129 rfl rfl rfl (by decide +kernel) ⟨Nat.le_of_ble_eq_true rfl, Nat.le_of_ble_eq_true rfl⟩) (em_preV hK hN hV hZ hS hA hth (cC_16 _ _ _ _) rfl) rfl rfl hl.1 rfl (lv_room (Nat.le_of_ble_eq_true rfl)) dAL_add3_7 ⟨Nat.le_of_ble_eq_true rfl, Nat.le_of_ble_eq_true rfl⟩) hV hS hA (fun r X1 L1 tg1 u H locs hp hV hS => ?_)
  obtain ⟨e1, h1, e2⟩ := hp
  have e2 : u = (up3 (z_ga 20 A o 10) 16 d 1 (nI (o + 1))) := e2
  subst e1
  subst e2
  have f0 : (up3 (z_ga 20 A o 10) 16 d 1 (nI (o + 1))) 20 (o + 1) 1000 = nI (10) := by simp [z_ga, up3, va_up]
  have f1 : (up3 (z_ga 20 A o 10) 16 d 1 (nI (o + 1))) 20 (o + 1) 1001 = nI 0 := by simp [z_ga, up3, va_up, nI]
  have hle1 := h1.2.1 _ _ _ hle
  refine lv_astore_n (lv' := [(2, .ref (X1 20 (o + 1))), (0, .ref th), (1, .ref le), (3, .int (nI 0))]) hx hb dAL_add3_10 rfl hl (by decide) rfl (fun ls hl => ?_)
  refine lv_aload_n hx hb dAL_add3_11 rfl (lv_at hl 0 rfl) ?_
  refine lv_iload_n hx hb dAL_add3_12 rfl (lv_at hl 3 rfl) ?_
  refine lv_aload_n hx hb dAL_add3_13 rfl (lv_at hl 2 rfl) ?_
  refine ew_aast (E := "java/lang/Object") hx hb hK hV hS h1.2.2.1 (cC_20 _ _ _ _) 5 rfl hle1 (cC_19 _ _ _ _) rfl (hN.at 5 rfl) (ec_oin f0 (by omega) (by omega)) 1001 (nI (0 + 1)) (oC_up_20 f1 (by omega) ho1 hle1.1) dAL_add3_14 (fun H locs hV hS => ?_)
  refine lv_aload_n hx hb dAL_add3_15 rfl (lv_at hl 1 rfl) ?_
  refine lv_iload_n hx hb dAL_add3_16 rfl (lv_at hl 3 rfl) ?_
  refine lv_iconst (v := 1) hx hb dAL_add3_17 (by decide) ?_
  refine lv_iadd hx hb dAL_add3_18 ?_
  refine lv_toe (y := nI (0 + 1)) (nI_add 0 1) ?_
  refine ew_put (ty := .int) hx hb hts hown hK hV hS fAL_48 gAL (h1.2.1 _ _ _ hth) (cC_16 _ _ _ _) 2 _ (pC_16_2 _ _ _ _ _) rfl (by decide +kernel) rfl rfl (Nat.le_of_ble_eq_true rfl) dAL_add3_19 (fun H locs hV hS => ?_)
  exact em_vret hx hb hr hlocks hV hS dAL_add3_22 ⟨h1, rfl⟩
set_option maxHeartbeats 4000000 in
set_option maxRecDepth 100000 in
theorem c_AL_add_16s (l : Launch) (D : va_G) (T : Nat → ClassId) (t0 : Nat × Nat) (X : Nat → Nat → Nat) (L : List Nat) (tg : Nat → Nat × Nat) (sz : Nat) (A : ew_R) (d o th le : Nat) (hth : ew_in X L tg 16 d th) (hle : ew_in X L tg 19 (512 * d + 0) le) (hx0 : X 20 o = t0.1) (q1 : A 16 d 1 = nI o) (qs : A 16 d 2 = nI 0) (ho : o / 64 = d) (ho1 : (o + 1) / 64 = d) (ho2 : o + 1 < 2 ^ 20) (hcl : clC X L tg A) (hnew : ∀ b ∈ L, (20, o + 1) ≠ tg b) : Met l yAL_add wsAL_add ({ frames := 6, cells := 1, slots := 1000, locals := 190 }) (em_Pc D vwCl (tysA T) (cfC T) t0 X L tg A sz [.ref th, .ref le]) (em_Qi D vwCl (cfC T) L sz (fun r u => r = 1 ∧ em_one 20 (o + 1) X L tg u.1 u.2.1 u.2.2.1 ∧ u.2.2.2 = z_AL_add_16s A d o)) 1 1000 (ew_A L sz) := by
  refine em_met (by decide) rfl (Nat.le_of_ble_eq_true rfl) ?_
  intro p e s m below meth c ls hx hb hr hts hown hlocks hml hnm hV hK hN hZ hS hA hl hsz
  subst hsz
  have hl : lv_has ls 2 [(0, .ref th), (1, .ref le)] := hl
  refine lv_aload_n hx hb dAL_add_0 rfl (lv_at hl 0 rfl) ?_
  refine lv_dup hx hb dAL_add_1 rfl ?_
  refine ew_getS (C := RAL) (T := TAL) (N := 3) (ci := 8) (k := 0) (v := .int (A 16 d 0)) hx hb hts hown hK hV ulAL rfl (by decide) kw_230 kw_231 hth (cC_16 _ _ _ _) rfl dAL_add_2 ?_
  refine lv_iconst (v := 1) hx hb dAL_add_5 (by decide) ?_
  refine lv_iadd hx hb dAL_add_6 ?_
  refine ew_putS (C := RAL) (T := TAL) (N := 3) (ci := 8) (k := 0) (ty := .int) hx hb hts hown hK hV hS ulAL rfl (by decide) kw_230 kw_231 gAL hth (cC_16 _ _ _ _) 0 _ (pC_16_0 _ _ _ _ _) rfl (by decide +kernel) rfl rfl (Nat.le_of_ble_eq_true rfl) dAL_add_7 (fun H locs hV hS => ?_)
  have q1' : up3 A 16 d 0 (A 16 d 0 + 1) 16 d 1 = nI o := by simpa [up3, va_up] using q1
  have qs' : up3 A 16 d 0 (A 16 d 0 + 1) 16 d 2 = nI 0 := by simpa [up3, va_up] using qs
  have hcl' : clC X L tg (up3 A 16 d 0 (A 16 d 0 + 1)) := clC_up hcl (fun _ _ h => h)
  refine lv_aload_n hx hb dAL_add_10 rfl (lv_at hl 0 rfl) ?_
  refine lv_aload_n hx hb dAL_add_11 rfl (lv_at hl 1 rfl) ?_
  refine lv_aload_n hx hb dAL_add_12 rfl (lv_at hl 0 rfl) ?_
  refine ew_get (v := .ref t0.1) hx hb hts hown hK hV fAL_9 hth (cC_16 _ _ _ _) (by show some (Value.ref (X 20 (up3 A 16 d 0 (A 16 d 0 + 1) 16 d 1).toNatClampNeg)) = _; rw [q1', nI_clamp (by omega), hx0]) dAL_add_13 ?_
  refine lv_aload_n hx hb dAL_add_16 rfl (lv_at hl 0 rfl) ?_
  refine ew_get (v := .int (nI 0)) hx hb hts hown hK hV fAL_48 hth (cC_16 _ _ _ _) (by show some (Value.int (up3 A 16 d 0 (A 16 d 0 + 1) 16 d 2)) = _; rw [qs']) dAL_add_17 ?_
  refine em_callv (va_runV (As := [.ref le, .ref t0.1, .int (nI 0)]) (rest := []) ⟨hx, hb, hml, hown, hts⟩ (c_AL_add3_16s l D T t0 X L tg _ (up3 A 16 d 0 (A 16 d 0 + 1)) d o th le hth hle hx0 q1' qs' ho ho1 ho2 hcl' hnew) (cwV 3 hts gAL_131 rfl rfl rfl (by decide +kernel) ⟨Nat.le_of_ble_eq_true rfl, Nat.le_of_ble_eq_true rfl⟩) (em_preV hK hN hV hZ hS hA hth (cC_16 _ _ _ _) rfl) rfl rfl hl.1 rfl (lv_room (Nat.le_of_ble_eq_true rfl)) dAL_add_20 ⟨Nat.le_of_ble_eq_true rfl, Nat.le_of_ble_eq_true rfl⟩) hV hS hA (fun X1 L1 tg1 u H locs hp hV hS => ?_)
  refine lv_iconst (v := 1) hx hb dAL_add_23 (by decide) ?_
  exact em_zret hx hb hr hlocks hV hS dAL_add_24 (by decide) ⟨rfl, hp⟩
