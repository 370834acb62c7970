set_option maxHeartbeats 4000000 in
set_option maxRecDepth 100000 in
theorem c_As_newLength (l : Launch) (D : va_G) (T : Nat → ClassId) (X : Nat → Nat → Nat) (L : List Nat) (tg : Nat → Nat × Nat) (sz : Nat) (A : ew_R) (n : Nat) (h4 : 4 ≤ n) (hn : n ≤ 1000) : Met l yAs_newLength wsAs_newLength ({ frames := 1, cells := 0, slots := 0, locals := 40 }) (ec_Pc D vwCl (tysA T) (cfC T) X L tg A sz [.int (nI n), .int (nI 1), .int (nI (n / 2))]) (er_Qi D vwCl (cfC T) X L tg sz (fun r u => r = nI (n + n / 2) ∧ u = A)) 0 0 (ew_A L sz) := by
  refine ec_met (by decide) rfl (Nat.le_of_ble_eq_true rfl) ?_
  intro p e s m below meth c ls hx hb hr hts hown hlocks hml hV hK hN hS hA hl hsz
  subst hsz
  have hl : lv_has ls 4 [(0, .int (nI n)), (1, .int (nI 1)), (2, .int (nI (n / 2)))] := hl
  refine lv_iload_n hx hb dAs_newLength_0 rfl (lv_at hl 0 rfl) ?_
  refine lv_iload_n hx hb dAs_newLength_1 rfl (lv_at hl 1 rfl) ?_
  refine lv_iload_n hx hb dAs_newLength_2 rfl (lv_at hl 2 rfl) ?_
  refine va_mmax hx hb (hml.trans hl.1.symm) hown (hts _ km_194) (hts _ km_mmax_s) (hts _ km_ini) (hts _ km_mmax_c) (Nat.le_of_ble_eq_true rfl) (Nat.le_of_ble_eq_true rfl) (Nat.le_of_ble_eq_true rfl) (Nat.le_of_ble_eq_true rfl) dAs_newLength_3 ?_
  refine lv_toe (y := nI (n / 2)) (if_pos ((nI_ltI (by omega) (by omega)).mpr (by omega))) ?_
  refine lv_iadd hx hb dAs_newLength_6 ?_
  refine lv_toe (y := nI (n + n / 2)) (nI_add n (n / 2)) ?_
  refine lv_istore_n (lv' := [(3, .int (nI (n + n / 2))), (0, .int (nI n)), (1, .int (nI 1)), (2, .int (nI (n / 2)))]) hx hb dAs_newLength_7 rfl hl (by decide) rfl (fun ls hl => ?_)
  refine lv_iconst (v := 0) hx hb dAs_newLength_8 (by decide) ?_
  refine lv_iload_n hx hb dAs_newLength_9 rfl (lv_at hl 0 rfl) ?_
  refine lv_icmp_ge (tgt := 21) hx hb dAs_newLength_10 rfl (fun h9 => absurd ((nI_leI (a := n + n / 2) (b := 0) (by omega) (by omega)).mp h9) (by omega)) (fun _ => ?_)
  refine lv_iload_n hx hb dAs_newLength_13 rfl (lv_at hl 0 rfl) ?_
  refine lv_ldc (v := 2147483639) hx hb hown (hts _ kw_322) dAs_newLength_14 ?_
  refine lv_icmp_gt (tgt := 21) hx hb dAs_newLength_16 rfl (fun h9 => absurd ((nI_ltI (a := 2147483639) (b := n + n / 2) (by omega) (by omega)).mp h9) (by omega)) (fun _ => ?_)
  refine lv_iload_n hx hb dAs_newLength_19 rfl (lv_at hl 0 rfl) ?_
  exact er_iret hx hb hr hlocks hV hS dAs_newLength_20 ⟨rfl, rfl⟩
theorem clC_up {X : Nat → Nat → Nat} {L : List Nat} {tg : Nat → Nat × Nat} {A : ew_R} (h : clC X L tg A) {c i k : Nat} {x : Int32} (hr : ∀ c' i', rfC c i (va_up (A c i) k x) c' i' → rfC c i (A c i) c' i') : clC X L tg (up3 A c i k x) := by
  intro b hb c' i' hq
  by_cases hc : (tg b).1 = c ∧ (tg b).2 = i
  · rw [hc.1, hc.2, up3_row] at hq
    exact h b hb c' i' (by rw [hc.1, hc.2]; exact hr c' i' hq)
  · rw [up3_oth _ _ _ hc] at hq
    exact h b hb c' i' hq

set_option maxHeartbeats 4000000 in
set_option maxRecDepth 100000 in
theorem c_AL_grow1_8f (l : Launch) (D : va_G) (T : Nat → ClassId) (t0 : Nat × Nat) (X : Nat → Nat → Nat) (L : List Nat) (tg : Nat → Nat × Nat) (sz : Nat) (A : ew_R) (d o n th a0 : Nat) (hth : ew_in X L tg 8 d th) (h0 : ew_in X L tg 14 o a0) (h4 : 4 ≤ n) (hn : n ≤ 600) (q1 : A 8 d 1 = nI o) (qs : A 8 d 2 = nI n) (ho : o / 64 = d) (ho1 : (o + 1) / 64 = d) (ho2 : o + 1 < 2 ^ 20) (qc : A 14 o 1000 = nI n) (qf : A 14 o 1001 = nI n) (hcl : clC X L tg A) (hnew : ∀ b ∈ L, (14, o + 1) ≠ tg b) : Met l yAL_grow1 wsAL_grow1 ({ frames := 3, cells := 1, slots := 1000, locals := 100 }) (em_Pc D vwCl (tysA T) (cfC T) t0 X L tg A sz [.ref th, .int (nI (n + 1))]) (em_Qq D vwCl (cfC T) L sz (fun r u => r = some (u.1 14 (o + 1)) ∧ em_one 14 (o + 1) X L tg u.1 u.2.1 u.2.2.1 ∧ u.2.2.2 = (up3 (z_gr 14 A o n (n + n / 2)) 8 d 1 (nI (o + 1))))) 1 1000 (ew_A L sz) := by
  refine em_met (by decide) rfl (Nat.le_of_ble_eq_true rfl) ?_
  intro p e s m below meth c ls hx hb hr hts hown hlocks hml hnm hV hK hN hZ hS hA hl hsz
  subst hsz
  have hl : lv_has ls 4 [(0, .ref th), (1, .int (nI (n + 1)))] := hl
  refine lv_aload_n hx hb dAL_grow1_0 rfl (lv_at hl 0 rfl) ?_
  refine ew_get (v := .ref a0) hx hb hts hown hK hV fAL_9 hth (cC_8 _ _ _ _) (by show some (Value.ref (X 14 (A 8 d 1).toNatClampNeg)) = _; rw [q1, nI_clamp (by omega), h0.1]) dAL_grow1_1 ?_
  refine ew_alen (v := nI n) hx hb hK hV h0 (cG_full_14 qc qf ho (by omega) (by omega)) 5 rfl rfl dAL_grow1_4 ?_
  refine lv_istore_n (lv' := [(2, .int (nI n)), (0, .ref th), (1, .int (nI (n + 1)))]) hx hb dAL_grow1_5 rfl hl (by decide) rfl (fun ls hl => ?_)
  refine lv_iload_n hx hb dAL_grow1_6 rfl (lv_at hl 0 rfl) ?_
  refine lv_if_gt (tgt := 20) hx hb dAL_grow1_7 rfl (fun _ => ?_) (fun h9 => absurd ((nI_ltI (a := 0) (b := n) (by omega) (by omega)).mpr (by omega)) h9)
  refine lv_iload_n hx hb dAL_grow1_20 rfl (lv_at hl 0 rfl) ?_
  refine lv_iload_n hx hb dAL_grow1_21 rfl (lv_at hl 2 rfl) ?_
  refine lv_iload_n hx hb dAL_grow1_22 rfl (lv_at hl 0 rfl) ?_
  refine lv_isub hx hb dAL_grow1_23 ?_
  refine lv_toe (y := nI 1) (by have k9 := pk_sub (a := n + 1) (b := n) (by omega); rw [Nat.add_sub_cancel_left] at k9; exact k9) ?_
  refine lv_iload_n hx hb dAL_grow1_24 rfl (lv_at hl 0 rfl) ?_
  refine lv_iconst (v := 1) hx hb dAL_grow1_25 (by decide) ?_
  refine lv_ishr hx hb dAL_grow1_26 ?_
  refine lv_toe (y := nI (n / 2)) (by have k9 := pk_shrN (n := n) (by omega) ((1 : Int32) &&& 31) 1 (by decide); rw [Nat.pow_one] at k9; exact k9) ?_
  refine er_calli (va_runS (As := [.int (nI n), .int (nI 1), .int (nI (n / 2))]) (rest := []) ⟨hx, hb, hml, hown, hts⟩ (c_As_newLength l D T X L tg _ A n h4 (by omega)) ⟨callB_of 3 hts gAL_73.1 rfl rfl rfl (hts _ gAL_73.2.2.2) (hts _ gAL_73.2.1) (by decide +kernel) ⟨Nat.le_of_ble_eq_true rfl, Nat.le_of_ble_eq_true rfl⟩, hts _ gAL_73.2.2.1⟩ (ec_preS hK hN hV) rfl rfl hl.1 rfl (lv_room (Nat.le_of_ble_eq_true rfl)) dAL_grow1_27 ⟨Nat.le_of_ble_eq_true rfl, Nat.le_of_ble_eq_true rfl⟩) hV hS hA (fun r u H locs hp hV hS => ?_)
  obtain ⟨rfl, eu9⟩ := hp
  rw [eu9] at hV
  refine lv_istore_n (lv' := [(3, .int (nI (n + n / 2))), (2, .int (nI n)), (0, .ref th), (1, .int (nI (n + 1)))]) hx hb dAL_grow1_30 rfl hl (by decide) rfl (fun ls hl => ?_)
  refine lv_aload_n hx hb dAL_grow1_31 rfl (lv_at hl 2 rfl) ?_
  refine lv_aload_n hx hb dAL_grow1_32 rfl (lv_at hl 2 rfl) ?_
  refine ew_get (v := .ref a0) hx hb hts hown hK hV fAL_9 hth (cC_8 _ _ _ _) (by show some (Value.ref (X 14 (A 8 d 1).toNatClampNeg)) = _; rw [q1, nI_clamp (by omega), h0.1]) dAL_grow1_33 ?_
  refine lv_iload_n hx hb dAL_grow1_36 rfl (lv_at hl 0 rfl) ?_
  refine em_callq (va_runS (As := [.ref a0, .int (nI (n + n / 2))]) (rest := [.ref th]) ⟨hx, hb, hml, hown, hts⟩ (c_Ar_copyOf_14 l D T t0 X L tg _ A d o n (n + n / 2) a0 h0 ho ho1 ho2 qc qf (by omega) (by omega) hcl hnew) ⟨callB_of 2 hts gAL_66.1 rfl rfl rfl (hts _ gAL_66.2.2.2) (hts _ gAL_66.2.1) (by decide +kernel) ⟨Nat.le_of_ble_eq_true rfl, Nat.le_of_ble_eq_true rfl⟩, hts _ gAL_66.2.2.1⟩ (em_preS hK hN hV hZ hS hA) rfl rfl hl.1 rfl (lv_room (Nat.le_of_ble_eq_true rfl)) dAL_grow1_37 ⟨Nat.le_of_ble_eq_true rfl, Nat.le_of_ble_eq_true rfl⟩) hV hS hA (fun r X1 L1 tg1 u H locs hp hV hS => ?_)
  obtain ⟨e1, h1, e2⟩ := hp
  have e2 : u = z_gr 14 A o n (n + n / 2) := e2
  subst e1
  subst e2
  refine lv_dup_x1 hx hb dAL_grow1_40 rfl rfl ?_
  refine ew_put (ty := .array (.object "java/lang/Object")) (v := .ref (X1 14 (o + 1))) hx hb hts hown hK hV hS fAL_9 gAL (h1.2.1 _ _ _ hth) (cC_8 _ _ _ _) 1 (nI (o + 1)) ((pC_8_1 _ _ _ _ _).trans (by rw [nI_clamp (by omega)])) rfl (by decide +kernel) rfl rfl (Nat.le_of_ble_eq_true rfl) dAL_grow1_41 (fun H locs hV hS => ?_)
  refine W.widen (k := 1) (n := 1000) (Nat.le_of_ble_eq_true rfl) (Nat.le_of_ble_eq_true rfl) ?_
  exact em_aret (r := some (X1 14 (o + 1))) hx hb hr (Or.inr ⟨_, rfl⟩) hlocks hV hS dAL_grow1_44 rfl ⟨rfl, h1, rfl⟩
set_option maxHeartbeats 4000000 in
set_option maxRecDepth 100000 in
theorem c_AL_grow0_8f (l : Launch) (D : va_G) (T : Nat → ClassId) (t0 : Nat × Nat) (X : Nat → Nat → Nat) (L : List Nat) (tg : Nat → Nat × Nat) (sz : Nat) (A : ew_R) (d o n th a0 : Nat) (hth : ew_in X L tg 8 d th) (h0 : ew_in X L tg 14 o a0) (h4 : 4 ≤ n) (hn : n ≤ 600) (q1 : A 8 d 1 = nI o) (qs : A 8 d 2 = nI n) (ho : o / 64 = d) (ho1 : (o + 1) / 64 = d) (ho2 : o + 1 < 2 ^ 20) (qc : A 14 o 1000 = nI n) (qf : A 14 o 1001 = nI n) (hcl : clC X L tg A) (hnew : ∀ b ∈ L, (14, o + 1) ≠ tg b) : Met l yAL_grow0 wsAL_grow0 ({ frames := 4, cells := 1, slots := 1000, locals := 130 }) (em_Pc D vwCl (tysA T) (cfC T) t0 X L tg A sz [.ref th]) (em_Qq D vwCl (cfC T) L sz (fun r u => r = some (u.1 14 (o + 1)) ∧ em_one 14 (o + 1) X L tg u.1 u.2.1 u.2.2.1 ∧ u.2.2.2 = (up3 (z_gr 14 A o n (n + n / 2)) 8 d 1 (nI (o + 1))))) 1 1000 (ew_A L sz) := by
  refine em_met (by decide) rfl (Nat.le_of_ble_eq_true rfl) ?_
  intro p e s m below meth c ls hx hb hr hts hown hlocks hml hnm hV hK hN hZ hS hA hl hsz
  subst hsz
  have hl : lv_has ls 1 [(0, .ref th)] := hl
  refine lv_aload_n hx hb dAL_grow0_0 rfl (lv_at hl 0 rfl) ?_
  refine lv_aload_n hx hb dAL_grow0_1 rfl (lv_at hl 0 rfl) ?_
  refine ew_get (v := .int (nI n)) hx hb hts hown hK hV fAL_48 hth (cC_8 _ _ _ _) (by show some (Value.int (A 8 d 2)) = _; rw [qs]) dAL_grow0_2 ?_
  refine lv_iconst (v := 1) hx hb dAL_grow0_5 (by decide) ?_
  refine lv_iadd hx hb dAL_grow0_6 ?_
  refine lv_toe (y := nI (n + 1)) (nI_add n 1) ?_
  refine em_callq (va_runV (As := [.int (nI (n + 1))]) (rest := []) ⟨hx, hb, hml, hown, hts⟩ (c_AL_grow1_8f l D T t0 X L tg _ A d o n th a0 hth h0 h4 hn q1 qs ho ho1 ho2 qc qf hcl hnew) (cwV 1 hts gAL_69 rfl rfl rfl (by decide +kernel) ⟨Nat.le_of_ble_eq_true rfl, Nat.le_of_ble_eq_true rfl⟩) (em_preV hK hN hV hZ hS hA hth (cC_8 _ _ _ _) rfl) rfl rfl hl.1 rfl (lv_room (Nat.le_of_ble_eq_true rfl)) dAL_grow0_7 ⟨Nat.le_of_ble_eq_true rfl, Nat.le_of_ble_eq_true rfl⟩) hV hS hA (fun r X1 L1 tg1 u H locs hp hV hS => ?_)
  exact em_aret (r := r) hx hb hr (Or.inr ⟨_, rfl⟩) hlocks hV hS dAL_grow0_10 rfl hp
set_option maxHeartbeats 4000000 in
set_option maxRecDepth 100000 in
theorem c_AL_grow1_8s (l : Launch) (D : va_G) (T : Nat → ClassId) (t0 : Nat × Nat) (X : Nat → Nat → Nat) (L : List Nat) (tg : Nat → Nat × Nat) (sz : Nat) (A : ew_R) (d o th : Nat) (hth : ew_in X L tg 8 d th) (hx0 : X 14 o = t0.1) (q1 : A 8 d 1 = nI o) (qs : A 8 d 2 = nI 0) (ho : o / 64 = d) (ho1 : (o + 1) / 64 = d) (ho2 : o + 1 < 2 ^ 20) (hcl : clC X L tg A) (hnew : ∀ b ∈ L, (14, o + 1) ≠ tg b) : Met l yAL_grow1 wsAL_grow1 ({ frames := 3, cells := 1, slots := 1000, locals := 100 }) (em_Pc D vwCl (tysA T) (cfC T) t0 X L tg A sz [.ref th, .int (nI (0 + 1))]) (em_Qq D vwCl (cfC T) L sz (fun r u => r = some (u.1 14 (o + 1)) ∧ em_one 14 (o + 1) X L tg u.1 u.2.1 u.2.2.1 ∧ u.2.2.2 = (up3 (z_ga 14 A o 10) 8 d 1 (nI (o + 1))))) 1 1000 (ew_A L sz) := by
  refine em_met (by decide) rfl (Nat.le_of_ble_eq_true rfl) ?_
  intro p e s m below meth c ls hx hb hr hts hown hlocks hml hnm hV hK hN hZ hS hA hl hsz
  subst hsz
  have hl : lv_has ls 4 [(0, .ref th), (1, .int (nI (0 + 1)))] := hl
  refine lv_aload_n hx hb dAL_grow1_0 rfl (lv_at hl 0 rfl) ?_
  refine ew_get (v := .ref t0.1) hx hb hts hown hK hV fAL_9 hth (cC_8 _ _ _ _) (by show some (Value.ref (X 14 (A 8 d 1).toNatClampNeg)) = _; rw [q1, nI_clamp (by omega), hx0]) dAL_grow1_1 ?_
  refine va_tlen (v := 0) hx hb hZ.1.2 hS rfl dAL_grow1_4 ?_
  refine lv_istore_n (lv' := [(2, .int 0), (0, .ref th), (1, .int (nI (0 + 1)))]) hx hb dAL_grow1_5 rfl hl (by decide) rfl (fun ls hl => ?_)
  refine lv_iload_n hx hb dAL_grow1_6 rfl (lv_at hl 0 rfl) ?_
  refine lv_if_gt (tgt := 20) hx hb dAL_grow1_7 rfl (fun h9 => absurd h9 (by decide)) (fun _ => ?_)
  refine lv_aload_n hx hb dAL_grow1_10 rfl (lv_at hl 1 rfl) ?_
  refine ew_get (v := .ref t0.1) hx hb hts hown hK hV fAL_9 hth (cC_8 _ _ _ _) (by show some (Value.ref (X 14 (A 8 d 1).toNatClampNeg)) = _; rw [q1, nI_clamp (by omega), hx0]) dAL_grow1_11 ?_
  refine va_gets hx hb hZ.1.1 hS hown (hts _ kw_225) (fun _ h => h) dAL_grow1_14 ?_
  refine lv_acmp_eq (rx := some t0.1) (ry := some t0.1) (tgt := 45) hx hb dAL_grow1_17 rfl (fun _ => ?_) (fun h9 => absurd rfl h9)
  refine lv_aload_n hx hb dAL_grow1_45 rfl (lv_at hl 1 rfl) ?_
  refine lv_bipush (v := 10) hx hb dAL_grow1_46 (by decide) ?_
  refine lv_iload_n hx hb dAL_grow1_48 rfl (lv_at hl 2 rfl) ?_
  refine va_mmax hx hb (hml.trans hl.1.symm) hown (hts _ km_79) (hts _ km_mmax_s) (hts _ km_ini) (hts _ km_mmax_c) (Nat.le_of_ble_eq_true rfl) (Nat.le_of_ble_eq_true rfl) (Nat.le_of_ble_eq_true rfl) (Nat.le_of_ble_eq_true rfl) dAL_grow1_49 ?_
  refine lv_toe (y := nI 10) (by decide) ?_
  refine em_newq (cA := T 5) (N' := 10) hx hb hown (hts _ kw_358) hZ.2.2.2.1 hK 5 rfl hV hS hA (nI_pos (by omega)) (nI_clamp (by omega)) (by omega) (Nat.le_of_ble_eq_true rfl) (Nat.le_of_ble_eq_true rfl) 14 (o + 1) (z_ga 14 A o 10) (fun X' => by rw [z_ga_row]; exact cG_new_14 _ (by omega)) (clC_keep hcl (fun z => by have := z.2; omega) hnew (z_ga_oth 14 A o 10)) hnew dAL_grow1_52 (fun X1 L1 tg1 H h1 hV hS => ?_)
  refine lv_dup_x1 hx hb dAL_grow1_55 rfl rfl ?_
  refine ew_put (ty := .array (.object "java/lang/Object")) (v := .ref (X1 14 (o + 1))) hx hb hts hown hK hV hS fAL_9 gAL (h1.2.1 _ _ _ hth) (cC_8 _ _ _ _) 1 (nI (o + 1)) ((pC_8_1 _ _ _ _ _).trans (by rw [nI_clamp (by omega)])) rfl (by decide +kernel) rfl rfl (Nat.le_of_ble_eq_true rfl) dAL_grow1_56 (fun H locs hV hS => ?_)
  refine W.widen (k := 1) (n := 1000) (Nat.le_of_ble_eq_true rfl) (Nat.le_of_ble_eq_true rfl) ?_
  exact em_aret (r := some (X1 14 (o + 1))) hx hb hr (Or.inr ⟨_, rfl⟩) hlocks hV hS dAL_grow1_59 rfl ⟨rfl, h1, rfl⟩
set_option maxHeartbeats 4000000 in
set_option maxRecDepth 100000 in
theorem c_AL_grow0_8s (l : Launch) (D : va_G) (T : Nat → ClassId) (t0 : Nat × Nat) (X : Nat → Nat → Nat) (L : List Nat) (tg : Nat → Nat × Nat) (sz : Nat) (A : ew_R) (d o th : Nat) (hth : ew_in X L tg 8 d th) (hx0 : X 14 o = t0.1) (q1 : A 8 d 1 = nI o) (qs : A 8 d 2 = nI 0) (ho : o / 64 = d) (ho1 : (o + 1) / 64 = d) (ho2 : o + 1 < 2 ^ 20) (hcl : clC X L tg A) (hnew : ∀ b ∈ L, (14, o + 1) ≠ tg b) : Met l yAL_grow0 wsAL_grow0 ({ frames := 4, cells := 1, slots := 1000, locals := 130 }) (em_Pc D vwCl (tysA T) (cfC T) t0 X L tg A sz [.ref th]) (em_Qq D vwCl (cfC T) L sz (fun r u => r = some (u.1 14 (o + 1)) ∧ em_one 14 (o + 1) X L tg u.1 u.2.1 u.2.2.1 ∧ u.2.2.2 = (up3 (z_ga 14 A o 10) 8 d 1 (nI (o + 1))))) 1 1000 (ew_A L sz) := by
  refine em_met (by decide) rfl (Nat.le_of_ble_eq_true rfl) ?_
  intro p e s m below meth c ls hx hb hr hts hown hlocks hml hnm hV hK hN hZ hS hA hl hsz
  subst hsz
  have hl : lv_has ls 1 [(0, .ref th)] := hl
  refine lv_aload_n hx hb dAL_grow0_0 rfl (lv_at hl 0 rfl) ?_
  refine lv_aload_n hx hb dAL_grow0_1 rfl (lv_at hl 0 rfl) ?_
  refine ew_get (v := .int (nI 0)) hx hb hts hown hK hV fAL_48 hth (cC_8 _ _ _ _) (by show some (Value.int (A 8 d 2)) = _; rw [qs]) dAL_grow0_2 ?_
  refine lv_iconst (v := 1) hx hb dAL_grow0_5 (by decide) ?_
  refine lv_iadd hx hb dAL_grow0_6 ?_
  refine lv_toe (y := nI (0 + 1)) (nI_add 0 1) ?_
  refine em_callq (va_runV (As := [.int (nI (0 + 1))]) (rest := []) ⟨hx, hb, hml, hown, hts⟩ (c_AL_grow1_8s l D T t0 X L tg _ A d o th hth hx0 q1 qs ho ho1 ho2 hcl hnew) (cwV 1 hts gAL_69 rfl rfl rfl (by decide +kernel) ⟨Nat.le_of_ble_eq_true rfl, Nat.le_of_ble_eq_true rfl⟩) (em_preV hK hN hV hZ hS hA hth (cC_8 _ _ _ _) rfl) rfl rfl hl.1 rfl (lv_room (Nat.le_of_ble_eq_true rfl)) dAL_grow0_7 ⟨Nat.le_of_ble_eq_true rfl, Nat.le_of_ble_eq_true rfl⟩) hV hS hA (fun r X1 L1 tg1 u H locs hp hV hS => ?_)
  exact em_aret (r := r) hx hb hr (Or.inr ⟨_, rfl⟩) hlocks hV hS dAL_grow0_10 rfl hp
set_option maxHeartbeats 4000000 in
set_option maxRecDepth 100000 in
theorem c_AL_grow1_16f (l : Launch) (D : va_G) (T : Nat → ClassId) (t0 : Nat × Nat) (X : Nat → Nat → Nat) (L : List Nat) (tg : Nat → Nat × Nat) (sz : Nat) (A : ew_R) (d o n th a0 : Nat) (hth : ew_in X L tg 16 d th) (h0 : ew_in X L tg 20 o a0) (h4 : 4 ≤ n) (hn : n ≤ 600) (q1 : A 16 d 1 = nI o) (qs : A 16 d 2 = nI n) (ho : o / 64 = d) (ho1 : (o + 1) / 64 = d) (ho2 : o + 1 < 2 ^ 20) (qc : A 20 o 1000 = nI n) (qf : A 20 o 1001 = nI n) (hcl : clC X L tg A) (hnew : ∀ b ∈ L, (20, o + 1) ≠ tg b) : Met l yAL_grow1 wsAL_grow1 ({ frames := 3, cells := 1, slots := 1000, locals := 100 }) (em_Pc D vwCl (tysA T) (cfC T) t0 X L tg A sz [.ref th, .int (nI (n + 1))]) (em_Qq D vwCl (cfC T) L sz (fun r u => r = some (u.1 20 (o + 1)) ∧ em_one 20 (o + 1) X L tg u.1 u.2.1 u.2.2.1 ∧ u.2.2.2 = (up3 (z_gr 20 A o n (n + n / 2)) 16 d 1 (nI (o + 1))))) 1 1000 (ew_A L sz) := by
  refine em_met (by decide) rfl (Nat.le_of_ble_eq_true rfl) ?_
  intro p e s m below meth c ls hx hb hr hts hown hlocks hml hnm hV hK hN hZ hS hA hl hsz
  subst hsz
  have hl : lv_has ls 4 [(0, .ref th), (1, .int (nI (n + 1)))] := hl
  refine lv_aload_n hx hb dAL_grow1_0 rfl (lv_at hl 0 rfl) ?_
  refine ew_get (v := .ref a0) hx hb hts hown hK hV fAL_9 hth (cC_16 _ _ _ _) (by show some (Value.ref (X 20 (A 16 d 1).toNatClampNeg)) = _; rw [q1, nI_clamp (by omega), h0.1]) dAL_grow1_1 ?_
  refine ew_alen (v := nI n) hx hb hK hV h0 (cG_full_20 qc qf ho (by omega) (by omega)) 5 rfl rfl dAL_grow1_4 ?_
  refine lv_istore_n (lv' := [(2, .int (nI n)), (0, .ref th), (1, .int (nI (n + 1)))]) hx hb dAL_grow1_5 rfl hl (by decide) rfl (fun ls hl => ?_)
  refine lv_iload_n hx hb dAL_grow1_6 rfl (lv_at hl 0 rfl) ?_
  refine lv_if_gt (tgt := 20) hx hb dAL_grow1_7 rfl (fun _ => ?_) (fun h9 => absurd ((nI_ltI (a := 0) (b := n) (by omega) (by omega)).mpr (by omega)) h9)
  refine lv_iload_n hx hb dAL_grow1_20 rfl (lv_at hl 0 rfl) ?_
  refine lv_iload_n hx hb dAL_grow1_21 rfl (lv_at hl 2 rfl) ?_
  refine lv_iload_n hx hb dAL_grow1_22 rfl (lv_at hl 0 rfl) ?_
  refine lv_isub hx hb dAL_grow1_23 ?_
  refine lv_toe (y := nI 1) (by have k9 := pk_sub (a := n + 1) (b := n) (by omega); rw [Nat.add_sub_cancel_left] at k9; exact k9) ?_
  refine lv_iload_n hx hb dAL_grow1_24 rfl (lv_at hl 0 rfl) ?_
  refine lv_iconst (v := 1) hx hb dAL_grow1_25 (by decide) ?_
  refine lv_ishr hx hb dAL_grow1_26 ?_
  refine lv_toe (y := nI (n / 2)) (by have k9 := pk_shrN (n := n) (by omega) ((1 : Int32) &&& 31) 1 (by decide); rw [Nat.pow_one] at k9; exact k9) ?_
  refine er_calli (va_runS (As := [.int (nI n), .int (nI 1), .int (nI (n / 2))]) (rest := []) ⟨hx, hb, hml, hown, hts⟩ (c_As_newLength l D T X L tg _ A n h4 (by omega)) ⟨callB_of 3 hts gAL_73.1 rfl rfl rfl (hts _ gAL_73.2.2.2) (hts _ gAL_73.2.1) (by decide +kernel) ⟨Nat.le_of_ble_eq_true rfl, Nat.le_of_ble_eq_true rfl⟩, hts _ gAL_73.2.2.1⟩ (ec_preS hK hN hV) rfl rfl hl.1 rfl (lv_room (Nat.le_of_ble_eq_true rfl)) dAL_grow1_27 ⟨Nat.le_of_ble_eq_true rfl, Nat.le_of_ble_eq_true rfl⟩) hV hS hA (fun r u H locs hp hV hS => ?_)
  obtain ⟨rfl, eu9⟩ := hp
  rw [eu9] at hV
  refine lv_istore_n (lv' := [(3, .int (nI (n + n / 2))), (2, .int (nI n)), (0, .ref th), (1, .int (nI (n + 1)))]) hx hb dAL_grow1_30 rfl hl (by decide) rfl (fun ls hl => ?_)
  refine lv_aload_n hx hb dAL_grow1_31 rfl (lv_at hl 2 rfl) ?_
  refine lv_aload_n hx hb dAL_grow1_32 rfl (lv_at hl 2 rfl) ?_
  refine ew_get (v := .ref a0) hx hb hts hown hK hV fAL_9 hth (cC_16 _ _ _ _) (by show some (Value.ref (X 20 (A 16 d 1).toNatClampNeg)) = _; rw [q1, nI_clamp (by omega), h0.1]) dAL_grow1_33 ?_
  refine lv_iload_n hx hb dAL_grow1_36 rfl (lv_at hl 0 rfl) ?_
  refine em_callq (va_runS (As := [.ref a0, .int (nI (n + n / 2))]) (rest := [.ref th]) ⟨hx, hb, hml, hown, hts⟩ (c_Ar_copyOf_20 l D T t0 X L tg _ A d o n (n + n / 2) a0 h0 ho ho1 ho2 qc qf (by omega) (by omega) hcl hnew) ⟨callB_of 2 hts gAL_66.1 rfl rfl rfl (hts _ gAL_66.2.2.2) (hts _ gAL_66.2.1) (by decide +kernel) ⟨Nat.le_of_ble_eq_true rfl, Nat.le_of_ble_eq_true rfl⟩, hts _ gAL_66.2.2.1⟩ (em_preS hK hN hV hZ hS hA) rfl rfl hl.1 rfl (lv_room (Nat.le_of_ble_eq_true rfl)) dAL_grow1_37 ⟨Nat.le_of_ble_eq_true rfl, Nat.le_of_ble_eq_true rfl⟩) hV hS hA (fun r X1 L1 tg1 u H locs hp hV hS => ?_)
  obtain ⟨e1, h1, e2⟩ := hp
  have e2 : u = z_gr 20 A o n (n + n / 2) := e2
  subst e1
  subst e2
  refine lv_dup_x1 hx hb dAL_grow1_40 rfl rfl ?_
  refine ew_put (ty := .array (.object "java/lang/Object")) (v := .ref (X1 20 (o + 1))) hx hb hts hown hK hV hS fAL_9 gAL (h1.2.1 _ _ _ hth) (cC_16 _ _ _ _) 1 (nI (o + 1)) ((pC_16_1 _ _ _ _ _).trans (by rw [nI_clamp (by omega)])) rfl (by decide +kernel) rfl rfl (Nat.le_of_ble_eq_true rfl) dAL_grow1_41 (fun H locs hV hS => ?_)
  refine W.widen (k := 1) (n := 1000) (Nat.le_of_ble_eq_true rfl) (Nat.le_of_ble_eq_true rfl) ?_
  exact em_aret (r := some (X1 20 (o + 1))) hx hb hr (Or.inr ⟨_, rfl⟩) hlocks hV hS dAL_grow1_44 rfl ⟨rfl, h1, rfl⟩
set_option maxHeartbeats 4000000 in
set_option maxRecDepth 100000 in
theorem c_AL_grow0_16f (l : Launch) (D : va_G) (T : Nat → ClassId) (t0 : Nat × Nat) (X : Nat → Nat → Nat) (L : List Nat) (tg : Nat → Nat × Nat) (sz : Nat) (A : ew_R) (d o n th a0 : Nat) (hth : ew_in X L tg 16 d th) (h0 : ew_in X L tg 20 o a0) (h4 : 4 ≤ n) (hn : n ≤ 600) (q1 : A 16 d 1 = nI o) (qs : A 16 d 2 = nI n) (ho : o / 64 = d) (ho1 : (o + 1) / 64 = d) (ho2 : o + 1 < 2 ^ 20) (qc : A 20 o 1000 = nI n) (qf : A 20 o 1001 = nI n) (hcl : clC X L tg A) (hnew : ∀ b ∈ L, (20, o + 1) ≠ tg b) : Met l yAL_grow0 wsAL_grow0 ({ frames := 4, cells := 1, slots := 1000, locals := 130 }) (em_Pc D vwCl (tysA T) (cfC T) t0 X L tg A sz [.ref th]) (em_Qq D vwCl (cfC T) L sz (fun r u => r = some (u.1 20 (o + 1)) ∧ em_one 20 (o + 1) X L tg u.1 u.2.1 u.2.2.1 ∧ u.2.2.2 = (up3 (z_gr 20 A o n (n + n / 2)) 16 d 1 (nI (o + 1))))) 1 1000 (ew_A L sz) := by
  refine em_met (by decide) rfl (Nat.le_of_ble_eq_true rfl) ?_
  intro p e s m below meth c ls hx hb hr hts hown hlocks hml hnm hV hK hN hZ hS hA hl hsz
  subst hsz
  have hl : lv_has ls 1 [(0, .ref th)] := hl
  refine lv_aload_n hx hb dAL_grow0_0 rfl (lv_at hl 0 rfl) ?_
  refine lv_aload_n hx hb dAL_grow0_1 rfl (lv_at hl 0 rfl) ?_
  refine ew_get (v := .int (nI n)) hx hb hts hown hK hV fAL_48 hth (cC_16 _ _ _ _) (by show some (Value.int (A 16 d 2)) = _; rw [qs]) dAL_grow0_2 ?_
  refine lv_iconst (v := 1) hx hb dAL_grow0_5 (by decide) ?_
  refine lv_iadd hx hb dAL_grow0_6 ?_
  refine lv_toe (y := nI (n + 1)) (nI_add n 1) ?_
  refine em_callq (va_runV (As := [.int (nI (n + 1))]) (rest := []) ⟨hx, hb, hml, hown, hts⟩ (c_AL_grow1_16f l D T t0 X L tg _ A d o n th a0 hth h0 h4 hn q1 qs ho ho1 ho2 qc qf hcl hnew) (cwV 1 hts gAL_69 rfl rfl rfl (by decide +kernel) ⟨Nat.le_of_ble_eq_true rfl, Nat.le_of_ble_eq_true rfl⟩) (em_preV hK hN hV hZ hS hA hth (cC_16 _ _ _ _) rfl) rfl rfl hl.1 rfl (lv_room (Nat.le_of_ble_eq_true rfl)) dAL_grow0_7 ⟨Nat.le_of_ble_eq_true rfl, Nat.le_of_ble_eq_true rfl⟩) hV hS hA (fun r X1 L1 tg1 u H locs hp hV hS => ?_)
  exact em_aret (r := r) hx hb hr (Or.inr ⟨_, rfl⟩) hlocks hV hS dAL_grow0_10 rfl hp
set_option maxHeartbeats 4000000 in
set_option maxRecDepth 100000 in
theorem c_AL_grow1_16s (l : Launch) (D : va_G) (T : Nat → ClassId) (t0 : Nat × Nat) (X : Nat → Nat → Nat) (L : List Nat) (tg : Nat → Nat × Nat) (sz : Nat) (A : ew_R) (d o th : Nat) (hth : ew_in X L tg 16 d th) (hx0 : X 20 o = t0.1) (q1 : A 16 d 1 = nI o) (qs : A 16 d 2 = nI 0) (ho : o / 64 = d) (ho1 : (o + 1) / 64 = d) (ho2 : o + 1 < 2 ^ 20) (hcl : clC X L tg A) (hnew : ∀ b ∈ L, (20, o + 1) ≠ tg b) : Met l yAL_grow1 wsAL_grow1 ({ frames := 3, cells := 1, slots := 1000, locals := 100 }) (em_Pc D vwCl (tysA T) (cfC T) t0 X L tg A sz [.ref th, .int (nI (0 + 1))]) (em_Qq D vwCl (cfC T) L sz (fun r u => r = some (u.1 20 (o + 1)) ∧ em_one 20 (o + 1) X L tg u.1 u.2.1 u.2.2.1 ∧ u.2.2.2 = (up3 (z_ga 20 A o 10) 16 d 1 (nI (o + 1))))) 1 1000 (ew_A L sz) := by
  refine em_met (by decide) rfl (Nat.le_of_ble_eq_true rfl) ?_
  intro p e s m below meth c ls hx hb hr hts hown hlocks hml hnm hV hK hN hZ hS hA hl hsz
  subst hsz
  have hl : lv_has ls 4 [(0, .ref th), (1, .int (nI (0 + 1)))] := hl
  refine lv_aload_n hx hb dAL_grow1_0 rfl (lv_at hl 0 rfl) ?_
  refine ew_get (v := .ref t0.1) hx hb hts hown hK hV fAL_9 hth (cC_16 _ _ _ _) (by show some (Value.ref (X 20 (A 16 d 1).toNatClampNeg)) = _; rw [q1, nI_clamp (by omega), hx0]) dAL_grow1_1 ?_
  refine va_tlen (v := 0) hx hb hZ.1.2 hS rfl dAL_grow1_4 ?_
  refine lv_istore_n (lv' := [(2, .int 0), (0, .ref th), (1, .int (nI (0 + 1)))]) hx hb dAL_grow1_5 rfl hl (by decide) rfl (fun ls hl => ?_)
  refine lv_iload_n hx hb dAL_grow1_6 rfl (lv_at hl 0 rfl) ?_
  refine lv_if_gt (tgt := 20) hx hb dAL_grow1_7 rfl (fun h9 => absurd h9 (by decide)) (fun _ => ?_)
  refine lv_aload_n hx hb dAL_grow1_10 rfl (lv_at hl 1 rfl) ?_
  refine ew_get (v := .ref t0.1) hx hb hts hown hK hV fAL_9 hth (cC_16 _ _ _ _) (by show some (Value.ref (X 20 (A 16 d 1).toNatClampNeg)) = _; rw [q1, nI_clamp (by omega), hx0]) dAL_grow1_11 ?_
  refine va_gets hx hb hZ.1.1 hS hown (hts _ kw_225) (fun _ h => h) dAL_grow1_14 ?_
  refine lv_acmp_eq (rx := some t0.1) (ry := some t0.1) (tgt := 45) hx hb dAL_grow1_17 rfl (fun _ => ?_) (fun h9 => absurd rfl h9)
  refine lv_aload_n hx hb dAL_grow1_45 rfl (lv_at hl 1 rfl) ?_
  refine lv_bipush (v := 10) hx hb dAL_grow1_46 (by decide) ?_
  refine lv_iload_n hx hb dAL_grow1_48 rfl (lv_at hl 2 rfl) ?_
  refine va_mmax hx hb (hml.trans hl.1.symm) hown (hts _ km_79) (hts _ km_mmax_s) (hts _ km_ini) (hts _ km_mmax_c) (Nat.le_of_ble_eq_true rfl) (Nat.le_of_ble_eq_true rfl) (Nat.le_of_ble_eq_true rfl) (Nat.le_of_ble_eq_true rfl) dAL_grow1_49 ?_
  refine lv_toe (y := nI 10) (by decide) ?_
  refine em_newq (cA := T 5) (N' := 10) hx hb hown (hts _ kw_358) hZ.2.2.2.1 hK 5 rfl hV hS hA (nI_pos (by omega)) (nI_clamp (by omega)) (by omega) (Nat.le_of_ble_eq_true rfl) (Nat.le_of_ble_eq_true rfl) 20 (o + 1) (z_ga 20 A o 10) (fun X' => by rw [z_ga_row]; exact cG_new_20 _ (by omega)) (clC_keep hcl (fun z => by have := z.2; omega) hnew (z_ga_oth 20 A o 10)) hnew dAL_grow1_52 (fun X1 L1 tg1 H h1 hV hS => ?_)
  refine lv_dup_x1 hx hb dAL_grow1_55 rfl rfl ?_
  refine ew_put (ty := .array (.object "java/lang/Object")) (v := .ref (X1 20 (o + 1))) hx hb hts hown hK hV hS fAL_9 gAL (h1.2.1 _ _ _ hth) (cC_16 _ _ _ _) 1 (nI (o + 1)) ((pC_16_1 _ _ _ _ _).trans (by rw [nI_clamp (by omega)])) rfl (by decide +kernel) rfl rfl (Nat.le_of_ble_eq_true rfl) dAL_grow1_56 (fun H locs hV hS => ?_)
  refine W.widen (k := 1) (n := 1000) (Nat.le_of_ble_eq_true rfl) (Nat.le_of_ble_eq_true rfl) ?_
  exact em_aret (r := some (X1 20 (o + 1))) hx hb hr (Or.inr ⟨_, rfl⟩) hlocks hV hS dAL_grow1_59 rfl ⟨rfl, h1, rfl⟩
set_option maxHeartbeats 4000000 in
set_option maxRecDepth 100000 in
theorem c_AL_grow0_16s (l : Launch) (D : va_G) (T : Nat → ClassId) (t0 : Nat × Nat) (X : Nat → Nat → Nat) (L : List Nat) (tg : Nat → Nat × Nat) (sz : Nat) (A : ew_R) (d o th : Nat) (hth : ew_in X L tg 16 d th) (hx0 : X 20 o = t0.1) (q1 : A 16 d 1 = nI o) (qs : A 16 d 2 = nI 0) (ho : o / 64 = d) (ho1 : (o + 1) / 64 = d) (ho2 : o + 1 < 2 ^ 20) (hcl : clC X L tg A) (hnew : ∀ b ∈ L, (20, o + 1) ≠ tg b) : Met l yAL_grow0 wsAL_grow0 ({ frames := 4, cells := 1, slots := 1000, locals := 130 }) (em_Pc D vwCl (tysA T) (cfC T) t0 X L tg A sz [.ref th]) (em_Qq D vwCl (cfC T) L sz (fun r u => r = some (u.1 20 (o + 1)) ∧ em_one 20 (o + 1) X L tg u.1 u.2.1 u.2.2.1 ∧ u.2.2.2 = (up3 (z_ga 20 A o 10) 16 d 1 (nI (o + 1))))) 1 1000 (ew_A L sz) := by
  refine em_met (by decide) rfl (Nat.le_of_ble_eq_true rfl) ?_
  intro p e s m below meth c ls hx hb hr hts hown hlocks hml hnm hV hK hN hZ hS hA hl hsz
  subst hsz
  have hl : lv_has ls 1 [(0, .ref th)] := hl
  refine lv_aload_n hx hb dAL_grow0_0 rfl (lv_at hl 0 rfl) ?_
  refine lv_aload_n hx hb dAL_grow0_1 rfl (lv_at hl 0 rfl) ?_
  refine ew_get (v := .int (nI 0)) hx hb hts hown hK hV fAL_48 hth (cC_16 _ _ _ _) (by show some (Value.int (A 16 d 2)) = _; rw [qs]) dAL_grow0_2 ?_
  refine lv_iconst (v := 1) hx hb dAL_grow0_5 (by decide) ?_
  refine lv_iadd hx hb dAL_grow0_6 ?_
  refine lv_toe (y := nI (0 + 1)) (nI_add 0 1) ?_
  refine em_callq (va_runV (As := [.int (nI (0 + 1))]) (rest := []) ⟨hx, hb, hml, hown, hts⟩ (c_AL_grow1_16s l D T t0 X L tg _ A d o th hth hx0 q1 qs ho ho1 ho2 hcl hnew) (cwV 1 hts gAL_69 rfl rfl rfl (by decide +kernel) ⟨Nat.le_of_ble_eq_true rfl, Nat.le_of_ble_eq_true rfl⟩) (em_preV hK hN hV hZ hS hA hth (cC_16 _ _ _ _) rfl) rfl rfl hl.1 rfl (lv_room (Nat.le_of_ble_eq_true rfl)) dAL_grow0_7 ⟨Nat.le_of_ble_eq_true rfl, Nat.le_of_ble_eq_true rfl⟩) hV hS hA (fun r X1 L1 tg1 u H locs hp hV hS => ?_)
  exact em_aret (r := r) hx hb hr (Or.inr ⟨_, rfl⟩) hlocks hV hS dAL_grow0_10 rfl hp
