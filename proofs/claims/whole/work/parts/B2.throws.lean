set_option maxHeartbeats 4000000 in
set_option maxRecDepth 100000 in
theorem t_addCopy_bl (l : Launch) (hfl : l.flags = pinnedFlags ++ [noTraceFlag]) (D : va_G) (T : Nat → ClassId) (t0 : Nat × Nat) (X : Nat → Nat → Nat) (L : List Nat) (tg : Nat → Nat × Nat) (sz : Nat) (A : ew_R) (th : Nat) (hth : ew_in X L tg 0 0 th) (b : Int32) (t : Int32) (hnb : z_L_isLibrary b = 0) : MetT l yL_addCopy wsL_addCopy ({ frames := 13, cells := 11, slots := 2036, locals := 420 }) (tm_Pc D vwCl (tysA T) (cfC T) t0 X L tg A sz [.ref th, .int b, .int t]) (tQ D vwCl (cfC T) X L tg A sz tmI 11 2036) := by
  refine tm_met (by decide) rfl (Nat.le_of_ble_eq_true rfl) ?_
  intro p e s m below meth c ls hx hb hr hts hown hlocks hml hex hV hK hN hT hS hA hl hsz
  subst hsz
  have hVs := hV
  have hl : lv_has ls 3 [(0, .ref th), (1, .int b), (2, .int t)] := hl
  refine lv_iload_n hx hb dL_addCopy_0 rfl (lv_at hl 1 rfl) ?_
  refine er_calli (va_runS (As := [.int b]) (rest := []) ⟨hx, hb, hml, hown, hts⟩ (c_L_isLibrary l D T X L tg _ A b) (cwS 1 hts gL_43 rfl rfl rfl (by decide +kernel) ⟨Nat.le_of_ble_eq_true rfl, Nat.le_of_ble_eq_true rfl⟩) (ec_preS hK hN hV) rfl rfl hl.1 rfl (lv_room (Nat.le_of_ble_eq_true rfl)) dL_addCopy_1 ⟨Nat.le_of_ble_eq_true rfl, Nat.le_of_ble_eq_true rfl⟩) hV hS hA (fun r u H locs hp hV hS => ?_)
  obtain ⟨rfl, eu9⟩ := hp
  rw [eu9] at hV
  refine lv_toe (y := 0) hnb ?_
  refine lv_if_eq (tgt := 14) hx hb dL_addCopy_4 rfl (fun _ => ?_) (fun h9 => absurd (by decide) h9)
  exact th_row (cls := tmI) (tx := "no such library or title") (kc := 50) (ks := 52) (ic := 54) hx hb hfl hown hlocks hml hl.1 hex hV hT hVs hS (hts _ kw_475) (hts _ kw_476) (hts _ kw_8) (by decide +kernel) (fun w hw => List.mem_append_left _ hw) (by decide +kernel) dL_addCopy_14 dL_addCopy_17 dL_addCopy_18 dL_addCopy_20 dL_addCopy_23 (Nat.le_of_ble_eq_true rfl) (Nat.le_of_ble_eq_true rfl) (Nat.le_of_ble_eq_true rfl) (Nat.le_of_ble_eq_true rfl) (Nat.le_of_ble_eq_true rfl) (Nat.le_of_ble_eq_true rfl)

set_option maxHeartbeats 4000000 in
set_option maxRecDepth 100000 in
theorem t_addCopy_bt (l : Launch) (hfl : l.flags = pinnedFlags ++ [noTraceFlag]) (D : va_G) (T : Nat → ClassId) (t0 : Nat × Nat) (X : Nat → Nat → Nat) (L : List Nat) (tg : Nat → Nat × Nat) (sz : Nat) (A : ew_R) (th : Nat) (hth : ew_in X L tg 0 0 th) (b : Nat) (t : Int32) (hb6 : b < 6) (hnt : z_L_isTitle t = 0) : MetT l yL_addCopy wsL_addCopy ({ frames := 13, cells := 11, slots := 2036, locals := 420 }) (tm_Pc D vwCl (tysA T) (cfC T) t0 X L tg A sz [.ref th, .int (nI b), .int t]) (tQ D vwCl (cfC T) X L tg A sz tmI 11 2036) := by
  refine tm_met (by decide) rfl (Nat.le_of_ble_eq_true rfl) ?_
  intro p e s m below meth c ls hx hb hr hts hown hlocks hml hex hV hK hN hT hS hA hl hsz
  subst hsz
  have hVs := hV
  have hl : lv_has ls 3 [(0, .ref th), (1, .int (nI b)), (2, .int t)] := hl
  refine lv_iload_n hx hb dL_addCopy_0 rfl (lv_at hl 1 rfl) ?_
  refine er_calli (va_runS (As := [.int (nI b)]) (rest := []) ⟨hx, hb, hml, hown, hts⟩ (c_L_isLibrary l D T X L tg _ A (nI b)) (cwS 1 hts gL_43 rfl rfl rfl (by decide +kernel) ⟨Nat.le_of_ble_eq_true rfl, Nat.le_of_ble_eq_true rfl⟩) (ec_preS hK hN hV) rfl rfl hl.1 rfl (lv_room (Nat.le_of_ble_eq_true rfl)) dL_addCopy_1 ⟨Nat.le_of_ble_eq_true rfl, Nat.le_of_ble_eq_true rfl⟩) hV hS hA (fun r u H locs hp hV hS => ?_)
  obtain ⟨rfl, eu9⟩ := hp
  rw [eu9] at hV
  refine lv_toe (y := 1) (z_isLibrary_1 hb6) ?_
  refine lv_if_eq (tgt := 14) hx hb dL_addCopy_4 rfl (fun h9 => absurd h9 (by decide)) (fun _ => ?_)
  refine lv_iload_n hx hb dL_addCopy_7 rfl (lv_at hl 2 rfl) ?_
  refine er_calli (va_runS (As := [.int t]) (rest := []) ⟨hx, hb, hml, hown, hts⟩ (c_L_isTitle l D T X L tg _ A t) (cwS 1 hts gL_47 rfl rfl rfl (by decide +kernel) ⟨Nat.le_of_ble_eq_true rfl, Nat.le_of_ble_eq_true rfl⟩) (ec_preS hK hN hV) rfl rfl hl.1 rfl (lv_room (Nat.le_of_ble_eq_true rfl)) dL_addCopy_8 ⟨Nat.le_of_ble_eq_true rfl, Nat.le_of_ble_eq_true rfl⟩) hV hS hA (fun r u H locs hp hV hS => ?_)
  obtain ⟨rfl, eu9⟩ := hp
  rw [eu9] at hV
  refine lv_toe (y := 0) hnt ?_
  refine lv_if_ne (tgt := 24) hx hb dL_addCopy_11 rfl (fun h9 => absurd (by decide) h9) (fun _ => ?_)
  exact th_row (cls := tmI) (tx := "no such library or title") (kc := 50) (ks := 52) (ic := 54) hx hb hfl hown hlocks hml hl.1 hex hV hT hVs hS (hts _ kw_475) (hts _ kw_476) (hts _ kw_8) (by decide +kernel) (fun w hw => List.mem_append_left _ hw) (by decide +kernel) dL_addCopy_14 dL_addCopy_17 dL_addCopy_18 dL_addCopy_20 dL_addCopy_23 (Nat.le_of_ble_eq_true rfl) (Nat.le_of_ble_eq_true rfl) (Nat.le_of_ble_eq_true rfl) (Nat.le_of_ble_eq_true rfl) (Nat.le_of_ble_eq_true rfl) (Nat.le_of_ble_eq_true rfl)

set_option maxHeartbeats 4000000 in
set_option maxRecDepth 100000 in
theorem t_addCopy_full (l : Launch) (hfl : l.flags = pinnedFlags ++ [noTraceFlag]) (D : va_G) (T : Nat → ClassId) (t0 : Nat × Nat) (X : Nat → Nat → Nat) (L : List Nat) (tg : Nat → Nat × Nat) (sz : Nat) (A : ew_R) (th : Nat) (hth : ew_in X L tg 0 0 th) (b : Nat) (t : Nat) (hb6 : b < 6) (ht8 : t < 8) (q5 : A 0 0 5 = 32) : MetT l yL_addCopy wsL_addCopy ({ frames := 13, cells := 11, slots := 2036, locals := 420 }) (tm_Pc D vwCl (tysA T) (cfC T) t0 X L tg A sz [.ref th, .int (nI b), .int (nI t)]) (tQ D vwCl (cfC T) X L tg A sz tmS 11 2036) := by
  refine tm_met (by decide) rfl (Nat.le_of_ble_eq_true rfl) ?_
  intro p e s m below meth c ls hx hb hr hts hown hlocks hml hex hV hK hN hT hS hA hl hsz
  subst hsz
  have hVs := hV
  have hl : lv_has ls 3 [(0, .ref th), (1, .int (nI b)), (2, .int (nI t))] := hl
  refine lv_iload_n hx hb dL_addCopy_0 rfl (lv_at hl 1 rfl) ?_
  refine er_calli (va_runS (As := [.int (nI b)]) (rest := []) ⟨hx, hb, hml, hown, hts⟩ (c_L_isLibrary l D T X L tg _ A (nI b)) (cwS 1 hts gL_43 rfl rfl rfl (by decide +kernel) ⟨Nat.le_of_ble_eq_true rfl, Nat.le_of_ble_eq_true rfl⟩) (ec_preS hK hN hV) rfl rfl hl.1 rfl (lv_room (Nat.le_of_ble_eq_true rfl)) dL_addCopy_1 ⟨Nat.le_of_ble_eq_true rfl, Nat.le_of_ble_eq_true rfl⟩) hV hS hA (fun r u H locs hp hV hS => ?_)
  obtain ⟨rfl, eu9⟩ := hp
  rw [eu9] at hV
  refine lv_toe (y := 1) (z_isLibrary_1 hb6) ?_
  refine lv_if_eq (tgt := 14) hx hb dL_addCopy_4 rfl (fun h9 => absurd h9 (by decide)) (fun _ => ?_)
  refine lv_iload_n hx hb dL_addCopy_7 rfl (lv_at hl 2 rfl) ?_
  refine er_calli (va_runS (As := [.int (nI t)]) (rest := []) ⟨hx, hb, hml, hown, hts⟩ (c_L_isTitle l D T X L tg _ A (nI t)) (cwS 1 hts gL_47 rfl rfl rfl (by decide +kernel) ⟨Nat.le_of_ble_eq_true rfl, Nat.le_of_ble_eq_true rfl⟩) (ec_preS hK hN hV) rfl rfl hl.1 rfl (lv_room (Nat.le_of_ble_eq_true rfl)) dL_addCopy_8 ⟨Nat.le_of_ble_eq_true rfl, Nat.le_of_ble_eq_true rfl⟩) hV hS hA (fun r u H locs hp hV hS => ?_)
  obtain ⟨rfl, eu9⟩ := hp
  rw [eu9] at hV
  refine lv_toe (y := 1) (z_isTitle_1 ht8) ?_
  refine lv_if_ne (tgt := 24) hx hb dL_addCopy_11 rfl (fun _ => ?_) (fun h9 => absurd h9 (by decide))
  refine lv_aload_n hx hb dL_addCopy_24 rfl (lv_at hl 0 rfl) ?_
  refine ew_get (v := .int (A 0 0 5)) hx hb hts hown hK hV fL_57 hth (cC_0 _ _ _ _) rfl dL_addCopy_25 ?_
  refine lv_toe (y := 32) q5 ?_
  refine lv_bipush (v := 32) hx hb dL_addCopy_28 (by decide) ?_
  refine lv_icmp_lt (tgt := 43) hx hb dL_addCopy_30 rfl (fun h9 => absurd h9 (by decide)) (fun _ => ?_)
  exact th_row (cls := tmS) (tx := "there are 32 copies") (kc := 61) (ks := 63) (ic := 65) hx hb hfl hown hlocks hml hl.1 hex hV hT hVs hS (hts _ kw_542) (hts _ kw_543) (hts _ kw_9) (by decide +kernel) (fun w hw => List.mem_append_right _ hw) (by decide +kernel) dL_addCopy_33 dL_addCopy_36 dL_addCopy_37 dL_addCopy_39 dL_addCopy_42 (Nat.le_of_ble_eq_true rfl) (Nat.le_of_ble_eq_true rfl) (Nat.le_of_ble_eq_true rfl) (Nat.le_of_ble_eq_true rfl) (Nat.le_of_ble_eq_true rfl) (Nat.le_of_ble_eq_true rfl)

set_option maxHeartbeats 4000000 in
set_option maxRecDepth 100000 in
theorem t_request_bl (l : Launch) (hfl : l.flags = pinnedFlags ++ [noTraceFlag]) (D : va_G) (T : Nat → ClassId) (t0 : Nat × Nat) (X : Nat → Nat → Nat) (L : List Nat) (tg : Nat → Nat × Nat) (sz : Nat) (A : ew_R) (th : Nat) (hth : ew_in X L tg 0 0 th) (b : Int32) (t : Int32) (f : Int32) (n : Int32) (hnb : z_L_isLibrary b = 0) : MetT l yL_request wsL_request ({ frames := 13, cells := 11, slots := 2036, locals := 420 }) (tm_Pc D vwCl (tysA T) (cfC T) t0 X L tg A sz [.ref th, .int b, .int t, .int f, .int n]) (tQ D vwCl (cfC T) X L tg A sz tmI 11 2036) := by
  refine tm_met (by decide) rfl (Nat.le_of_ble_eq_true rfl) ?_
  intro p e s m below meth c ls hx hb hr hts hown hlocks hml hex hV hK hN hT hS hA hl hsz
  subst hsz
  have hVs := hV
  have hl : lv_has ls 6 [(0, .ref th), (1, .int b), (2, .int t), (3, .int f), (4, .int n)] := hl
  refine lv_iload_n hx hb dL_request_0 rfl (lv_at hl 1 rfl) ?_
  refine er_calli (va_runS (As := [.int b]) (rest := []) ⟨hx, hb, hml, hown, hts⟩ (c_L_isLibrary l D T X L tg _ A b) (cwS 1 hts gL_43 rfl rfl rfl (by decide +kernel) ⟨Nat.le_of_ble_eq_true rfl, Nat.le_of_ble_eq_true rfl⟩) (ec_preS hK hN hV) rfl rfl hl.1 rfl (lv_room (Nat.le_of_ble_eq_true rfl)) dL_request_1 ⟨Nat.le_of_ble_eq_true rfl, Nat.le_of_ble_eq_true rfl⟩) hV hS hA (fun r u H locs hp hV hS => ?_)
  obtain ⟨rfl, eu9⟩ := hp
  rw [eu9] at hV
  refine lv_toe (y := 0) hnb ?_
  refine lv_if_eq (tgt := 34) hx hb dL_request_4 rfl (fun _ => ?_) (fun h9 => absurd (by decide) h9)
  exact th_row (cls := tmI) (tx := "no such library, title, beginning of the rota, or days") (kc := 50) (ks := 69) (ic := 54) hx hb hfl hown hlocks hml hl.1 hex hV hT hVs hS (hts _ kw_475) (hts _ kw_476) (hts _ kw_8) (by decide +kernel) (fun w hw => List.mem_append_left _ hw) (by decide +kernel) dL_request_34 dL_request_37 dL_request_38 dL_request_40 dL_request_43 (Nat.le_of_ble_eq_true rfl) (Nat.le_of_ble_eq_true rfl) (Nat.le_of_ble_eq_true rfl) (Nat.le_of_ble_eq_true rfl) (Nat.le_of_ble_eq_true rfl) (Nat.le_of_ble_eq_true rfl)

set_option maxHeartbeats 4000000 in
set_option maxRecDepth 100000 in
theorem t_request_bt (l : Launch) (hfl : l.flags = pinnedFlags ++ [noTraceFlag]) (D : va_G) (T : Nat → ClassId) (t0 : Nat × Nat) (X : Nat → Nat → Nat) (L : List Nat) (tg : Nat → Nat × Nat) (sz : Nat) (A : ew_R) (th : Nat) (hth : ew_in X L tg 0 0 th) (b : Nat) (t : Int32) (f : Int32) (n : Int32) (hb6 : b < 6) (hnt : z_L_isTitle t = 0) : MetT l yL_request wsL_request ({ frames := 13, cells := 11, slots := 2036, locals := 420 }) (tm_Pc D vwCl (tysA T) (cfC T) t0 X L tg A sz [.ref th, .int (nI b), .int t, .int f, .int n]) (tQ D vwCl (cfC T) X L tg A sz tmI 11 2036) := by
  refine tm_met (by decide) rfl (Nat.le_of_ble_eq_true rfl) ?_
  intro p e s m below meth c ls hx hb hr hts hown hlocks hml hex hV hK hN hT hS hA hl hsz
  subst hsz
  have hVs := hV
  have hl : lv_has ls 6 [(0, .ref th), (1, .int (nI b)), (2, .int t), (3, .int f), (4, .int n)] := hl
  refine lv_iload_n hx hb dL_request_0 rfl (lv_at hl 1 rfl) ?_
  refine er_calli (va_runS (As := [.int (nI b)]) (rest := []) ⟨hx, hb, hml, hown, hts⟩ (c_L_isLibrary l D T X L tg _ A (nI b)) (cwS 1 hts gL_43 rfl rfl rfl (by decide +kernel) ⟨Nat.le_of_ble_eq_true rfl, Nat.le_of_ble_eq_true rfl⟩) (ec_preS hK hN hV) rfl rfl hl.1 rfl (lv_room (Nat.le_of_ble_eq_true rfl)) dL_request_1 ⟨Nat.le_of_ble_eq_true rfl, Nat.le_of_ble_eq_true rfl⟩) hV hS hA (fun r u H locs hp hV hS => ?_)
  obtain ⟨rfl, eu9⟩ := hp
  rw [eu9] at hV
  refine lv_toe (y := 1) (z_isLibrary_1 hb6) ?_
  refine lv_if_eq (tgt := 34) hx hb dL_request_4 rfl (fun h9 => absurd h9 (by decide)) (fun _ => ?_)
  refine lv_iload_n hx hb dL_request_7 rfl (lv_at hl 2 rfl) ?_
  refine er_calli (va_runS (As := [.int t]) (rest := []) ⟨hx, hb, hml, hown, hts⟩ (c_L_isTitle l D T X L tg _ A t) (cwS 1 hts gL_47 rfl rfl rfl (by decide +kernel) ⟨Nat.le_of_ble_eq_true rfl, Nat.le_of_ble_eq_true rfl⟩) (ec_preS hK hN hV) rfl rfl hl.1 rfl (lv_room (Nat.le_of_ble_eq_true rfl)) dL_request_8 ⟨Nat.le_of_ble_eq_true rfl, Nat.le_of_ble_eq_true rfl⟩) hV hS hA (fun r u H locs hp hV hS => ?_)
  obtain ⟨rfl, eu9⟩ := hp
  rw [eu9] at hV
  refine lv_toe (y := 0) hnt ?_
  refine lv_if_eq (tgt := 34) hx hb dL_request_11 rfl (fun _ => ?_) (fun h9 => absurd (by decide) h9)
  exact th_row (cls := tmI) (tx := "no such library, title, beginning of the rota, or days") (kc := 50) (ks := 69) (ic := 54) hx hb hfl hown hlocks hml hl.1 hex hV hT hVs hS (hts _ kw_475) (hts _ kw_476) (hts _ kw_8) (by decide +kernel) (fun w hw => List.mem_append_left _ hw) (by decide +kernel) dL_request_34 dL_request_37 dL_request_38 dL_request_40 dL_request_43 (Nat.le_of_ble_eq_true rfl) (Nat.le_of_ble_eq_true rfl) (Nat.le_of_ble_eq_true rfl) (Nat.le_of_ble_eq_true rfl) (Nat.le_of_ble_eq_true rfl) (Nat.le_of_ble_eq_true rfl)

set_option maxHeartbeats 4000000 in
set_option maxRecDepth 100000 in
theorem t_request_bf (l : Launch) (hfl : l.flags = pinnedFlags ++ [noTraceFlag]) (D : va_G) (T : Nat → ClassId) (t0 : Nat × Nat) (X : Nat → Nat → Nat) (L : List Nat) (tg : Nat → Nat × Nat) (sz : Nat) (A : ew_R) (th : Nat) (hth : ew_in X L tg 0 0 th) (b : Nat) (t : Nat) (f : Int32) (n : Int32) (hb6 : b < 6) (ht8 : t < 8) (hnf : z_L_isLibrary f = 0) : MetT l yL_request wsL_request ({ frames := 13, cells := 11, slots := 2036, locals := 420 }) (tm_Pc D vwCl (tysA T) (cfC T) t0 X L tg A sz [.ref th, .int (nI b), .int (nI t), .int f, .int n]) (tQ D vwCl (cfC T) X L tg A sz tmI 11 2036) := by
  refine tm_met (by decide) rfl (Nat.le_of_ble_eq_true rfl) ?_
  intro p e s m below meth c ls hx hb hr hts hown hlocks hml hex hV hK hN hT hS hA hl hsz
  subst hsz
  have hVs := hV
  have hl : lv_has ls 6 [(0, .ref th), (1, .int (nI b)), (2, .int (nI t)), (3, .int f), (4, .int n)] := hl
  refine lv_iload_n hx hb dL_request_0 rfl (lv_at hl 1 rfl) ?_
  refine er_calli (va_runS (As := [.int (nI b)]) (rest := []) ⟨hx, hb, hml, hown, hts⟩ (c_L_isLibrary l D T X L tg _ A (nI b)) (cwS 1 hts gL_43 rfl rfl rfl (by decide +kernel) ⟨Nat.le_of_ble_eq_true rfl, Nat.le_of_ble_eq_true rfl⟩) (ec_preS hK hN hV) rfl rfl hl.1 rfl (lv_room (Nat.le_of_ble_eq_true rfl)) dL_request_1 ⟨Nat.le_of_ble_eq_true rfl, Nat.le_of_ble_eq_true rfl⟩) hV hS hA (fun r u H locs hp hV hS => ?_)
  obtain ⟨rfl, eu9⟩ := hp
  rw [eu9] at hV
  refine lv_toe (y := 1) (z_isLibrary_1 hb6) ?_
  refine lv_if_eq (tgt := 34) hx hb dL_request_4 rfl (fun h9 => absurd h9 (by decide)) (fun _ => ?_)
  refine lv_iload_n hx hb dL_request_7 rfl (lv_at hl 2 rfl) ?_
  refine er_calli (va_runS (As := [.int (nI t)]) (rest := []) ⟨hx, hb, hml, hown, hts⟩ (c_L_isTitle l D T X L tg _ A (nI t)) (cwS 1 hts gL_47 rfl rfl rfl (by decide +kernel) ⟨Nat.le_of_ble_eq_true rfl, Nat.le_of_ble_eq_true rfl⟩) (ec_preS hK hN hV) rfl rfl hl.1 rfl (lv_room (Nat.le_of_ble_eq_true rfl)) dL_request_8 ⟨Nat.le_of_ble_eq_true rfl, Nat.le_of_ble_eq_true rfl⟩) hV hS hA (fun r u H locs hp hV hS => ?_)
  obtain ⟨rfl, eu9⟩ := hp
  rw [eu9] at hV
  refine lv_toe (y := 1) (z_isTitle_1 ht8) ?_
  refine lv_if_eq (tgt := 34) hx hb dL_request_11 rfl (fun h9 => absurd h9 (by decide)) (fun _ => ?_)
  refine lv_iload_n hx hb dL_request_14 rfl (lv_at hl 3 rfl) ?_
  refine er_calli (va_runS (As := [.int f]) (rest := []) ⟨hx, hb, hml, hown, hts⟩ (c_L_isLibrary l D T X L tg _ A f) (cwS 1 hts gL_43 rfl rfl rfl (by decide +kernel) ⟨Nat.le_of_ble_eq_true rfl, Nat.le_of_ble_eq_true rfl⟩) (ec_preS hK hN hV) rfl rfl hl.1 rfl (lv_room (Nat.le_of_ble_eq_true rfl)) dL_request_15 ⟨Nat.le_of_ble_eq_true rfl, Nat.le_of_ble_eq_true rfl⟩) hV hS hA (fun r u H locs hp hV hS => ?_)
  obtain ⟨rfl, eu9⟩ := hp
  rw [eu9] at hV
  refine lv_toe (y := 0) hnf ?_
  refine lv_if_eq (tgt := 34) hx hb dL_request_18 rfl (fun _ => ?_) (fun h9 => absurd (by decide) h9)
  exact th_row (cls := tmI) (tx := "no such library, title, beginning of the rota, or days") (kc := 50) (ks := 69) (ic := 54) hx hb hfl hown hlocks hml hl.1 hex hV hT hVs hS (hts _ kw_475) (hts _ kw_476) (hts _ kw_8) (by decide +kernel) (fun w hw => List.mem_append_left _ hw) (by decide +kernel) dL_request_34 dL_request_37 dL_request_38 dL_request_40 dL_request_43 (Nat.le_of_ble_eq_true rfl) (Nat.le_of_ble_eq_true rfl) (Nat.le_of_ble_eq_true rfl) (Nat.le_of_ble_eq_true rfl) (Nat.le_of_ble_eq_true rfl) (Nat.le_of_ble_eq_true rfl)

set_option maxHeartbeats 4000000 in
set_option maxRecDepth 100000 in
theorem t_request_b1 (l : Launch) (hfl : l.flags = pinnedFlags ++ [noTraceFlag]) (D : va_G) (T : Nat → ClassId) (t0 : Nat × Nat) (X : Nat → Nat → Nat) (L : List Nat) (tg : Nat → Nat × Nat) (sz : Nat) (A : ew_R) (th : Nat) (hth : ew_in X L tg 0 0 th) (b : Nat) (t : Nat) (f : Nat) (n : Int32) (hb6 : b < 6) (ht8 : t < 8) (hf6 : f < 6) (hn1 : n < 1) : MetT l yL_request wsL_request ({ frames := 13, cells := 11, slots := 2036, locals := 420 }) (tm_Pc D vwCl (tysA T) (cfC T) t0 X L tg A sz [.ref th, .int (nI b), .int (nI t), .int (nI f), .int n]) (tQ D vwCl (cfC T) X L tg A sz tmI 11 2036) := by
  refine tm_met (by decide) rfl (Nat.le_of_ble_eq_true rfl) ?_
  intro p e s m below meth c ls hx hb hr hts hown hlocks hml hex hV hK hN hT hS hA hl hsz
  subst hsz
  have hVs := hV
  have hl : lv_has ls 6 [(0, .ref th), (1, .int (nI b)), (2, .int (nI t)), (3, .int (nI f)), (4, .int n)] := hl
  refine lv_iload_n hx hb dL_request_0 rfl (lv_at hl 1 rfl) ?_
  refine er_calli (va_runS (As := [.int (nI b)]) (rest := []) ⟨hx, hb, hml, hown, hts⟩ (c_L_isLibrary l D T X L tg _ A (nI b)) (cwS 1 hts gL_43 rfl rfl rfl (by decide +kernel) ⟨Nat.le_of_ble_eq_true rfl, Nat.le_of_ble_eq_true rfl⟩) (ec_preS hK hN hV) rfl rfl hl.1 rfl (lv_room (Nat.le_of_ble_eq_true rfl)) dL_request_1 ⟨Nat.le_of_ble_eq_true rfl, Nat.le_of_ble_eq_true rfl⟩) hV hS hA (fun r u H locs hp hV hS => ?_)
  obtain ⟨rfl, eu9⟩ := hp
  rw [eu9] at hV
  refine lv_toe (y := 1) (z_isLibrary_1 hb6) ?_
  refine lv_if_eq (tgt := 34) hx hb dL_request_4 rfl (fun h9 => absurd h9 (by decide)) (fun _ => ?_)
  refine lv_iload_n hx hb dL_request_7 rfl (lv_at hl 2 rfl) ?_
  refine er_calli (va_runS (As := [.int (nI t)]) (rest := []) ⟨hx, hb, hml, hown, hts⟩ (c_L_isTitle l D T X L tg _ A (nI t)) (cwS 1 hts gL_47 rfl rfl rfl (by decide +kernel) ⟨Nat.le_of_ble_eq_true rfl, Nat.le_of_ble_eq_true rfl⟩) (ec_preS hK hN hV) rfl rfl hl.1 rfl (lv_room (Nat.le_of_ble_eq_true rfl)) dL_request_8 ⟨Nat.le_of_ble_eq_true rfl, Nat.le_of_ble_eq_true rfl⟩) hV hS hA (fun r u H locs hp hV hS => ?_)
  obtain ⟨rfl, eu9⟩ := hp
  rw [eu9] at hV
  refine lv_toe (y := 1) (z_isTitle_1 ht8) ?_
  refine lv_if_eq (tgt := 34) hx hb dL_request_11 rfl (fun h9 => absurd h9 (by decide)) (fun _ => ?_)
  refine lv_iload_n hx hb dL_request_14 rfl (lv_at hl 3 rfl) ?_
  refine er_calli (va_runS (As := [.int (nI f)]) (rest := []) ⟨hx, hb, hml, hown, hts⟩ (c_L_isLibrary l D T X L tg _ A (nI f)) (cwS 1 hts gL_43 rfl rfl rfl (by decide +kernel) ⟨Nat.le_of_ble_eq_true rfl, Nat.le_of_ble_eq_true rfl⟩) (ec_preS hK hN hV) rfl rfl hl.1 rfl (lv_room (Nat.le_of_ble_eq_true rfl)) dL_request_15 ⟨Nat.le_of_ble_eq_true rfl, Nat.le_of_ble_eq_true rfl⟩) hV hS hA (fun r u H locs hp hV hS => ?_)
  obtain ⟨rfl, eu9⟩ := hp
  rw [eu9] at hV
  refine lv_toe (y := 1) (z_isLibrary_1 hf6) ?_
  refine lv_if_eq (tgt := 34) hx hb dL_request_18 rfl (fun h9 => absurd h9 (by decide)) (fun _ => ?_)
  refine lv_iload hx hb dL_request_21 (lv_at hl 4 rfl) ?_
  refine lv_iconst (v := 1) hx hb dL_request_23 (by decide) ?_
  refine lv_icmp_lt (tgt := 34) hx hb dL_request_24 rfl (fun _ => ?_) (fun h9 => absurd hn1 h9)
  exact th_row (cls := tmI) (tx := "no such library, title, beginning of the rota, or days") (kc := 50) (ks := 69) (ic := 54) hx hb hfl hown hlocks hml hl.1 hex hV hT hVs hS (hts _ kw_475) (hts _ kw_476) (hts _ kw_8) (by decide +kernel) (fun w hw => List.mem_append_left _ hw) (by decide +kernel) dL_request_34 dL_request_37 dL_request_38 dL_request_40 dL_request_43 (Nat.le_of_ble_eq_true rfl) (Nat.le_of_ble_eq_true rfl) (Nat.le_of_ble_eq_true rfl) (Nat.le_of_ble_eq_true rfl) (Nat.le_of_ble_eq_true rfl) (Nat.le_of_ble_eq_true rfl)

set_option maxHeartbeats 4000000 in
set_option maxRecDepth 100000 in
theorem t_request_b9 (l : Launch) (hfl : l.flags = pinnedFlags ++ [noTraceFlag]) (D : va_G) (T : Nat → ClassId) (t0 : Nat × Nat) (X : Nat → Nat → Nat) (L : List Nat) (tg : Nat → Nat × Nat) (sz : Nat) (A : ew_R) (th : Nat) (hth : ew_in X L tg 0 0 th) (b : Nat) (t : Nat) (f : Nat) (n : Int32) (hb6 : b < 6) (ht8 : t < 8) (hf6 : f < 6) (hn1 : ¬ n < 1) (hn9 : ¬ n ≤ 99) : MetT l yL_request wsL_request ({ frames := 13, cells := 11, slots := 2036, locals := 420 }) (tm_Pc D vwCl (tysA T) (cfC T) t0 X L tg A sz [.ref th, .int (nI b), .int (nI t), .int (nI f), .int n]) (tQ D vwCl (cfC T) X L tg A sz tmI 11 2036) := by
  refine tm_met (by decide) rfl (Nat.le_of_ble_eq_true rfl) ?_
  intro p e s m below meth c ls hx hb hr hts hown hlocks hml hex hV hK hN hT hS hA hl hsz
  subst hsz
  have hVs := hV
  have hl : lv_has ls 6 [(0, .ref th), (1, .int (nI b)), (2, .int (nI t)), (3, .int (nI f)), (4, .int n)] := hl
  refine lv_iload_n hx hb dL_request_0 rfl (lv_at hl 1 rfl) ?_
  refine er_calli (va_runS (As := [.int (nI b)]) (rest := []) ⟨hx, hb, hml, hown, hts⟩ (c_L_isLibrary l D T X L tg _ A (nI b)) (cwS 1 hts gL_43 rfl rfl rfl (by decide +kernel) ⟨Nat.le_of_ble_eq_true rfl, Nat.le_of_ble_eq_true rfl⟩) (ec_preS hK hN hV) rfl rfl hl.1 rfl (lv_room (Nat.le_of_ble_eq_true rfl)) dL_request_1 ⟨Nat.le_of_ble_eq_true rfl, Nat.le_of_ble_eq_true rfl⟩) hV hS hA (fun r u H locs hp hV hS => ?_)
  obtain ⟨rfl, eu9⟩ := hp
  rw [eu9] at hV
  refine lv_toe (y := 1) (z_isLibrary_1 hb6) ?_
  refine lv_if_eq (tgt := 34) hx hb dL_request_4 rfl (fun h9 => absurd h9 (by decide)) (fun _ => ?_)
  refine lv_iload_n hx hb dL_request_7 rfl (lv_at hl 2 rfl) ?_
  refine er_calli (va_runS (As := [.int (nI t)]) (rest := []) ⟨hx, hb, hml, hown, hts⟩ (c_L_isTitle l D T X L tg _ A (nI t)) (cwS 1 hts gL_47 rfl rfl rfl (by decide +kernel) ⟨Nat.le_of_ble_eq_true rfl, Nat.le_of_ble_eq_true rfl⟩) (ec_preS hK hN hV) rfl rfl hl.1 rfl (lv_room (Nat.le_of_ble_eq_true rfl)) dL_request_8 ⟨Nat.le_of_ble_eq_true rfl, Nat.le_of_ble_eq_true rfl⟩) hV hS hA (fun r u H locs hp hV hS => ?_)
  obtain ⟨rfl, eu9⟩ := hp
  rw [eu9] at hV
  refine lv_toe (y := 1) (z_isTitle_1 ht8) ?_
  refine lv_if_eq (tgt := 34) hx hb dL_request_11 rfl (fun h9 => absurd h9 (by decide)) (fun _ => ?_)
  refine lv_iload_n hx hb dL_request_14 rfl (lv_at hl 3 rfl) ?_
  refine er_calli (va_runS (As := [.int (nI f)]) (rest := []) ⟨hx, hb, hml, hown, hts⟩ (c_L_isLibrary l D T X L tg _ A (nI f)) (cwS 1 hts gL_43 rfl rfl rfl (by decide +kernel) ⟨Nat.le_of_ble_eq_true rfl, Nat.le_of_ble_eq_true rfl⟩) (ec_preS hK hN hV) rfl rfl hl.1 rfl (lv_room (Nat.le_of_ble_eq_true rfl)) dL_request_15 ⟨Nat.le_of_ble_eq_true rfl, Nat.le_of_ble_eq_true rfl⟩) hV hS hA (fun r u H locs hp hV hS => ?_)
  obtain ⟨rfl, eu9⟩ := hp
  rw [eu9] at hV
  refine lv_toe (y := 1) (z_isLibrary_1 hf6) ?_
  refine lv_if_eq (tgt := 34) hx hb dL_request_18 rfl (fun h9 => absurd h9 (by decide)) (fun _ => ?_)
  refine lv_iload hx hb dL_request_21 (lv_at hl 4 rfl) ?_
  refine lv_iconst (v := 1) hx hb dL_request_23 (by decide) ?_
  refine lv_icmp_lt (tgt := 34) hx hb dL_request_24 rfl (fun h9 => absurd h9 hn1) (fun _ => ?_)
  refine lv_iload hx hb dL_request_27 (lv_at hl 4 rfl) ?_
  refine lv_bipush (v := 99) hx hb dL_request_29 (by decide) ?_
  refine lv_icmp_le (tgt := 44) hx hb dL_request_31 rfl (fun h9 => absurd h9 hn9) (fun _ => ?_)
  exact th_row (cls := tmI) (tx := "no such library, title, beginning of the rota, or days") (kc := 50) (ks := 69) (ic := 54) hx hb hfl hown hlocks hml hl.1 hex hV hT hVs hS (hts _ kw_475) (hts _ kw_476) (hts _ kw_8) (by decide +kernel) (fun w hw => List.mem_append_left _ hw) (by decide +kernel) dL_request_34 dL_request_37 dL_request_38 dL_request_40 dL_request_43 (Nat.le_of_ble_eq_true rfl) (Nat.le_of_ble_eq_true rfl) (Nat.le_of_ble_eq_true rfl) (Nat.le_of_ble_eq_true rfl) (Nat.le_of_ble_eq_true rfl) (Nat.le_of_ble_eq_true rfl)

set_option maxHeartbeats 4000000 in
set_option maxRecDepth 100000 in
theorem t_request_full (l : Launch) (hfl : l.flags = pinnedFlags ++ [noTraceFlag]) (D : va_G) (T : Nat → ClassId) (t0 : Nat × Nat) (X : Nat → Nat → Nat) (L : List Nat) (tg : Nat → Nat × Nat) (sz : Nat) (A : ew_R) (th : Nat) (hth : ew_in X L tg 0 0 th) (b : Nat) (t : Nat) (f : Nat) (n : Int32) (hb6 : b < 6) (ht8 : t < 8) (hf6 : f < 6) (hn1 : ¬ n < 1) (hn9 : n ≤ 99) (q6 : A 0 0 6 = 32) : MetT l yL_request wsL_request ({ frames := 13, cells := 11, slots := 2036, locals := 420 }) (tm_Pc D vwCl (tysA T) (cfC T) t0 X L tg A sz [.ref th, .int (nI b), .int (nI t), .int (nI f), .int n]) (tQ D vwCl (cfC T) X L tg A sz tmS 11 2036) := by
  refine tm_met (by decide) rfl (Nat.le_of_ble_eq_true rfl) ?_
  intro p e s m below meth c ls hx hb hr hts hown hlocks hml hex hV hK hN hT hS hA hl hsz
  subst hsz
  have hVs := hV
  have hl : lv_has ls 6 [(0, .ref th), (1, .int (nI b)), (2, .int (nI t)), (3, .int (nI f)), (4, .int n)] := hl
  refine lv_iload_n hx hb dL_request_0 rfl (lv_at hl 1 rfl) ?_
  refine er_calli (va_runS (As := [.int (nI b)]) (rest := []) ⟨hx, hb, hml, hown, hts⟩ (c_L_isLibrary l D T X L tg _ A (nI b)) (cwS 1 hts gL_43 rfl rfl rfl (by decide +kernel) ⟨Nat.le_of_ble_eq_true rfl, Nat.le_of_ble_eq_true rfl⟩) (ec_preS hK hN hV) rfl rfl hl.1 rfl (lv_room (Nat.le_of_ble_eq_true rfl)) dL_request_1 ⟨Nat.le_of_ble_eq_true rfl, Nat.le_of_ble_eq_true rfl⟩) hV hS hA (fun r u H locs hp hV hS => ?_)
  obtain ⟨rfl, eu9⟩ := hp
  rw [eu9] at hV
  refine lv_toe (y := 1) (z_isLibrary_1 hb6) ?_
  refine lv_if_eq (tgt := 34) hx hb dL_request_4 rfl (fun h9 => absurd h9 (by decide)) (fun _ => ?_)
  refine lv_iload_n hx hb dL_request_7 rfl (lv_at hl 2 rfl) ?_
  refine er_calli (va_runS (As := [.int (nI t)]) (rest := []) ⟨hx, hb, hml, hown, hts⟩ (c_L_isTitle l D T X L tg _ A (nI t)) (cwS 1 hts gL_47 rfl rfl rfl (by decide +kernel) ⟨Nat.le_of_ble_eq_true rfl, Nat.le_of_ble_eq_true rfl⟩) (ec_preS hK hN hV) rfl rfl hl.1 rfl (lv_room (Nat.le_of_ble_eq_true rfl)) dL_request_8 ⟨Nat.le_of_ble_eq_true rfl, Nat.le_of_ble_eq_true rfl⟩) hV hS hA (fun r u H locs hp hV hS => ?_)
  obtain ⟨rfl, eu9⟩ := hp
  rw [eu9] at hV
  refine lv_toe (y := 1) (z_isTitle_1 ht8) ?_
  refine lv_if_eq (tgt := 34) hx hb dL_request_11 rfl (fun h9 => absurd h9 (by decide)) (fun _ => ?_)
  refine lv_iload_n hx hb dL_request_14 rfl (lv_at hl 3 rfl) ?_
  refine er_calli (va_runS (As := [.int (nI f)]) (rest := []) ⟨hx, hb, hml, hown, hts⟩ (c_L_isLibrary l D T X L tg _ A (nI f)) (cwS 1 hts gL_43 rfl rfl rfl (by decide +kernel) ⟨Nat.le_of_ble_eq_true rfl, Nat.le_of_ble_eq_true rfl⟩) (ec_preS hK hN hV) rfl rfl hl.1 rfl (lv_room (Nat.le_of_ble_eq_true rfl)) dL_request_15 ⟨Nat.le_of_ble_eq_true rfl, Nat.le_of_ble_eq_true rfl⟩) hV hS hA (fun r u H locs hp hV hS => ?_)
  obtain ⟨rfl, eu9⟩ := hp
  rw [eu9] at hV
  refine lv_toe (y := 1) (z_isLibrary_1 hf6) ?_
  refine lv_if_eq (tgt := 34) hx hb dL_request_18 rfl (fun h9 => absurd h9 (by decide)) (fun _ => ?_)
  refine lv_iload hx hb dL_request_21 (lv_at hl 4 rfl) ?_
  refine lv_iconst (v := 1) hx hb dL_request_23 (by decide) ?_
  refine lv_icmp_lt (tgt := 34) hx hb dL_request_24 rfl (fun h9 => absurd h9 hn1) (fun _ => ?_)
  refine lv_iload hx hb dL_request_27 (lv_at hl 4 rfl) ?_
  refine lv_bipush (v := 99) hx hb dL_request_29 (by decide) ?_
  refine lv_icmp_le (tgt := 44) hx hb dL_request_31 rfl (fun _ => ?_) (fun h9 => absurd hn9 h9)
  refine lv_aload_n hx hb dL_request_44 rfl (lv_at hl 0 rfl) ?_
  refine ew_get (v := .int (A 0 0 6)) hx hb hts hown hK hV fL_71 hth (cC_0 _ _ _ _) rfl dL_request_45 ?_
  refine lv_toe (y := 32) q6 ?_
  refine lv_bipush (v := 32) hx hb dL_request_48 (by decide) ?_
  refine lv_icmp_lt (tgt := 63) hx hb dL_request_50 rfl (fun h9 => absurd h9 (by decide)) (fun _ => ?_)
  exact th_row (cls := tmS) (tx := "there are 32 loans") (kc := 61) (ks := 74) (ic := 65) hx hb hfl hown hlocks hml hl.1 hex hV hT hVs hS (hts _ kw_542) (hts _ kw_543) (hts _ kw_9) (by decide +kernel) (fun w hw => List.mem_append_right _ hw) (by decide +kernel) dL_request_53 dL_request_56 dL_request_57 dL_request_59 dL_request_62 (Nat.le_of_ble_eq_true rfl) (Nat.le_of_ble_eq_true rfl) (Nat.le_of_ble_eq_true rfl) (Nat.le_of_ble_eq_true rfl) (Nat.le_of_ble_eq_true rfl) (Nat.le_of_ble_eq_true rfl)

set_option maxHeartbeats 4000000 in
set_option maxRecDepth 100000 in
theorem t_act_neg (l : Launch) (hfl : l.flags = pinnedFlags ++ [noTraceFlag]) (D : va_G) (T : Nat → ClassId) (t0 : Nat × Nat) (X : Nat → Nat → Nat) (L : List Nat) (tg : Nat → Nat × Nat) (sz : Nat) (A : ew_R) (th : Nat) (hth : ew_in X L tg 0 0 th) (b : Int32) (ln : Int32) (sx : Int32) (ar : Int32) (h0 : ln < 0) : MetT l yL_act wsL_act ({ frames := 13, cells := 11, slots := 2036, locals := 420 }) (tm_Pc D vwCl (tysA T) (cfC T) t0 X L tg A sz [.ref th, .int b, .int ln, .int sx, .int ar]) (tQ D vwCl (cfC T) X L tg A sz tmI 11 2036) := by
  refine tm_met (by decide) rfl (Nat.le_of_ble_eq_true rfl) ?_
  intro p e s m below meth c ls hx hb hr hts hown hlocks hml hex hV hK hN hT hS hA hl hsz
  subst hsz
  have hVs := hV
  have hl : lv_has ls 7 [(0, .ref th), (1, .int b), (2, .int ln), (3, .int sx), (4, .int ar)] := hl
  refine lv_aload_n hx hb dL_act_0 rfl (lv_at hl 0 rfl) ?_
  refine lv_iload_n hx hb dL_act_1 rfl (lv_at hl 2 rfl) ?_
  refine er_callq (va_runV (As := [.int ln]) (rest := []) ⟨hx, hb, hml, hown, hts⟩ (c_L_loanAt_neg l D T X L tg _ A th hth ln h0) (cwV 1 hts gL_88 rfl rfl rfl (by decide +kernel) ⟨Nat.le_of_ble_eq_true rfl, Nat.le_of_ble_eq_true rfl⟩) (ec_preV hK hN hV hth (cC_0 _ _ _ _) rfl) rfl rfl hl.1 rfl (lv_room (Nat.le_of_ble_eq_true rfl)) dL_act_2 ⟨Nat.le_of_ble_eq_true rfl, Nat.le_of_ble_eq_true rfl⟩) hV hS hA (fun r u H locs hp hV hS => ?_)
  obtain ⟨rfl, eu9⟩ := hp
  rw [eu9] at hV
  refine lv_astoreN (lv' := [(5, .null), (0, .ref th), (1, .int b), (2, .int ln), (3, .int sx), (4, .int ar)]) hx hb dL_act_5 hl (by decide) rfl (fun ls hl => ?_)
  refine lv_aloadN hx hb dL_act_7 (lv_at hl 0 rfl) ?_
  refine lv_ifnullN (tgt := 22) hx hb dL_act_9 rfl ?_
  exact th_row (cls := tmI) (tx := "no such loan or step") (kc := 50) (ks := 94) (ic := 54) hx hb hfl hown hlocks hml hl.1 hex hV hT hVs hS (hts _ kw_475) (hts _ kw_476) (hts _ kw_8) (by decide +kernel) (fun w hw => List.mem_append_left _ hw) (by decide +kernel) dL_act_22 dL_act_25 dL_act_26 dL_act_28 dL_act_31 (Nat.le_of_ble_eq_true rfl) (Nat.le_of_ble_eq_true rfl) (Nat.le_of_ble_eq_true rfl) (Nat.le_of_ble_eq_true rfl) (Nat.le_of_ble_eq_true rfl) (Nat.le_of_ble_eq_true rfl)

set_option maxHeartbeats 4000000 in
set_option maxRecDepth 100000 in
theorem t_act_big (l : Launch) (hfl : l.flags = pinnedFlags ++ [noTraceFlag]) (D : va_G) (T : Nat → ClassId) (t0 : Nat × Nat) (X : Nat → Nat → Nat) (L : List Nat) (tg : Nat → Nat × Nat) (sz : Nat) (A : ew_R) (th : Nat) (hth : ew_in X L tg 0 0 th) (b : Int32) (ln : Int32) (sx : Int32) (ar : Int32) (nl : Nat) (qnl : A 0 0 6 = nI nl) (h0 : ¬ ln < 0) (h1 : nI nl ≤ ln) : MetT l yL_act wsL_act ({ frames := 13, cells := 11, slots := 2036, locals := 420 }) (tm_Pc D vwCl (tysA T) (cfC T) t0 X L tg A sz [.ref th, .int b, .int ln, .int sx, .int ar]) (tQ D vwCl (cfC T) X L tg A sz tmI 11 2036) := by
  refine tm_met (by decide) rfl (Nat.le_of_ble_eq_true rfl) ?_
  intro p e s m below meth c ls hx hb hr hts hown hlocks hml hex hV hK hN hT hS hA hl hsz
  subst hsz
  have hVs := hV
  have hl : lv_has ls 7 [(0, .ref th), (1, .int b), (2, .int ln), (3, .int sx), (4, .int ar)] := hl
  refine lv_aload_n hx hb dL_act_0 rfl (lv_at hl 0 rfl) ?_
  refine lv_iload_n hx hb dL_act_1 rfl (lv_at hl 2 rfl) ?_
  refine er_callq (va_runV (As := [.int ln]) (rest := []) ⟨hx, hb, hml, hown, hts⟩ (c_L_loanAt_big l D T X L tg _ A th hth ln nl qnl h0 h1) (cwV 1 hts gL_88 rfl rfl rfl (by decide +kernel) ⟨Nat.le_of_ble_eq_true rfl, Nat.le_of_ble_eq_true rfl⟩) (ec_preV hK hN hV hth (cC_0 _ _ _ _) rfl) rfl rfl hl.1 rfl (lv_room (Nat.le_of_ble_eq_true rfl)) dL_act_2 ⟨Nat.le_of_ble_eq_true rfl, Nat.le_of_ble_eq_true rfl⟩) hV hS hA (fun r u H locs hp hV hS => ?_)
  obtain ⟨rfl, eu9⟩ := hp
  rw [eu9] at hV
  refine lv_astoreN (lv' := [(5, .null), (0, .ref th), (1, .int b), (2, .int ln), (3, .int sx), (4, .int ar)]) hx hb dL_act_5 hl (by decide) rfl (fun ls hl => ?_)
  refine lv_aloadN hx hb dL_act_7 (lv_at hl 0 rfl) ?_
  refine lv_ifnullN (tgt := 22) hx hb dL_act_9 rfl ?_
  exact th_row (cls := tmI) (tx := "no such loan or step") (kc := 50) (ks := 94) (ic := 54) hx hb hfl hown hlocks hml hl.1 hex hV hT hVs hS (hts _ kw_475) (hts _ kw_476) (hts _ kw_8) (by decide +kernel) (fun w hw => List.mem_append_left _ hw) (by decide +kernel) dL_act_22 dL_act_25 dL_act_26 dL_act_28 dL_act_31 (Nat.le_of_ble_eq_true rfl) (Nat.le_of_ble_eq_true rfl) (Nat.le_of_ble_eq_true rfl) (Nat.le_of_ble_eq_true rfl) (Nat.le_of_ble_eq_true rfl) (Nat.le_of_ble_eq_true rfl)

set_option maxHeartbeats 4000000 in
set_option maxRecDepth 100000 in
theorem t_act_s0 (l : Launch) (hfl : l.flags = pinnedFlags ++ [noTraceFlag]) (D : va_G) (T : Nat → ClassId) (t0 : Nat × Nat) (X : Nat → Nat → Nat) (L : List Nat) (tg : Nat → Nat × Nat) (sz : Nat) (A : ew_R) (th : Nat) (hth : ew_in X L tg 0 0 th) (b : Int32) (ln : Nat) (sx : Int32) (ar : Int32) (nl : Nat) (e2_0 : ew_in X L tg 2 ln (X 2 ln)) (e10_1 : ew_in X L tg 10 0 (X 10 0)) (hnl2 : nl ≤ 32) (qnl : A 0 0 6 = nI nl) (hl9 : ln < nl) (qfl : ¬ A 10 0 ln = 0) (hs : sx < 0) : MetT l yL_act wsL_act ({ frames := 13, cells := 11, slots := 2036, locals := 420 }) (tm_Pc D vwCl (tysA T) (cfC T) t0 X L tg A sz [.ref th, .int b, .int (nI ln), .int sx, .int ar]) (tQ D vwCl (cfC T) X L tg A sz tmI 11 2036) := by
  refine tm_met (by decide) rfl (Nat.le_of_ble_eq_true rfl) ?_
  intro p e s m below meth c ls hx hb hr hts hown hlocks hml hex hV hK hN hT hS hA hl hsz
  subst hsz
  have hVs := hV
  have hl : lv_has ls 7 [(0, .ref th), (1, .int b), (2, .int (nI ln)), (3, .int sx), (4, .int ar)] := hl
  refine lv_aload_n hx hb dL_act_0 rfl (lv_at hl 0 rfl) ?_
  refine lv_iload_n hx hb dL_act_1 rfl (lv_at hl 2 rfl) ?_
  refine er_callq (va_runV (As := [.int (nI ln)]) (rest := []) ⟨hx, hb, hml, hown, hts⟩ (c_L_loanAt_ok l D T X L tg _ A th hth ln nl e10_1 e2_0 hnl2 qnl hl9 qfl) (cwV 1 hts gL_88 rfl rfl rfl (by decide +kernel) ⟨Nat.le_of_ble_eq_true rfl, Nat.le_of_ble_eq_true rfl⟩) (ec_preV hK hN hV hth (cC_0 _ _ _ _) rfl) rfl rfl hl.1 rfl (lv_room (Nat.le_of_ble_eq_true rfl)) dL_act_2 ⟨Nat.le_of_ble_eq_true rfl, Nat.le_of_ble_eq_true rfl⟩) hV hS hA (fun r u H locs hp hV hS => ?_)
  obtain ⟨rfl, eu9⟩ := hp
  rw [eu9] at hV
  refine lv_astore (lv' := [(5, .ref (X 2 ln)), (0, .ref th), (1, .int b), (2, .int (nI ln)), (3, .int sx), (4, .int ar)]) hx hb dL_act_5 hl (by decide) rfl (fun ls hl => ?_)
  refine lv_aload hx hb dL_act_7 (lv_at hl 0 rfl) ?_
  refine lv_ifnull hx hb dL_act_9 ?_
  refine lv_iload_n hx hb dL_act_12 rfl (lv_at hl 4 rfl) ?_
  refine lv_if_lt (tgt := 22) hx hb dL_act_13 rfl (fun _ => ?_) (fun h9 => absurd hs h9)
  exact th_row (cls := tmI) (tx := "no such loan or step") (kc := 50) (ks := 94) (ic := 54) hx hb hfl hown hlocks hml hl.1 hex hV hT hVs hS (hts _ kw_475) (hts _ kw_476) (hts _ kw_8) (by decide +kernel) (fun w hw => List.mem_append_left _ hw) (by decide +kernel) dL_act_22 dL_act_25 dL_act_26 dL_act_28 dL_act_31 (Nat.le_of_ble_eq_true rfl) (Nat.le_of_ble_eq_true rfl) (Nat.le_of_ble_eq_true rfl) (Nat.le_of_ble_eq_true rfl) (Nat.le_of_ble_eq_true rfl) (Nat.le_of_ble_eq_true rfl)

set_option maxHeartbeats 4000000 in
set_option maxRecDepth 100000 in
theorem t_act_s15 (l : Launch) (hfl : l.flags = pinnedFlags ++ [noTraceFlag]) (D : va_G) (T : Nat → ClassId) (t0 : Nat × Nat) (X : Nat → Nat → Nat) (L : List Nat) (tg : Nat → Nat × Nat) (sz : Nat) (A : ew_R) (th : Nat) (hth : ew_in X L tg 0 0 th) (b : Int32) (ln : Nat) (sx : Int32) (ar : Int32) (nl : Nat) (e2_0 : ew_in X L tg 2 ln (X 2 ln)) (e10_1 : ew_in X L tg 10 0 (X 10 0)) (hnl2 : nl ≤ 32) (qnl : A 0 0 6 = nI nl) (hl9 : ln < nl) (qfl : ¬ A 10 0 ln = 0) (hs : ¬ sx < 0) (hs2 : ¬ sx ≤ 14) : MetT l yL_act wsL_act ({ frames := 13, cells := 11, slots := 2036, locals := 420 }) (tm_Pc D vwCl (tysA T) (cfC T) t0 X L tg A sz [.ref th, .int b, .int (nI ln), .int sx, .int ar]) (tQ D vwCl (cfC T) X L tg A sz tmI 11 2036) := by
  refine tm_met (by decide) rfl (Nat.le_of_ble_eq_true rfl) ?_
  intro p e s m below meth c ls hx hb hr hts hown hlocks hml hex hV hK hN hT hS hA hl hsz
  subst hsz
  have hVs := hV
  have hl : lv_has ls 7 [(0, .ref th), (1, .int b), (2, .int (nI ln)), (3, .int sx), (4, .int ar)] := hl
  refine lv_aload_n hx hb dL_act_0 rfl (lv_at hl 0 rfl) ?_
  refine lv_iload_n hx hb dL_act_1 rfl (lv_at hl 2 rfl) ?_
  refine er_callq (va_runV (As := [.int (nI ln)]) (rest := []) ⟨hx, hb, hml, hown, hts⟩ (c_L_loanAt_ok l D T X L tg _ A th hth ln nl e10_1 e2_0 hnl2 qnl hl9 qfl) (cwV 1 hts gL_88 rfl rfl rfl (by decide +kernel) ⟨Nat.le_of_ble_eq_true rfl, Nat.le_of_ble_eq_true rfl⟩) (ec_preV hK hN hV hth (cC_0 _ _ _ _) rfl) rfl rfl hl.1 rfl (lv_room (Nat.le_of_ble_eq_true rfl)) dL_act_2 ⟨Nat.le_of_ble_eq_true rfl, Nat.le_of_ble_eq_true rfl⟩) hV hS hA (fun r u H locs hp hV hS => ?_)
  obtain ⟨rfl, eu9⟩ := hp
  rw [eu9] at hV
  refine lv_astore (lv' := [(5, .ref (X 2 ln)), (0, .ref th), (1, .int b), (2, .int (nI ln)), (3, .int sx), (4, .int ar)]) hx hb dL_act_5 hl (by decide) rfl (fun ls hl => ?_)
  refine lv_aload hx hb dL_act_7 (lv_at hl 0 rfl) ?_
  refine lv_ifnull hx hb dL_act_9 ?_
  refine lv_iload_n hx hb dL_act_12 rfl (lv_at hl 4 rfl) ?_
  refine lv_if_lt (tgt := 22) hx hb dL_act_13 rfl (fun h9 => absurd h9 hs) (fun _ => ?_)
  refine lv_iload_n hx hb dL_act_16 rfl (lv_at hl 4 rfl) ?_
  refine lv_bipush (v := 14) hx hb dL_act_17 (by decide) ?_
  refine lv_icmp_le (tgt := 32) hx hb dL_act_19 rfl (fun h9 => absurd h9 hs2) (fun _ => ?_)
  exact th_row (cls := tmI) (tx := "no such loan or step") (kc := 50) (ks := 94) (ic := 54) hx hb hfl hown hlocks hml hl.1 hex hV hT hVs hS (hts _ kw_475) (hts _ kw_476) (hts _ kw_8) (by decide +kernel) (fun w hw => List.mem_append_left _ hw) (by decide +kernel) dL_act_22 dL_act_25 dL_act_26 dL_act_28 dL_act_31 (Nat.le_of_ble_eq_true rfl) (Nat.le_of_ble_eq_true rfl) (Nat.le_of_ble_eq_true rfl) (Nat.le_of_ble_eq_true rfl) (Nat.le_of_ble_eq_true rfl) (Nat.le_of_ble_eq_true rfl)

set_option maxHeartbeats 4000000 in
set_option maxRecDepth 100000 in
theorem t_act_nrq (l : Launch) (hfl : l.flags = pinnedFlags ++ [noTraceFlag]) (D : va_G) (T : Nat → ClassId) (t0 : Nat × Nat) (X : Nat → Nat → Nat) (L : List Nat) (tg : Nat → Nat × Nat) (sz : Nat) (A : ew_R) (th : Nat) (hth : ew_in X L tg 0 0 th) (b : Int32) (ln : Nat) (sx : Int32) (ar : Int32) (nl : Nat) (rq : Nat) (e2_0 : ew_in X L tg 2 ln (X 2 ln)) (e10_1 : ew_in X L tg 10 0 (X 10 0)) (hnl2 : nl ≤ 32) (qnl : A 0 0 6 = nI nl) (hl9 : ln < nl) (qfl : ¬ A 10 0 ln = 0) (hs : ¬ sx < 0) (hs2 : sx ≤ 14) (hs3 : ¬ 6 < sx) (hrq : rq < 6) (q1 : A 2 ln 1 = nI rq) (hbr : ¬ b = nI rq) : MetT l yL_act wsL_act ({ frames := 13, cells := 11, slots := 2036, locals := 420 }) (tm_Pc D vwCl (tysA T) (cfC T) t0 X L tg A sz [.ref th, .int b, .int (nI ln), .int sx, .int ar]) (tQ D vwCl (cfC T) X L tg A sz tmI 11 2036) := by
  refine tm_met (by decide) rfl (Nat.le_of_ble_eq_true rfl) ?_
  intro p e s m below meth c ls hx hb hr hts hown hlocks hml hex hV hK hN hT hS hA hl hsz
  subst hsz
  have hVs := hV
  have hl : lv_has ls 7 [(0, .ref th), (1, .int b), (2, .int (nI ln)), (3, .int sx), (4, .int ar)] := hl
  refine lv_aload_n hx hb dL_act_0 rfl (lv_at hl 0 rfl) ?_
  refine lv_iload_n hx hb dL_act_1 rfl (lv_at hl 2 rfl) ?_
  refine er_callq (va_runV (As := [.int (nI ln)]) (rest := []) ⟨hx, hb, hml, hown, hts⟩ (c_L_loanAt_ok l D T X L tg _ A th hth ln nl e10_1 e2_0 hnl2 qnl hl9 qfl) (cwV 1 hts gL_88 rfl rfl rfl (by decide +kernel) ⟨Nat.le_of_ble_eq_true rfl, Nat.le_of_ble_eq_true rfl⟩) (ec_preV hK hN hV hth (cC_0 _ _ _ _) rfl) rfl rfl hl.1 rfl (lv_room (Nat.le_of_ble_eq_true rfl)) dL_act_2 ⟨Nat.le_of_ble_eq_true rfl, Nat.le_of_ble_eq_true rfl⟩) hV hS hA (fun r u H locs hp hV hS => ?_)
  obtain ⟨rfl, eu9⟩ := hp
  rw [eu9] at hV
  refine lv_astore (lv' := [(5, .ref (X 2 ln)), (0, .ref th), (1, .int b), (2, .int (nI ln)), (3, .int sx), (4, .int ar)]) hx hb dL_act_5 hl (by decide) rfl (fun ls hl => ?_)
  refine lv_aload hx hb dL_act_7 (lv_at hl 0 rfl) ?_
  refine lv_ifnull hx hb dL_act_9 ?_
  refine lv_iload_n hx hb dL_act_12 rfl (lv_at hl 4 rfl) ?_
  refine lv_if_lt (tgt := 22) hx hb dL_act_13 rfl (fun h9 => absurd h9 hs) (fun _ => ?_)
  refine lv_iload_n hx hb dL_act_16 rfl (lv_at hl 4 rfl) ?_
  refine lv_bipush (v := 14) hx hb dL_act_17 (by decide) ?_
  refine lv_icmp_le (tgt := 32) hx hb dL_act_19 rfl (fun _ => ?_) (fun h9 => absurd hs2 h9)
  refine lv_iload_n hx hb dL_act_32 rfl (lv_at hl 4 rfl) ?_
  refine lv_bipush (v := 6) hx hb dL_act_33 (by decide) ?_
  refine lv_icmp_gt (tgt := 86) hx hb dL_act_35 rfl (fun h9 => absurd h9 hs3) (fun _ => ?_)
  refine lv_iload_n hx hb dL_act_38 rfl (lv_at hl 2 rfl) ?_
  refine lv_aload hx hb dL_act_39 (lv_at hl 0 rfl) ?_
  refine ew_get (v := .int (A 2 ln 1)) hx hb hts hown hK hV fL_96 e2_0 (cC_2 _ _ _ _) rfl dL_act_41 ?_
  refine lv_toe (y := nI rq) q1 ?_
  refine lv_icmp_eq (tgt := 57) hx hb dL_act_44 rfl (fun h9 => absurd h9 hbr) (fun _ => ?_)
  exact th_row (cls := tmI) (tx := "the library is not the requester") (kc := 50) (ks := 99) (ic := 54) hx hb hfl hown hlocks hml hl.1 hex hV hT hVs hS (hts _ kw_475) (hts _ kw_476) (hts _ kw_8) (by decide +kernel) (fun w hw => List.mem_append_left _ hw) (by decide +kernel) dL_act_47 dL_act_50 dL_act_51 dL_act_53 dL_act_56 (Nat.le_of_ble_eq_true rfl) (Nat.le_of_ble_eq_true rfl) (Nat.le_of_ble_eq_true rfl) (Nat.le_of_ble_eq_true rfl) (Nat.le_of_ble_eq_true rfl) (Nat.le_of_ble_eq_true rfl)

set_option maxHeartbeats 4000000 in
set_option maxRecDepth 100000 in
theorem t_act_dbad (l : Launch) (hfl : l.flags = pinnedFlags ++ [noTraceFlag]) (D : va_G) (T : Nat → ClassId) (t0 : Nat × Nat) (X : Nat → Nat → Nat) (L : List Nat) (tg : Nat → Nat × Nat) (sz : Nat) (A : ew_R) (th : Nat) (hth : ew_in X L tg 0 0 th) (b : Int32) (ln : Nat) (sx : Int32) (ar : Int32) (nl : Nat) (e2_0 : ew_in X L tg 2 ln (X 2 ln)) (e10_1 : ew_in X L tg 10 0 (X 10 0)) (hnl2 : nl ≤ 32) (qnl : A 0 0 6 = nI nl) (hl9 : ln < nl) (qfl : ¬ A 10 0 ln = 0) (hs : ¬ sx < 0) (hs2 : sx ≤ 14) (hs3 : 6 < sx) (hnb : z_L_isLibrary b = 0) : MetT l yL_act wsL_act ({ frames := 13, cells := 11, slots := 2036, locals := 420 }) (tm_Pc D vwCl (tysA T) (cfC T) t0 X L tg A sz [.ref th, .int b, .int (nI ln), .int sx, .int ar]) (tQ D vwCl (cfC T) X L tg A sz tmI 11 2036) := by
  refine tm_met (by decide) rfl (Nat.le_of_ble_eq_true rfl) ?_
  intro p e s m below meth c ls hx hb hr hts hown hlocks hml hex hV hK hN hT hS hA hl hsz
  subst hsz
  have hVs := hV
  have hl : lv_has ls 7 [(0, .ref th), (1, .int b), (2, .int (nI ln)), (3, .int sx), (4, .int ar)] := hl
  refine lv_aload_n hx hb dL_act_0 rfl (lv_at hl 0 rfl) ?_
  refine lv_iload_n hx hb dL_act_1 rfl (lv_at hl 2 rfl) ?_
  refine er_callq (va_runV (As := [.int (nI ln)]) (rest := []) ⟨hx, hb, hml, hown, hts⟩ (c_L_loanAt_ok l D T X L tg _ A th hth ln nl e10_1 e2_0 hnl2 qnl hl9 qfl) (cwV 1 hts gL_88 rfl rfl rfl (by decide +kernel) ⟨Nat.le_of_ble_eq_true rfl, Nat.le_of_ble_eq_true rfl⟩) (ec_preV hK hN hV hth (cC_0 _ _ _ _) rfl) rfl rfl hl.1 rfl (lv_room (Nat.le_of_ble_eq_true rfl)) dL_act_2 ⟨Nat.le_of_ble_eq_true rfl, Nat.le_of_ble_eq_true rfl⟩) hV hS hA (fun r u H locs hp hV hS => ?_)
  obtain ⟨rfl, eu9⟩ := hp
  rw [eu9] at hV
  refine lv_astore (lv' := [(5, .ref (X 2 ln)), (0, .ref th), (1, .int b), (2, .int (nI ln)), (3, .int sx), (4, .int ar)]) hx hb dL_act_5 hl (by decide) rfl (fun ls hl => ?_)
  refine lv_aload hx hb dL_act_7 (lv_at hl 0 rfl) ?_
  refine lv_ifnull hx hb dL_act_9 ?_
  refine lv_iload_n hx hb dL_act_12 rfl (lv_at hl 4 rfl) ?_
  refine lv_if_lt (tgt := 22) hx hb dL_act_13 rfl (fun h9 => absurd h9 hs) (fun _ => ?_)
  refine lv_iload_n hx hb dL_act_16 rfl (lv_at hl 4 rfl) ?_
  refine lv_bipush (v := 14) hx hb dL_act_17 (by decide) ?_
  refine lv_icmp_le (tgt := 32) hx hb dL_act_19 rfl (fun _ => ?_) (fun h9 => absurd hs2 h9)
  refine lv_iload_n hx hb dL_act_32 rfl (lv_at hl 4 rfl) ?_
  refine lv_bipush (v := 6) hx hb dL_act_33 (by decide) ?_
  refine lv_icmp_gt (tgt := 86) hx hb dL_act_35 rfl (fun _ => ?_) (fun h9 => absurd hs3 h9)
  refine lv_aload hx hb dL_act_86 (lv_at hl 0 rfl) ?_
  refine lv_iload_n hx hb dL_act_88 rfl (lv_at hl 2 rfl) ?_
  refine er_callq (va_runV (As := [.int b]) (rest := []) ⟨hx, hb, hml, hown, hts⟩ (c_Loan_dealWith_bad l D T X L tg _ A ln (X 2 ln) e2_0 b hnb) (cwV 1 hts gL_116 rfl rfl rfl (by decide +kernel) ⟨Nat.le_of_ble_eq_true rfl, Nat.le_of_ble_eq_true rfl⟩) (ec_preV hK hN hV e2_0 (cC_2 _ _ _ _) rfl) rfl rfl hl.1 rfl (lv_room (Nat.le_of_ble_eq_true rfl)) dL_act_89 ⟨Nat.le_of_ble_eq_true rfl, Nat.le_of_ble_eq_true rfl⟩) hV hS hA (fun r u H locs hp hV hS => ?_)
  obtain ⟨rfl, eu9⟩ := hp
  rw [eu9] at hV
  refine lv_astoreN (lv' := [(6, .null), (5, .ref (X 2 ln)), (0, .ref th), (1, .int b), (2, .int (nI ln)), (3, .int sx), (4, .int ar)]) hx hb dL_act_92 hl (by decide) rfl (fun ls hl => ?_)
  refine lv_aloadN hx hb dL_act_94 (lv_at hl 0 rfl) ?_
  refine lv_ifnonnullN hx hb dL_act_96 ?_
  exact th_row (cls := tmI) (tx := "the library is none of the suppliers") (kc := 50) (ks := 120) (ic := 54) hx hb hfl hown hlocks hml hl.1 hex hV hT hVs hS (hts _ kw_475) (hts _ kw_476) (hts _ kw_8) (by decide +kernel) (fun w hw => List.mem_append_left _ hw) (by decide +kernel) dL_act_99 dL_act_102 dL_act_103 dL_act_105 dL_act_108 (Nat.le_of_ble_eq_true rfl) (Nat.le_of_ble_eq_true rfl) (Nat.le_of_ble_eq_true rfl) (Nat.le_of_ble_eq_true rfl) (Nat.le_of_ble_eq_true rfl) (Nat.le_of_ble_eq_true rfl)

set_option maxHeartbeats 4000000 in
set_option maxRecDepth 100000 in
theorem t_act_dno (l : Launch) (hfl : l.flags = pinnedFlags ++ [noTraceFlag]) (D : va_G) (T : Nat → ClassId) (t0 : Nat × Nat) (X : Nat → Nat → Nat) (L : List Nat) (tg : Nat → Nat × Nat) (sz : Nat) (A : ew_R) (th : Nat) (hth : ew_in X L tg 0 0 th) (b : Nat) (ln : Nat) (sx : Int32) (ar : Int32) (nl : Nat) (e2_0 : ew_in X L tg 2 ln (X 2 ln)) (e10_1 : ew_in X L tg 10 0 (X 10 0)) (e13_2 : ew_in X L tg 13 ln (X 13 ln)) (hnl2 : nl ≤ 32) (qnl : A 0 0 6 = nI nl) (hl9 : ln < nl) (qfl : ¬ A 10 0 ln = 0) (hs : ¬ sx < 0) (hs2 : sx ≤ 14) (hs3 : 6 < sx) (hb6 : b < 6) (qfd : A 13 ln b = 0) : MetT l yL_act wsL_act ({ frames := 13, cells := 11, slots := 2036, locals := 420 }) (tm_Pc D vwCl (tysA T) (cfC T) t0 X L tg A sz [.ref th, .int (nI b), .int (nI ln), .int sx, .int ar]) (tQ D vwCl (cfC T) X L tg A sz tmI 11 2036) := by
  refine tm_met (by decide) rfl (Nat.le_of_ble_eq_true rfl) ?_
  intro p e s m below meth c ls hx hb hr hts hown hlocks hml hex hV hK hN hT hS hA hl hsz
  subst hsz
  have hVs := hV
  have hl : lv_has ls 7 [(0, .ref th), (1, .int (nI b)), (2, .int (nI ln)), (3, .int sx), (4, .int ar)] := hl
  refine lv_aload_n hx hb dL_act_0 rfl (lv_at hl 0 rfl) ?_
  refine lv_iload_n hx hb dL_act_1 rfl (lv_at hl 2 rfl) ?_
  refine er_callq (va_runV (As := [.int (nI ln)]) (rest := []) ⟨hx, hb, hml, hown, hts⟩ (c_L_loanAt_ok l D T X L tg _ A th hth ln nl e10_1 e2_0 hnl2 qnl hl9 qfl) (cwV 1 hts gL_88 rfl rfl rfl (by decide +kernel) ⟨Nat.le_of_ble_eq_true rfl, Nat.le_of_ble_eq_true rfl⟩) (ec_preV hK hN hV hth (cC_0 _ _ _ _) rfl) rfl rfl hl.1 rfl (lv_room (Nat.le_of_ble_eq_true rfl)) dL_act_2 ⟨Nat.le_of_ble_eq_true rfl, Nat.le_of_ble_eq_true rfl⟩) hV hS hA (fun r u H locs hp hV hS => ?_)
  obtain ⟨rfl, eu9⟩ := hp
  rw [eu9] at hV
  refine lv_astore (lv' := [(5, .ref (X 2 ln)), (0, .ref th), (1, .int (nI b)), (2, .int (nI ln)), (3, .int sx), (4, .int ar)]) hx hb dL_act_5 hl (by decide) rfl (fun ls hl => ?_)
  refine lv_aload hx hb dL_act_7 (lv_at hl 0 rfl) ?_
  refine lv_ifnull hx hb dL_act_9 ?_
  refine lv_iload_n hx hb dL_act_12 rfl (lv_at hl 4 rfl) ?_
  refine lv_if_lt (tgt := 22) hx hb dL_act_13 rfl (fun h9 => absurd h9 hs) (fun _ => ?_)
  refine lv_iload_n hx hb dL_act_16 rfl (lv_at hl 4 rfl) ?_
  refine lv_bipush (v := 14) hx hb dL_act_17 (by decide) ?_
  refine lv_icmp_le (tgt := 32) hx hb dL_act_19 rfl (fun _ => ?_) (fun h9 => absurd hs2 h9)
  refine lv_iload_n hx hb dL_act_32 rfl (lv_at hl 4 rfl) ?_
  refine lv_bipush (v := 6) hx hb dL_act_33 (by decide) ?_
  refine lv_icmp_gt (tgt := 86) hx hb dL_act_35 rfl (fun _ => ?_) (fun h9 => absurd hs3 h9)
  refine lv_aload hx hb dL_act_86 (lv_at hl 0 rfl) ?_
  refine lv_iload_n hx hb dL_act_88 rfl (lv_at hl 2 rfl) ?_
  refine er_callq (va_runV (As := [.int (nI b)]) (rest := []) ⟨hx, hb, hml, hown, hts⟩ (c_Loan_dealWith_no l D T X L tg _ A ln (X 2 ln) e2_0 b e13_2 hb6 qfd) (cwV 1 hts gL_116 rfl rfl rfl (by decide +kernel) ⟨Nat.le_of_ble_eq_true rfl, Nat.le_of_ble_eq_true rfl⟩) (ec_preV hK hN hV e2_0 (cC_2 _ _ _ _) rfl) rfl rfl hl.1 rfl (lv_room (Nat.le_of_ble_eq_true rfl)) dL_act_89 ⟨Nat.le_of_ble_eq_true rfl, Nat.le_of_ble_eq_true rfl⟩) hV hS hA (fun r u H locs hp hV hS => ?_)
  obtain ⟨rfl, eu9⟩ := hp
  rw [eu9] at hV
  refine lv_astoreN (lv' := [(6, .null), (5, .ref (X 2 ln)), (0, .ref th), (1, .int (nI b)), (2, .int (nI ln)), (3, .int sx), (4, .int ar)]) hx hb dL_act_92 hl (by decide) rfl (fun ls hl => ?_)
  refine lv_aloadN hx hb dL_act_94 (lv_at hl 0 rfl) ?_
  refine lv_ifnonnullN hx hb dL_act_96 ?_
  exact th_row (cls := tmI) (tx := "the library is none of the suppliers") (kc := 50) (ks := 120) (ic := 54) hx hb hfl hown hlocks hml hl.1 hex hV hT hVs hS (hts _ kw_475) (hts _ kw_476) (hts _ kw_8) (by decide +kernel) (fun w hw => List.mem_append_left _ hw) (by decide +kernel) dL_act_99 dL_act_102 dL_act_103 dL_act_105 dL_act_108 (Nat.le_of_ble_eq_true rfl) (Nat.le_of_ble_eq_true rfl) (Nat.le_of_ble_eq_true rfl) (Nat.le_of_ble_eq_true rfl) (Nat.le_of_ble_eq_true rfl) (Nat.le_of_ble_eq_true rfl)

set_option maxHeartbeats 4000000 in
set_option maxRecDepth 100000 in
theorem t_act_accept_no (l : Launch) (hfl : l.flags = pinnedFlags ++ [noTraceFlag]) (D : va_G) (T : Nat → ClassId) (t0 : Nat × Nat) (X : Nat → Nat → Nat) (L : List Nat) (tg : Nat → Nat × Nat) (sz : Nat) (A : ew_R) (th : Nat) (hth : ew_in X L tg 0 0 th) (rq : Nat) (ln : Nat) (ar : Int32) (nl : Nat) (e3_0 : ew_in X L tg 3 ln (X 3 ln)) (e2_1 : ew_in X L tg 2 ln (X 2 ln)) (e10_2 : ew_in X L tg 10 0 (X 10 0)) (hst : ¬ A 3 ln 0 = 1) (hrq : rq < 6) (q1 : A 2 ln 1 = nI rq) (hnl2 : nl ≤ 32) (qnl : A 0 0 6 = nI nl) (hl9 : ln < nl) (qfl : ¬ A 10 0 ln = 0) : MetT l yL_act wsL_act ({ frames := 13, cells := 11, slots := 2036, locals := 420 }) (tm_Pc D vwCl (tysA T) (cfC T) t0 X L tg A sz [.ref th, .int (nI rq), .int (nI ln), .int 0, .int ar]) (tQ D vwCl (cfC T) X L tg A sz tmS 11 2036) := by
  refine tm_met (by decide) rfl (Nat.le_of_ble_eq_true rfl) ?_
  intro p e s m below meth c ls hx hb hr hts hown hlocks hml hex hV hK hN hT hS hA hl hsz
  subst hsz
  have hVs := hV
  have hl : lv_has ls 7 [(0, .ref th), (1, .int (nI rq)), (2, .int (nI ln)), (3, .int 0), (4, .int ar)] := hl
  refine lv_aload_n hx hb dL_act_0 rfl (lv_at hl 0 rfl) ?_
  refine lv_iload_n hx hb dL_act_1 rfl (lv_at hl 2 rfl) ?_
  refine er_callq (va_runV (As := [.int (nI ln)]) (rest := []) ⟨hx, hb, hml, hown, hts⟩ (c_L_loanAt_ok l D T X L tg _ A th hth ln nl e10_2 e2_1 hnl2 qnl hl9 qfl) (cwV 1 hts gL_88 rfl rfl rfl (by decide +kernel) ⟨Nat.le_of_ble_eq_true rfl, Nat.le_of_ble_eq_true rfl⟩) (ec_preV hK hN hV hth (cC_0 _ _ _ _) rfl) rfl rfl hl.1 rfl (lv_room (Nat.le_of_ble_eq_true rfl)) dL_act_2 ⟨Nat.le_of_ble_eq_true rfl, Nat.le_of_ble_eq_true rfl⟩) hV hS hA (fun r u H locs hp hV hS => ?_)
  obtain ⟨rfl, eu9⟩ := hp
  rw [eu9] at hV
  refine lv_astore (lv' := [(5, .ref (X 2 ln)), (0, .ref th), (1, .int (nI rq)), (2, .int (nI ln)), (3, .int 0), (4, .int ar)]) hx hb dL_act_5 hl (by decide) rfl (fun ls hl => ?_)
  refine lv_aload hx hb dL_act_7 (lv_at hl 0 rfl) ?_
  refine lv_ifnull hx hb dL_act_9 ?_
  refine lv_iload_n hx hb dL_act_12 rfl (lv_at hl 4 rfl) ?_
  refine lv_if_lt (tgt := 22) hx hb dL_act_13 rfl (fun h9 => absurd h9 (by decide)) (fun _ => ?_)
  refine lv_iload_n hx hb dL_act_16 rfl (lv_at hl 4 rfl) ?_
  refine lv_bipush (v := 14) hx hb dL_act_17 (by decide) ?_
  refine lv_icmp_le (tgt := 32) hx hb dL_act_19 rfl (fun _ => ?_) (fun h9 => absurd (by decide) h9)
  refine lv_iload_n hx hb dL_act_32 rfl (lv_at hl 4 rfl) ?_
  refine lv_bipush (v := 6) hx hb dL_act_33 (by decide) ?_
  refine lv_icmp_gt (tgt := 86) hx hb dL_act_35 rfl (fun h9 => absurd h9 (by decide)) (fun _ => ?_)
  refine lv_iload_n hx hb dL_act_38 rfl (lv_at hl 2 rfl) ?_
  refine lv_aload hx hb dL_act_39 (lv_at hl 0 rfl) ?_
  refine ew_get (v := .int (A 2 ln 1)) hx hb hts hown hK hV fL_96 e2_1 (cC_2 _ _ _ _) rfl dL_act_41 ?_
  refine lv_toe (y := nI rq) q1 ?_
  refine lv_icmp_eq (tgt := 57) hx hb dL_act_44 rfl (fun _ => ?_) (fun h9 => absurd ((nI_eq (a := rq) (b := rq) (by omega) (by omega)).mpr rfl) h9)
  refine lv_aload_n hx hb dL_act_57 rfl (lv_at hl 1 rfl) ?_
  refine lv_aload hx hb dL_act_58 (lv_at hl 0 rfl) ?_
  refine lv_iload_n hx hb dL_act_60 rfl (lv_at hl 4 rfl) ?_
  refine er_calli (va_runV (As := [.ref (X 2 ln), .int 0]) (rest := []) ⟨hx, hb, hml, hown, hts⟩ (c_L_rd_accept_no l D T X L tg _ A ln th hth (X 2 ln) e2_1 e3_0 hst) (cwV 2 hts gL_101 rfl rfl rfl (by decide +kernel) ⟨Nat.le_of_ble_eq_true rfl, Nat.le_of_ble_eq_true rfl⟩) (ec_preV hK hN hV hth (cC_0 _ _ _ _) rfl) rfl rfl hl.1 rfl (lv_room (Nat.le_of_ble_eq_true rfl)) dL_act_61 ⟨Nat.le_of_ble_eq_true rfl, Nat.le_of_ble_eq_true rfl⟩) hV hS hA (fun r u H locs hp hV hS => ?_)
  obtain ⟨rfl, eu9⟩ := hp
  rw [eu9] at hV
  refine lv_if_ne (tgt := 77) hx hb dL_act_64 rfl (fun h9 => absurd (by decide) h9) (fun _ => ?_)
  exact th_row (cls := tmS) (tx := "the requester can't do it now") (kc := 61) (ks := 105) (ic := 65) hx hb hfl hown hlocks hml hl.1 hex hV hT hVs hS (hts _ kw_542) (hts _ kw_543) (hts _ kw_9) (by decide +kernel) (fun w hw => List.mem_append_right _ hw) (by decide +kernel) dL_act_67 dL_act_70 dL_act_71 dL_act_73 dL_act_76 (Nat.le_of_ble_eq_true rfl) (Nat.le_of_ble_eq_true rfl) (Nat.le_of_ble_eq_true rfl) (Nat.le_of_ble_eq_true rfl) (Nat.le_of_ble_eq_true rfl) (Nat.le_of_ble_eq_true rfl)

set_option maxHeartbeats 4000000 in
set_option maxRecDepth 100000 in
theorem t_act_decline_no (l : Launch) (hfl : l.flags = pinnedFlags ++ [noTraceFlag]) (D : va_G) (T : Nat → ClassId) (t0 : Nat × Nat) (X : Nat → Nat → Nat) (L : List Nat) (tg : Nat → Nat × Nat) (sz : Nat) (A : ew_R) (th : Nat) (hth : ew_in X L tg 0 0 th) (rq : Nat) (ln : Nat) (ar : Int32) (nl : Nat) (e3_0 : ew_in X L tg 3 ln (X 3 ln)) (e2_1 : ew_in X L tg 2 ln (X 2 ln)) (e10_2 : ew_in X L tg 10 0 (X 10 0)) (hst : ¬ A 3 ln 0 = 1) (hrq : rq < 6) (q1 : A 2 ln 1 = nI rq) (hnl2 : nl ≤ 32) (qnl : A 0 0 6 = nI nl) (hl9 : ln < nl) (qfl : ¬ A 10 0 ln = 0) : MetT l yL_act wsL_act ({ frames := 13, cells := 11, slots := 2036, locals := 420 }) (tm_Pc D vwCl (tysA T) (cfC T) t0 X L tg A sz [.ref th, .int (nI rq), .int (nI ln), .int 1, .int ar]) (tQ D vwCl (cfC T) X L tg A sz tmS 11 2036) := by
  refine tm_met (by decide) rfl (Nat.le_of_ble_eq_true rfl) ?_
  intro p e s m below meth c ls hx hb hr hts hown hlocks hml hex hV hK hN hT hS hA hl hsz
  subst hsz
  have hVs := hV
  have hl : lv_has ls 7 [(0, .ref th), (1, .int (nI rq)), (2, .int (nI ln)), (3, .int 1), (4, .int ar)] := hl
  refine lv_aload_n hx hb dL_act_0 rfl (lv_at hl 0 rfl) ?_
  refine lv_iload_n hx hb dL_act_1 rfl (lv_at hl 2 rfl) ?_
  refine er_callq (va_runV (As := [.int (nI ln)]) (rest := []) ⟨hx, hb, hml, hown, hts⟩ (c_L_loanAt_ok l D T X L tg _ A th hth ln nl e10_2 e2_1 hnl2 qnl hl9 qfl) (cwV 1 hts gL_88 rfl rfl rfl (by decide +kernel) ⟨Nat.le_of_ble_eq_true rfl, Nat.le_of_ble_eq_true rfl⟩) (ec_preV hK hN hV hth (cC_0 _ _ _ _) rfl) rfl rfl hl.1 rfl (lv_room (Nat.le_of_ble_eq_true rfl)) dL_act_2 ⟨Nat.le_of_ble_eq_true rfl, Nat.le_of_ble_eq_true rfl⟩) hV hS hA (fun r u H locs hp hV hS => ?_)
  obtain ⟨rfl, eu9⟩ := hp
  rw [eu9] at hV
  refine lv_astore (lv' := [(5, .ref (X 2 ln)), (0, .ref th), (1, .int (nI rq)), (2, .int (nI ln)), (3, .int 1), (4, .int ar)]) hx hb dL_act_5 hl (by decide) rfl (fun ls hl => ?_)
  refine lv_aload hx hb dL_act_7 (lv_at hl 0 rfl) ?_
  refine lv_ifnull hx hb dL_act_9 ?_
  refine lv_iload_n hx hb dL_act_12 rfl (lv_at hl 4 rfl) ?_
  refine lv_if_lt (tgt := 22) hx hb dL_act_13 rfl (fun h9 => absurd h9 (by decide)) (fun _ => ?_)
  refine lv_iload_n hx hb dL_act_16 rfl (lv_at hl 4 rfl) ?_
  refine lv_bipush (v := 14) hx hb dL_act_17 (by decide) ?_
  refine lv_icmp_le (tgt := 32) hx hb dL_act_19 rfl (fun _ => ?_) (fun h9 => absurd (by decide) h9)
  refine lv_iload_n hx hb dL_act_32 rfl (lv_at hl 4 rfl) ?_
  refine lv_bipush (v := 6) hx hb dL_act_33 (by decide) ?_
  refine lv_icmp_gt (tgt := 86) hx hb dL_act_35 rfl (fun h9 => absurd h9 (by decide)) (fun _ => ?_)
  refine lv_iload_n hx hb dL_act_38 rfl (lv_at hl 2 rfl) ?_
  refine lv_aload hx hb dL_act_39 (lv_at hl 0 rfl) ?_
  refine ew_get (v := .int (A 2 ln 1)) hx hb hts hown hK hV fL_96 e2_1 (cC_2 _ _ _ _) rfl dL_act_41 ?_
  refine lv_toe (y := nI rq) q1 ?_
  refine lv_icmp_eq (tgt := 57) hx hb dL_act_44 rfl (fun _ => ?_) (fun h9 => absurd ((nI_eq (a := rq) (b := rq) (by omega) (by omega)).mpr rfl) h9)
  refine lv_aload_n hx hb dL_act_57 rfl (lv_at hl 1 rfl) ?_
  refine lv_aload hx hb dL_act_58 (lv_at hl 0 rfl) ?_
  refine lv_iload_n hx hb dL_act_60 rfl (lv_at hl 4 rfl) ?_
  refine er_calli (va_runV (As := [.ref (X 2 ln), .int 1]) (rest := []) ⟨hx, hb, hml, hown, hts⟩ (c_L_rd_decline_no l D T X L tg _ A ln th hth (X 2 ln) e2_1 e3_0 hst) (cwV 2 hts gL_101 rfl rfl rfl (by decide +kernel) ⟨Nat.le_of_ble_eq_true rfl, Nat.le_of_ble_eq_true rfl⟩) (ec_preV hK hN hV hth (cC_0 _ _ _ _) rfl) rfl rfl hl.1 rfl (lv_room (Nat.le_of_ble_eq_true rfl)) dL_act_61 ⟨Nat.le_of_ble_eq_true rfl, Nat.le_of_ble_eq_true rfl⟩) hV hS hA (fun r u H locs hp hV hS => ?_)
  obtain ⟨rfl, eu9⟩ := hp
  rw [eu9] at hV
  refine lv_if_ne (tgt := 77) hx hb dL_act_64 rfl (fun h9 => absurd (by decide) h9) (fun _ => ?_)
  exact th_row (cls := tmS) (tx := "the requester can't do it now") (kc := 61) (ks := 105) (ic := 65) hx hb hfl hown hlocks hml hl.1 hex hV hT hVs hS (hts _ kw_542) (hts _ kw_543) (hts _ kw_9) (by decide +kernel) (fun w hw => List.mem_append_right _ hw) (by decide +kernel) dL_act_67 dL_act_70 dL_act_71 dL_act_73 dL_act_76 (Nat.le_of_ble_eq_true rfl) (Nat.le_of_ble_eq_true rfl) (Nat.le_of_ble_eq_true rfl) (Nat.le_of_ble_eq_true rfl) (Nat.le_of_ble_eq_true rfl) (Nat.le_of_ble_eq_true rfl)

set_option maxHeartbeats 4000000 in
set_option maxRecDepth 100000 in
theorem t_act_cancel_no (l : Launch) (hfl : l.flags = pinnedFlags ++ [noTraceFlag]) (D : va_G) (T : Nat → ClassId) (t0 : Nat × Nat) (X : Nat → Nat → Nat) (L : List Nat) (tg : Nat → Nat × Nat) (sz : Nat) (A : ew_R) (th : Nat) (hth : ew_in X L tg 0 0 th) (rq : Nat) (ln : Nat) (ar : Int32) (nl : Nat) (e3_0 : ew_in X L tg 3 ln (X 3 ln)) (e2_1 : ew_in X L tg 2 ln (X 2 ln)) (e10_2 : ew_in X L tg 10 0 (X 10 0)) (h0 : ¬ A 3 ln 0 = 0) (h1 : ¬ A 3 ln 0 = 1) (h2 : ¬ A 3 ln 0 = 2) (hrq : rq < 6) (q1 : A 2 ln 1 = nI rq) (hnl2 : nl ≤ 32) (qnl : A 0 0 6 = nI nl) (hl9 : ln < nl) (qfl : ¬ A 10 0 ln = 0) : MetT l yL_act wsL_act ({ frames := 13, cells := 11, slots := 2036, locals := 420 }) (tm_Pc D vwCl (tysA T) (cfC T) t0 X L tg A sz [.ref th, .int (nI rq), .int (nI ln), .int 2, .int ar]) (tQ D vwCl (cfC T) X L tg A sz tmS 11 2036) := by
  refine tm_met (by decide) rfl (Nat.le_of_ble_eq_true rfl) ?_
  intro p e s m below meth c ls hx hb hr hts hown hlocks hml hex hV hK hN hT hS hA hl hsz
  subst hsz
  have hVs := hV
  have hl : lv_has ls 7 [(0, .ref th), (1, .int (nI rq)), (2, .int (nI ln)), (3, .int 2), (4, .int ar)] := hl
  refine lv_aload_n hx hb dL_act_0 rfl (lv_at hl 0 rfl) ?_
  refine lv_iload_n hx hb dL_act_1 rfl (lv_at hl 2 rfl) ?_
  refine er_callq (va_runV (As := [.int (nI ln)]) (rest := []) ⟨hx, hb, hml, hown, hts⟩ (c_L_loanAt_ok l D T X L tg _ A th hth ln nl e10_2 e2_1 hnl2 qnl hl9 qfl) (cwV 1 hts gL_88 rfl rfl rfl (by decide +kernel) ⟨Nat.le_of_ble_eq_true rfl, Nat.le_of_ble_eq_true rfl⟩) (ec_preV hK hN hV hth (cC_0 _ _ _ _) rfl) rfl rfl hl.1 rfl (lv_room (Nat.le_of_ble_eq_true rfl)) dL_act_2 ⟨Nat.le_of_ble_eq_true rfl, Nat.le_of_ble_eq_true rfl⟩) hV hS hA (fun r u H locs hp hV hS => ?_)
  obtain ⟨rfl, eu9⟩ := hp
  rw [eu9] at hV
  refine lv_astore (lv' := [(5, .ref (X 2 ln)), (0, .ref th), (1, .int (nI rq)), (2, .int (nI ln)), (3, .int 2), (4, .int ar)]) hx hb dL_act_5 hl (by decide) rfl (fun ls hl => ?_)
  refine lv_aload hx hb dL_act_7 (lv_at hl 0 rfl) ?_
  refine lv_ifnull hx hb dL_act_9 ?_
  refine lv_iload_n hx hb dL_act_12 rfl (lv_at hl 4 rfl) ?_
  refine lv_if_lt (tgt := 22) hx hb dL_act_13 rfl (fun h9 => absurd h9 (by decide)) (fun _ => ?_)
  refine lv_iload_n hx hb dL_act_16 rfl (lv_at hl 4 rfl) ?_
  refine lv_bipush (v := 14) hx hb dL_act_17 (by decide) ?_
  refine lv_icmp_le (tgt := 32) hx hb dL_act_19 rfl (fun _ => ?_) (fun h9 => absurd (by decide) h9)
  refine lv_iload_n hx hb dL_act_32 rfl (lv_at hl 4 rfl) ?_
  refine lv_bipush (v := 6) hx hb dL_act_33 (by decide) ?_
  refine lv_icmp_gt (tgt := 86) hx hb dL_act_35 rfl (fun h9 => absurd h9 (by decide)) (fun _ => ?_)
  refine lv_iload_n hx hb dL_act_38 rfl (lv_at hl 2 rfl) ?_
  refine lv_aload hx hb dL_act_39 (lv_at hl 0 rfl) ?_
  refine ew_get (v := .int (A 2 ln 1)) hx hb hts hown hK hV fL_96 e2_1 (cC_2 _ _ _ _) rfl dL_act_41 ?_
  refine lv_toe (y := nI rq) q1 ?_
  refine lv_icmp_eq (tgt := 57) hx hb dL_act_44 rfl (fun _ => ?_) (fun h9 => absurd ((nI_eq (a := rq) (b := rq) (by omega) (by omega)).mpr rfl) h9)
  refine lv_aload_n hx hb dL_act_57 rfl (lv_at hl 1 rfl) ?_
  refine lv_aload hx hb dL_act_58 (lv_at hl 0 rfl) ?_
  refine lv_iload_n hx hb dL_act_60 rfl (lv_at hl 4 rfl) ?_
  refine er_calli (va_runV (As := [.ref (X 2 ln), .int 2]) (rest := []) ⟨hx, hb, hml, hown, hts⟩ (c_L_rd_cancel_no l D T X L tg _ A ln th hth (X 2 ln) e2_1 e3_0 h0 h1 h2) (cwV 2 hts gL_101 rfl rfl rfl (by decide +kernel) ⟨Nat.le_of_ble_eq_true rfl, Nat.le_of_ble_eq_true rfl⟩) (ec_preV hK hN hV hth (cC_0 _ _ _ _) rfl) rfl rfl hl.1 rfl (lv_room (Nat.le_of_ble_eq_true rfl)) dL_act_61 ⟨Nat.le_of_ble_eq_true rfl, Nat.le_of_ble_eq_true rfl⟩) hV hS hA (fun r u H locs hp hV hS => ?_)
  obtain ⟨rfl, eu9⟩ := hp
  rw [eu9] at hV
  refine lv_if_ne (tgt := 77) hx hb dL_act_64 rfl (fun h9 => absurd (by decide) h9) (fun _ => ?_)
  exact th_row (cls := tmS) (tx := "the requester can't do it now") (kc := 61) (ks := 105) (ic := 65) hx hb hfl hown hlocks hml hl.1 hex hV hT hVs hS (hts _ kw_542) (hts _ kw_543) (hts _ kw_9) (by decide +kernel) (fun w hw => List.mem_append_right _ hw) (by decide +kernel) dL_act_67 dL_act_70 dL_act_71 dL_act_73 dL_act_76 (Nat.le_of_ble_eq_true rfl) (Nat.le_of_ble_eq_true rfl) (Nat.le_of_ble_eq_true rfl) (Nat.le_of_ble_eq_true rfl) (Nat.le_of_ble_eq_true rfl) (Nat.le_of_ble_eq_true rfl)

set_option maxHeartbeats 4000000 in
set_option maxRecDepth 100000 in
theorem t_act_receive_no (l : Launch) (hfl : l.flags = pinnedFlags ++ [noTraceFlag]) (D : va_G) (T : Nat → ClassId) (t0 : Nat × Nat) (X : Nat → Nat → Nat) (L : List Nat) (tg : Nat → Nat × Nat) (sz : Nat) (A : ew_R) (th : Nat) (hth : ew_in X L tg 0 0 th) (rq : Nat) (ln : Nat) (ar : Int32) (nl : Nat) (e3_0 : ew_in X L tg 3 ln (X 3 ln)) (e2_1 : ew_in X L tg 2 ln (X 2 ln)) (e10_2 : ew_in X L tg 10 0 (X 10 0)) (hst : ¬ A 3 ln 0 = 3) (hrq : rq < 6) (q1 : A 2 ln 1 = nI rq) (hnl2 : nl ≤ 32) (qnl : A 0 0 6 = nI nl) (hl9 : ln < nl) (qfl : ¬ A 10 0 ln = 0) : MetT l yL_act wsL_act ({ frames := 13, cells := 11, slots := 2036, locals := 420 }) (tm_Pc D vwCl (tysA T) (cfC T) t0 X L tg A sz [.ref th, .int (nI rq), .int (nI ln), .int 3, .int ar]) (tQ D vwCl (cfC T) X L tg A sz tmS 11 2036) := by
  refine tm_met (by decide) rfl (Nat.le_of_ble_eq_true rfl) ?_
  intro p e s m below meth c ls hx hb hr hts hown hlocks hml hex hV hK hN hT hS hA hl hsz
  subst hsz
  have hVs := hV
  have hl : lv_has ls 7 [(0, .ref th), (1, .int (nI rq)), (2, .int (nI ln)), (3, .int 3), (4, .int ar)] := hl
  refine lv_aload_n hx hb dL_act_0 rfl (lv_at hl 0 rfl) ?_
  refine lv_iload_n hx hb dL_act_1 rfl (lv_at hl 2 rfl) ?_
  refine er_callq (va_runV (As := [.int (nI ln)]) (rest := []) ⟨hx, hb, hml, hown, hts⟩ (c_L_loanAt_ok l D T X L tg _ A th hth ln nl e10_2 e2_1 hnl2 qnl hl9 qfl) (cwV 1 hts gL_88 rfl rfl rfl (by decide +kernel) ⟨Nat.le_of_ble_eq_true rfl, Nat.le_of_ble_eq_true rfl⟩) (ec_preV hK hN hV hth (cC_0 _ _ _ _) rfl) rfl rfl hl.1 rfl (lv_room (Nat.le_of_ble_eq_true rfl)) dL_act_2 ⟨Nat.le_of_ble_eq_true rfl, Nat.le_of_ble_eq_true rfl⟩) hV hS hA (fun r u H locs hp hV hS => ?_)
  obtain ⟨rfl, eu9⟩ := hp
  rw [eu9] at hV
  refine lv_astore (lv' := [(5, .ref (X 2 ln)), (0, .ref th), (1, .int (nI rq)), (2, .int (nI ln)), (3, .int 3), (4, .int ar)]) hx hb dL_act_5 hl (by decide) rfl (fun ls hl => ?_)
  refine lv_aload hx hb dL_act_7 (lv_at hl 0 rfl) ?_
  refine lv_ifnull hx hb dL_act_9 ?_
  refine lv_iload_n hx hb dL_act_12 rfl (lv_at hl 4 rfl) ?_
  refine lv_if_lt (tgt := 22) hx hb dL_act_13 rfl (fun h9 => absurd h9 (by decide)) (fun _ => ?_)
  refine lv_iload_n hx hb dL_act_16 rfl (lv_at hl 4 rfl) ?_
  refine lv_bipush (v := 14) hx hb dL_act_17 (by decide) ?_
  refine lv_icmp_le (tgt := 32) hx hb dL_act_19 rfl (fun _ => ?_) (fun h9 => absurd (by decide) h9)
  refine lv_iload_n hx hb dL_act_32 rfl (lv_at hl 4 rfl) ?_
  refine lv_bipush (v := 6) hx hb dL_act_33 (by decide) ?_
  refine lv_icmp_gt (tgt := 86) hx hb dL_act_35 rfl (fun h9 => absurd h9 (by decide)) (fun _ => ?_)
  refine lv_iload_n hx hb dL_act_38 rfl (lv_at hl 2 rfl) ?_
  refine lv_aload hx hb dL_act_39 (lv_at hl 0 rfl) ?_
  refine ew_get (v := .int (A 2 ln 1)) hx hb hts hown hK hV fL_96 e2_1 (cC_2 _ _ _ _) rfl dL_act_41 ?_
  refine lv_toe (y := nI rq) q1 ?_
  refine lv_icmp_eq (tgt := 57) hx hb dL_act_44 rfl (fun _ => ?_) (fun h9 => absurd ((nI_eq (a := rq) (b := rq) (by omega) (by omega)).mpr rfl) h9)
  refine lv_aload_n hx hb dL_act_57 rfl (lv_at hl 1 rfl) ?_
  refine lv_aload hx hb dL_act_58 (lv_at hl 0 rfl) ?_
  refine lv_iload_n hx hb dL_act_60 rfl (lv_at hl 4 rfl) ?_
  refine er_calli (va_runV (As := [.ref (X 2 ln), .int 3]) (rest := []) ⟨hx, hb, hml, hown, hts⟩ (c_L_rd_receive_no l D T X L tg _ A ln th hth (X 2 ln) e2_1 e3_0 hst) (cwV 2 hts gL_101 rfl rfl rfl (by decide +kernel) ⟨Nat.le_of_ble_eq_true rfl, Nat.le_of_ble_eq_true rfl⟩) (ec_preV hK hN hV hth (cC_0 _ _ _ _) rfl) rfl rfl hl.1 rfl (lv_room (Nat.le_of_ble_eq_true rfl)) dL_act_61 ⟨Nat.le_of_ble_eq_true rfl, Nat.le_of_ble_eq_true rfl⟩) hV hS hA (fun r u H locs hp hV hS => ?_)
  obtain ⟨rfl, eu9⟩ := hp
  rw [eu9] at hV
  refine lv_if_ne (tgt := 77) hx hb dL_act_64 rfl (fun h9 => absurd (by decide) h9) (fun _ => ?_)
  exact th_row (cls := tmS) (tx := "the requester can't do it now") (kc := 61) (ks := 105) (ic := 65) hx hb hfl hown hlocks hml hl.1 hex hV hT hVs hS (hts _ kw_542) (hts _ kw_543) (hts _ kw_9) (by decide +kernel) (fun w hw => List.mem_append_right _ hw) (by decide +kernel) dL_act_67 dL_act_70 dL_act_71 dL_act_73 dL_act_76 (Nat.le_of_ble_eq_true rfl) (Nat.le_of_ble_eq_true rfl) (Nat.le_of_ble_eq_true rfl) (Nat.le_of_ble_eq_true rfl) (Nat.le_of_ble_eq_true rfl) (Nat.le_of_ble_eq_true rfl)

set_option maxHeartbeats 4000000 in
set_option maxRecDepth 100000 in
theorem t_act_renew_no (l : Launch) (hfl : l.flags = pinnedFlags ++ [noTraceFlag]) (D : va_G) (T : Nat → ClassId) (t0 : Nat × Nat) (X : Nat → Nat → Nat) (L : List Nat) (tg : Nat → Nat × Nat) (sz : Nat) (A : ew_R) (th : Nat) (hth : ew_in X L tg 0 0 th) (rq : Nat) (ln : Nat) (ar : Int32) (nl : Nat) (e3_0 : ew_in X L tg 3 ln (X 3 ln)) (e2_1 : ew_in X L tg 2 ln (X 2 ln)) (e10_2 : ew_in X L tg 10 0 (X 10 0)) (hst : ¬ A 3 ln 0 = 4) (hrq : rq < 6) (q1 : A 2 ln 1 = nI rq) (hnl2 : nl ≤ 32) (qnl : A 0 0 6 = nI nl) (hl9 : ln < nl) (qfl : ¬ A 10 0 ln = 0) : MetT l yL_act wsL_act ({ frames := 13, cells := 11, slots := 2036, locals := 420 }) (tm_Pc D vwCl (tysA T) (cfC T) t0 X L tg A sz [.ref th, .int (nI rq), .int (nI ln), .int 4, .int ar]) (tQ D vwCl (cfC T) X L tg A sz tmS 11 2036) := by
  refine tm_met (by decide) rfl (Nat.le_of_ble_eq_true rfl) ?_
  intro p e s m below meth c ls hx hb hr hts hown hlocks hml hex hV hK hN hT hS hA hl hsz
  subst hsz
  have hVs := hV
  have hl : lv_has ls 7 [(0, .ref th), (1, .int (nI rq)), (2, .int (nI ln)), (3, .int 4), (4, .int ar)] := hl
  refine lv_aload_n hx hb dL_act_0 rfl (lv_at hl 0 rfl) ?_
  refine lv_iload_n hx hb dL_act_1 rfl (lv_at hl 2 rfl) ?_
  refine er_callq (va_runV (As := [.int (nI ln)]) (rest := []) ⟨hx, hb, hml, hown, hts⟩ (c_L_loanAt_ok l D T X L tg _ A th hth ln nl e10_2 e2_1 hnl2 qnl hl9 qfl) (cwV 1 hts gL_88 rfl rfl rfl (by decide +kernel) ⟨Nat.le_of_ble_eq_true rfl, Nat.le_of_ble_eq_true rfl⟩) (ec_preV hK hN hV hth (cC_0 _ _ _ _) rfl) rfl rfl hl.1 rfl (lv_room (Nat.le_of_ble_eq_true rfl)) dL_act_2 ⟨Nat.le_of_ble_eq_true rfl, Nat.le_of_ble_eq_true rfl⟩) hV hS hA (fun r u H locs hp hV hS => ?_)
  obtain ⟨rfl, eu9⟩ := hp
  rw [eu9] at hV
  refine lv_astore (lv' := [(5, .ref (X 2 ln)), (0, .ref th), (1, .int (nI rq)), (2, .int (nI ln)), (3, .int 4), (4, .int ar)]) hx hb dL_act_5 hl (by decide) rfl (fun ls hl => ?_)
  refine lv_aload hx hb dL_act_7 (lv_at hl 0 rfl) ?_
  refine lv_ifnull hx hb dL_act_9 ?_
  refine lv_iload_n hx hb dL_act_12 rfl (lv_at hl 4 rfl) ?_
  refine lv_if_lt (tgt := 22) hx hb dL_act_13 rfl (fun h9 => absurd h9 (by decide)) (fun _ => ?_)
  refine lv_iload_n hx hb dL_act_16 rfl (lv_at hl 4 rfl) ?_
  refine lv_bipush (v := 14) hx hb dL_act_17 (by decide) ?_
  refine lv_icmp_le (tgt := 32) hx hb dL_act_19 rfl (fun _ => ?_) (fun h9 => absurd (by decide) h9)
  refine lv_iload_n hx hb dL_act_32 rfl (lv_at hl 4 rfl) ?_
  refine lv_bipush (v := 6) hx hb dL_act_33 (by decide) ?_
  refine lv_icmp_gt (tgt := 86) hx hb dL_act_35 rfl (fun h9 => absurd h9 (by decide)) (fun _ => ?_)
  refine lv_iload_n hx hb dL_act_38 rfl (lv_at hl 2 rfl) ?_
  refine lv_aload hx hb dL_act_39 (lv_at hl 0 rfl) ?_
  refine ew_get (v := .int (A 2 ln 1)) hx hb hts hown hK hV fL_96 e2_1 (cC_2 _ _ _ _) rfl dL_act_41 ?_
  refine lv_toe (y := nI rq) q1 ?_
  refine lv_icmp_eq (tgt := 57) hx hb dL_act_44 rfl (fun _ => ?_) (fun h9 => absurd ((nI_eq (a := rq) (b := rq) (by omega) (by omega)).mpr rfl) h9)
  refine lv_aload_n hx hb dL_act_57 rfl (lv_at hl 1 rfl) ?_
  refine lv_aload hx hb dL_act_58 (lv_at hl 0 rfl) ?_
  refine lv_iload_n hx hb dL_act_60 rfl (lv_at hl 4 rfl) ?_
  refine er_calli (va_runV (As := [.ref (X 2 ln), .int 4]) (rest := []) ⟨hx, hb, hml, hown, hts⟩ (c_L_rd_renew_no l D T X L tg _ A ln th hth (X 2 ln) e2_1 e3_0 hst) (cwV 2 hts gL_101 rfl rfl rfl (by decide +kernel) ⟨Nat.le_of_ble_eq_true rfl, Nat.le_of_ble_eq_true rfl⟩) (ec_preV hK hN hV hth (cC_0 _ _ _ _) rfl) rfl rfl hl.1 rfl (lv_room (Nat.le_of_ble_eq_true rfl)) dL_act_61 ⟨Nat.le_of_ble_eq_true rfl, Nat.le_of_ble_eq_true rfl⟩) hV hS hA (fun r u H locs hp hV hS => ?_)
  obtain ⟨rfl, eu9⟩ := hp
  rw [eu9] at hV
  refine lv_if_ne (tgt := 77) hx hb dL_act_64 rfl (fun h9 => absurd (by decide) h9) (fun _ => ?_)
  exact th_row (cls := tmS) (tx := "the requester can't do it now") (kc := 61) (ks := 105) (ic := 65) hx hb hfl hown hlocks hml hl.1 hex hV hT hVs hS (hts _ kw_542) (hts _ kw_543) (hts _ kw_9) (by decide +kernel) (fun w hw => List.mem_append_right _ hw) (by decide +kernel) dL_act_67 dL_act_70 dL_act_71 dL_act_73 dL_act_76 (Nat.le_of_ble_eq_true rfl) (Nat.le_of_ble_eq_true rfl) (Nat.le_of_ble_eq_true rfl) (Nat.le_of_ble_eq_true rfl) (Nat.le_of_ble_eq_true rfl) (Nat.le_of_ble_eq_true rfl)

set_option maxHeartbeats 4000000 in
set_option maxRecDepth 100000 in
theorem t_act_giveBack_no (l : Launch) (hfl : l.flags = pinnedFlags ++ [noTraceFlag]) (D : va_G) (T : Nat → ClassId) (t0 : Nat × Nat) (X : Nat → Nat → Nat) (L : List Nat) (tg : Nat → Nat × Nat) (sz : Nat) (A : ew_R) (th : Nat) (hth : ew_in X L tg 0 0 th) (rq : Nat) (ln : Nat) (ar : Int32) (nl : Nat) (e3_0 : ew_in X L tg 3 ln (X 3 ln)) (e2_1 : ew_in X L tg 2 ln (X 2 ln)) (e10_2 : ew_in X L tg 10 0 (X 10 0)) (hst : z_Asker_hasCopy (A 3 ln 0) = 0) (hrq : rq < 6) (q1 : A 2 ln 1 = nI rq) (hnl2 : nl ≤ 32) (qnl : A 0 0 6 = nI nl) (hl9 : ln < nl) (qfl : ¬ A 10 0 ln = 0) : MetT l yL_act wsL_act ({ frames := 13, cells := 11, slots := 2036, locals := 420 }) (tm_Pc D vwCl (tysA T) (cfC T) t0 X L tg A sz [.ref th, .int (nI rq), .int (nI ln), .int 5, .int ar]) (tQ D vwCl (cfC T) X L tg A sz tmS 11 2036) := by
  refine tm_met (by decide) rfl (Nat.le_of_ble_eq_true rfl) ?_
  intro p e s m below meth c ls hx hb hr hts hown hlocks hml hex hV hK hN hT hS hA hl hsz
  subst hsz
  have hVs := hV
  have hl : lv_has ls 7 [(0, .ref th), (1, .int (nI rq)), (2, .int (nI ln)), (3, .int 5), (4, .int ar)] := hl
  refine lv_aload_n hx hb dL_act_0 rfl (lv_at hl 0 rfl) ?_
  refine lv_iload_n hx hb dL_act_1 rfl (lv_at hl 2 rfl) ?_
  refine er_callq (va_runV (As := [.int (nI ln)]) (rest := []) ⟨hx, hb, hml, hown, hts⟩ (c_L_loanAt_ok l D T X L tg _ A th hth ln nl e10_2 e2_1 hnl2 qnl hl9 qfl) (cwV 1 hts gL_88 rfl rfl rfl (by decide +kernel) ⟨Nat.le_of_ble_eq_true rfl, Nat.le_of_ble_eq_true rfl⟩) (ec_preV hK hN hV hth (cC_0 _ _ _ _) rfl) rfl rfl hl.1 rfl (lv_room (Nat.le_of_ble_eq_true rfl)) dL_act_2 ⟨Nat.le_of_ble_eq_true rfl, Nat.le_of_ble_eq_true rfl⟩) hV hS hA (fun r u H locs hp hV hS => ?_)
  obtain ⟨rfl, eu9⟩ := hp
  rw [eu9] at hV
  refine lv_astore (lv' := [(5, .ref (X 2 ln)), (0, .ref th), (1, .int (nI rq)), (2, .int (nI ln)), (3, .int 5), (4, .int ar)]) hx hb dL_act_5 hl (by decide) rfl (fun ls hl => ?_)
  refine lv_aload hx hb dL_act_7 (lv_at hl 0 rfl) ?_
  refine lv_ifnull hx hb dL_act_9 ?_
  refine lv_iload_n hx hb dL_act_12 rfl (lv_at hl 4 rfl) ?_
  refine lv_if_lt (tgt := 22) hx hb dL_act_13 rfl (fun h9 => absurd h9 (by decide)) (fun _ => ?_)
  refine lv_iload_n hx hb dL_act_16 rfl (lv_at hl 4 rfl) ?_
  refine lv_bipush (v := 14) hx hb dL_act_17 (by decide) ?_
  refine lv_icmp_le (tgt := 32) hx hb dL_act_19 rfl (fun _ => ?_) (fun h9 => absurd (by decide) h9)
  refine lv_iload_n hx hb dL_act_32 rfl (lv_at hl 4 rfl) ?_
  refine lv_bipush (v := 6) hx hb dL_act_33 (by decide) ?_
  refine lv_icmp_gt (tgt := 86) hx hb dL_act_35 rfl (fun h9 => absurd h9 (by decide)) (fun _ => ?_)
  refine lv_iload_n hx hb dL_act_38 rfl (lv_at hl 2 rfl) ?_
  refine lv_aload hx hb dL_act_39 (lv_at hl 0 rfl) ?_
  refine ew_get (v := .int (A 2 ln 1)) hx hb hts hown hK hV fL_96 e2_1 (cC_2 _ _ _ _) rfl dL_act_41 ?_
  refine lv_toe (y := nI rq) q1 ?_
  refine lv_icmp_eq (tgt := 57) hx hb dL_act_44 rfl (fun _ => ?_) (fun h9 => absurd ((nI_eq (a := rq) (b := rq) (by omega) (by omega)).mpr rfl) h9)
  refine lv_aload_n hx hb dL_act_57 rfl (lv_at hl 1 rfl) ?_
  refine lv_aload hx hb dL_act_58 (lv_at hl 0 rfl) ?_
  refine lv_iload_n hx hb dL_act_60 rfl (lv_at hl 4 rfl) ?_
  refine er_calli (va_runV (As := [.ref (X 2 ln), .int 5]) (rest := []) ⟨hx, hb, hml, hown, hts⟩ (c_L_rd_giveBack_no l D T X L tg _ A ln th hth (X 2 ln) e2_1 e3_0 hst) (cwV 2 hts gL_101 rfl rfl rfl (by decide +kernel) ⟨Nat.le_of_ble_eq_true rfl, Nat.le_of_ble_eq_true rfl⟩) (ec_preV hK hN hV hth (cC_0 _ _ _ _) rfl) rfl rfl hl.1 rfl (lv_room (Nat.le_of_ble_eq_true rfl)) dL_act_61 ⟨Nat.le_of_ble_eq_true rfl, Nat.le_of_ble_eq_true rfl⟩) hV hS hA (fun r u H locs hp hV hS => ?_)
  obtain ⟨rfl, eu9⟩ := hp
  rw [eu9] at hV
  refine lv_if_ne (tgt := 77) hx hb dL_act_64 rfl (fun h9 => absurd (by decide) h9) (fun _ => ?_)
  exact th_row (cls := tmS) (tx := "the requester can't do it now") (kc := 61) (ks := 105) (ic := 65) hx hb hfl hown hlocks hml hl.1 hex hV hT hVs hS (hts _ kw_542) (hts _ kw_543) (hts _ kw_9) (by decide +kernel) (fun w hw => List.mem_append_right _ hw) (by decide +kernel) dL_act_67 dL_act_70 dL_act_71 dL_act_73 dL_act_76 (Nat.le_of_ble_eq_true rfl) (Nat.le_of_ble_eq_true rfl) (Nat.le_of_ble_eq_true rfl) (Nat.le_of_ble_eq_true rfl) (Nat.le_of_ble_eq_true rfl) (Nat.le_of_ble_eq_true rfl)

set_option maxHeartbeats 4000000 in
set_option maxRecDepth 100000 in
theorem t_act_lose_no (l : Launch) (hfl : l.flags = pinnedFlags ++ [noTraceFlag]) (D : va_G) (T : Nat → ClassId) (t0 : Nat × Nat) (X : Nat → Nat → Nat) (L : List Nat) (tg : Nat → Nat × Nat) (sz : Nat) (A : ew_R) (th : Nat) (hth : ew_in X L tg 0 0 th) (rq : Nat) (ln : Nat) (ar : Int32) (nl : Nat) (e3_0 : ew_in X L tg 3 ln (X 3 ln)) (e2_1 : ew_in X L tg 2 ln (X 2 ln)) (e10_2 : ew_in X L tg 10 0 (X 10 0)) (hst : z_Asker_hasCopy (A 3 ln 0) = 0) (hrq : rq < 6) (q1 : A 2 ln 1 = nI rq) (hnl2 : nl ≤ 32) (qnl : A 0 0 6 = nI nl) (hl9 : ln < nl) (qfl : ¬ A 10 0 ln = 0) : MetT l yL_act wsL_act ({ frames := 13, cells := 11, slots := 2036, locals := 420 }) (tm_Pc D vwCl (tysA T) (cfC T) t0 X L tg A sz [.ref th, .int (nI rq), .int (nI ln), .int 6, .int ar]) (tQ D vwCl (cfC T) X L tg A sz tmS 11 2036) := by
  refine tm_met (by decide) rfl (Nat.le_of_ble_eq_true rfl) ?_
  intro p e s m below meth c ls hx hb hr hts hown hlocks hml hex hV hK hN hT hS hA hl hsz
  subst hsz
  have hVs := hV
  have hl : lv_has ls 7 [(0, .ref th), (1, .int (nI rq)), (2, .int (nI ln)), (3, .int 6), (4, .int ar)] := hl
  refine lv_aload_n hx hb dL_act_0 rfl (lv_at hl 0 rfl) ?_
  refine lv_iload_n hx hb dL_act_1 rfl (lv_at hl 2 rfl) ?_
  refine er_callq (va_runV (As := [.int (nI ln)]) (rest := []) ⟨hx, hb, hml, hown, hts⟩ (c_L_loanAt_ok l D T X L tg _ A th hth ln nl e10_2 e2_1 hnl2 qnl hl9 qfl) (cwV 1 hts gL_88 rfl rfl rfl (by decide +kernel) ⟨Nat.le_of_ble_eq_true rfl, Nat.le_of_ble_eq_true rfl⟩) (ec_preV hK hN hV hth (cC_0 _ _ _ _) rfl) rfl rfl hl.1 rfl (lv_room (Nat.le_of_ble_eq_true rfl)) dL_act_2 ⟨Nat.le_of_ble_eq_true rfl, Nat.le_of_ble_eq_true rfl⟩) hV hS hA (fun r u H locs hp hV hS => ?_)
  obtain ⟨rfl, eu9⟩ := hp
  rw [eu9] at hV
  refine lv_astore (lv' := [(5, .ref (X 2 ln)), (0, .ref th), (1, .int (nI rq)), (2, .int (nI ln)), (3, .int 6), (4, .int ar)]) hx hb dL_act_5 hl (by decide) rfl (fun ls hl => ?_)
  refine lv_aload hx hb dL_act_7 (lv_at hl 0 rfl) ?_
  refine lv_ifnull hx hb dL_act_9 ?_
  refine lv_iload_n hx hb dL_act_12 rfl (lv_at hl 4 rfl) ?_
  refine lv_if_lt (tgt := 22) hx hb dL_act_13 rfl (fun h9 => absurd h9 (by decide)) (fun _ => ?_)
  refine lv_iload_n hx hb dL_act_16 rfl (lv_at hl 4 rfl) ?_
  refine lv_bipush (v := 14) hx hb dL_act_17 (by decide) ?_
  refine lv_icmp_le (tgt := 32) hx hb dL_act_19 rfl (fun _ => ?_) (fun h9 => absurd (by decide) h9)
  refine lv_iload_n hx hb dL_act_32 rfl (lv_at hl 4 rfl) ?_
  refine lv_bipush (v := 6) hx hb dL_act_33 (by decide) ?_
  refine lv_icmp_gt (tgt := 86) hx hb dL_act_35 rfl (fun h9 => absurd h9 (by decide)) (fun _ => ?_)
  refine lv_iload_n hx hb dL_act_38 rfl (lv_at hl 2 rfl) ?_
  refine lv_aload hx hb dL_act_39 (lv_at hl 0 rfl) ?_
  refine ew_get (v := .int (A 2 ln 1)) hx hb hts hown hK hV fL_96 e2_1 (cC_2 _ _ _ _) rfl dL_act_41 ?_
  refine lv_toe (y := nI rq) q1 ?_
  refine lv_icmp_eq (tgt := 57) hx hb dL_act_44 rfl (fun _ => ?_) (fun h9 => absurd ((nI_eq (a := rq) (b := rq) (by omega) (by omega)).mpr rfl) h9)
  refine lv_aload_n hx hb dL_act_57 rfl (lv_at hl 1 rfl) ?_
  refine lv_aload hx hb dL_act_58 (lv_at hl 0 rfl) ?_
  refine lv_iload_n hx hb dL_act_60 rfl (lv_at hl 4 rfl) ?_
  refine er_calli (va_runV (As := [.ref (X 2 ln), .int 6]) (rest := []) ⟨hx, hb, hml, hown, hts⟩ (c_L_rd_lose_no l D T X L tg _ A ln th hth (X 2 ln) e2_1 e3_0 hst) (cwV 2 hts gL_101 rfl rfl rfl (by decide +kernel) ⟨Nat.le_of_ble_eq_true rfl, Nat.le_of_ble_eq_true rfl⟩) (ec_preV hK hN hV hth (cC_0 _ _ _ _) rfl) rfl rfl hl.1 rfl (lv_room (Nat.le_of_ble_eq_true rfl)) dL_act_61 ⟨Nat.le_of_ble_eq_true rfl, Nat.le_of_ble_eq_true rfl⟩) hV hS hA (fun r u H locs hp hV hS => ?_)
  obtain ⟨rfl, eu9⟩ := hp
  rw [eu9] at hV
  refine lv_if_ne (tgt := 77) hx hb dL_act_64 rfl (fun h9 => absurd (by decide) h9) (fun _ => ?_)
  exact th_row (cls := tmS) (tx := "the requester can't do it now") (kc := 61) (ks := 105) (ic := 65) hx hb hfl hown hlocks hml hl.1 hex hV hT hVs hS (hts _ kw_542) (hts _ kw_543) (hts _ kw_9) (by decide +kernel) (fun w hw => List.mem_append_right _ hw) (by decide +kernel) dL_act_67 dL_act_70 dL_act_71 dL_act_73 dL_act_76 (Nat.le_of_ble_eq_true rfl) (Nat.le_of_ble_eq_true rfl) (Nat.le_of_ble_eq_true rfl) (Nat.le_of_ble_eq_true rfl) (Nat.le_of_ble_eq_true rfl) (Nat.le_of_ble_eq_true rfl)

set_option maxHeartbeats 4000000 in
set_option maxRecDepth 100000 in
theorem t_act_offer_no1 (l : Launch) (hfl : l.flags = pinnedFlags ++ [noTraceFlag]) (D : va_G) (T : Nat → ClassId) (t0 : Nat × Nat) (X : Nat → Nat → Nat) (L : List Nat) (tg : Nat → Nat × Nat) (sz : Nat) (A : ew_R) (th : Nat) (hth : ew_in X L tg 0 0 th) (b : Nat) (ln : Nat) (pr : Int32) (nl : Nat) (e17_0 : ew_in X L tg 17 (6 * ln + b) (X 17 (6 * ln + b))) (e2_1 : ew_in X L tg 2 ln (X 2 ln)) (e10_2 : ew_in X L tg 10 0 (X 10 0)) (e13_3 : ew_in X L tg 13 ln (X 13 ln)) (e4_4 : ew_in X L tg 4 (6 * ln + b) (X 4 (6 * ln + b))) (hst : ¬ A 17 (6 * ln + b) 0 = 1) (hb6 : b < 6) (qfd : ¬ A 13 ln b = 0) (hnl2 : nl ≤ 32) (qnl : A 0 0 6 = nI nl) (hl9 : ln < nl) (qfl : ¬ A 10 0 ln = 0) : MetT l yL_act wsL_act ({ frames := 13, cells := 11, slots := 2036, locals := 420 }) (tm_Pc D vwCl (tysA T) (cfC T) t0 X L tg A sz [.ref th, .int (nI b), .int (nI ln), .int 8, .int pr]) (tQ D vwCl (cfC T) X L tg A sz tmS 11 2036) := by
  refine tm_met (by decide) rfl (Nat.le_of_ble_eq_true rfl) ?_
  intro p e s m below meth c ls hx hb hr hts hown hlocks hml hex hV hK hN hT hS hA hl hsz
  subst hsz
  have hVs := hV
  have hl : lv_has ls 7 [(0, .ref th), (1, .int (nI b)), (2, .int (nI ln)), (3, .int 8), (4, .int pr)] := hl
  refine lv_aload_n hx hb dL_act_0 rfl (lv_at hl 0 rfl) ?_
  refine lv_iload_n hx hb dL_act_1 rfl (lv_at hl 2 rfl) ?_
  refine er_callq (va_runV (As := [.int (nI ln)]) (rest := []) ⟨hx, hb, hml, hown, hts⟩ (c_L_loanAt_ok l D T X L tg _ A th hth ln nl e10_2 e2_1 hnl2 qnl hl9 qfl) (cwV 1 hts gL_88 rfl rfl rfl (by decide +kernel) ⟨Nat.le_of_ble_eq_true rfl, Nat.le_of_ble_eq_true rfl⟩) (ec_preV hK hN hV hth (cC_0 _ _ _ _) rfl) rfl rfl hl.1 rfl (lv_room (Nat.le_of_ble_eq_true rfl)) dL_act_2 ⟨Nat.le_of_ble_eq_true rfl, Nat.le_of_ble_eq_true rfl⟩) hV hS hA (fun r u H locs hp hV hS => ?_)
  obtain ⟨rfl, eu9⟩ := hp
  rw [eu9] at hV
  refine lv_astore (lv' := [(5, .ref (X 2 ln)), (0, .ref th), (1, .int (nI b)), (2, .int (nI ln)), (3, .int 8), (4, .int pr)]) hx hb dL_act_5 hl (by decide) rfl (fun ls hl => ?_)
  refine lv_aload hx hb dL_act_7 (lv_at hl 0 rfl) ?_
  refine lv_ifnull hx hb dL_act_9 ?_
  refine lv_iload_n hx hb dL_act_12 rfl (lv_at hl 4 rfl) ?_
  refine lv_if_lt (tgt := 22) hx hb dL_act_13 rfl (fun h9 => absurd h9 (by decide)) (fun _ => ?_)
  refine lv_iload_n hx hb dL_act_16 rfl (lv_at hl 4 rfl) ?_
  refine lv_bipush (v := 14) hx hb dL_act_17 (by decide) ?_
  refine lv_icmp_le (tgt := 32) hx hb dL_act_19 rfl (fun _ => ?_) (fun h9 => absurd (by decide) h9)
  refine lv_iload_n hx hb dL_act_32 rfl (lv_at hl 4 rfl) ?_
  refine lv_bipush (v := 6) hx hb dL_act_33 (by decide) ?_
  refine lv_icmp_gt (tgt := 86) hx hb dL_act_35 rfl (fun _ => ?_) (fun h9 => absurd (by decide) h9)
  refine lv_aload hx hb dL_act_86 (lv_at hl 0 rfl) ?_
  refine lv_iload_n hx hb dL_act_88 rfl (lv_at hl 2 rfl) ?_
  refine er_callq (va_runV (As := [.int (nI b)]) (rest := []) ⟨hx, hb, hml, hown, hts⟩ (c_Loan_dealWith_ok l D T X L tg _ A ln (X 2 ln) e2_1 b e13_3 e4_4 hb6 qfd) (cwV 1 hts gL_116 rfl rfl rfl (by decide +kernel) ⟨Nat.le_of_ble_eq_true rfl, Nat.le_of_ble_eq_true rfl⟩) (ec_preV hK hN hV e2_1 (cC_2 _ _ _ _) rfl) rfl rfl hl.1 rfl (lv_room (Nat.le_of_ble_eq_true rfl)) dL_act_89 ⟨Nat.le_of_ble_eq_true rfl, Nat.le_of_ble_eq_true rfl⟩) hV hS hA (fun r u H locs hp hV hS => ?_)
  obtain ⟨rfl, eu9⟩ := hp
  rw [eu9] at hV
  refine lv_astore (lv' := [(6, .ref (X 4 (6 * ln + b))), (5, .ref (X 2 ln)), (0, .ref th), (1, .int (nI b)), (2, .int (nI ln)), (3, .int 8), (4, .int pr)]) hx hb dL_act_92 hl (by decide) rfl (fun ls hl => ?_)
  refine lv_aload hx hb dL_act_94 (lv_at hl 0 rfl) ?_
  refine lv_ifnonnull (tgt := 109) hx hb dL_act_96 rfl ?_
  refine lv_aload_n hx hb dL_act_109 rfl (lv_at hl 2 rfl) ?_
  refine lv_aload hx hb dL_act_110 (lv_at hl 1 rfl) ?_
  refine lv_aload hx hb dL_act_112 (lv_at hl 0 rfl) ?_
  refine lv_iload_n hx hb dL_act_114 rfl (lv_at hl 5 rfl) ?_
  refine lv_iload hx hb dL_act_115 (lv_at hl 6 rfl) ?_
  refine er_calli (va_runV (As := [.ref (X 2 ln), .ref (X 4 (6 * ln + b)), .int 8, .int pr]) (rest := []) ⟨hx, hb, hml, hown, hts⟩ (c_L_sd_offer_no1 l D T X L tg _ A ln (6 * ln + b) th hth (X 2 ln) e2_1 (X 4 (6 * ln + b)) e4_4 pr e17_0 hst) (cwV 4 hts gL_122 rfl rfl rfl (by decide +kernel) ⟨Nat.le_of_ble_eq_true rfl, Nat.le_of_ble_eq_true rfl⟩) (ec_preV hK hN hV hth (cC_0 _ _ _ _) rfl) rfl rfl hl.1 rfl (lv_room (Nat.le_of_ble_eq_true rfl)) dL_act_117 ⟨Nat.le_of_ble_eq_true rfl, Nat.le_of_ble_eq_true rfl⟩) hV hS hA (fun r u H locs hp hV hS => ?_)
  obtain ⟨rfl, eu9⟩ := hp
  rw [eu9] at hV
  refine lv_if_ne (tgt := 133) hx hb dL_act_120 rfl (fun h9 => absurd (by decide) h9) (fun _ => ?_)
  exact th_row (cls := tmS) (tx := "the supplier can't do it now") (kc := 61) (ks := 126) (ic := 65) hx hb hfl hown hlocks hml hl.1 hex hV hT hVs hS (hts _ kw_542) (hts _ kw_543) (hts _ kw_9) (by decide +kernel) (fun w hw => List.mem_append_right _ hw) (by decide +kernel) dL_act_123 dL_act_126 dL_act_127 dL_act_129 dL_act_132 (Nat.le_of_ble_eq_true rfl) (Nat.le_of_ble_eq_true rfl) (Nat.le_of_ble_eq_true rfl) (Nat.le_of_ble_eq_true rfl) (Nat.le_of_ble_eq_true rfl) (Nat.le_of_ble_eq_true rfl)

set_option maxHeartbeats 4000000 in
set_option maxRecDepth 100000 in
theorem t_act_offer_no2 (l : Launch) (hfl : l.flags = pinnedFlags ++ [noTraceFlag]) (D : va_G) (T : Nat → ClassId) (t0 : Nat × Nat) (X : Nat → Nat → Nat) (L : List Nat) (tg : Nat → Nat × Nat) (sz : Nat) (A : ew_R) (th : Nat) (hth : ew_in X L tg 0 0 th) (b : Nat) (ln : Nat) (pr : Int32) (nl : Nat) (e17_0 : ew_in X L tg 17 (6 * ln + b) (X 17 (6 * ln + b))) (e2_1 : ew_in X L tg 2 ln (X 2 ln)) (e10_2 : ew_in X L tg 10 0 (X 10 0)) (e13_3 : ew_in X L tg 13 ln (X 13 ln)) (e4_4 : ew_in X L tg 4 (6 * ln + b) (X 4 (6 * ln + b))) (hst : A 17 (6 * ln + b) 0 = 1) (hp0 : ¬ A 17 (6 * ln + b) 2 = 0) (hb6 : b < 6) (qfd : ¬ A 13 ln b = 0) (hnl2 : nl ≤ 32) (qnl : A 0 0 6 = nI nl) (hl9 : ln < nl) (qfl : ¬ A 10 0 ln = 0) : MetT l yL_act wsL_act ({ frames := 13, cells := 11, slots := 2036, locals := 420 }) (tm_Pc D vwCl (tysA T) (cfC T) t0 X L tg A sz [.ref th, .int (nI b), .int (nI ln), .int 8, .int pr]) (tQ D vwCl (cfC T) X L tg A sz tmS 11 2036) := by
  refine tm_met (by decide) rfl (Nat.le_of_ble_eq_true rfl) ?_
  intro p e s m below meth c ls hx hb hr hts hown hlocks hml hex hV hK hN hT hS hA hl hsz
  subst hsz
  have hVs := hV
  have hl : lv_has ls 7 [(0, .ref th), (1, .int (nI b)), (2, .int (nI ln)), (3, .int 8), (4, .int pr)] := hl
  refine lv_aload_n hx hb dL_act_0 rfl (lv_at hl 0 rfl) ?_
  refine lv_iload_n hx hb dL_act_1 rfl (lv_at hl 2 rfl) ?_
  refine er_callq (va_runV (As := [.int (nI ln)]) (rest := []) ⟨hx, hb, hml, hown, hts⟩ (c_L_loanAt_ok l D T X L tg _ A th hth ln nl e10_2 e2_1 hnl2 qnl hl9 qfl) (cwV 1 hts gL_88 rfl rfl rfl (by decide +kernel) ⟨Nat.le_of_ble_eq_true rfl, Nat.le_of_ble_eq_true rfl⟩) (ec_preV hK hN hV hth (cC_0 _ _ _ _) rfl) rfl rfl hl.1 rfl (lv_room (Nat.le_of_ble_eq_true rfl)) dL_act_2 ⟨Nat.le_of_ble_eq_true rfl, Nat.le_of_ble_eq_true rfl⟩) hV hS hA (fun r u H locs hp hV hS => ?_)
  obtain ⟨rfl, eu9⟩ := hp
  rw [eu9] at hV
  refine lv_astore (lv' := [(5, .ref (X 2 ln)), (0, .ref th), (1, .int (nI b)), (2, .int (nI ln)), (3, .int 8), (4, .int pr)]) hx hb dL_act_5 hl (by decide) rfl (fun ls hl => ?_)
  refine lv_aload hx hb dL_act_7 (lv_at hl 0 rfl) ?_
  refine lv_ifnull hx hb dL_act_9 ?_
  refine lv_iload_n hx hb dL_act_12 rfl (lv_at hl 4 rfl) ?_
  refine lv_if_lt (tgt := 22) hx hb dL_act_13 rfl (fun h9 => absurd h9 (by decide)) (fun _ => ?_)
  refine lv_iload_n hx hb dL_act_16 rfl (lv_at hl 4 rfl) ?_
  refine lv_bipush (v := 14) hx hb dL_act_17 (by decide) ?_
  refine lv_icmp_le (tgt := 32) hx hb dL_act_19 rfl (fun _ => ?_) (fun h9 => absurd (by decide) h9)
  refine lv_iload_n hx hb dL_act_32 rfl (lv_at hl 4 rfl) ?_
  refine lv_bipush (v := 6) hx hb dL_act_33 (by decide) ?_
  refine lv_icmp_gt (tgt := 86) hx hb dL_act_35 rfl (fun _ => ?_) (fun h9 => absurd (by decide) h9)
  refine lv_aload hx hb dL_act_86 (lv_at hl 0 rfl) ?_
  refine lv_iload_n hx hb dL_act_88 rfl (lv_at hl 2 rfl) ?_
  refine er_callq (va_runV (As := [.int (nI b)]) (rest := []) ⟨hx, hb, hml, hown, hts⟩ (c_Loan_dealWith_ok l D T X L tg _ A ln (X 2 ln) e2_1 b e13_3 e4_4 hb6 qfd) (cwV 1 hts gL_116 rfl rfl rfl (by decide +kernel) ⟨Nat.le_of_ble_eq_true rfl, Nat.le_of_ble_eq_true rfl⟩) (ec_preV hK hN hV e2_1 (cC_2 _ _ _ _) rfl) rfl rfl hl.1 rfl (lv_room (Nat.le_of_ble_eq_true rfl)) dL_act_89 ⟨Nat.le_of_ble_eq_true rfl, Nat.le_of_ble_eq_true rfl⟩) hV hS hA (fun r u H locs hp hV hS => ?_)
  obtain ⟨rfl, eu9⟩ := hp
  rw [eu9] at hV
  refine lv_astore (lv' := [(6, .ref (X 4 (6 * ln + b))), (5, .ref (X 2 ln)), (0, .ref th), (1, .int (nI b)), (2, .int (nI ln)), (3, .int 8), (4, .int pr)]) hx hb dL_act_92 hl (by decide) rfl (fun ls hl => ?_)
  refine lv_aload hx hb dL_act_94 (lv_at hl 0 rfl) ?_
  refine lv_ifnonnull (tgt := 109) hx hb dL_act_96 rfl ?_
  refine lv_aload_n hx hb dL_act_109 rfl (lv_at hl 2 rfl) ?_
  refine lv_aload hx hb dL_act_110 (lv_at hl 1 rfl) ?_
  refine lv_aload hx hb dL_act_112 (lv_at hl 0 rfl) ?_
  refine lv_iload_n hx hb dL_act_114 rfl (lv_at hl 5 rfl) ?_
  refine lv_iload hx hb dL_act_115 (lv_at hl 6 rfl) ?_
  refine er_calli (va_runV (As := [.ref (X 2 ln), .ref (X 4 (6 * ln + b)), .int 8, .int pr]) (rest := []) ⟨hx, hb, hml, hown, hts⟩ (c_L_sd_offer_no2 l D T X L tg _ A ln (6 * ln + b) th hth (X 2 ln) e2_1 (X 4 (6 * ln + b)) e4_4 pr e17_0 hst hp0) (cwV 4 hts gL_122 rfl rfl rfl (by decide +kernel) ⟨Nat.le_of_ble_eq_true rfl, Nat.le_of_ble_eq_true rfl⟩) (ec_preV hK hN hV hth (cC_0 _ _ _ _) rfl) rfl rfl hl.1 rfl (lv_room (Nat.le_of_ble_eq_true rfl)) dL_act_117 ⟨Nat.le_of_ble_eq_true rfl, Nat.le_of_ble_eq_true rfl⟩) hV hS hA (fun r u H locs hp hV hS => ?_)
  obtain ⟨rfl, eu9⟩ := hp
  rw [eu9] at hV
  refine lv_if_ne (tgt := 133) hx hb dL_act_120 rfl (fun h9 => absurd (by decide) h9) (fun _ => ?_)
  exact th_row (cls := tmS) (tx := "the supplier can't do it now") (kc := 61) (ks := 126) (ic := 65) hx hb hfl hown hlocks hml hl.1 hex hV hT hVs hS (hts _ kw_542) (hts _ kw_543) (hts _ kw_9) (by decide +kernel) (fun w hw => List.mem_append_right _ hw) (by decide +kernel) dL_act_123 dL_act_126 dL_act_127 dL_act_129 dL_act_132 (Nat.le_of_ble_eq_true rfl) (Nat.le_of_ble_eq_true rfl) (Nat.le_of_ble_eq_true rfl) (Nat.le_of_ble_eq_true rfl) (Nat.le_of_ble_eq_true rfl) (Nat.le_of_ble_eq_true rfl)

set_option maxHeartbeats 4000000 in
set_option maxRecDepth 100000 in
theorem t_act_offer_no3 (l : Launch) (hfl : l.flags = pinnedFlags ++ [noTraceFlag]) (D : va_G) (T : Nat → ClassId) (t0 : Nat × Nat) (X : Nat → Nat → Nat) (L : List Nat) (tg : Nat → Nat × Nat) (sz : Nat) (A : ew_R) (th : Nat) (hth : ew_in X L tg 0 0 th) (b : Nat) (ln : Nat) (pr : Int32) (nl : Nat) (e17_0 : ew_in X L tg 17 (6 * ln + b) (X 17 (6 * ln + b))) (e2_1 : ew_in X L tg 2 ln (X 2 ln)) (e10_2 : ew_in X L tg 10 0 (X 10 0)) (e13_3 : ew_in X L tg 13 ln (X 13 ln)) (e4_4 : ew_in X L tg 4 (6 * ln + b) (X 4 (6 * ln + b))) (hp0 : A 17 (6 * ln + b) 2 = 0) (hst : A 17 (6 * ln + b) 0 = 1) (hp1 : pr < 1) (hb6 : b < 6) (qfd : ¬ A 13 ln b = 0) (hnl2 : nl ≤ 32) (qnl : A 0 0 6 = nI nl) (hl9 : ln < nl) (qfl : ¬ A 10 0 ln = 0) : MetT l yL_act wsL_act ({ frames := 13, cells := 11, slots := 2036, locals := 420 }) (tm_Pc D vwCl (tysA T) (cfC T) t0 X L tg A sz [.ref th, .int (nI b), .int (nI ln), .int 8, .int pr]) (tQ D vwCl (cfC T) X L tg A sz tmS 11 2036) := by
  refine tm_met (by decide) rfl (Nat.le_of_ble_eq_true rfl) ?_
  intro p e s m below meth c ls hx hb hr hts hown hlocks hml hex hV hK hN hT hS hA hl hsz
  subst hsz
  have hVs := hV
  have hl : lv_has ls 7 [(0, .ref th), (1, .int (nI b)), (2, .int (nI ln)), (3, .int 8), (4, .int pr)] := hl
  refine lv_aload_n hx hb dL_act_0 rfl (lv_at hl 0 rfl) ?_
  refine lv_iload_n hx hb dL_act_1 rfl (lv_at hl 2 rfl) ?_
  refine er_callq (va_runV (As := [.int (nI ln)]) (rest := []) ⟨hx, hb, hml, hown, hts⟩ (c_L_loanAt_ok l D T X L tg _ A th hth ln nl e10_2 e2_1 hnl2 qnl hl9 qfl) (cwV 1 hts gL_88 rfl rfl rfl (by decide +kernel) ⟨Nat.le_of_ble_eq_true rfl, Nat.le_of_ble_eq_true rfl⟩) (ec_preV hK hN hV hth (cC_0 _ _ _ _) rfl) rfl rfl hl.1 rfl (lv_room (Nat.le_of_ble_eq_true rfl)) dL_act_2 ⟨Nat.le_of_ble_eq_true rfl, Nat.le_of_ble_eq_true rfl⟩) hV hS hA (fun r u H locs hp hV hS => ?_)
  obtain ⟨rfl, eu9⟩ := hp
  rw [eu9] at hV
  refine lv_astore (lv' := [(5, .ref (X 2 ln)), (0, .ref th), (1, .int (nI b)), (2, .int (nI ln)), (3, .int 8), (4, .int pr)]) hx hb dL_act_5 hl (by decide) rfl (fun ls hl => ?_)
  refine lv_aload hx hb dL_act_7 (lv_at hl 0 rfl) ?_
  refine lv_ifnull hx hb dL_act_9 ?_
  refine lv_iload_n hx hb dL_act_12 rfl (lv_at hl 4 rfl) ?_
  refine lv_if_lt (tgt := 22) hx hb dL_act_13 rfl (fun h9 => absurd h9 (by decide)) (fun _ => ?_)
  refine lv_iload_n hx hb dL_act_16 rfl (lv_at hl 4 rfl) ?_
  refine lv_bipush (v := 14) hx hb dL_act_17 (by decide) ?_
  refine lv_icmp_le (tgt := 32) hx hb dL_act_19 rfl (fun _ => ?_) (fun h9 => absurd (by decide) h9)
  refine lv_iload_n hx hb dL_act_32 rfl (lv_at hl 4 rfl) ?_
  refine lv_bipush (v := 6) hx hb dL_act_33 (by decide) ?_
  refine lv_icmp_gt (tgt := 86) hx hb dL_act_35 rfl (fun _ => ?_) (fun h9 => absurd (by decide) h9)
  refine lv_aload hx hb dL_act_86 (lv_at hl 0 rfl) ?_
  refine lv_iload_n hx hb dL_act_88 rfl (lv_at hl 2 rfl) ?_
  refine er_callq (va_runV (As := [.int (nI b)]) (rest := []) ⟨hx, hb, hml, hown, hts⟩ (c_Loan_dealWith_ok l D T X L tg _ A ln (X 2 ln) e2_1 b e13_3 e4_4 hb6 qfd) (cwV 1 hts gL_116 rfl rfl rfl (by decide +kernel) ⟨Nat.le_of_ble_eq_true rfl, Nat.le_of_ble_eq_true rfl⟩) (ec_preV hK hN hV e2_1 (cC_2 _ _ _ _) rfl) rfl rfl hl.1 rfl (lv_room (Nat.le_of_ble_eq_true rfl)) dL_act_89 ⟨Nat.le_of_ble_eq_true rfl, Nat.le_of_ble_eq_true rfl⟩) hV hS hA (fun r u H locs hp hV hS => ?_)
  obtain ⟨rfl, eu9⟩ := hp
  rw [eu9] at hV
  refine lv_astore (lv' := [(6, .ref (X 4 (6 * ln + b))), (5, .ref (X 2 ln)), (0, .ref th), (1, .int (nI b)), (2, .int (nI ln)), (3, .int 8), (4, .int pr)]) hx hb dL_act_92 hl (by decide) rfl (fun ls hl => ?_)
  refine lv_aload hx hb dL_act_94 (lv_at hl 0 rfl) ?_
  refine lv_ifnonnull (tgt := 109) hx hb dL_act_96 rfl ?_
  refine lv_aload_n hx hb dL_act_109 rfl (lv_at hl 2 rfl) ?_
  refine lv_aload hx hb dL_act_110 (lv_at hl 1 rfl) ?_
  refine lv_aload hx hb dL_act_112 (lv_at hl 0 rfl) ?_
  refine lv_iload_n hx hb dL_act_114 rfl (lv_at hl 5 rfl) ?_
  refine lv_iload hx hb dL_act_115 (lv_at hl 6 rfl) ?_
  refine er_calli (va_runV (As := [.ref (X 2 ln), .ref (X 4 (6 * ln + b)), .int 8, .int pr]) (rest := []) ⟨hx, hb, hml, hown, hts⟩ (c_L_sd_offer_no3 l D T X L tg _ A ln (6 * ln + b) th hth (X 2 ln) e2_1 (X 4 (6 * ln + b)) e4_4 pr e17_0 hp0 hst hp1) (cwV 4 hts gL_122 rfl rfl rfl (by decide +kernel) ⟨Nat.le_of_ble_eq_true rfl, Nat.le_of_ble_eq_true rfl⟩) (ec_preV hK hN hV hth (cC_0 _ _ _ _) rfl) rfl rfl hl.1 rfl (lv_room (Nat.le_of_ble_eq_true rfl)) dL_act_117 ⟨Nat.le_of_ble_eq_true rfl, Nat.le_of_ble_eq_true rfl⟩) hV hS hA (fun r u H locs hp hV hS => ?_)
  obtain ⟨rfl, eu9⟩ := hp
  rw [eu9] at hV
  refine lv_if_ne (tgt := 133) hx hb dL_act_120 rfl (fun h9 => absurd (by decide) h9) (fun _ => ?_)
  exact th_row (cls := tmS) (tx := "the supplier can't do it now") (kc := 61) (ks := 126) (ic := 65) hx hb hfl hown hlocks hml hl.1 hex hV hT hVs hS (hts _ kw_542) (hts _ kw_543) (hts _ kw_9) (by decide +kernel) (fun w hw => List.mem_append_right _ hw) (by decide +kernel) dL_act_123 dL_act_126 dL_act_127 dL_act_129 dL_act_132 (Nat.le_of_ble_eq_true rfl) (Nat.le_of_ble_eq_true rfl) (Nat.le_of_ble_eq_true rfl) (Nat.le_of_ble_eq_true rfl) (Nat.le_of_ble_eq_true rfl) (Nat.le_of_ble_eq_true rfl)

set_option maxHeartbeats 4000000 in
set_option maxRecDepth 100000 in
theorem t_act_offer_no4 (l : Launch) (hfl : l.flags = pinnedFlags ++ [noTraceFlag]) (D : va_G) (T : Nat → ClassId) (t0 : Nat × Nat) (X : Nat → Nat → Nat) (L : List Nat) (tg : Nat → Nat × Nat) (sz : Nat) (A : ew_R) (th : Nat) (hth : ew_in X L tg 0 0 th) (b : Nat) (ln : Nat) (pr : Int32) (nl : Nat) (e17_0 : ew_in X L tg 17 (6 * ln + b) (X 17 (6 * ln + b))) (e2_1 : ew_in X L tg 2 ln (X 2 ln)) (e10_2 : ew_in X L tg 10 0 (X 10 0)) (e13_3 : ew_in X L tg 13 ln (X 13 ln)) (e4_4 : ew_in X L tg 4 (6 * ln + b) (X 4 (6 * ln + b))) (hp0 : A 17 (6 * ln + b) 2 = 0) (hst : A 17 (6 * ln + b) 0 = 1) (hp1 : ¬ pr < 1) (hp2 : ¬ pr ≤ 1000) (hb6 : b < 6) (qfd : ¬ A 13 ln b = 0) (hnl2 : nl ≤ 32) (qnl : A 0 0 6 = nI nl) (hl9 : ln < nl) (qfl : ¬ A 10 0 ln = 0) : MetT l yL_act wsL_act ({ frames := 13, cells := 11, slots := 2036, locals := 420 }) (tm_Pc D vwCl (tysA T) (cfC T) t0 X L tg A sz [.ref th, .int (nI b), .int (nI ln), .int 8, .int pr]) (tQ D vwCl (cfC T) X L tg A sz tmS 11 2036) := by
  refine tm_met (by decide) rfl (Nat.le_of_ble_eq_true rfl) ?_
  intro p e s m below meth c ls hx hb hr hts hown hlocks hml hex hV hK hN hT hS hA hl hsz
  subst hsz
  have hVs := hV
  have hl : lv_has ls 7 [(0, .ref th), (1, .int (nI b)), (2, .int (nI ln)), (3, .int 8), (4, .int pr)] := hl
  refine lv_aload_n hx hb dL_act_0 rfl (lv_at hl 0 rfl) ?_
  refine lv_iload_n hx hb dL_act_1 rfl (lv_at hl 2 rfl) ?_
  refine er_callq (va_runV (As := [.int (nI ln)]) (rest := []) ⟨hx, hb, hml, hown, hts⟩ (c_L_loanAt_ok l D T X L tg _ A th hth ln nl e10_2 e2_1 hnl2 qnl hl9 qfl) (cwV 1 hts gL_88 rfl rfl rfl (by decide +kernel) ⟨Nat.le_of_ble_eq_true rfl, Nat.le_of_ble_eq_true rfl⟩) (ec_preV hK hN hV hth (cC_0 _ _ _ _) rfl) rfl rfl hl.1 rfl (lv_room (Nat.le_of_ble_eq_true rfl)) dL_act_2 ⟨Nat.le_of_ble_eq_true rfl, Nat.le_of_ble_eq_true rfl⟩) hV hS hA (fun r u H locs hp hV hS => ?_)
  obtain ⟨rfl, eu9⟩ := hp
  rw [eu9] at hV
  refine lv_astore (lv' := [(5, .ref (X 2 ln)), (0, .ref th), (1, .int (nI b)), (2, .int (nI ln)), (3, .int 8), (4, .int pr)]) hx hb dL_act_5 hl (by decide) rfl (fun ls hl => ?_)
  refine lv_aload hx hb dL_act_7 (lv_at hl 0 rfl) ?_
  refine lv_ifnull hx hb dL_act_9 ?_
  refine lv_iload_n hx hb dL_act_12 rfl (lv_at hl 4 rfl) ?_
  refine lv_if_lt (tgt := 22) hx hb dL_act_13 rfl (fun h9 => absurd h9 (by decide)) (fun _ => ?_)
  refine lv_iload_n hx hb dL_act_16 rfl (lv_at hl 4 rfl) ?_
  refine lv_bipush (v := 14) hx hb dL_act_17 (by decide) ?_
  refine lv_icmp_le (tgt := 32) hx hb dL_act_19 rfl (fun _ => ?_) (fun h9 => absurd (by decide) h9)
  refine lv_iload_n hx hb dL_act_32 rfl (lv_at hl 4 rfl) ?_
  refine lv_bipush (v := 6) hx hb dL_act_33 (by decide) ?_
  refine lv_icmp_gt (tgt := 86) hx hb dL_act_35 rfl (fun _ => ?_) (fun h9 => absurd (by decide) h9)
  refine lv_aload hx hb dL_act_86 (lv_at hl 0 rfl) ?_
  refine lv_iload_n hx hb dL_act_88 rfl (lv_at hl 2 rfl) ?_
  refine er_callq (va_runV (As := [.int (nI b)]) (rest := []) ⟨hx, hb, hml, hown, hts⟩ (c_Loan_dealWith_ok l D T X L tg _ A ln (X 2 ln) e2_1 b e13_3 e4_4 hb6 qfd) (cwV 1 hts gL_116 rfl rfl rfl (by decide +kernel) ⟨Nat.le_of_ble_eq_true rfl, Nat.le_of_ble_eq_true rfl⟩) (ec_preV hK hN hV e2_1 (cC_2 _ _ _ _) rfl) rfl rfl hl.1 rfl (lv_room (Nat.le_of_ble_eq_true rfl)) dL_act_89 ⟨Nat.le_of_ble_eq_true rfl, Nat.le_of_ble_eq_true rfl⟩) hV hS hA (fun r u H locs hp hV hS => ?_)
  obtain ⟨rfl, eu9⟩ := hp
  rw [eu9] at hV
  refine lv_astore (lv' := [(6, .ref (X 4 (6 * ln + b))), (5, .ref (X 2 ln)), (0, .ref th), (1, .int (nI b)), (2, .int (nI ln)), (3, .int 8), (4, .int pr)]) hx hb dL_act_92 hl (by decide) rfl (fun ls hl => ?_)
  refine lv_aload hx hb dL_act_94 (lv_at hl 0 rfl) ?_
  refine lv_ifnonnull (tgt := 109) hx hb dL_act_96 rfl ?_
  refine lv_aload_n hx hb dL_act_109 rfl (lv_at hl 2 rfl) ?_
  refine lv_aload hx hb dL_act_110 (lv_at hl 1 rfl) ?_
  refine lv_aload hx hb dL_act_112 (lv_at hl 0 rfl) ?_
  refine lv_iload_n hx hb dL_act_114 rfl (lv_at hl 5 rfl) ?_
  refine lv_iload hx hb dL_act_115 (lv_at hl 6 rfl) ?_
  refine er_calli (va_runV (As := [.ref (X 2 ln), .ref (X 4 (6 * ln + b)), .int 8, .int pr]) (rest := []) ⟨hx, hb, hml, hown, hts⟩ (c_L_sd_offer_no4 l D T X L tg _ A ln (6 * ln + b) th hth (X 2 ln) e2_1 (X 4 (6 * ln + b)) e4_4 pr e17_0 hp0 hst hp1 hp2) (cwV 4 hts gL_122 rfl rfl rfl (by decide +kernel) ⟨Nat.le_of_ble_eq_true rfl, Nat.le_of_ble_eq_true rfl⟩) (ec_preV hK hN hV hth (cC_0 _ _ _ _) rfl) rfl rfl hl.1 rfl (lv_room (Nat.le_of_ble_eq_true rfl)) dL_act_117 ⟨Nat.le_of_ble_eq_true rfl, Nat.le_of_ble_eq_true rfl⟩) hV hS hA (fun r u H locs hp hV hS => ?_)
  obtain ⟨rfl, eu9⟩ := hp
  rw [eu9] at hV
  refine lv_if_ne (tgt := 133) hx hb dL_act_120 rfl (fun h9 => absurd (by decide) h9) (fun _ => ?_)
  exact th_row (cls := tmS) (tx := "the supplier can't do it now") (kc := 61) (ks := 126) (ic := 65) hx hb hfl hown hlocks hml hl.1 hex hV hT hVs hS (hts _ kw_542) (hts _ kw_543) (hts _ kw_9) (by decide +kernel) (fun w hw => List.mem_append_right _ hw) (by decide +kernel) dL_act_123 dL_act_126 dL_act_127 dL_act_129 dL_act_132 (Nat.le_of_ble_eq_true rfl) (Nat.le_of_ble_eq_true rfl) (Nat.le_of_ble_eq_true rfl) (Nat.le_of_ble_eq_true rfl) (Nat.le_of_ble_eq_true rfl) (Nat.le_of_ble_eq_true rfl)

set_option maxHeartbeats 4000000 in
set_option maxRecDepth 100000 in
theorem t_act_refuse_no (l : Launch) (hfl : l.flags = pinnedFlags ++ [noTraceFlag]) (D : va_G) (T : Nat → ClassId) (t0 : Nat × Nat) (X : Nat → Nat → Nat) (L : List Nat) (tg : Nat → Nat × Nat) (sz : Nat) (A : ew_R) (th : Nat) (hth : ew_in X L tg 0 0 th) (b : Nat) (ln : Nat) (ar : Int32) (nl : Nat) (e17_0 : ew_in X L tg 17 (6 * ln + b) (X 17 (6 * ln + b))) (e2_1 : ew_in X L tg 2 ln (X 2 ln)) (e10_2 : ew_in X L tg 10 0 (X 10 0)) (e13_3 : ew_in X L tg 13 ln (X 13 ln)) (e4_4 : ew_in X L tg 4 (6 * ln + b) (X 4 (6 * ln + b))) (hst : ¬ A 17 (6 * ln + b) 0 = 1) (hb6 : b < 6) (qfd : ¬ A 13 ln b = 0) (hnl2 : nl ≤ 32) (qnl : A 0 0 6 = nI nl) (hl9 : ln < nl) (qfl : ¬ A 10 0 ln = 0) : MetT l yL_act wsL_act ({ frames := 13, cells := 11, slots := 2036, locals := 420 }) (tm_Pc D vwCl (tysA T) (cfC T) t0 X L tg A sz [.ref th, .int (nI b), .int (nI ln), .int 9, .int ar]) (tQ D vwCl (cfC T) X L tg A sz tmS 11 2036) := by
  refine tm_met (by decide) rfl (Nat.le_of_ble_eq_true rfl) ?_
  intro p e s m below meth c ls hx hb hr hts hown hlocks hml hex hV hK hN hT hS hA hl hsz
  subst hsz
  have hVs := hV
  have hl : lv_has ls 7 [(0, .ref th), (1, .int (nI b)), (2, .int (nI ln)), (3, .int 9), (4, .int ar)] := hl
  refine lv_aload_n hx hb dL_act_0 rfl (lv_at hl 0 rfl) ?_
  refine lv_iload_n hx hb dL_act_1 rfl (lv_at hl 2 rfl) ?_
  refine er_callq (va_runV (As := [.int (nI ln)]) (rest := []) ⟨hx, hb, hml, hown, hts⟩ (c_L_loanAt_ok l D T X L tg _ A th hth ln nl e10_2 e2_1 hnl2 qnl hl9 qfl) (cwV 1 hts gL_88 rfl rfl rfl (by decide +kernel) ⟨Nat.le_of_ble_eq_true rfl, Nat.le_of_ble_eq_true rfl⟩) (ec_preV hK hN hV hth (cC_0 _ _ _ _) rfl) rfl rfl hl.1 rfl (lv_room (Nat.le_of_ble_eq_true rfl)) dL_act_2 ⟨Nat.le_of_ble_eq_true rfl, Nat.le_of_ble_eq_true rfl⟩) hV hS hA (fun r u H locs hp hV hS => ?_)
  obtain ⟨rfl, eu9⟩ := hp
  rw [eu9] at hV
  refine lv_astore (lv' := [(5, .ref (X 2 ln)), (0, .ref th), (1, .int (nI b)), (2, .int (nI ln)), (3, .int 9), (4, .int ar)]) hx hb dL_act_5 hl (by decide) rfl (fun ls hl => ?_)
  refine lv_aload hx hb dL_act_7 (lv_at hl 0 rfl) ?_
  refine lv_ifnull hx hb dL_act_9 ?_
  refine lv_iload_n hx hb dL_act_12 rfl (lv_at hl 4 rfl) ?_
  refine lv_if_lt (tgt := 22) hx hb dL_act_13 rfl (fun h9 => absurd h9 (by decide)) (fun _ => ?_)
  refine lv_iload_n hx hb dL_act_16 rfl (lv_at hl 4 rfl) ?_
  refine lv_bipush (v := 14) hx hb dL_act_17 (by decide) ?_
  refine lv_icmp_le (tgt := 32) hx hb dL_act_19 rfl (fun _ => ?_) (fun h9 => absurd (by decide) h9)
  refine lv_iload_n hx hb dL_act_32 rfl (lv_at hl 4 rfl) ?_
  refine lv_bipush (v := 6) hx hb dL_act_33 (by decide) ?_
  refine lv_icmp_gt (tgt := 86) hx hb dL_act_35 rfl (fun _ => ?_) (fun h9 => absurd (by decide) h9)
  refine lv_aload hx hb dL_act_86 (lv_at hl 0 rfl) ?_
  refine lv_iload_n hx hb dL_act_88 rfl (lv_at hl 2 rfl) ?_
  refine er_callq (va_runV (As := [.int (nI b)]) (rest := []) ⟨hx, hb, hml, hown, hts⟩ (c_Loan_dealWith_ok l D T X L tg _ A ln (X 2 ln) e2_1 b e13_3 e4_4 hb6 qfd) (cwV 1 hts gL_116 rfl rfl rfl (by decide +kernel) ⟨Nat.le_of_ble_eq_true rfl, Nat.le_of_ble_eq_true rfl⟩) (ec_preV hK hN hV e2_1 (cC_2 _ _ _ _) rfl) rfl rfl hl.1 rfl (lv_room (Nat.le_of_ble_eq_true rfl)) dL_act_89 ⟨Nat.le_of_ble_eq_true rfl, Nat.le_of_ble_eq_true rfl⟩) hV hS hA (fun r u H locs hp hV hS => ?_)
  obtain ⟨rfl, eu9⟩ := hp
  rw [eu9] at hV
  refine lv_astore (lv' := [(6, .ref (X 4 (6 * ln + b))), (5, .ref (X 2 ln)), (0, .ref th), (1, .int (nI b)), (2, .int (nI ln)), (3, .int 9), (4, .int ar)]) hx hb dL_act_92 hl (by decide) rfl (fun ls hl => ?_)
  refine lv_aload hx hb dL_act_94 (lv_at hl 0 rfl) ?_
  refine lv_ifnonnull (tgt := 109) hx hb dL_act_96 rfl ?_
  refine lv_aload_n hx hb dL_act_109 rfl (lv_at hl 2 rfl) ?_
  refine lv_aload hx hb dL_act_110 (lv_at hl 1 rfl) ?_
  refine lv_aload hx hb dL_act_112 (lv_at hl 0 rfl) ?_
  refine lv_iload_n hx hb dL_act_114 rfl (lv_at hl 5 rfl) ?_
  refine lv_iload hx hb dL_act_115 (lv_at hl 6 rfl) ?_
  refine er_calli (va_runV (As := [.ref (X 2 ln), .ref (X 4 (6 * ln + b)), .int 9, .int ar]) (rest := []) ⟨hx, hb, hml, hown, hts⟩ (c_L_sd_refuse_no l D T X L tg _ A ln (6 * ln + b) th hth (X 2 ln) e2_1 (X 4 (6 * ln + b)) e4_4 ar e17_0 hst) (cwV 4 hts gL_122 rfl rfl rfl (by decide +kernel) ⟨Nat.le_of_ble_eq_true rfl, Nat.le_of_ble_eq_true rfl⟩) (ec_preV hK hN hV hth (cC_0 _ _ _ _) rfl) rfl rfl hl.1 rfl (lv_room (Nat.le_of_ble_eq_true rfl)) dL_act_117 ⟨Nat.le_of_ble_eq_true rfl, Nat.le_of_ble_eq_true rfl⟩) hV hS hA (fun r u H locs hp hV hS => ?_)
  obtain ⟨rfl, eu9⟩ := hp
  rw [eu9] at hV
  refine lv_if_ne (tgt := 133) hx hb dL_act_120 rfl (fun h9 => absurd (by decide) h9) (fun _ => ?_)
  exact th_row (cls := tmS) (tx := "the supplier can't do it now") (kc := 61) (ks := 126) (ic := 65) hx hb hfl hown hlocks hml hl.1 hex hV hT hVs hS (hts _ kw_542) (hts _ kw_543) (hts _ kw_9) (by decide +kernel) (fun w hw => List.mem_append_right _ hw) (by decide +kernel) dL_act_123 dL_act_126 dL_act_127 dL_act_129 dL_act_132 (Nat.le_of_ble_eq_true rfl) (Nat.le_of_ble_eq_true rfl) (Nat.le_of_ble_eq_true rfl) (Nat.le_of_ble_eq_true rfl) (Nat.le_of_ble_eq_true rfl) (Nat.le_of_ble_eq_true rfl)

set_option maxHeartbeats 4000000 in
set_option maxRecDepth 100000 in
theorem t_act_ship_no (l : Launch) (hfl : l.flags = pinnedFlags ++ [noTraceFlag]) (D : va_G) (T : Nat → ClassId) (t0 : Nat × Nat) (X : Nat → Nat → Nat) (L : List Nat) (tg : Nat → Nat × Nat) (sz : Nat) (A : ew_R) (th : Nat) (hth : ew_in X L tg 0 0 th) (b : Nat) (ln : Nat) (ar : Int32) (nl : Nat) (e17_0 : ew_in X L tg 17 (6 * ln + b) (X 17 (6 * ln + b))) (e2_1 : ew_in X L tg 2 ln (X 2 ln)) (e10_2 : ew_in X L tg 10 0 (X 10 0)) (e13_3 : ew_in X L tg 13 ln (X 13 ln)) (e4_4 : ew_in X L tg 4 (6 * ln + b) (X 4 (6 * ln + b))) (hst : ¬ A 17 (6 * ln + b) 0 = 3) (hb6 : b < 6) (qfd : ¬ A 13 ln b = 0) (hnl2 : nl ≤ 32) (qnl : A 0 0 6 = nI nl) (hl9 : ln < nl) (qfl : ¬ A 10 0 ln = 0) : MetT l yL_act wsL_act ({ frames := 13, cells := 11, slots := 2036, locals := 420 }) (tm_Pc D vwCl (tysA T) (cfC T) t0 X L tg A sz [.ref th, .int (nI b), .int (nI ln), .int 10, .int ar]) (tQ D vwCl (cfC T) X L tg A sz tmS 11 2036) := by
  refine tm_met (by decide) rfl (Nat.le_of_ble_eq_true rfl) ?_
  intro p e s m below meth c ls hx hb hr hts hown hlocks hml hex hV hK hN hT hS hA hl hsz
  subst hsz
  have hVs := hV
  have hl : lv_has ls 7 [(0, .ref th), (1, .int (nI b)), (2, .int (nI ln)), (3, .int 10), (4, .int ar)] := hl
  refine lv_aload_n hx hb dL_act_0 rfl (lv_at hl 0 rfl) ?_
  refine lv_iload_n hx hb dL_act_1 rfl (lv_at hl 2 rfl) ?_
  refine er_callq (va_runV (As := [.int (nI ln)]) (rest := []) ⟨hx, hb, hml, hown, hts⟩ (c_L_loanAt_ok l D T X L tg _ A th hth ln nl e10_2 e2_1 hnl2 qnl hl9 qfl) (cwV 1 hts gL_88 rfl rfl rfl (by decide +kernel) ⟨Nat.le_of_ble_eq_true rfl, Nat.le_of_ble_eq_true rfl⟩) (ec_preV hK hN hV hth (cC_0 _ _ _ _) rfl) rfl rfl hl.1 rfl (lv_room (Nat.le_of_ble_eq_true rfl)) dL_act_2 ⟨Nat.le_of_ble_eq_true rfl, Nat.le_of_ble_eq_true rfl⟩) hV hS hA (fun r u H locs hp hV hS => ?_)
  obtain ⟨rfl, eu9⟩ := hp
  rw [eu9] at hV
  refine lv_astore (lv' := [(5, .ref (X 2 ln)), (0, .ref th), (1, .int (nI b)), (2, .int (nI ln)), (3, .int 10), (4, .int ar)]) hx hb dL_act_5 hl (by decide) rfl (fun ls hl => ?_)
  refine lv_aload hx hb dL_act_7 (lv_at hl 0 rfl) ?_
  refine lv_ifnull hx hb dL_act_9 ?_
  refine lv_iload_n hx hb dL_act_12 rfl (lv_at hl 4 rfl) ?_
  refine lv_if_lt (tgt := 22) hx hb dL_act_13 rfl (fun h9 => absurd h9 (by decide)) (fun _ => ?_)
  refine lv_iload_n hx hb dL_act_16 rfl (lv_at hl 4 rfl) ?_
  refine lv_bipush (v := 14) hx hb dL_act_17 (by decide) ?_
  refine lv_icmp_le (tgt := 32) hx hb dL_act_19 rfl (fun _ => ?_) (fun h9 => absurd (by decide) h9)
  refine lv_iload_n hx hb dL_act_32 rfl (lv_at hl 4 rfl) ?_
  refine lv_bipush (v := 6) hx hb dL_act_33 (by decide) ?_
  refine lv_icmp_gt (tgt := 86) hx hb dL_act_35 rfl (fun _ => ?_) (fun h9 => absurd (by decide) h9)
  refine lv_aload hx hb dL_act_86 (lv_at hl 0 rfl) ?_
  refine lv_iload_n hx hb dL_act_88 rfl (lv_at hl 2 rfl) ?_
  refine er_callq (va_runV (As := [.int (nI b)]) (rest := []) ⟨hx, hb, hml, hown, hts⟩ (c_Loan_dealWith_ok l D T X L tg _ A ln (X 2 ln) e2_1 b e13_3 e4_4 hb6 qfd) (cwV 1 hts gL_116 rfl rfl rfl (by decide +kernel) ⟨Nat.le_of_ble_eq_true rfl, Nat.le_of_ble_eq_true rfl⟩) (ec_preV hK hN hV e2_1 (cC_2 _ _ _ _) rfl) rfl rfl hl.1 rfl (lv_room (Nat.le_of_ble_eq_true rfl)) dL_act_89 ⟨Nat.le_of_ble_eq_true rfl, Nat.le_of_ble_eq_true rfl⟩) hV hS hA (fun r u H locs hp hV hS => ?_)
  obtain ⟨rfl, eu9⟩ := hp
  rw [eu9] at hV
  refine lv_astore (lv' := [(6, .ref (X 4 (6 * ln + b))), (5, .ref (X 2 ln)), (0, .ref th), (1, .int (nI b)), (2, .int (nI ln)), (3, .int 10), (4, .int ar)]) hx hb dL_act_92 hl (by decide) rfl (fun ls hl => ?_)
  refine lv_aload hx hb dL_act_94 (lv_at hl 0 rfl) ?_
  refine lv_ifnonnull (tgt := 109) hx hb dL_act_96 rfl ?_
  refine lv_aload_n hx hb dL_act_109 rfl (lv_at hl 2 rfl) ?_
  refine lv_aload hx hb dL_act_110 (lv_at hl 1 rfl) ?_
  refine lv_aload hx hb dL_act_112 (lv_at hl 0 rfl) ?_
  refine lv_iload_n hx hb dL_act_114 rfl (lv_at hl 5 rfl) ?_
  refine lv_iload hx hb dL_act_115 (lv_at hl 6 rfl) ?_
  refine er_calli (va_runV (As := [.ref (X 2 ln), .ref (X 4 (6 * ln + b)), .int 10, .int ar]) (rest := []) ⟨hx, hb, hml, hown, hts⟩ (c_L_sd_ship_no l D T X L tg _ A ln (6 * ln + b) th hth (X 2 ln) e2_1 (X 4 (6 * ln + b)) e4_4 ar e17_0 hst) (cwV 4 hts gL_122 rfl rfl rfl (by decide +kernel) ⟨Nat.le_of_ble_eq_true rfl, Nat.le_of_ble_eq_true rfl⟩) (ec_preV hK hN hV hth (cC_0 _ _ _ _) rfl) rfl rfl hl.1 rfl (lv_room (Nat.le_of_ble_eq_true rfl)) dL_act_117 ⟨Nat.le_of_ble_eq_true rfl, Nat.le_of_ble_eq_true rfl⟩) hV hS hA (fun r u H locs hp hV hS => ?_)
  obtain ⟨rfl, eu9⟩ := hp
  rw [eu9] at hV
  refine lv_if_ne (tgt := 133) hx hb dL_act_120 rfl (fun h9 => absurd (by decide) h9) (fun _ => ?_)
  exact th_row (cls := tmS) (tx := "the supplier can't do it now") (kc := 61) (ks := 126) (ic := 65) hx hb hfl hown hlocks hml hl.1 hex hV hT hVs hS (hts _ kw_542) (hts _ kw_543) (hts _ kw_9) (by decide +kernel) (fun w hw => List.mem_append_right _ hw) (by decide +kernel) dL_act_123 dL_act_126 dL_act_127 dL_act_129 dL_act_132 (Nat.le_of_ble_eq_true rfl) (Nat.le_of_ble_eq_true rfl) (Nat.le_of_ble_eq_true rfl) (Nat.le_of_ble_eq_true rfl) (Nat.le_of_ble_eq_true rfl) (Nat.le_of_ble_eq_true rfl)

set_option maxHeartbeats 4000000 in
set_option maxRecDepth 100000 in
theorem t_act_grant_no (l : Launch) (hfl : l.flags = pinnedFlags ++ [noTraceFlag]) (D : va_G) (T : Nat → ClassId) (t0 : Nat × Nat) (X : Nat → Nat → Nat) (L : List Nat) (tg : Nat → Nat × Nat) (sz : Nat) (A : ew_R) (th : Nat) (hth : ew_in X L tg 0 0 th) (b : Nat) (ln : Nat) (ar : Int32) (nl : Nat) (e17_0 : ew_in X L tg 17 (6 * ln + b) (X 17 (6 * ln + b))) (e2_1 : ew_in X L tg 2 ln (X 2 ln)) (e10_2 : ew_in X L tg 10 0 (X 10 0)) (e13_3 : ew_in X L tg 13 ln (X 13 ln)) (e4_4 : ew_in X L tg 4 (6 * ln + b) (X 4 (6 * ln + b))) (hst : ¬ A 17 (6 * ln + b) 0 = 6) (hb6 : b < 6) (qfd : ¬ A 13 ln b = 0) (hnl2 : nl ≤ 32) (qnl : A 0 0 6 = nI nl) (hl9 : ln < nl) (qfl : ¬ A 10 0 ln = 0) : MetT l yL_act wsL_act ({ frames := 13, cells := 11, slots := 2036, locals := 420 }) (tm_Pc D vwCl (tysA T) (cfC T) t0 X L tg A sz [.ref th, .int (nI b), .int (nI ln), .int 11, .int ar]) (tQ D vwCl (cfC T) X L tg A sz tmS 11 2036) := by
  refine tm_met (by decide) rfl (Nat.le_of_ble_eq_true rfl) ?_
  intro p e s m below meth c ls hx hb hr hts hown hlocks hml hex hV hK hN hT hS hA hl hsz
  subst hsz
  have hVs := hV
  have hl : lv_has ls 7 [(0, .ref th), (1, .int (nI b)), (2, .int (nI ln)), (3, .int 11), (4, .int ar)] := hl
  refine lv_aload_n hx hb dL_act_0 rfl (lv_at hl 0 rfl) ?_
  refine lv_iload_n hx hb dL_act_1 rfl (lv_at hl 2 rfl) ?_
  refine er_callq (va_runV (As := [.int (nI ln)]) (rest := []) ⟨hx, hb, hml, hown, hts⟩ (c_L_loanAt_ok l D T X L tg _ A th hth ln nl e10_2 e2_1 hnl2 qnl hl9 qfl) (cwV 1 hts gL_88 rfl rfl rfl (by decide +kernel) ⟨Nat.le_of_ble_eq_true rfl, Nat.le_of_ble_eq_true rfl⟩) (ec_preV hK hN hV hth (cC_0 _ _ _ _) rfl) rfl rfl hl.1 rfl (lv_room (Nat.le_of_ble_eq_true rfl)) dL_act_2 ⟨Nat.le_of_ble_eq_true rfl, Nat.le_of_ble_eq_true rfl⟩) hV hS hA (fun r u H locs hp hV hS => ?_)
  obtain ⟨rfl, eu9⟩ := hp
  rw [eu9] at hV
  refine lv_astore (lv' := [(5, .ref (X 2 ln)), (0, .ref th), (1, .int (nI b)), (2, .int (nI ln)), (3, .int 11), (4, .int ar)]) hx hb dL_act_5 hl (by decide) rfl (fun ls hl => ?_)
  refine lv_aload hx hb dL_act_7 (lv_at hl 0 rfl) ?_
  refine lv_ifnull hx hb dL_act_9 ?_
  refine lv_iload_n hx hb dL_act_12 rfl (lv_at hl 4 rfl) ?_
  refine lv_if_lt (tgt := 22) hx hb dL_act_13 rfl (fun h9 => absurd h9 (by decide)) (fun _ => ?_)
  refine lv_iload_n hx hb dL_act_16 rfl (lv_at hl 4 rfl) ?_
  refine lv_bipush (v := 14) hx hb dL_act_17 (by decide) ?_
  refine lv_icmp_le (tgt := 32) hx hb dL_act_19 rfl (fun _ => ?_) (fun h9 => absurd (by decide) h9)
  refine lv_iload_n hx hb dL_act_32 rfl (lv_at hl 4 rfl) ?_
  refine lv_bipush (v := 6) hx hb dL_act_33 (by decide) ?_
  refine lv_icmp_gt (tgt := 86) hx hb dL_act_35 rfl (fun _ => ?_) (fun h9 => absurd (by decide) h9)
  refine lv_aload hx hb dL_act_86 (lv_at hl 0 rfl) ?_
  refine lv_iload_n hx hb dL_act_88 rfl (lv_at hl 2 rfl) ?_
  refine er_callq (va_runV (As := [.int (nI b)]) (rest := []) ⟨hx, hb, hml, hown, hts⟩ (c_Loan_dealWith_ok l D T X L tg _ A ln (X 2 ln) e2_1 b e13_3 e4_4 hb6 qfd) (cwV 1 hts gL_116 rfl rfl rfl (by decide +kernel) ⟨Nat.le_of_ble_eq_true rfl, Nat.le_of_ble_eq_true rfl⟩) (ec_preV hK hN hV e2_1 (cC_2 _ _ _ _) rfl) rfl rfl hl.1 rfl (lv_room (Nat.le_of_ble_eq_true rfl)) dL_act_89 ⟨Nat.le_of_ble_eq_true rfl, Nat.le_of_ble_eq_true rfl⟩) hV hS hA (fun r u H locs hp hV hS => ?_)
  obtain ⟨rfl, eu9⟩ := hp
  rw [eu9] at hV
  refine lv_astore (lv' := [(6, .ref (X 4 (6 * ln + b))), (5, .ref (X 2 ln)), (0, .ref th), (1, .int (nI b)), (2, .int (nI ln)), (3, .int 11), (4, .int ar)]) hx hb dL_act_92 hl (by decide) rfl (fun ls hl => ?_)
  refine lv_aload hx hb dL_act_94 (lv_at hl 0 rfl) ?_
  refine lv_ifnonnull (tgt := 109) hx hb dL_act_96 rfl ?_
  refine lv_aload_n hx hb dL_act_109 rfl (lv_at hl 2 rfl) ?_
  refine lv_aload hx hb dL_act_110 (lv_at hl 1 rfl) ?_
  refine lv_aload hx hb dL_act_112 (lv_at hl 0 rfl) ?_
  refine lv_iload_n hx hb dL_act_114 rfl (lv_at hl 5 rfl) ?_
  refine lv_iload hx hb dL_act_115 (lv_at hl 6 rfl) ?_
  refine er_calli (va_runV (As := [.ref (X 2 ln), .ref (X 4 (6 * ln + b)), .int 11, .int ar]) (rest := []) ⟨hx, hb, hml, hown, hts⟩ (c_L_sd_grant_no l D T X L tg _ A ln (6 * ln + b) th hth (X 2 ln) e2_1 (X 4 (6 * ln + b)) e4_4 ar e17_0 hst) (cwV 4 hts gL_122 rfl rfl rfl (by decide +kernel) ⟨Nat.le_of_ble_eq_true rfl, Nat.le_of_ble_eq_true rfl⟩) (ec_preV hK hN hV hth (cC_0 _ _ _ _) rfl) rfl rfl hl.1 rfl (lv_room (Nat.le_of_ble_eq_true rfl)) dL_act_117 ⟨Nat.le_of_ble_eq_true rfl, Nat.le_of_ble_eq_true rfl⟩) hV hS hA (fun r u H locs hp hV hS => ?_)
  obtain ⟨rfl, eu9⟩ := hp
  rw [eu9] at hV
  refine lv_if_ne (tgt := 133) hx hb dL_act_120 rfl (fun h9 => absurd (by decide) h9) (fun _ => ?_)
  exact th_row (cls := tmS) (tx := "the supplier can't do it now") (kc := 61) (ks := 126) (ic := 65) hx hb hfl hown hlocks hml hl.1 hex hV hT hVs hS (hts _ kw_542) (hts _ kw_543) (hts _ kw_9) (by decide +kernel) (fun w hw => List.mem_append_right _ hw) (by decide +kernel) dL_act_123 dL_act_126 dL_act_127 dL_act_129 dL_act_132 (Nat.le_of_ble_eq_true rfl) (Nat.le_of_ble_eq_true rfl) (Nat.le_of_ble_eq_true rfl) (Nat.le_of_ble_eq_true rfl) (Nat.le_of_ble_eq_true rfl) (Nat.le_of_ble_eq_true rfl)

set_option maxHeartbeats 4000000 in
set_option maxRecDepth 100000 in
theorem t_act_grant_no3 (l : Launch) (hfl : l.flags = pinnedFlags ++ [noTraceFlag]) (D : va_G) (T : Nat → ClassId) (t0 : Nat × Nat) (X : Nat → Nat → Nat) (L : List Nat) (tg : Nat → Nat × Nat) (sz : Nat) (A : ew_R) (th : Nat) (hth : ew_in X L tg 0 0 th) (b : Nat) (ln : Nat) (ar : Int32) (nl : Nat) (e17_0 : ew_in X L tg 17 (6 * ln + b) (X 17 (6 * ln + b))) (e2_1 : ew_in X L tg 2 ln (X 2 ln)) (e10_2 : ew_in X L tg 10 0 (X 10 0)) (e13_3 : ew_in X L tg 13 ln (X 13 ln)) (e4_4 : ew_in X L tg 4 (6 * ln + b) (X 4 (6 * ln + b))) (hst : A 17 (6 * ln + b) 0 = 6) (hgr : ¬ A 4 (6 * ln + b) 5 < 3) (hb6 : b < 6) (qfd : ¬ A 13 ln b = 0) (hnl2 : nl ≤ 32) (qnl : A 0 0 6 = nI nl) (hl9 : ln < nl) (qfl : ¬ A 10 0 ln = 0) : MetT l yL_act wsL_act ({ frames := 13, cells := 11, slots := 2036, locals := 420 }) (tm_Pc D vwCl (tysA T) (cfC T) t0 X L tg A sz [.ref th, .int (nI b), .int (nI ln), .int 11, .int ar]) (tQ D vwCl (cfC T) X L tg A sz tmS 11 2036) := by
  refine tm_met (by decide) rfl (Nat.le_of_ble_eq_true rfl) ?_
  intro p e s m below meth c ls hx hb hr hts hown hlocks hml hex hV hK hN hT hS hA hl hsz
  subst hsz
  have hVs := hV
  have hl : lv_has ls 7 [(0, .ref th), (1, .int (nI b)), (2, .int (nI ln)), (3, .int 11), (4, .int ar)] := hl
  refine lv_aload_n hx hb dL_act_0 rfl (lv_at hl 0 rfl) ?_
  refine lv_iload_n hx hb dL_act_1 rfl (lv_at hl 2 rfl) ?_
  refine er_callq (va_runV (As := [.int (nI ln)]) (rest := []) ⟨hx, hb, hml, hown, hts⟩ (c_L_loanAt_ok l D T X L tg _ A th hth ln nl e10_2 e2_1 hnl2 qnl hl9 qfl) (cwV 1 hts gL_88 rfl rfl rfl (by decide +kernel) ⟨Nat.le_of_ble_eq_true rfl, Nat.le_of_ble_eq_true rfl⟩) (ec_preV hK hN hV hth (cC_0 _ _ _ _) rfl) rfl rfl hl.1 rfl (lv_room (Nat.le_of_ble_eq_true rfl)) dL_act_2 ⟨Nat.le_of_ble_eq_true rfl, Nat.le_of_ble_eq_true rfl⟩) hV hS hA (fun r u H locs hp hV hS => ?_)
  obtain ⟨rfl, eu9⟩ := hp
  rw [eu9] at hV
  refine lv_astore (lv' := [(5, .ref (X 2 ln)), (0, .ref th), (1, .int (nI b)), (2, .int (nI ln)), (3, .int 11), (4, .int ar)]) hx hb dL_act_5 hl (by decide) rfl (fun ls hl => ?_)
  refine lv_aload hx hb dL_act_7 (lv_at hl 0 rfl) ?_
  refine lv_ifnull hx hb dL_act_9 ?_
  refine lv_iload_n hx hb dL_act_12 rfl (lv_at hl 4 rfl) ?_
  refine lv_if_lt (tgt := 22) hx hb dL_act_13 rfl (fun h9 => absurd h9 (by decide)) (fun _ => ?_)
  refine lv_iload_n hx hb dL_act_16 rfl (lv_at hl 4 rfl) ?_
  refine lv_bipush (v := 14) hx hb dL_act_17 (by decide) ?_
  refine lv_icmp_le (tgt := 32) hx hb dL_act_19 rfl (fun _ => ?_) (fun h9 => absurd (by decide) h9)
  refine lv_iload_n hx hb dL_act_32 rfl (lv_at hl 4 rfl) ?_
  refine lv_bipush (v := 6) hx hb dL_act_33 (by decide) ?_
  refine lv_icmp_gt (tgt := 86) hx hb dL_act_35 rfl (fun _ => ?_) (fun h9 => absurd (by decide) h9)
  refine lv_aload hx hb dL_act_86 (lv_at hl 0 rfl) ?_
  refine lv_iload_n hx hb dL_act_88 rfl (lv_at hl 2 rfl) ?_
  refine er_callq (va_runV (As := [.int (nI b)]) (rest := []) ⟨hx, hb, hml, hown, hts⟩ (c_Loan_dealWith_ok l D T X L tg _ A ln (X 2 ln) e2_1 b e13_3 e4_4 hb6 qfd) (cwV 1 hts gL_116 rfl rfl rfl (by decide +kernel) ⟨Nat.le_of_ble_eq_true rfl, Nat.le_of_ble_eq_true rfl⟩) (ec_preV hK hN hV e2_1 (cC_2 _ _ _ _) rfl) rfl rfl hl.1 rfl (lv_room (Nat.le_of_ble_eq_true rfl)) dL_act_89 ⟨Nat.le_of_ble_eq_true rfl, Nat.le_of_ble_eq_true rfl⟩) hV hS hA (fun r u H locs hp hV hS => ?_)
  obtain ⟨rfl, eu9⟩ := hp
  rw [eu9] at hV
  refine lv_astore (lv' := [(6, .ref (X 4 (6 * ln + b))), (5, .ref (X 2 ln)), (0, .ref th), (1, .int (nI b)), (2, .int (nI ln)), (3, .int 11), (4, .int ar)]) hx hb dL_act_92 hl (by decide) rfl (fun ls hl => ?_)
  refine lv_aload hx hb dL_act_94 (lv_at hl 0 rfl) ?_
  refine lv_ifnonnull (tgt := 109) hx hb dL_act_96 rfl ?_
  refine lv_aload_n hx hb dL_act_109 rfl (lv_at hl 2 rfl) ?_
  refine lv_aload hx hb dL_act_110 (lv_at hl 1 rfl) ?_
  refine lv_aload hx hb dL_act_112 (lv_at hl 0 rfl) ?_
  refine lv_iload_n hx hb dL_act_114 rfl (lv_at hl 5 rfl) ?_
  refine lv_iload hx hb dL_act_115 (lv_at hl 6 rfl) ?_
  refine er_calli (va_runV (As := [.ref (X 2 ln), .ref (X 4 (6 * ln + b)), .int 11, .int ar]) (rest := []) ⟨hx, hb, hml, hown, hts⟩ (c_L_sd_grant_no3 l D T X L tg _ A ln (6 * ln + b) th hth (X 2 ln) e2_1 (X 4 (6 * ln + b)) e4_4 ar e17_0 hst hgr) (cwV 4 hts gL_122 rfl rfl rfl (by decide +kernel) ⟨Nat.le_of_ble_eq_true rfl, Nat.le_of_ble_eq_true rfl⟩) (ec_preV hK hN hV hth (cC_0 _ _ _ _) rfl) rfl rfl hl.1 rfl (lv_room (Nat.le_of_ble_eq_true rfl)) dL_act_117 ⟨Nat.le_of_ble_eq_true rfl, Nat.le_of_ble_eq_true rfl⟩) hV hS hA (fun r u H locs hp hV hS => ?_)
  obtain ⟨rfl, eu9⟩ := hp
  rw [eu9] at hV
  refine lv_if_ne (tgt := 133) hx hb dL_act_120 rfl (fun h9 => absurd (by decide) h9) (fun _ => ?_)
  exact th_row (cls := tmS) (tx := "the supplier can't do it now") (kc := 61) (ks := 126) (ic := 65) hx hb hfl hown hlocks hml hl.1 hex hV hT hVs hS (hts _ kw_542) (hts _ kw_543) (hts _ kw_9) (by decide +kernel) (fun w hw => List.mem_append_right _ hw) (by decide +kernel) dL_act_123 dL_act_126 dL_act_127 dL_act_129 dL_act_132 (Nat.le_of_ble_eq_true rfl) (Nat.le_of_ble_eq_true rfl) (Nat.le_of_ble_eq_true rfl) (Nat.le_of_ble_eq_true rfl) (Nat.le_of_ble_eq_true rfl) (Nat.le_of_ble_eq_true rfl)

set_option maxHeartbeats 4000000 in
set_option maxRecDepth 100000 in
theorem t_act_deny_no (l : Launch) (hfl : l.flags = pinnedFlags ++ [noTraceFlag]) (D : va_G) (T : Nat → ClassId) (t0 : Nat × Nat) (X : Nat → Nat → Nat) (L : List Nat) (tg : Nat → Nat × Nat) (sz : Nat) (A : ew_R) (th : Nat) (hth : ew_in X L tg 0 0 th) (b : Nat) (ln : Nat) (ar : Int32) (nl : Nat) (e17_0 : ew_in X L tg 17 (6 * ln + b) (X 17 (6 * ln + b))) (e2_1 : ew_in X L tg 2 ln (X 2 ln)) (e10_2 : ew_in X L tg 10 0 (X 10 0)) (e13_3 : ew_in X L tg 13 ln (X 13 ln)) (e4_4 : ew_in X L tg 4 (6 * ln + b) (X 4 (6 * ln + b))) (hst : ¬ A 17 (6 * ln + b) 0 = 6) (hb6 : b < 6) (qfd : ¬ A 13 ln b = 0) (hnl2 : nl ≤ 32) (qnl : A 0 0 6 = nI nl) (hl9 : ln < nl) (qfl : ¬ A 10 0 ln = 0) : MetT l yL_act wsL_act ({ frames := 13, cells := 11, slots := 2036, locals := 420 }) (tm_Pc D vwCl (tysA T) (cfC T) t0 X L tg A sz [.ref th, .int (nI b), .int (nI ln), .int 12, .int ar]) (tQ D vwCl (cfC T) X L tg A sz tmS 11 2036) := by
  refine tm_met (by decide) rfl (Nat.le_of_ble_eq_true rfl) ?_
  intro p e s m below meth c ls hx hb hr hts hown hlocks hml hex hV hK hN hT hS hA hl hsz
  subst hsz
  have hVs := hV
  have hl : lv_has ls 7 [(0, .ref th), (1, .int (nI b)), (2, .int (nI ln)), (3, .int 12), (4, .int ar)] := hl
  refine lv_aload_n hx hb dL_act_0 rfl (lv_at hl 0 rfl) ?_
  refine lv_iload_n hx hb dL_act_1 rfl (lv_at hl 2 rfl) ?_
  refine er_callq (va_runV (As := [.int (nI ln)]) (rest := []) ⟨hx, hb, hml, hown, hts⟩ (c_L_loanAt_ok l D T X L tg _ A th hth ln nl e10_2 e2_1 hnl2 qnl hl9 qfl) (cwV 1 hts gL_88 rfl rfl rfl (by decide +kernel) ⟨Nat.le_of_ble_eq_true rfl, Nat.le_of_ble_eq_true rfl⟩) (ec_preV hK hN hV hth (cC_0 _ _ _ _) rfl) rfl rfl hl.1 rfl (lv_room (Nat.le_of_ble_eq_true rfl)) dL_act_2 ⟨Nat.le_of_ble_eq_true rfl, Nat.le_of_ble_eq_true rfl⟩) hV hS hA (fun r u H locs hp hV hS => ?_)
  obtain ⟨rfl, eu9⟩ := hp
  rw [eu9] at hV
  refine lv_astore (lv' := [(5, .ref (X 2 ln)), (0, .ref th), (1, .int (nI b)), (2, .int (nI ln)), (3, .int 12), (4, .int ar)]) hx hb dL_act_5 hl (by decide) rfl (fun ls hl => ?_)
  refine lv_aload hx hb dL_act_7 (lv_at hl 0 rfl) ?_
  refine lv_ifnull hx hb dL_act_9 ?_
  refine lv_iload_n hx hb dL_act_12 rfl (lv_at hl 4 rfl) ?_
  refine lv_if_lt (tgt := 22) hx hb dL_act_13 rfl (fun h9 => absurd h9 (by decide)) (fun _ => ?_)
  refine lv_iload_n hx hb dL_act_16 rfl (lv_at hl 4 rfl) ?_
  refine lv_bipush (v := 14) hx hb dL_act_17 (by decide) ?_
  refine lv_icmp_le (tgt := 32) hx hb dL_act_19 rfl (fun _ => ?_) (fun h9 => absurd (by decide) h9)
  refine lv_iload_n hx hb dL_act_32 rfl (lv_at hl 4 rfl) ?_
  refine lv_bipush (v := 6) hx hb dL_act_33 (by decide) ?_
  refine lv_icmp_gt (tgt := 86) hx hb dL_act_35 rfl (fun _ => ?_) (fun h9 => absurd (by decide) h9)
  refine lv_aload hx hb dL_act_86 (lv_at hl 0 rfl) ?_
  refine lv_iload_n hx hb dL_act_88 rfl (lv_at hl 2 rfl) ?_
  refine er_callq (va_runV (As := [.int (nI b)]) (rest := []) ⟨hx, hb, hml, hown, hts⟩ (c_Loan_dealWith_ok l D T X L tg _ A ln (X 2 ln) e2_1 b e13_3 e4_4 hb6 qfd) (cwV 1 hts gL_116 rfl rfl rfl (by decide +kernel) ⟨Nat.le_of_ble_eq_true rfl, Nat.le_of_ble_eq_true rfl⟩) (ec_preV hK hN hV e2_1 (cC_2 _ _ _ _) rfl) rfl rfl hl.1 rfl (lv_room (Nat.le_of_ble_eq_true rfl)) dL_act_89 ⟨Nat.le_of_ble_eq_true rfl, Nat.le_of_ble_eq_true rfl⟩) hV hS hA (fun r u H locs hp hV hS => ?_)
  obtain ⟨rfl, eu9⟩ := hp
  rw [eu9] at hV
  refine lv_astore (lv' := [(6, .ref (X 4 (6 * ln + b))), (5, .ref (X 2 ln)), (0, .ref th), (1, .int (nI b)), (2, .int (nI ln)), (3, .int 12), (4, .int ar)]) hx hb dL_act_92 hl (by decide) rfl (fun ls hl => ?_)
  refine lv_aload hx hb dL_act_94 (lv_at hl 0 rfl) ?_
  refine lv_ifnonnull (tgt := 109) hx hb dL_act_96 rfl ?_
  refine lv_aload_n hx hb dL_act_109 rfl (lv_at hl 2 rfl) ?_
  refine lv_aload hx hb dL_act_110 (lv_at hl 1 rfl) ?_
  refine lv_aload hx hb dL_act_112 (lv_at hl 0 rfl) ?_
  refine lv_iload_n hx hb dL_act_114 rfl (lv_at hl 5 rfl) ?_
  refine lv_iload hx hb dL_act_115 (lv_at hl 6 rfl) ?_
  refine er_calli (va_runV (As := [.ref (X 2 ln), .ref (X 4 (6 * ln + b)), .int 12, .int ar]) (rest := []) ⟨hx, hb, hml, hown, hts⟩ (c_L_sd_deny_no l D T X L tg _ A ln (6 * ln + b) th hth (X 2 ln) e2_1 (X 4 (6 * ln + b)) e4_4 ar e17_0 hst) (cwV 4 hts gL_122 rfl rfl rfl (by decide +kernel) ⟨Nat.le_of_ble_eq_true rfl, Nat.le_of_ble_eq_true rfl⟩) (ec_preV hK hN hV hth (cC_0 _ _ _ _) rfl) rfl rfl hl.1 rfl (lv_room (Nat.le_of_ble_eq_true rfl)) dL_act_117 ⟨Nat.le_of_ble_eq_true rfl, Nat.le_of_ble_eq_true rfl⟩) hV hS hA (fun r u H locs hp hV hS => ?_)
  obtain ⟨rfl, eu9⟩ := hp
  rw [eu9] at hV
  refine lv_if_ne (tgt := 133) hx hb dL_act_120 rfl (fun h9 => absurd (by decide) h9) (fun _ => ?_)
  exact th_row (cls := tmS) (tx := "the supplier can't do it now") (kc := 61) (ks := 126) (ic := 65) hx hb hfl hown hlocks hml hl.1 hex hV hT hVs hS (hts _ kw_542) (hts _ kw_543) (hts _ kw_9) (by decide +kernel) (fun w hw => List.mem_append_right _ hw) (by decide +kernel) dL_act_123 dL_act_126 dL_act_127 dL_act_129 dL_act_132 (Nat.le_of_ble_eq_true rfl) (Nat.le_of_ble_eq_true rfl) (Nat.le_of_ble_eq_true rfl) (Nat.le_of_ble_eq_true rfl) (Nat.le_of_ble_eq_true rfl) (Nat.le_of_ble_eq_true rfl)

set_option maxHeartbeats 4000000 in
set_option maxRecDepth 100000 in
theorem t_act_recall_no (l : Launch) (hfl : l.flags = pinnedFlags ++ [noTraceFlag]) (D : va_G) (T : Nat → ClassId) (t0 : Nat × Nat) (X : Nat → Nat → Nat) (L : List Nat) (tg : Nat → Nat × Nat) (sz : Nat) (A : ew_R) (th : Nat) (hth : ew_in X L tg 0 0 th) (b : Nat) (ln : Nat) (ar : Int32) (nl : Nat) (e17_0 : ew_in X L tg 17 (6 * ln + b) (X 17 (6 * ln + b))) (e2_1 : ew_in X L tg 2 ln (X 2 ln)) (e10_2 : ew_in X L tg 10 0 (X 10 0)) (e13_3 : ew_in X L tg 13 ln (X 13 ln)) (e4_4 : ew_in X L tg 4 (6 * ln + b) (X 4 (6 * ln + b))) (hst : ¬ A 17 (6 * ln + b) 0 = 5) (hst2 : ¬ A 17 (6 * ln + b) 0 = 6) (hb6 : b < 6) (qfd : ¬ A 13 ln b = 0) (hnl2 : nl ≤ 32) (qnl : A 0 0 6 = nI nl) (hl9 : ln < nl) (qfl : ¬ A 10 0 ln = 0) : MetT l yL_act wsL_act ({ frames := 13, cells := 11, slots := 2036, locals := 420 }) (tm_Pc D vwCl (tysA T) (cfC T) t0 X L tg A sz [.ref th, .int (nI b), .int (nI ln), .int 13, .int ar]) (tQ D vwCl (cfC T) X L tg A sz tmS 11 2036) := by
  refine tm_met (by decide) rfl (Nat.le_of_ble_eq_true rfl) ?_
  intro p e s m below meth c ls hx hb hr hts hown hlocks hml hex hV hK hN hT hS hA hl hsz
  subst hsz
  have hVs := hV
  have hl : lv_has ls 7 [(0, .ref th), (1, .int (nI b)), (2, .int (nI ln)), (3, .int 13), (4, .int ar)] := hl
  refine lv_aload_n hx hb dL_act_0 rfl (lv_at hl 0 rfl) ?_
  refine lv_iload_n hx hb dL_act_1 rfl (lv_at hl 2 rfl) ?_
  refine er_callq (va_runV (As := [.int (nI ln)]) (rest := []) ⟨hx, hb, hml, hown, hts⟩ (c_L_loanAt_ok l D T X L tg _ A th hth ln nl e10_2 e2_1 hnl2 qnl hl9 qfl) (cwV 1 hts gL_88 rfl rfl rfl (by decide +kernel) ⟨Nat.le_of_ble_eq_true rfl, Nat.le_of_ble_eq_true rfl⟩) (ec_preV hK hN hV hth (cC_0 _ _ _ _) rfl) rfl rfl hl.1 rfl (lv_room (Nat.le_of_ble_eq_true rfl)) dL_act_2 ⟨Nat.le_of_ble_eq_true rfl, Nat.le_of_ble_eq_true rfl⟩) hV hS hA (fun r u H locs hp hV hS => ?_)
  obtain ⟨rfl, eu9⟩ := hp
  rw [eu9] at hV
  refine lv_astore (lv' := [(5, .ref (X 2 ln)), (0, .ref th), (1, .int (nI b)), (2, .int (nI ln)), (3, .int 13), (4, .int ar)]) hx hb dL_act_5 hl (by decide) rfl (fun ls hl => ?_)
  refine lv_aload hx hb dL_act_7 (lv_at hl 0 rfl) ?_
  refine lv_ifnull hx hb dL_act_9 ?_
  refine lv_iload_n hx hb dL_act_12 rfl (lv_at hl 4 rfl) ?_
  refine lv_if_lt (tgt := 22) hx hb dL_act_13 rfl (fun h9 => absurd h9 (by decide)) (fun _ => ?_)
  refine lv_iload_n hx hb dL_act_16 rfl (lv_at hl 4 rfl) ?_
  refine lv_bipush (v := 14) hx hb dL_act_17 (by decide) ?_
  refine lv_icmp_le (tgt := 32) hx hb dL_act_19 rfl (fun _ => ?_) (fun h9 => absurd (by decide) h9)
  refine lv_iload_n hx hb dL_act_32 rfl (lv_at hl 4 rfl) ?_
  refine lv_bipush (v := 6) hx hb dL_act_33 (by decide) ?_
  refine lv_icmp_gt (tgt := 86) hx hb dL_act_35 rfl (fun _ => ?_) (fun h9 => absurd (by decide) h9)
  refine lv_aload hx hb dL_act_86 (lv_at hl 0 rfl) ?_
  refine lv_iload_n hx hb dL_act_88 rfl (lv_at hl 2 rfl) ?_
  refine er_callq (va_runV (As := [.int (nI b)]) (rest := []) ⟨hx, hb, hml, hown, hts⟩ (c_Loan_dealWith_ok l D T X L tg _ A ln (X 2 ln) e2_1 b e13_3 e4_4 hb6 qfd) (cwV 1 hts gL_116 rfl rfl rfl (by decide +kernel) ⟨Nat.le_of_ble_eq_true rfl, Nat.le_of_ble_eq_true rfl⟩) (ec_preV hK hN hV e2_1 (cC_2 _ _ _ _) rfl) rfl rfl hl.1 rfl (lv_room (Nat.le_of_ble_eq_true rfl)) dL_act_89 ⟨Nat.le_of_ble_eq_true rfl, Nat.le_of_ble_eq_true rfl⟩) hV hS hA (fun r u H locs hp hV hS => ?_)
  obtain ⟨rfl, eu9⟩ := hp
  rw [eu9] at hV
  refine lv_astore (lv' := [(6, .ref (X 4 (6 * ln + b))), (5, .ref (X 2 ln)), (0, .ref th), (1, .int (nI b)), (2, .int (nI ln)), (3, .int 13), (4, .int ar)]) hx hb dL_act_92 hl (by decide) rfl (fun ls hl => ?_)
  refine lv_aload hx hb dL_act_94 (lv_at hl 0 rfl) ?_
  refine lv_ifnonnull (tgt := 109) hx hb dL_act_96 rfl ?_
  refine lv_aload_n hx hb dL_act_109 rfl (lv_at hl 2 rfl) ?_
  refine lv_aload hx hb dL_act_110 (lv_at hl 1 rfl) ?_
  refine lv_aload hx hb dL_act_112 (lv_at hl 0 rfl) ?_
  refine lv_iload_n hx hb dL_act_114 rfl (lv_at hl 5 rfl) ?_
  refine lv_iload hx hb dL_act_115 (lv_at hl 6 rfl) ?_
  refine er_calli (va_runV (As := [.ref (X 2 ln), .ref (X 4 (6 * ln + b)), .int 13, .int ar]) (rest := []) ⟨hx, hb, hml, hown, hts⟩ (c_L_sd_recall_no l D T X L tg _ A ln (6 * ln + b) th hth (X 2 ln) e2_1 (X 4 (6 * ln + b)) e4_4 ar e17_0 hst hst2) (cwV 4 hts gL_122 rfl rfl rfl (by decide +kernel) ⟨Nat.le_of_ble_eq_true rfl, Nat.le_of_ble_eq_true rfl⟩) (ec_preV hK hN hV hth (cC_0 _ _ _ _) rfl) rfl rfl hl.1 rfl (lv_room (Nat.le_of_ble_eq_true rfl)) dL_act_117 ⟨Nat.le_of_ble_eq_true rfl, Nat.le_of_ble_eq_true rfl⟩) hV hS hA (fun r u H locs hp hV hS => ?_)
  obtain ⟨rfl, eu9⟩ := hp
  rw [eu9] at hV
  refine lv_if_ne (tgt := 133) hx hb dL_act_120 rfl (fun h9 => absurd (by decide) h9) (fun _ => ?_)
  exact th_row (cls := tmS) (tx := "the supplier can't do it now") (kc := 61) (ks := 126) (ic := 65) hx hb hfl hown hlocks hml hl.1 hex hV hT hVs hS (hts _ kw_542) (hts _ kw_543) (hts _ kw_9) (by decide +kernel) (fun w hw => List.mem_append_right _ hw) (by decide +kernel) dL_act_123 dL_act_126 dL_act_127 dL_act_129 dL_act_132 (Nat.le_of_ble_eq_true rfl) (Nat.le_of_ble_eq_true rfl) (Nat.le_of_ble_eq_true rfl) (Nat.le_of_ble_eq_true rfl) (Nat.le_of_ble_eq_true rfl) (Nat.le_of_ble_eq_true rfl)

set_option maxHeartbeats 4000000 in
set_option maxRecDepth 100000 in
theorem t_act_checkIn_no (l : Launch) (hfl : l.flags = pinnedFlags ++ [noTraceFlag]) (D : va_G) (T : Nat → ClassId) (t0 : Nat × Nat) (X : Nat → Nat → Nat) (L : List Nat) (tg : Nat → Nat × Nat) (sz : Nat) (A : ew_R) (th : Nat) (hth : ew_in X L tg 0 0 th) (b : Nat) (ln : Nat) (ar : Int32) (nl : Nat) (e17_0 : ew_in X L tg 17 (6 * ln + b) (X 17 (6 * ln + b))) (e2_1 : ew_in X L tg 2 ln (X 2 ln)) (e10_2 : ew_in X L tg 10 0 (X 10 0)) (e13_3 : ew_in X L tg 13 ln (X 13 ln)) (e4_4 : ew_in X L tg 4 (6 * ln + b) (X 4 (6 * ln + b))) (hst : ¬ A 17 (6 * ln + b) 0 = 8) (hb6 : b < 6) (qfd : ¬ A 13 ln b = 0) (hnl2 : nl ≤ 32) (qnl : A 0 0 6 = nI nl) (hl9 : ln < nl) (qfl : ¬ A 10 0 ln = 0) : MetT l yL_act wsL_act ({ frames := 13, cells := 11, slots := 2036, locals := 420 }) (tm_Pc D vwCl (tysA T) (cfC T) t0 X L tg A sz [.ref th, .int (nI b), .int (nI ln), .int 14, .int ar]) (tQ D vwCl (cfC T) X L tg A sz tmS 11 2036) := by
  refine tm_met (by decide) rfl (Nat.le_of_ble_eq_true rfl) ?_
  intro p e s m below meth c ls hx hb hr hts hown hlocks hml hex hV hK hN hT hS hA hl hsz
  subst hsz
  have hVs := hV
  have hl : lv_has ls 7 [(0, .ref th), (1, .int (nI b)), (2, .int (nI ln)), (3, .int 14), (4, .int ar)] := hl
  refine lv_aload_n hx hb dL_act_0 rfl (lv_at hl 0 rfl) ?_
  refine lv_iload_n hx hb dL_act_1 rfl (lv_at hl 2 rfl) ?_
  refine er_callq (va_runV (As := [.int (nI ln)]) (rest := []) ⟨hx, hb, hml, hown, hts⟩ (c_L_loanAt_ok l D T X L tg _ A th hth ln nl e10_2 e2_1 hnl2 qnl hl9 qfl) (cwV 1 hts gL_88 rfl rfl rfl (by decide +kernel) ⟨Nat.le_of_ble_eq_true rfl, Nat.le_of_ble_eq_true rfl⟩) (ec_preV hK hN hV hth (cC_0 _ _ _ _) rfl) rfl rfl hl.1 rfl (lv_room (Nat.le_of_ble_eq_true rfl)) dL_act_2 ⟨Nat.le_of_ble_eq_true rfl, Nat.le_of_ble_eq_true rfl⟩) hV hS hA (fun r u H locs hp hV hS => ?_)
  obtain ⟨rfl, eu9⟩ := hp
  rw [eu9] at hV
  refine lv_astore (lv' := [(5, .ref (X 2 ln)), (0, .ref th), (1, .int (nI b)), (2, .int (nI ln)), (3, .int 14), (4, .int ar)]) hx hb dL_act_5 hl (by decide) rfl (fun ls hl => ?_)
  refine lv_aload hx hb dL_act_7 (lv_at hl 0 rfl) ?_
  refine lv_ifnull hx hb dL_act_9 ?_
  refine lv_iload_n hx hb dL_act_12 rfl (lv_at hl 4 rfl) ?_
  refine lv_if_lt (tgt := 22) hx hb dL_act_13 rfl (fun h9 => absurd h9 (by decide)) (fun _ => ?_)
  refine lv_iload_n hx hb dL_act_16 rfl (lv_at hl 4 rfl) ?_
  refine lv_bipush (v := 14) hx hb dL_act_17 (by decide) ?_
  refine lv_icmp_le (tgt := 32) hx hb dL_act_19 rfl (fun _ => ?_) (fun h9 => absurd (by decide) h9)
  refine lv_iload_n hx hb dL_act_32 rfl (lv_at hl 4 rfl) ?_
  refine lv_bipush (v := 6) hx hb dL_act_33 (by decide) ?_
  refine lv_icmp_gt (tgt := 86) hx hb dL_act_35 rfl (fun _ => ?_) (fun h9 => absurd (by decide) h9)
  refine lv_aload hx hb dL_act_86 (lv_at hl 0 rfl) ?_
  refine lv_iload_n hx hb dL_act_88 rfl (lv_at hl 2 rfl) ?_
  refine er_callq (va_runV (As := [.int (nI b)]) (rest := []) ⟨hx, hb, hml, hown, hts⟩ (c_Loan_dealWith_ok l D T X L tg _ A ln (X 2 ln) e2_1 b e13_3 e4_4 hb6 qfd) (cwV 1 hts gL_116 rfl rfl rfl (by decide +kernel) ⟨Nat.le_of_ble_eq_true rfl, Nat.le_of_ble_eq_true rfl⟩) (ec_preV hK hN hV e2_1 (cC_2 _ _ _ _) rfl) rfl rfl hl.1 rfl (lv_room (Nat.le_of_ble_eq_true rfl)) dL_act_89 ⟨Nat.le_of_ble_eq_true rfl, Nat.le_of_ble_eq_true rfl⟩) hV hS hA (fun r u H locs hp hV hS => ?_)
  obtain ⟨rfl, eu9⟩ := hp
  rw [eu9] at hV
  refine lv_astore (lv' := [(6, .ref (X 4 (6 * ln + b))), (5, .ref (X 2 ln)), (0, .ref th), (1, .int (nI b)), (2, .int (nI ln)), (3, .int 14), (4, .int ar)]) hx hb dL_act_92 hl (by decide) rfl (fun ls hl => ?_)
  refine lv_aload hx hb dL_act_94 (lv_at hl 0 rfl) ?_
  refine lv_ifnonnull (tgt := 109) hx hb dL_act_96 rfl ?_
  refine lv_aload_n hx hb dL_act_109 rfl (lv_at hl 2 rfl) ?_
  refine lv_aload hx hb dL_act_110 (lv_at hl 1 rfl) ?_
  refine lv_aload hx hb dL_act_112 (lv_at hl 0 rfl) ?_
  refine lv_iload_n hx hb dL_act_114 rfl (lv_at hl 5 rfl) ?_
  refine lv_iload hx hb dL_act_115 (lv_at hl 6 rfl) ?_
  refine er_calli (va_runV (As := [.ref (X 2 ln), .ref (X 4 (6 * ln + b)), .int 14, .int ar]) (rest := []) ⟨hx, hb, hml, hown, hts⟩ (c_L_sd_checkIn_no l D T X L tg _ A ln (6 * ln + b) th hth (X 2 ln) e2_1 (X 4 (6 * ln + b)) e4_4 ar e17_0 hst) (cwV 4 hts gL_122 rfl rfl rfl (by decide +kernel) ⟨Nat.le_of_ble_eq_true rfl, Nat.le_of_ble_eq_true rfl⟩) (ec_preV hK hN hV hth (cC_0 _ _ _ _) rfl) rfl rfl hl.1 rfl (lv_room (Nat.le_of_ble_eq_true rfl)) dL_act_117 ⟨Nat.le_of_ble_eq_true rfl, Nat.le_of_ble_eq_true rfl⟩) hV hS hA (fun r u H locs hp hV hS => ?_)
  obtain ⟨rfl, eu9⟩ := hp
  rw [eu9] at hV
  refine lv_if_ne (tgt := 133) hx hb dL_act_120 rfl (fun h9 => absurd (by decide) h9) (fun _ => ?_)
  exact th_row (cls := tmS) (tx := "the supplier can't do it now") (kc := 61) (ks := 126) (ic := 65) hx hb hfl hown hlocks hml hl.1 hex hV hT hVs hS (hts _ kw_542) (hts _ kw_543) (hts _ kw_9) (by decide +kernel) (fun w hw => List.mem_append_right _ hw) (by decide +kernel) dL_act_123 dL_act_126 dL_act_127 dL_act_129 dL_act_132 (Nat.le_of_ble_eq_true rfl) (Nat.le_of_ble_eq_true rfl) (Nat.le_of_ble_eq_true rfl) (Nat.le_of_ble_eq_true rfl) (Nat.le_of_ble_eq_true rfl) (Nat.le_of_ble_eq_true rfl)

set_option maxHeartbeats 4000000 in
set_option maxRecDepth 100000 in
theorem t_act_promiseCopy_no (l : Launch) (hfl : l.flags = pinnedFlags ++ [noTraceFlag]) (D : va_G) (T : Nat → ClassId) (t0 : Nat × Nat) (X : Nat → Nat → Nat) (L : List Nat) (tg : Nat → Nat × Nat) (sz : Nat) (A : ew_R) (th : Nat) (hth : ew_in X L tg 0 0 th) (b : Nat) (ln : Nat) (cp : Nat) (nc : Nat) (nl : Nat) (e17_0 : ew_in X L tg 17 (6 * ln + b) (X 17 (6 * ln + b))) (e1_1 : ew_in X L tg 1 cp (X 1 cp)) (e9_2 : ew_in X L tg 9 0 (X 9 0)) (e2_3 : ew_in X L tg 2 ln (X 2 ln)) (e10_4 : ew_in X L tg 10 0 (X 10 0)) (e13_5 : ew_in X L tg 13 ln (X 13 ln)) (e4_6 : ew_in X L tg 4 (6 * ln + b) (X 4 (6 * ln + b))) (hst : ¬ A 17 (6 * ln + b) 0 = 1) (hnc : nc ≤ 32) (qnc : A 0 0 5 = nI nc) (hl1 : cp < nc) (qfc : ¬ A 9 0 cp = 0) (hb6 : b < 6) (qfd : ¬ A 13 ln b = 0) (hnl2 : nl ≤ 32) (qnl : A 0 0 6 = nI nl) (hl9 : ln < nl) (qfl : ¬ A 10 0 ln = 0) : MetT l yL_act wsL_act ({ frames := 13, cells := 11, slots := 2036, locals := 420 }) (tm_Pc D vwCl (tysA T) (cfC T) t0 X L tg A sz [.ref th, .int (nI b), .int (nI ln), .int 7, .int (nI cp)]) (tQ D vwCl (cfC T) X L tg A sz tmS 11 2036) := by
  refine tm_met (by decide) rfl (Nat.le_of_ble_eq_true rfl) ?_
  intro p e s m below meth c ls hx hb hr hts hown hlocks hml hex hV hK hN hT hS hA hl hsz
  subst hsz
  have hVs := hV
  have hl : lv_has ls 7 [(0, .ref th), (1, .int (nI b)), (2, .int (nI ln)), (3, .int 7), (4, .int (nI cp))] := hl
  refine lv_aload_n hx hb dL_act_0 rfl (lv_at hl 0 rfl) ?_
  refine lv_iload_n hx hb dL_act_1 rfl (lv_at hl 2 rfl) ?_
  refine er_callq (va_runV (As := [.int (nI ln)]) (rest := []) ⟨hx, hb, hml, hown, hts⟩ (c_L_loanAt_ok l D T X L tg _ A th hth ln nl e10_4 e2_3 hnl2 qnl hl9 qfl) (cwV 1 hts gL_88 rfl rfl rfl (by decide +kernel) ⟨Nat.le_of_ble_eq_true rfl, Nat.le_of_ble_eq_true rfl⟩) (ec_preV hK hN hV hth (cC_0 _ _ _ _) rfl) rfl rfl hl.1 rfl (lv_room (Nat.le_of_ble_eq_true rfl)) dL_act_2 ⟨Nat.le_of_ble_eq_true rfl, Nat.le_of_ble_eq_true rfl⟩) hV hS hA (fun r u H locs hp hV hS => ?_)
  obtain ⟨rfl, eu9⟩ := hp
  rw [eu9] at hV
  refine lv_astore (lv' := [(5, .ref (X 2 ln)), (0, .ref th), (1, .int (nI b)), (2, .int (nI ln)), (3, .int 7), (4, .int (nI cp))]) hx hb dL_act_5 hl (by decide) rfl (fun ls hl => ?_)
  refine lv_aload hx hb dL_act_7 (lv_at hl 0 rfl) ?_
  refine lv_ifnull hx hb dL_act_9 ?_
  refine lv_iload_n hx hb dL_act_12 rfl (lv_at hl 4 rfl) ?_
  refine lv_if_lt (tgt := 22) hx hb dL_act_13 rfl (fun h9 => absurd h9 (by decide)) (fun _ => ?_)
  refine lv_iload_n hx hb dL_act_16 rfl (lv_at hl 4 rfl) ?_
  refine lv_bipush (v := 14) hx hb dL_act_17 (by decide) ?_
  refine lv_icmp_le (tgt := 32) hx hb dL_act_19 rfl (fun _ => ?_) (fun h9 => absurd (by decide) h9)
  refine lv_iload_n hx hb dL_act_32 rfl (lv_at hl 4 rfl) ?_
  refine lv_bipush (v := 6) hx hb dL_act_33 (by decide) ?_
  refine lv_icmp_gt (tgt := 86) hx hb dL_act_35 rfl (fun _ => ?_) (fun h9 => absurd (by decide) h9)
  refine lv_aload hx hb dL_act_86 (lv_at hl 0 rfl) ?_
  refine lv_iload_n hx hb dL_act_88 rfl (lv_at hl 2 rfl) ?_
  refine er_callq (va_runV (As := [.int (nI b)]) (rest := []) ⟨hx, hb, hml, hown, hts⟩ (c_Loan_dealWith_ok l D T X L tg _ A ln (X 2 ln) e2_3 b e13_5 e4_6 hb6 qfd) (cwV 1 hts gL_116 rfl rfl rfl (by decide +kernel) ⟨Nat.le_of_ble_eq_true rfl, Nat.le_of_ble_eq_true rfl⟩) (ec_preV hK hN hV e2_3 (cC_2 _ _ _ _) rfl) rfl rfl hl.1 rfl (lv_room (Nat.le_of_ble_eq_true rfl)) dL_act_89 ⟨Nat.le_of_ble_eq_true rfl, Nat.le_of_ble_eq_true rfl⟩) hV hS hA (fun r u H locs hp hV hS => ?_)
  obtain ⟨rfl, eu9⟩ := hp
  rw [eu9] at hV
  refine lv_astore (lv' := [(6, .ref (X 4 (6 * ln + b))), (5, .ref (X 2 ln)), (0, .ref th), (1, .int (nI b)), (2, .int (nI ln)), (3, .int 7), (4, .int (nI cp))]) hx hb dL_act_92 hl (by decide) rfl (fun ls hl => ?_)
  refine lv_aload hx hb dL_act_94 (lv_at hl 0 rfl) ?_
  refine lv_ifnonnull (tgt := 109) hx hb dL_act_96 rfl ?_
  refine lv_aload_n hx hb dL_act_109 rfl (lv_at hl 2 rfl) ?_
  refine lv_aload hx hb dL_act_110 (lv_at hl 1 rfl) ?_
  refine lv_aload hx hb dL_act_112 (lv_at hl 0 rfl) ?_
  refine lv_iload_n hx hb dL_act_114 rfl (lv_at hl 5 rfl) ?_
  refine lv_iload hx hb dL_act_115 (lv_at hl 6 rfl) ?_
  refine er_calli (va_runV (As := [.ref (X 2 ln), .ref (X 4 (6 * ln + b)), .int 7, .int (nI cp)]) (rest := []) ⟨hx, hb, hml, hown, hts⟩ (c_L_sd_promiseCopy_no l D T X L tg _ A ln (6 * ln + b) th hth (X 2 ln) e2_3 (X 4 (6 * ln + b)) e4_6 cp nc e17_0 e1_1 e9_2 hst hnc qnc hl1 qfc) (cwV 4 hts gL_122 rfl rfl rfl (by decide +kernel) ⟨Nat.le_of_ble_eq_true rfl, Nat.le_of_ble_eq_true rfl⟩) (ec_preV hK hN hV hth (cC_0 _ _ _ _) rfl) rfl rfl hl.1 rfl (lv_room (Nat.le_of_ble_eq_true rfl)) dL_act_117 ⟨Nat.le_of_ble_eq_true rfl, Nat.le_of_ble_eq_true rfl⟩) hV hS hA (fun r u H locs hp hV hS => ?_)
  obtain ⟨rfl, eu9⟩ := hp
  rw [eu9] at hV
  refine lv_if_ne (tgt := 133) hx hb dL_act_120 rfl (fun h9 => absurd (by decide) h9) (fun _ => ?_)
  exact th_row (cls := tmS) (tx := "the supplier can't do it now") (kc := 61) (ks := 126) (ic := 65) hx hb hfl hown hlocks hml hl.1 hex hV hT hVs hS (hts _ kw_542) (hts _ kw_543) (hts _ kw_9) (by decide +kernel) (fun w hw => List.mem_append_right _ hw) (by decide +kernel) dL_act_123 dL_act_126 dL_act_127 dL_act_129 dL_act_132 (Nat.le_of_ble_eq_true rfl) (Nat.le_of_ble_eq_true rfl) (Nat.le_of_ble_eq_true rfl) (Nat.le_of_ble_eq_true rfl) (Nat.le_of_ble_eq_true rfl) (Nat.le_of_ble_eq_true rfl)

set_option maxHeartbeats 4000000 in
set_option maxRecDepth 100000 in
theorem t_act_promiseCopy_nog (l : Launch) (hfl : l.flags = pinnedFlags ++ [noTraceFlag]) (D : va_G) (T : Nat → ClassId) (t0 : Nat × Nat) (X : Nat → Nat → Nat) (L : List Nat) (tg : Nat → Nat × Nat) (sz : Nat) (A : ew_R) (th : Nat) (hth : ew_in X L tg 0 0 th) (b : Nat) (ln : Nat) (cp : Nat) (nc : Nat) (nl : Nat) (e17_0 : ew_in X L tg 17 (6 * ln + b) (X 17 (6 * ln + b))) (e1_1 : ew_in X L tg 1 cp (X 1 cp)) (e9_2 : ew_in X L tg 9 0 (X 9 0)) (e2_3 : ew_in X L tg 2 ln (X 2 ln)) (e10_4 : ew_in X L tg 10 0 (X 10 0)) (e13_5 : ew_in X L tg 13 ln (X 13 ln)) (e4_6 : ew_in X L tg 4 (6 * ln + b) (X 4 (6 * ln + b))) (hst : A 17 (6 * ln + b) 0 = 1) (hcg : z_Copy_canGo A cp (A 4 (6 * ln + b) 0) (A 2 ln 2) = 0) (hnc : nc ≤ 32) (qnc : A 0 0 5 = nI nc) (hl1 : cp < nc) (qfc : ¬ A 9 0 cp = 0) (hb6 : b < 6) (qfd : ¬ A 13 ln b = 0) (hnl2 : nl ≤ 32) (qnl : A 0 0 6 = nI nl) (hl9 : ln < nl) (qfl : ¬ A 10 0 ln = 0) : MetT l yL_act wsL_act ({ frames := 13, cells := 11, slots := 2036, locals := 420 }) (tm_Pc D vwCl (tysA T) (cfC T) t0 X L tg A sz [.ref th, .int (nI b), .int (nI ln), .int 7, .int (nI cp)]) (tQ D vwCl (cfC T) X L tg A sz tmS 11 2036) := by
  refine tm_met (by decide) rfl (Nat.le_of_ble_eq_true rfl) ?_
  intro p e s m below meth c ls hx hb hr hts hown hlocks hml hex hV hK hN hT hS hA hl hsz
  subst hsz
  have hVs := hV
  have hl : lv_has ls 7 [(0, .ref th), (1, .int (nI b)), (2, .int (nI ln)), (3, .int 7), (4, .int (nI cp))] := hl
  refine lv_aload_n hx hb dL_act_0 rfl (lv_at hl 0 rfl) ?_
  refine lv_iload_n hx hb dL_act_1 rfl (lv_at hl 2 rfl) ?_
  refine er_callq (va_runV (As := [.int (nI ln)]) (rest := []) ⟨hx, hb, hml, hown, hts⟩ (c_L_loanAt_ok l D T X L tg _ A th hth ln nl e10_4 e2_3 hnl2 qnl hl9 qfl) (cwV 1 hts gL_88 rfl rfl rfl (by decide +kernel) ⟨Nat.le_of_ble_eq_true rfl, Nat.le_of_ble_eq_true rfl⟩) (ec_preV hK hN hV hth (cC_0 _ _ _ _) rfl) rfl rfl hl.1 rfl (lv_room (Nat.le_of_ble_eq_true rfl)) dL_act_2 ⟨Nat.le_of_ble_eq_true rfl, Nat.le_of_ble_eq_true rfl⟩) hV hS hA (fun r u H locs hp hV hS => ?_)
  obtain ⟨rfl, eu9⟩ := hp
  rw [eu9] at hV
  refine lv_astore (lv' := [(5, .ref (X 2 ln)), (0, .ref th), (1, .int (nI b)), (2, .int (nI ln)), (3, .int 7), (4, .int (nI cp))]) hx hb dL_act_5 hl (by decide) rfl (fun ls hl => ?_)
  refine lv_aload hx hb dL_act_7 (lv_at hl 0 rfl) ?_
  refine lv_ifnull hx hb dL_act_9 ?_
  refine lv_iload_n hx hb dL_act_12 rfl (lv_at hl 4 rfl) ?_
  refine lv_if_lt (tgt := 22) hx hb dL_act_13 rfl (fun h9 => absurd h9 (by decide)) (fun _ => ?_)
  refine lv_iload_n hx hb dL_act_16 rfl (lv_at hl 4 rfl) ?_
  refine lv_bipush (v := 14) hx hb dL_act_17 (by decide) ?_
  refine lv_icmp_le (tgt := 32) hx hb dL_act_19 rfl (fun _ => ?_) (fun h9 => absurd (by decide) h9)
  refine lv_iload_n hx hb dL_act_32 rfl (lv_at hl 4 rfl) ?_
  refine lv_bipush (v := 6) hx hb dL_act_33 (by decide) ?_
  refine lv_icmp_gt (tgt := 86) hx hb dL_act_35 rfl (fun _ => ?_) (fun h9 => absurd (by decide) h9)
  refine lv_aload hx hb dL_act_86 (lv_at hl 0 rfl) ?_
  refine lv_iload_n hx hb dL_act_88 rfl (lv_at hl 2 rfl) ?_
  refine er_callq (va_runV (As := [.int (nI b)]) (rest := []) ⟨hx, hb, hml, hown, hts⟩ (c_Loan_dealWith_ok l D T X L tg _ A ln (X 2 ln) e2_3 b e13_5 e4_6 hb6 qfd) (cwV 1 hts gL_116 rfl rfl rfl (by decide +kernel) ⟨Nat.le_of_ble_eq_true rfl, Nat.le_of_ble_eq_true rfl⟩) (ec_preV hK hN hV e2_3 (cC_2 _ _ _ _) rfl) rfl rfl hl.1 rfl (lv_room (Nat.le_of_ble_eq_true rfl)) dL_act_89 ⟨Nat.le_of_ble_eq_true rfl, Nat.le_of_ble_eq_true rfl⟩) hV hS hA (fun r u H locs hp hV hS => ?_)
  obtain ⟨rfl, eu9⟩ := hp
  rw [eu9] at hV
  refine lv_astore (lv' := [(6, .ref (X 4 (6 * ln + b))), (5, .ref (X 2 ln)), (0, .ref th), (1, .int (nI b)), (2, .int (nI ln)), (3, .int 7), (4, .int (nI cp))]) hx hb dL_act_92 hl (by decide) rfl (fun ls hl => ?_)
  refine lv_aload hx hb dL_act_94 (lv_at hl 0 rfl) ?_
  refine lv_ifnonnull (tgt := 109) hx hb dL_act_96 rfl ?_
  refine lv_aload_n hx hb dL_act_109 rfl (lv_at hl 2 rfl) ?_
  refine lv_aload hx hb dL_act_110 (lv_at hl 1 rfl) ?_
  refine lv_aload hx hb dL_act_112 (lv_at hl 0 rfl) ?_
  refine lv_iload_n hx hb dL_act_114 rfl (lv_at hl 5 rfl) ?_
  refine lv_iload hx hb dL_act_115 (lv_at hl 6 rfl) ?_
  refine er_calli (va_runV (As := [.ref (X 2 ln), .ref (X 4 (6 * ln + b)), .int 7, .int (nI cp)]) (rest := []) ⟨hx, hb, hml, hown, hts⟩ (c_L_sd_promiseCopy_nog l D T X L tg _ A ln (6 * ln + b) th hth (X 2 ln) e2_3 (X 4 (6 * ln + b)) e4_6 cp nc e17_0 e1_1 e9_2 hst hcg hnc qnc hl1 qfc) (cwV 4 hts gL_122 rfl rfl rfl (by decide +kernel) ⟨Nat.le_of_ble_eq_true rfl, Nat.le_of_ble_eq_true rfl⟩) (ec_preV hK hN hV hth (cC_0 _ _ _ _) rfl) rfl rfl hl.1 rfl (lv_room (Nat.le_of_ble_eq_true rfl)) dL_act_117 ⟨Nat.le_of_ble_eq_true rfl, Nat.le_of_ble_eq_true rfl⟩) hV hS hA (fun r u H locs hp hV hS => ?_)
  obtain ⟨rfl, eu9⟩ := hp
  rw [eu9] at hV
  refine lv_if_ne (tgt := 133) hx hb dL_act_120 rfl (fun h9 => absurd (by decide) h9) (fun _ => ?_)
  exact th_row (cls := tmS) (tx := "the supplier can't do it now") (kc := 61) (ks := 126) (ic := 65) hx hb hfl hown hlocks hml hl.1 hex hV hT hVs hS (hts _ kw_542) (hts _ kw_543) (hts _ kw_9) (by decide +kernel) (fun w hw => List.mem_append_right _ hw) (by decide +kernel) dL_act_123 dL_act_126 dL_act_127 dL_act_129 dL_act_132 (Nat.le_of_ble_eq_true rfl) (Nat.le_of_ble_eq_true rfl) (Nat.le_of_ble_eq_true rfl) (Nat.le_of_ble_eq_true rfl) (Nat.le_of_ble_eq_true rfl) (Nat.le_of_ble_eq_true rfl)

set_option maxHeartbeats 4000000 in
set_option maxRecDepth 100000 in
theorem t_act_promiseCopy_non_neg (l : Launch) (hfl : l.flags = pinnedFlags ++ [noTraceFlag]) (D : va_G) (T : Nat → ClassId) (t0 : Nat × Nat) (X : Nat → Nat → Nat) (L : List Nat) (tg : Nat → Nat × Nat) (sz : Nat) (A : ew_R) (th : Nat) (hth : ew_in X L tg 0 0 th) (b : Nat) (ln : Nat) (ar : Int32) (nl : Nat) (e17_0 : ew_in X L tg 17 (6 * ln + b) (X 17 (6 * ln + b))) (e2_1 : ew_in X L tg 2 ln (X 2 ln)) (e10_2 : ew_in X L tg 10 0 (X 10 0)) (e13_3 : ew_in X L tg 13 ln (X 13 ln)) (e4_4 : ew_in X L tg 4 (6 * ln + b) (X 4 (6 * ln + b))) (hst : A 17 (6 * ln + b) 0 = 1) (h0c : ar < 0) (hb6 : b < 6) (qfd : ¬ A 13 ln b = 0) (hnl2 : nl ≤ 32) (qnl : A 0 0 6 = nI nl) (hl9 : ln < nl) (qfl : ¬ A 10 0 ln = 0) : MetT l yL_act wsL_act ({ frames := 13, cells := 11, slots := 2036, locals := 420 }) (tm_Pc D vwCl (tysA T) (cfC T) t0 X L tg A sz [.ref th, .int (nI b), .int (nI ln), .int 7, .int ar]) (tQ D vwCl (cfC T) X L tg A sz tmS 11 2036) := by
  refine tm_met (by decide) rfl (Nat.le_of_ble_eq_true rfl) ?_
  intro p e s m below meth c ls hx hb hr hts hown hlocks hml hex hV hK hN hT hS hA hl hsz
  subst hsz
  have hVs := hV
  have hl : lv_has ls 7 [(0, .ref th), (1, .int (nI b)), (2, .int (nI ln)), (3, .int 7), (4, .int ar)] := hl
  refine lv_aload_n hx hb dL_act_0 rfl (lv_at hl 0 rfl) ?_
  refine lv_iload_n hx hb dL_act_1 rfl (lv_at hl 2 rfl) ?_
  refine er_callq (va_runV (As := [.int (nI ln)]) (rest := []) ⟨hx, hb, hml, hown, hts⟩ (c_L_loanAt_ok l D T X L tg _ A th hth ln nl e10_2 e2_1 hnl2 qnl hl9 qfl) (cwV 1 hts gL_88 rfl rfl rfl (by decide +kernel) ⟨Nat.le_of_ble_eq_true rfl, Nat.le_of_ble_eq_true rfl⟩) (ec_preV hK hN hV hth (cC_0 _ _ _ _) rfl) rfl rfl hl.1 rfl (lv_room (Nat.le_of_ble_eq_true rfl)) dL_act_2 ⟨Nat.le_of_ble_eq_true rfl, Nat.le_of_ble_eq_true rfl⟩) hV hS hA (fun r u H locs hp hV hS => ?_)
  obtain ⟨rfl, eu9⟩ := hp
  rw [eu9] at hV
  refine lv_astore (lv' := [(5, .ref (X 2 ln)), (0, .ref th), (1, .int (nI b)), (2, .int (nI ln)), (3, .int 7), (4, .int ar)]) hx hb dL_act_5 hl (by decide) rfl (fun ls hl => ?_)
  refine lv_aload hx hb dL_act_7 (lv_at hl 0 rfl) ?_
  refine lv_ifnull hx hb dL_act_9 ?_
  refine lv_iload_n hx hb dL_act_12 rfl (lv_at hl 4 rfl) ?_
  refine lv_if_lt (tgt := 22) hx hb dL_act_13 rfl (fun h9 => absurd h9 (by decide)) (fun _ => ?_)
  refine lv_iload_n hx hb dL_act_16 rfl (lv_at hl 4 rfl) ?_
  refine lv_bipush (v := 14) hx hb dL_act_17 (by decide) ?_
  refine lv_icmp_le (tgt := 32) hx hb dL_act_19 rfl (fun _ => ?_) (fun h9 => absurd (by decide) h9)
  refine lv_iload_n hx hb dL_act_32 rfl (lv_at hl 4 rfl) ?_
  refine lv_bipush (v := 6) hx hb dL_act_33 (by decide) ?_
  refine lv_icmp_gt (tgt := 86) hx hb dL_act_35 rfl (fun _ => ?_) (fun h9 => absurd (by decide) h9)
  refine lv_aload hx hb dL_act_86 (lv_at hl 0 rfl) ?_
  refine lv_iload_n hx hb dL_act_88 rfl (lv_at hl 2 rfl) ?_
  refine er_callq (va_runV (As := [.int (nI b)]) (rest := []) ⟨hx, hb, hml, hown, hts⟩ (c_Loan_dealWith_ok l D T X L tg _ A ln (X 2 ln) e2_1 b e13_3 e4_4 hb6 qfd) (cwV 1 hts gL_116 rfl rfl rfl (by decide +kernel) ⟨Nat.le_of_ble_eq_true rfl, Nat.le_of_ble_eq_true rfl⟩) (ec_preV hK hN hV e2_1 (cC_2 _ _ _ _) rfl) rfl rfl hl.1 rfl (lv_room (Nat.le_of_ble_eq_true rfl)) dL_act_89 ⟨Nat.le_of_ble_eq_true rfl, Nat.le_of_ble_eq_true rfl⟩) hV hS hA (fun r u H locs hp hV hS => ?_)
  obtain ⟨rfl, eu9⟩ := hp
  rw [eu9] at hV
  refine lv_astore (lv' := [(6, .ref (X 4 (6 * ln + b))), (5, .ref (X 2 ln)), (0, .ref th), (1, .int (nI b)), (2, .int (nI ln)), (3, .int 7), (4, .int ar)]) hx hb dL_act_92 hl (by decide) rfl (fun ls hl => ?_)
  refine lv_aload hx hb dL_act_94 (lv_at hl 0 rfl) ?_
  refine lv_ifnonnull (tgt := 109) hx hb dL_act_96 rfl ?_
  refine lv_aload_n hx hb dL_act_109 rfl (lv_at hl 2 rfl) ?_
  refine lv_aload hx hb dL_act_110 (lv_at hl 1 rfl) ?_
  refine lv_aload hx hb dL_act_112 (lv_at hl 0 rfl) ?_
  refine lv_iload_n hx hb dL_act_114 rfl (lv_at hl 5 rfl) ?_
  refine lv_iload hx hb dL_act_115 (lv_at hl 6 rfl) ?_
  refine er_calli (va_runV (As := [.ref (X 2 ln), .ref (X 4 (6 * ln + b)), .int 7, .int ar]) (rest := []) ⟨hx, hb, hml, hown, hts⟩ (c_L_sd_promiseCopy_non_neg l D T X L tg _ A ln (6 * ln + b) th hth (X 2 ln) e2_1 (X 4 (6 * ln + b)) e4_4 ar e17_0 hst h0c) (cwV 4 hts gL_122 rfl rfl rfl (by decide +kernel) ⟨Nat.le_of_ble_eq_true rfl, Nat.le_of_ble_eq_true rfl⟩) (ec_preV hK hN hV hth (cC_0 _ _ _ _) rfl) rfl rfl hl.1 rfl (lv_room (Nat.le_of_ble_eq_true rfl)) dL_act_117 ⟨Nat.le_of_ble_eq_true rfl, Nat.le_of_ble_eq_true rfl⟩) hV hS hA (fun r u H locs hp hV hS => ?_)
  obtain ⟨rfl, eu9⟩ := hp
  rw [eu9] at hV
  refine lv_if_ne (tgt := 133) hx hb dL_act_120 rfl (fun h9 => absurd (by decide) h9) (fun _ => ?_)
  exact th_row (cls := tmS) (tx := "the supplier can't do it now") (kc := 61) (ks := 126) (ic := 65) hx hb hfl hown hlocks hml hl.1 hex hV hT hVs hS (hts _ kw_542) (hts _ kw_543) (hts _ kw_9) (by decide +kernel) (fun w hw => List.mem_append_right _ hw) (by decide +kernel) dL_act_123 dL_act_126 dL_act_127 dL_act_129 dL_act_132 (Nat.le_of_ble_eq_true rfl) (Nat.le_of_ble_eq_true rfl) (Nat.le_of_ble_eq_true rfl) (Nat.le_of_ble_eq_true rfl) (Nat.le_of_ble_eq_true rfl) (Nat.le_of_ble_eq_true rfl)

set_option maxHeartbeats 4000000 in
set_option maxRecDepth 100000 in
theorem t_act_promiseCopy_non_big (l : Launch) (hfl : l.flags = pinnedFlags ++ [noTraceFlag]) (D : va_G) (T : Nat → ClassId) (t0 : Nat × Nat) (X : Nat → Nat → Nat) (L : List Nat) (tg : Nat → Nat × Nat) (sz : Nat) (A : ew_R) (th : Nat) (hth : ew_in X L tg 0 0 th) (b : Nat) (ln : Nat) (ar : Int32) (nc : Nat) (nl : Nat) (e17_0 : ew_in X L tg 17 (6 * ln + b) (X 17 (6 * ln + b))) (e2_1 : ew_in X L tg 2 ln (X 2 ln)) (e10_2 : ew_in X L tg 10 0 (X 10 0)) (e13_3 : ew_in X L tg 13 ln (X 13 ln)) (e4_4 : ew_in X L tg 4 (6 * ln + b) (X 4 (6 * ln + b))) (hst : A 17 (6 * ln + b) 0 = 1) (qnc : A 0 0 5 = nI nc) (h0c : ¬ ar < 0) (h1c : nI nc ≤ ar) (hb6 : b < 6) (qfd : ¬ A 13 ln b = 0) (hnl2 : nl ≤ 32) (qnl : A 0 0 6 = nI nl) (hl9 : ln < nl) (qfl : ¬ A 10 0 ln = 0) : MetT l yL_act wsL_act ({ frames := 13, cells := 11, slots := 2036, locals := 420 }) (tm_Pc D vwCl (tysA T) (cfC T) t0 X L tg A sz [.ref th, .int (nI b), .int (nI ln), .int 7, .int ar]) (tQ D vwCl (cfC T) X L tg A sz tmS 11 2036) := by
  refine tm_met (by decide) rfl (Nat.le_of_ble_eq_true rfl) ?_
  intro p e s m below meth c ls hx hb hr hts hown hlocks hml hex hV hK hN hT hS hA hl hsz
  subst hsz
  have hVs := hV
  have hl : lv_has ls 7 [(0, .ref th), (1, .int (nI b)), (2, .int (nI ln)), (3, .int 7), (4, .int ar)] := hl
  refine lv_aload_n hx hb dL_act_0 rfl (lv_at hl 0 rfl) ?_
  refine lv_iload_n hx hb dL_act_1 rfl (lv_at hl 2 rfl) ?_
  refine er_callq (va_runV (As := [.int (nI ln)]) (rest := []) ⟨hx, hb, hml, hown, hts⟩ (c_L_loanAt_ok l D T X L tg _ A th hth ln nl e10_2 e2_1 hnl2 qnl hl9 qfl) (cwV 1 hts gL_88 rfl rfl rfl (by decide +kernel) ⟨Nat.le_of_ble_eq_true rfl, Nat.le_of_ble_eq_true rfl⟩) (ec_preV hK hN hV hth (cC_0 _ _ _ _) rfl) rfl rfl hl.1 rfl (lv_room (Nat.le_of_ble_eq_true rfl)) dL_act_2 ⟨Nat.le_of_ble_eq_true rfl, Nat.le_of_ble_eq_true rfl⟩) hV hS hA (fun r u H locs hp hV hS => ?_)
  obtain ⟨rfl, eu9⟩ := hp
  rw [eu9] at hV
  refine lv_astore (lv' := [(5, .ref (X 2 ln)), (0, .ref th), (1, .int (nI b)), (2, .int (nI ln)), (3, .int 7), (4, .int ar)]) hx hb dL_act_5 hl (by decide) rfl (fun ls hl => ?_)
  refine lv_aload hx hb dL_act_7 (lv_at hl 0 rfl) ?_
  refine lv_ifnull hx hb dL_act_9 ?_
  refine lv_iload_n hx hb dL_act_12 rfl (lv_at hl 4 rfl) ?_
  refine lv_if_lt (tgt := 22) hx hb dL_act_13 rfl (fun h9 => absurd h9 (by decide)) (fun _ => ?_)
  refine lv_iload_n hx hb dL_act_16 rfl (lv_at hl 4 rfl) ?_
  refine lv_bipush (v := 14) hx hb dL_act_17 (by decide) ?_
  refine lv_icmp_le (tgt := 32) hx hb dL_act_19 rfl (fun _ => ?_) (fun h9 => absurd (by decide) h9)
  refine lv_iload_n hx hb dL_act_32 rfl (lv_at hl 4 rfl) ?_
  refine lv_bipush (v := 6) hx hb dL_act_33 (by decide) ?_
  refine lv_icmp_gt (tgt := 86) hx hb dL_act_35 rfl (fun _ => ?_) (fun h9 => absurd (by decide) h9)
  refine lv_aload hx hb dL_act_86 (lv_at hl 0 rfl) ?_
  refine lv_iload_n hx hb dL_act_88 rfl (lv_at hl 2 rfl) ?_
  refine er_callq (va_runV (As := [.int (nI b)]) (rest := []) ⟨hx, hb, hml, hown, hts⟩ (c_Loan_dealWith_ok l D T X L tg _ A ln (X 2 ln) e2_1 b e13_3 e4_4 hb6 qfd) (cwV 1 hts gL_116 rfl rfl rfl (by decide +kernel) ⟨Nat.le_of_ble_eq_true rfl, Nat.le_of_ble_eq_true rfl⟩) (ec_preV hK hN hV e2_1 (cC_2 _ _ _ _) rfl) rfl rfl hl.1 rfl (lv_room (Nat.le_of_ble_eq_true rfl)) dL_act_89 ⟨Nat.le_of_ble_eq_true rfl, Nat.le_of_ble_eq_true rfl⟩) hV hS hA (fun r u H locs hp hV hS => ?_)
  obtain ⟨rfl, eu9⟩ := hp
  rw [eu9] at hV
  refine lv_astore (lv' := [(6, .ref (X 4 (6 * ln + b))), (5, .ref (X 2 ln)), (0, .ref th), (1, .int (nI b)), (2, .int (nI ln)), (3, .int 7), (4, .int ar)]) hx hb dL_act_92 hl (by decide) rfl (fun ls hl => ?_)
  refine lv_aload hx hb dL_act_94 (lv_at hl 0 rfl) ?_
  refine lv_ifnonnull (tgt := 109) hx hb dL_act_96 rfl ?_
  refine lv_aload_n hx hb dL_act_109 rfl (lv_at hl 2 rfl) ?_
  refine lv_aload hx hb dL_act_110 (lv_at hl 1 rfl) ?_
  refine lv_aload hx hb dL_act_112 (lv_at hl 0 rfl) ?_
  refine lv_iload_n hx hb dL_act_114 rfl (lv_at hl 5 rfl) ?_
  refine lv_iload hx hb dL_act_115 (lv_at hl 6 rfl) ?_
  refine er_calli (va_runV (As := [.ref (X 2 ln), .ref (X 4 (6 * ln + b)), .int 7, .int ar]) (rest := []) ⟨hx, hb, hml, hown, hts⟩ (c_L_sd_promiseCopy_non_big l D T X L tg _ A ln (6 * ln + b) th hth (X 2 ln) e2_1 (X 4 (6 * ln + b)) e4_4 ar nc e17_0 hst qnc h0c h1c) (cwV 4 hts gL_122 rfl rfl rfl (by decide +kernel) ⟨Nat.le_of_ble_eq_true rfl, Nat.le_of_ble_eq_true rfl⟩) (ec_preV hK hN hV hth (cC_0 _ _ _ _) rfl) rfl rfl hl.1 rfl (lv_room (Nat.le_of_ble_eq_true rfl)) dL_act_117 ⟨Nat.le_of_ble_eq_true rfl, Nat.le_of_ble_eq_true rfl⟩) hV hS hA (fun r u H locs hp hV hS => ?_)
  obtain ⟨rfl, eu9⟩ := hp
  rw [eu9] at hV
  refine lv_if_ne (tgt := 133) hx hb dL_act_120 rfl (fun h9 => absurd (by decide) h9) (fun _ => ?_)
  exact th_row (cls := tmS) (tx := "the supplier can't do it now") (kc := 61) (ks := 126) (ic := 65) hx hb hfl hown hlocks hml hl.1 hex hV hT hVs hS (hts _ kw_542) (hts _ kw_543) (hts _ kw_9) (by decide +kernel) (fun w hw => List.mem_append_right _ hw) (by decide +kernel) dL_act_123 dL_act_126 dL_act_127 dL_act_129 dL_act_132 (Nat.le_of_ble_eq_true rfl) (Nat.le_of_ble_eq_true rfl) (Nat.le_of_ble_eq_true rfl) (Nat.le_of_ble_eq_true rfl) (Nat.le_of_ble_eq_true rfl) (Nat.le_of_ble_eq_true rfl)

set_option maxHeartbeats 4000000 in
set_option maxRecDepth 100000 in
theorem t_act_promiseCopy_no1_neg (l : Launch) (hfl : l.flags = pinnedFlags ++ [noTraceFlag]) (D : va_G) (T : Nat → ClassId) (t0 : Nat × Nat) (X : Nat → Nat → Nat) (L : List Nat) (tg : Nat → Nat × Nat) (sz : Nat) (A : ew_R) (th : Nat) (hth : ew_in X L tg 0 0 th) (b : Nat) (ln : Nat) (ar : Int32) (nl : Nat) (e17_0 : ew_in X L tg 17 (6 * ln + b) (X 17 (6 * ln + b))) (e2_1 : ew_in X L tg 2 ln (X 2 ln)) (e10_2 : ew_in X L tg 10 0 (X 10 0)) (e13_3 : ew_in X L tg 13 ln (X 13 ln)) (e4_4 : ew_in X L tg 4 (6 * ln + b) (X 4 (6 * ln + b))) (hst : ¬ A 17 (6 * ln + b) 0 = 1) (h0c : ar < 0) (hb6 : b < 6) (qfd : ¬ A 13 ln b = 0) (hnl2 : nl ≤ 32) (qnl : A 0 0 6 = nI nl) (hl9 : ln < nl) (qfl : ¬ A 10 0 ln = 0) : MetT l yL_act wsL_act ({ frames := 13, cells := 11, slots := 2036, locals := 420 }) (tm_Pc D vwCl (tysA T) (cfC T) t0 X L tg A sz [.ref th, .int (nI b), .int (nI ln), .int 7, .int ar]) (tQ D vwCl (cfC T) X L tg A sz tmS 11 2036) := by
  refine tm_met (by decide) rfl (Nat.le_of_ble_eq_true rfl) ?_
  intro p e s m below meth c ls hx hb hr hts hown hlocks hml hex hV hK hN hT hS hA hl hsz
  subst hsz
  have hVs := hV
  have hl : lv_has ls 7 [(0, .ref th), (1, .int (nI b)), (2, .int (nI ln)), (3, .int 7), (4, .int ar)] := hl
  refine lv_aload_n hx hb dL_act_0 rfl (lv_at hl 0 rfl) ?_
  refine lv_iload_n hx hb dL_act_1 rfl (lv_at hl 2 rfl) ?_
  refine er_callq (va_runV (As := [.int (nI ln)]) (rest := []) ⟨hx, hb, hml, hown, hts⟩ (c_L_loanAt_ok l D T X L tg _ A th hth ln nl e10_2 e2_1 hnl2 qnl hl9 qfl) (cwV 1 hts gL_88 rfl rfl rfl (by decide +kernel) ⟨Nat.le_of_ble_eq_true rfl, Nat.le_of_ble_eq_true rfl⟩) (ec_preV hK hN hV hth (cC_0 _ _ _ _) rfl) rfl rfl hl.1 rfl (lv_room (Nat.le_of_ble_eq_true rfl)) dL_act_2 ⟨Nat.le_of_ble_eq_true rfl, Nat.le_of_ble_eq_true rfl⟩) hV hS hA (fun r u H locs hp hV hS => ?_)
  obtain ⟨rfl, eu9⟩ := hp
  rw [eu9] at hV
  refine lv_astore (lv' := [(5, .ref (X 2 ln)), (0, .ref th), (1, .int (nI b)), (2, .int (nI ln)), (3, .int 7), (4, .int ar)]) hx hb dL_act_5 hl (by decide) rfl (fun ls hl => ?_)
  refine lv_aload hx hb dL_act_7 (lv_at hl 0 rfl) ?_
  refine lv_ifnull hx hb dL_act_9 ?_
  refine lv_iload_n hx hb dL_act_12 rfl (lv_at hl 4 rfl) ?_
  refine lv_if_lt (tgt := 22) hx hb dL_act_13 rfl (fun h9 => absurd h9 (by decide)) (fun _ => ?_)
  refine lv_iload_n hx hb dL_act_16 rfl (lv_at hl 4 rfl) ?_
  refine lv_bipush (v := 14) hx hb dL_act_17 (by decide) ?_
  refine lv_icmp_le (tgt := 32) hx hb dL_act_19 rfl (fun _ => ?_) (fun h9 => absurd (by decide) h9)
  refine lv_iload_n hx hb dL_act_32 rfl (lv_at hl 4 rfl) ?_
  refine lv_bipush (v := 6) hx hb dL_act_33 (by decide) ?_
  refine lv_icmp_gt (tgt := 86) hx hb dL_act_35 rfl (fun _ => ?_) (fun h9 => absurd (by decide) h9)
  refine lv_aload hx hb dL_act_86 (lv_at hl 0 rfl) ?_
  refine lv_iload_n hx hb dL_act_88 rfl (lv_at hl 2 rfl) ?_
  refine er_callq (va_runV (As := [.int (nI b)]) (rest := []) ⟨hx, hb, hml, hown, hts⟩ (c_Loan_dealWith_ok l D T X L tg _ A ln (X 2 ln) e2_1 b e13_3 e4_4 hb6 qfd) (cwV 1 hts gL_116 rfl rfl rfl (by decide +kernel) ⟨Nat.le_of_ble_eq_true rfl, Nat.le_of_ble_eq_true rfl⟩) (ec_preV hK hN hV e2_1 (cC_2 _ _ _ _) rfl) rfl rfl hl.1 rfl (lv_room (Nat.le_of_ble_eq_true rfl)) dL_act_89 ⟨Nat.le_of_ble_eq_true rfl, Nat.le_of_ble_eq_true rfl⟩) hV hS hA (fun r u H locs hp hV hS => ?_)
  obtain ⟨rfl, eu9⟩ := hp
  rw [eu9] at hV
  refine lv_astore (lv' := [(6, .ref (X 4 (6 * ln + b))), (5, .ref (X 2 ln)), (0, .ref th), (1, .int (nI b)), (2, .int (nI ln)), (3, .int 7), (4, .int ar)]) hx hb dL_act_92 hl (by decide) rfl (fun ls hl => ?_)
  refine lv_aload hx hb dL_act_94 (lv_at hl 0 rfl) ?_
  refine lv_ifnonnull (tgt := 109) hx hb dL_act_96 rfl ?_
  refine lv_aload_n hx hb dL_act_109 rfl (lv_at hl 2 rfl) ?_
  refine lv_aload hx hb dL_act_110 (lv_at hl 1 rfl) ?_
  refine lv_aload hx hb dL_act_112 (lv_at hl 0 rfl) ?_
  refine lv_iload_n hx hb dL_act_114 rfl (lv_at hl 5 rfl) ?_
  refine lv_iload hx hb dL_act_115 (lv_at hl 6 rfl) ?_
  refine er_calli (va_runV (As := [.ref (X 2 ln), .ref (X 4 (6 * ln + b)), .int 7, .int ar]) (rest := []) ⟨hx, hb, hml, hown, hts⟩ (c_L_sd_promiseCopy_no1_neg l D T X L tg _ A ln (6 * ln + b) th hth (X 2 ln) e2_1 (X 4 (6 * ln + b)) e4_4 ar e17_0 hst h0c) (cwV 4 hts gL_122 rfl rfl rfl (by decide +kernel) ⟨Nat.le_of_ble_eq_true rfl, Nat.le_of_ble_eq_true rfl⟩) (ec_preV hK hN hV hth (cC_0 _ _ _ _) rfl) rfl rfl hl.1 rfl (lv_room (Nat.le_of_ble_eq_true rfl)) dL_act_117 ⟨Nat.le_of_ble_eq_true rfl, Nat.le_of_ble_eq_true rfl⟩) hV hS hA (fun r u H locs hp hV hS => ?_)
  obtain ⟨rfl, eu9⟩ := hp
  rw [eu9] at hV
  refine lv_if_ne (tgt := 133) hx hb dL_act_120 rfl (fun h9 => absurd (by decide) h9) (fun _ => ?_)
  exact th_row (cls := tmS) (tx := "the supplier can't do it now") (kc := 61) (ks := 126) (ic := 65) hx hb hfl hown hlocks hml hl.1 hex hV hT hVs hS (hts _ kw_542) (hts _ kw_543) (hts _ kw_9) (by decide +kernel) (fun w hw => List.mem_append_right _ hw) (by decide +kernel) dL_act_123 dL_act_126 dL_act_127 dL_act_129 dL_act_132 (Nat.le_of_ble_eq_true rfl) (Nat.le_of_ble_eq_true rfl) (Nat.le_of_ble_eq_true rfl) (Nat.le_of_ble_eq_true rfl) (Nat.le_of_ble_eq_true rfl) (Nat.le_of_ble_eq_true rfl)

set_option maxHeartbeats 4000000 in
set_option maxRecDepth 100000 in
theorem t_act_promiseCopy_no1_big (l : Launch) (hfl : l.flags = pinnedFlags ++ [noTraceFlag]) (D : va_G) (T : Nat → ClassId) (t0 : Nat × Nat) (X : Nat → Nat → Nat) (L : List Nat) (tg : Nat → Nat × Nat) (sz : Nat) (A : ew_R) (th : Nat) (hth : ew_in X L tg 0 0 th) (b : Nat) (ln : Nat) (ar : Int32) (nc : Nat) (nl : Nat) (e17_0 : ew_in X L tg 17 (6 * ln + b) (X 17 (6 * ln + b))) (e2_1 : ew_in X L tg 2 ln (X 2 ln)) (e10_2 : ew_in X L tg 10 0 (X 10 0)) (e13_3 : ew_in X L tg 13 ln (X 13 ln)) (e4_4 : ew_in X L tg 4 (6 * ln + b) (X 4 (6 * ln + b))) (hst : ¬ A 17 (6 * ln + b) 0 = 1) (qnc : A 0 0 5 = nI nc) (h0c : ¬ ar < 0) (h1c : nI nc ≤ ar) (hb6 : b < 6) (qfd : ¬ A 13 ln b = 0) (hnl2 : nl ≤ 32) (qnl : A 0 0 6 = nI nl) (hl9 : ln < nl) (qfl : ¬ A 10 0 ln = 0) : MetT l yL_act wsL_act ({ frames := 13, cells := 11, slots := 2036, locals := 420 }) (tm_Pc D vwCl (tysA T) (cfC T) t0 X L tg A sz [.ref th, .int (nI b), .int (nI ln), .int 7, .int ar]) (tQ D vwCl (cfC T) X L tg A sz tmS 11 2036) := by
  refine tm_met (by decide) rfl (Nat.le_of_ble_eq_true rfl) ?_
  intro p e s m below meth c ls hx hb hr hts hown hlocks hml hex hV hK hN hT hS hA hl hsz
  subst hsz
  have hVs := hV
  have hl : lv_has ls 7 [(0, .ref th), (1, .int (nI b)), (2, .int (nI ln)), (3, .int 7), (4, .int ar)] := hl
  refine lv_aload_n hx hb dL_act_0 rfl (lv_at hl 0 rfl) ?_
  refine lv_iload_n hx hb dL_act_1 rfl (lv_at hl 2 rfl) ?_
  refine er_callq (va_runV (As := [.int (nI ln)]) (rest := []) ⟨hx, hb, hml, hown, hts⟩ (c_L_loanAt_ok l D T X L tg _ A th hth ln nl e10_2 e2_1 hnl2 qnl hl9 qfl) (cwV 1 hts gL_88 rfl rfl rfl (by decide +kernel) ⟨Nat.le_of_ble_eq_true rfl, Nat.le_of_ble_eq_true rfl⟩) (ec_preV hK hN hV hth (cC_0 _ _ _ _) rfl) rfl rfl hl.1 rfl (lv_room (Nat.le_of_ble_eq_true rfl)) dL_act_2 ⟨Nat.le_of_ble_eq_true rfl, Nat.le_of_ble_eq_true rfl⟩) hV hS hA (fun r u H locs hp hV hS => ?_)
  obtain ⟨rfl, eu9⟩ := hp
  rw [eu9] at hV
  refine lv_astore (lv' := [(5, .ref (X 2 ln)), (0, .ref th), (1, .int (nI b)), (2, .int (nI ln)), (3, .int 7), (4, .int ar)]) hx hb dL_act_5 hl (by decide) rfl (fun ls hl => ?_)
  refine lv_aload hx hb dL_act_7 (lv_at hl 0 rfl) ?_
  refine lv_ifnull hx hb dL_act_9 ?_
  refine lv_iload_n hx hb dL_act_12 rfl (lv_at hl 4 rfl) ?_
  refine lv_if_lt (tgt := 22) hx hb dL_act_13 rfl (fun h9 => absurd h9 (by decide)) (fun _ => ?_)
  refine lv_iload_n hx hb dL_act_16 rfl (lv_at hl 4 rfl) ?_
  refine lv_bipush (v := 14) hx hb dL_act_17 (by decide) ?_
  refine lv_icmp_le (tgt := 32) hx hb dL_act_19 rfl (fun _ => ?_) (fun h9 => absurd (by decide) h9)
  refine lv_iload_n hx hb dL_act_32 rfl (lv_at hl 4 rfl) ?_
  refine lv_bipush (v := 6) hx hb dL_act_33 (by decide) ?_
  refine lv_icmp_gt (tgt := 86) hx hb dL_act_35 rfl (fun _ => ?_) (fun h9 => absurd (by decide) h9)
  refine lv_aload hx hb dL_act_86 (lv_at hl 0 rfl) ?_
  refine lv_iload_n hx hb dL_act_88 rfl (lv_at hl 2 rfl) ?_
  refine er_callq (va_runV (As := [.int (nI b)]) (rest := []) ⟨hx, hb, hml, hown, hts⟩ (c_Loan_dealWith_ok l D T X L tg _ A ln (X 2 ln) e2_1 b e13_3 e4_4 hb6 qfd) (cwV 1 hts gL_116 rfl rfl rfl (by decide +kernel) ⟨Nat.le_of_ble_eq_true rfl, Nat.le_of_ble_eq_true rfl⟩) (ec_preV hK hN hV e2_1 (cC_2 _ _ _ _) rfl) rfl rfl hl.1 rfl (lv_room (Nat.le_of_ble_eq_true rfl)) dL_act_89 ⟨Nat.le_of_ble_eq_true rfl, Nat.le_of_ble_eq_true rfl⟩) hV hS hA (fun r u H locs hp hV hS => ?_)
  obtain ⟨rfl, eu9⟩ := hp
  rw [eu9] at hV
  refine lv_astore (lv' := [(6, .ref (X 4 (6 * ln + b))), (5, .ref (X 2 ln)), (0, .ref th), (1, .int (nI b)), (2, .int (nI ln)), (3, .int 7), (4, .int ar)]) hx hb dL_act_92 hl (by decide) rfl (fun ls hl => ?_)
  refine lv_aload hx hb dL_act_94 (lv_at hl 0 rfl) ?_
  refine lv_ifnonnull (tgt := 109) hx hb dL_act_96 rfl ?_
  refine lv_aload_n hx hb dL_act_109 rfl (lv_at hl 2 rfl) ?_
  refine lv_aload hx hb dL_act_110 (lv_at hl 1 rfl) ?_
  refine lv_aload hx hb dL_act_112 (lv_at hl 0 rfl) ?_
  refine lv_iload_n hx hb dL_act_114 rfl (lv_at hl 5 rfl) ?_
  refine lv_iload hx hb dL_act_115 (lv_at hl 6 rfl) ?_
  refine er_calli (va_runV (As := [.ref (X 2 ln), .ref (X 4 (6 * ln + b)), .int 7, .int ar]) (rest := []) ⟨hx, hb, hml, hown, hts⟩ (c_L_sd_promiseCopy_no1_big l D T X L tg _ A ln (6 * ln + b) th hth (X 2 ln) e2_1 (X 4 (6 * ln + b)) e4_4 ar nc e17_0 hst qnc h0c h1c) (cwV 4 hts gL_122 rfl rfl rfl (by decide +kernel) ⟨Nat.le_of_ble_eq_true rfl, Nat.le_of_ble_eq_true rfl⟩) (ec_preV hK hN hV hth (cC_0 _ _ _ _) rfl) rfl rfl hl.1 rfl (lv_room (Nat.le_of_ble_eq_true rfl)) dL_act_117 ⟨Nat.le_of_ble_eq_true rfl, Nat.le_of_ble_eq_true rfl⟩) hV hS hA (fun r u H locs hp hV hS => ?_)
  obtain ⟨rfl, eu9⟩ := hp
  rw [eu9] at hV
  refine lv_if_ne (tgt := 133) hx hb dL_act_120 rfl (fun h9 => absurd (by decide) h9) (fun _ => ?_)
  exact th_row (cls := tmS) (tx := "the supplier can't do it now") (kc := 61) (ks := 126) (ic := 65) hx hb hfl hown hlocks hml hl.1 hex hV hT hVs hS (hts _ kw_542) (hts _ kw_543) (hts _ kw_9) (by decide +kernel) (fun w hw => List.mem_append_right _ hw) (by decide +kernel) dL_act_123 dL_act_126 dL_act_127 dL_act_129 dL_act_132 (Nat.le_of_ble_eq_true rfl) (Nat.le_of_ble_eq_true rfl) (Nat.le_of_ble_eq_true rfl) (Nat.le_of_ble_eq_true rfl) (Nat.le_of_ble_eq_true rfl) (Nat.le_of_ble_eq_true rfl)

set_option maxHeartbeats 4000000 in
set_option maxRecDepth 100000 in
theorem t_resend_neg (l : Launch) (hfl : l.flags = pinnedFlags ++ [noTraceFlag]) (D : va_G) (T : Nat → ClassId) (t0 : Nat × Nat) (X : Nat → Nat → Nat) (L : List Nat) (tg : Nat → Nat × Nat) (sz : Nat) (A : ew_R) (th : Nat) (hth : ew_in X L tg 0 0 th) (b : Int32) (ln : Int32) (h0 : ln < 0) : MetT l yL_resend wsL_resend ({ frames := 13, cells := 11, slots := 2036, locals := 420 }) (tm_Pc D vwCl (tysA T) (cfC T) t0 X L tg A sz [.ref th, .int b, .int ln]) (tQ D vwCl (cfC T) X L tg A sz tmI 11 2036) := by
  refine tm_met (by decide) rfl (Nat.le_of_ble_eq_true rfl) ?_
  intro p e s m below meth c ls hx hb hr hts hown hlocks hml hex hV hK hN hT hS hA hl hsz
  subst hsz
  have hVs := hV
  have hl : lv_has ls 7 [(0, .ref th), (1, .int b), (2, .int ln)] := hl
  refine lv_aload_n hx hb dL_resend_0 rfl (lv_at hl 0 rfl) ?_
  refine lv_iload_n hx hb dL_resend_1 rfl (lv_at hl 2 rfl) ?_
  refine er_callq (va_runV (As := [.int ln]) (rest := []) ⟨hx, hb, hml, hown, hts⟩ (c_L_loanAt_neg l D T X L tg _ A th hth ln h0) (cwV 1 hts gL_88 rfl rfl rfl (by decide +kernel) ⟨Nat.le_of_ble_eq_true rfl, Nat.le_of_ble_eq_true rfl⟩) (ec_preV hK hN hV hth (cC_0 _ _ _ _) rfl) rfl rfl hl.1 rfl (lv_room (Nat.le_of_ble_eq_true rfl)) dL_resend_2 ⟨Nat.le_of_ble_eq_true rfl, Nat.le_of_ble_eq_true rfl⟩) hV hS hA (fun r u H locs hp hV hS => ?_)
  obtain ⟨rfl, eu9⟩ := hp
  rw [eu9] at hV
  refine lv_iload_n hx hb dL_resend_5 rfl (lv_at hl 1 rfl) ?_
  refine er_callq (va_runS (As := [.null, .int b]) (rest := []) ⟨hx, hb, hml, hown, hts⟩ (c_L_sideOf_null l D T X L tg _ A b) (cwS 2 hts gL_134 rfl rfl rfl (by decide +kernel) ⟨Nat.le_of_ble_eq_true rfl, Nat.le_of_ble_eq_true rfl⟩) (ec_preS hK hN hV) rfl rfl hl.1 rfl (lv_room (Nat.le_of_ble_eq_true rfl)) dL_resend_6 ⟨Nat.le_of_ble_eq_true rfl, Nat.le_of_ble_eq_true rfl⟩) hV hS hA (fun r u H locs hp hV hS => ?_)
  obtain ⟨rfl, eu9⟩ := hp
  rw [eu9] at hV
  refine lv_astore_nN (lv' := [(3, .null), (0, .ref th), (1, .int b), (2, .int ln)]) hx hb dL_resend_9 rfl hl (by decide) rfl (fun ls hl => ?_)
  refine lv_aload_nN hx hb dL_resend_10 rfl (lv_at hl 0 rfl) ?_
  refine lv_ifnonnullN hx hb dL_resend_11 ?_
  exact th_row (cls := tmI) (tx := "the library is neither requester nor supplier") (kc := 50) (ks := 138) (ic := 54) hx hb hfl hown hlocks hml hl.1 hex hV hT hVs hS (hts _ kw_475) (hts _ kw_476) (hts _ kw_8) (by decide +kernel) (fun w hw => List.mem_append_left _ hw) (by decide +kernel) dL_resend_14 dL_resend_17 dL_resend_18 dL_resend_20 dL_resend_23 (Nat.le_of_ble_eq_true rfl) (Nat.le_of_ble_eq_true rfl) (Nat.le_of_ble_eq_true rfl) (Nat.le_of_ble_eq_true rfl) (Nat.le_of_ble_eq_true rfl) (Nat.le_of_ble_eq_true rfl)

set_option maxHeartbeats 4000000 in
set_option maxRecDepth 100000 in
theorem t_resend_big (l : Launch) (hfl : l.flags = pinnedFlags ++ [noTraceFlag]) (D : va_G) (T : Nat → ClassId) (t0 : Nat × Nat) (X : Nat → Nat → Nat) (L : List Nat) (tg : Nat → Nat × Nat) (sz : Nat) (A : ew_R) (th : Nat) (hth : ew_in X L tg 0 0 th) (b : Int32) (ln : Int32) (nl : Nat) (qnl : A 0 0 6 = nI nl) (h0 : ¬ ln < 0) (h1 : nI nl ≤ ln) : MetT l yL_resend wsL_resend ({ frames := 13, cells := 11, slots := 2036, locals := 420 }) (tm_Pc D vwCl (tysA T) (cfC T) t0 X L tg A sz [.ref th, .int b, .int ln]) (tQ D vwCl (cfC T) X L tg A sz tmI 11 2036) := by
  refine tm_met (by decide) rfl (Nat.le_of_ble_eq_true rfl) ?_
  intro p e s m below meth c ls hx hb hr hts hown hlocks hml hex hV hK hN hT hS hA hl hsz
  subst hsz
  have hVs := hV
  have hl : lv_has ls 7 [(0, .ref th), (1, .int b), (2, .int ln)] := hl
  refine lv_aload_n hx hb dL_resend_0 rfl (lv_at hl 0 rfl) ?_
  refine lv_iload_n hx hb dL_resend_1 rfl (lv_at hl 2 rfl) ?_
  refine er_callq (va_runV (As := [.int ln]) (rest := []) ⟨hx, hb, hml, hown, hts⟩ (c_L_loanAt_big l D T X L tg _ A th hth ln nl qnl h0 h1) (cwV 1 hts gL_88 rfl rfl rfl (by decide +kernel) ⟨Nat.le_of_ble_eq_true rfl, Nat.le_of_ble_eq_true rfl⟩) (ec_preV hK hN hV hth (cC_0 _ _ _ _) rfl) rfl rfl hl.1 rfl (lv_room (Nat.le_of_ble_eq_true rfl)) dL_resend_2 ⟨Nat.le_of_ble_eq_true rfl, Nat.le_of_ble_eq_true rfl⟩) hV hS hA (fun r u H locs hp hV hS => ?_)
  obtain ⟨rfl, eu9⟩ := hp
  rw [eu9] at hV
  refine lv_iload_n hx hb dL_resend_5 rfl (lv_at hl 1 rfl) ?_
  refine er_callq (va_runS (As := [.null, .int b]) (rest := []) ⟨hx, hb, hml, hown, hts⟩ (c_L_sideOf_null l D T X L tg _ A b) (cwS 2 hts gL_134 rfl rfl rfl (by decide +kernel) ⟨Nat.le_of_ble_eq_true rfl, Nat.le_of_ble_eq_true rfl⟩) (ec_preS hK hN hV) rfl rfl hl.1 rfl (lv_room (Nat.le_of_ble_eq_true rfl)) dL_resend_6 ⟨Nat.le_of_ble_eq_true rfl, Nat.le_of_ble_eq_true rfl⟩) hV hS hA (fun r u H locs hp hV hS => ?_)
  obtain ⟨rfl, eu9⟩ := hp
  rw [eu9] at hV
  refine lv_astore_nN (lv' := [(3, .null), (0, .ref th), (1, .int b), (2, .int ln)]) hx hb dL_resend_9 rfl hl (by decide) rfl (fun ls hl => ?_)
  refine lv_aload_nN hx hb dL_resend_10 rfl (lv_at hl 0 rfl) ?_
  refine lv_ifnonnullN hx hb dL_resend_11 ?_
  exact th_row (cls := tmI) (tx := "the library is neither requester nor supplier") (kc := 50) (ks := 138) (ic := 54) hx hb hfl hown hlocks hml hl.1 hex hV hT hVs hS (hts _ kw_475) (hts _ kw_476) (hts _ kw_8) (by decide +kernel) (fun w hw => List.mem_append_left _ hw) (by decide +kernel) dL_resend_14 dL_resend_17 dL_resend_18 dL_resend_20 dL_resend_23 (Nat.le_of_ble_eq_true rfl) (Nat.le_of_ble_eq_true rfl) (Nat.le_of_ble_eq_true rfl) (Nat.le_of_ble_eq_true rfl) (Nat.le_of_ble_eq_true rfl) (Nat.le_of_ble_eq_true rfl)

set_option maxHeartbeats 4000000 in
set_option maxRecDepth 100000 in
theorem t_resend_bad (l : Launch) (hfl : l.flags = pinnedFlags ++ [noTraceFlag]) (D : va_G) (T : Nat → ClassId) (t0 : Nat × Nat) (X : Nat → Nat → Nat) (L : List Nat) (tg : Nat → Nat × Nat) (sz : Nat) (A : ew_R) (th : Nat) (hth : ew_in X L tg 0 0 th) (b : Int32) (ln : Nat) (nl : Nat) (rq : Nat) (e2_0 : ew_in X L tg 2 ln (X 2 ln)) (e10_1 : ew_in X L tg 10 0 (X 10 0)) (hnl2 : nl ≤ 32) (qnl : A 0 0 6 = nI nl) (hl9 : ln < nl) (qfl : ¬ A 10 0 ln = 0) (hrq : rq < 6) (q1 : A 2 ln 1 = nI rq) (hbr : ¬ b = nI rq) (hnb : z_L_isLibrary b = 0) : MetT l yL_resend wsL_resend ({ frames := 13, cells := 11, slots := 2036, locals := 420 }) (tm_Pc D vwCl (tysA T) (cfC T) t0 X L tg A sz [.ref th, .int b, .int (nI ln)]) (tQ D vwCl (cfC T) X L tg A sz tmI 11 2036) := by
  refine tm_met (by decide) rfl (Nat.le_of_ble_eq_true rfl) ?_
  intro p e s m below meth c ls hx hb hr hts hown hlocks hml hex hV hK hN hT hS hA hl hsz
  subst hsz
  have hVs := hV
  have hl : lv_has ls 7 [(0, .ref th), (1, .int b), (2, .int (nI ln))] := hl
  refine lv_aload_n hx hb dL_resend_0 rfl (lv_at hl 0 rfl) ?_
  refine lv_iload_n hx hb dL_resend_1 rfl (lv_at hl 2 rfl) ?_
  refine er_callq (va_runV (As := [.int (nI ln)]) (rest := []) ⟨hx, hb, hml, hown, hts⟩ (c_L_loanAt_ok l D T X L tg _ A th hth ln nl e10_1 e2_0 hnl2 qnl hl9 qfl) (cwV 1 hts gL_88 rfl rfl rfl (by decide +kernel) ⟨Nat.le_of_ble_eq_true rfl, Nat.le_of_ble_eq_true rfl⟩) (ec_preV hK hN hV hth (cC_0 _ _ _ _) rfl) rfl rfl hl.1 rfl (lv_room (Nat.le_of_ble_eq_true rfl)) dL_resend_2 ⟨Nat.le_of_ble_eq_true rfl, Nat.le_of_ble_eq_true rfl⟩) hV hS hA (fun r u H locs hp hV hS => ?_)
  obtain ⟨rfl, eu9⟩ := hp
  rw [eu9] at hV
  refine lv_iload_n hx hb dL_resend_5 rfl (lv_at hl 1 rfl) ?_
  refine er_callq (va_runS (As := [.ref (X 2 ln), .int b]) (rest := []) ⟨hx, hb, hml, hown, hts⟩ (c_L_sideOf_bad l D T X L tg _ A ln (X 2 ln) e2_0 b rq hrq q1 hbr hnb) (cwS 2 hts gL_134 rfl rfl rfl (by decide +kernel) ⟨Nat.le_of_ble_eq_true rfl, Nat.le_of_ble_eq_true rfl⟩) (ec_preS hK hN hV) rfl rfl hl.1 rfl (lv_room (Nat.le_of_ble_eq_true rfl)) dL_resend_6 ⟨Nat.le_of_ble_eq_true rfl, Nat.le_of_ble_eq_true rfl⟩) hV hS hA (fun r u H locs hp hV hS => ?_)
  obtain ⟨rfl, eu9⟩ := hp
  rw [eu9] at hV
  refine lv_astore_nN (lv' := [(3, .null), (0, .ref th), (1, .int b), (2, .int (nI ln))]) hx hb dL_resend_9 rfl hl (by decide) rfl (fun ls hl => ?_)
  refine lv_aload_nN hx hb dL_resend_10 rfl (lv_at hl 0 rfl) ?_
  refine lv_ifnonnullN hx hb dL_resend_11 ?_
  exact th_row (cls := tmI) (tx := "the library is neither requester nor supplier") (kc := 50) (ks := 138) (ic := 54) hx hb hfl hown hlocks hml hl.1 hex hV hT hVs hS (hts _ kw_475) (hts _ kw_476) (hts _ kw_8) (by decide +kernel) (fun w hw => List.mem_append_left _ hw) (by decide +kernel) dL_resend_14 dL_resend_17 dL_resend_18 dL_resend_20 dL_resend_23 (Nat.le_of_ble_eq_true rfl) (Nat.le_of_ble_eq_true rfl) (Nat.le_of_ble_eq_true rfl) (Nat.le_of_ble_eq_true rfl) (Nat.le_of_ble_eq_true rfl) (Nat.le_of_ble_eq_true rfl)

set_option maxHeartbeats 4000000 in
set_option maxRecDepth 100000 in
theorem t_resend_no (l : Launch) (hfl : l.flags = pinnedFlags ++ [noTraceFlag]) (D : va_G) (T : Nat → ClassId) (t0 : Nat × Nat) (X : Nat → Nat → Nat) (L : List Nat) (tg : Nat → Nat × Nat) (sz : Nat) (A : ew_R) (th : Nat) (hth : ew_in X L tg 0 0 th) (b : Nat) (ln : Nat) (nl : Nat) (rq : Nat) (e2_0 : ew_in X L tg 2 ln (X 2 ln)) (e10_1 : ew_in X L tg 10 0 (X 10 0)) (e13_2 : ew_in X L tg 13 ln (X 13 ln)) (hnl2 : nl ≤ 32) (qnl : A 0 0 6 = nI nl) (hl9 : ln < nl) (qfl : ¬ A 10 0 ln = 0) (hrq : rq < 6) (q1 : A 2 ln 1 = nI rq) (hb6 : b < 6) (hbr : ¬ b = rq) (qd : A 13 ln b = 0) : MetT l yL_resend wsL_resend ({ frames := 13, cells := 11, slots := 2036, locals := 420 }) (tm_Pc D vwCl (tysA T) (cfC T) t0 X L tg A sz [.ref th, .int (nI b), .int (nI ln)]) (tQ D vwCl (cfC T) X L tg A sz tmI 11 2036) := by
  refine tm_met (by decide) rfl (Nat.le_of_ble_eq_true rfl) ?_
  intro p e s m below meth c ls hx hb hr hts hown hlocks hml hex hV hK hN hT hS hA hl hsz
  subst hsz
  have hVs := hV
  have hl : lv_has ls 7 [(0, .ref th), (1, .int (nI b)), (2, .int (nI ln))] := hl
  refine lv_aload_n hx hb dL_resend_0 rfl (lv_at hl 0 rfl) ?_
  refine lv_iload_n hx hb dL_resend_1 rfl (lv_at hl 2 rfl) ?_
  refine er_callq (va_runV (As := [.int (nI ln)]) (rest := []) ⟨hx, hb, hml, hown, hts⟩ (c_L_loanAt_ok l D T X L tg _ A th hth ln nl e10_1 e2_0 hnl2 qnl hl9 qfl) (cwV 1 hts gL_88 rfl rfl rfl (by decide +kernel) ⟨Nat.le_of_ble_eq_true rfl, Nat.le_of_ble_eq_true rfl⟩) (ec_preV hK hN hV hth (cC_0 _ _ _ _) rfl) rfl rfl hl.1 rfl (lv_room (Nat.le_of_ble_eq_true rfl)) dL_resend_2 ⟨Nat.le_of_ble_eq_true rfl, Nat.le_of_ble_eq_true rfl⟩) hV hS hA (fun r u H locs hp hV hS => ?_)
  obtain ⟨rfl, eu9⟩ := hp
  rw [eu9] at hV
  refine lv_iload_n hx hb dL_resend_5 rfl (lv_at hl 1 rfl) ?_
  refine er_callq (va_runS (As := [.ref (X 2 ln), .int (nI b)]) (rest := []) ⟨hx, hb, hml, hown, hts⟩ (c_L_sideOf_n l D T X L tg _ A ln (X 2 ln) e2_0 b rq e13_2 hrq q1 hb6 hbr qd) (cwS 2 hts gL_134 rfl rfl rfl (by decide +kernel) ⟨Nat.le_of_ble_eq_true rfl, Nat.le_of_ble_eq_true rfl⟩) (ec_preS hK hN hV) rfl rfl hl.1 rfl (lv_room (Nat.le_of_ble_eq_true rfl)) dL_resend_6 ⟨Nat.le_of_ble_eq_true rfl, Nat.le_of_ble_eq_true rfl⟩) hV hS hA (fun r u H locs hp hV hS => ?_)
  obtain ⟨rfl, eu9⟩ := hp
  rw [eu9] at hV
  refine lv_astore_nN (lv' := [(3, .null), (0, .ref th), (1, .int (nI b)), (2, .int (nI ln))]) hx hb dL_resend_9 rfl hl (by decide) rfl (fun ls hl => ?_)
  refine lv_aload_nN hx hb dL_resend_10 rfl (lv_at hl 0 rfl) ?_
  refine lv_ifnonnullN hx hb dL_resend_11 ?_
  exact th_row (cls := tmI) (tx := "the library is neither requester nor supplier") (kc := 50) (ks := 138) (ic := 54) hx hb hfl hown hlocks hml hl.1 hex hV hT hVs hS (hts _ kw_475) (hts _ kw_476) (hts _ kw_8) (by decide +kernel) (fun w hw => List.mem_append_left _ hw) (by decide +kernel) dL_resend_14 dL_resend_17 dL_resend_18 dL_resend_20 dL_resend_23 (Nat.le_of_ble_eq_true rfl) (Nat.le_of_ble_eq_true rfl) (Nat.le_of_ble_eq_true rfl) (Nat.le_of_ble_eq_true rfl) (Nat.le_of_ble_eq_true rfl) (Nat.le_of_ble_eq_true rfl)
