set_option maxHeartbeats 4000000 in
set_option maxRecDepth 100000 in
theorem c_L_receive_no (l : Launch) (D : va_G) (T : Nat → ClassId) (X : Nat → Nat → Nat) (L : List Nat) (tg : Nat → Nat × Nat) (sz : Nat) (A : ew_R) (ln : Nat) (th : Nat) (hth : ew_in X L tg 0 0 th) (lo : Nat) (hlo : ew_in X L tg 2 ln lo) (e3_0 : ew_in X L tg 3 ln (X 3 ln)) (hst : ¬ A 3 ln 0 = 3) : Met l yL_receive wsL_receive ({ frames := 10, cells := 0, slots := 0, locals := 227 }) (ec_Pc D vwCl (tysA T) (cfC T) X L tg A sz [.ref th, .ref lo]) (er_Qi D vwCl (cfC T) X L tg sz (fun r u => r = 0 ∧ u = A)) 0 0 (ew_A L sz) := by
  refine ec_met (by decide) rfl (Nat.le_of_ble_eq_true rfl) ?_
  intro p e s m below meth c ls hx hb hr hts hown hlocks hml hV hK hN hS hA hl hsz
  subst hsz
  have hl : lv_has ls 2 [(0, .ref th), (1, .ref lo)] := hl
  refine lv_aload_n hx hb dL_receive_0 rfl (lv_at hl 1 rfl) ?_
  refine ew_get (v := .ref (X 3 ln)) hx hb hts hown hK hV fL_107 hlo (cC_2 _ _ _ _) rfl dL_receive_1 ?_
  refine ew_get (v := .int (A 3 ln 0)) hx hb hts hown hK hV fL_111 e3_0 (cC_3 _ _ _ _) rfl dL_receive_4 ?_
  refine lv_iconst (v := 3) hx hb dL_receive_7 (by decide) ?_
  refine lv_icmp_eq (tgt := 13) hx hb dL_receive_8 rfl (fun h9 => absurd h9 hst) (fun _ => ?_)
  refine lv_iconst (v := 0) hx hb dL_receive_11 (by decide) ?_
  exact er_zret hx hb hr hlocks hV hS dL_receive_12 (by decide) ⟨rfl, rfl⟩

set_option maxHeartbeats 4000000 in
set_option maxRecDepth 100000 in
theorem c_L_giveBack_no (l : Launch) (D : va_G) (T : Nat → ClassId) (X : Nat → Nat → Nat) (L : List Nat) (tg : Nat → Nat × Nat) (sz : Nat) (A : ew_R) (ln : Nat) (th : Nat) (hth : ew_in X L tg 0 0 th) (lo : Nat) (hlo : ew_in X L tg 2 ln lo) (e3_0 : ew_in X L tg 3 ln (X 3 ln)) (hst : z_Asker_hasCopy (A 3 ln 0) = 0) : Met l yL_giveBack wsL_giveBack ({ frames := 10, cells := 0, slots := 0, locals := 227 }) (ec_Pc D vwCl (tysA T) (cfC T) X L tg A sz [.ref th, .ref lo]) (er_Qi D vwCl (cfC T) X L tg sz (fun r u => r = 0 ∧ u = A)) 0 0 (ew_A L sz) := by
  refine ec_met (by decide) rfl (Nat.le_of_ble_eq_true rfl) ?_
  intro p e s m below meth c ls hx hb hr hts hown hlocks hml hV hK hN hS hA hl hsz
  subst hsz
  have hl : lv_has ls 2 [(0, .ref th), (1, .ref lo)] := hl
  refine lv_aload_n hx hb dL_giveBack_0 rfl (lv_at hl 1 rfl) ?_
  refine ew_get (v := .ref (X 3 ln)) hx hb hts hown hK hV fL_107 hlo (cC_2 _ _ _ _) rfl dL_giveBack_1 ?_
  refine ew_get (v := .int (A 3 ln 0)) hx hb hts hown hK hV fL_111 e3_0 (cC_3 _ _ _ _) rfl dL_giveBack_4 ?_
  refine er_calli (va_runS (As := [.int (A 3 ln 0)]) (rest := []) ⟨hx, hb, hml, hown, hts⟩ (c_Asker_hasCopy l D T X L tg _ A (A 3 ln 0)) ⟨callB_of 1 hts gL_203.1 rfl rfl rfl (hts _ gL_203.2.2.2) (hts _ gL_203.2.1) (by decide +kernel) ⟨Nat.le_of_ble_eq_true rfl, Nat.le_of_ble_eq_true rfl⟩, hts _ gL_203.2.2.1⟩ (ec_preS hK hN hV) rfl rfl hl.1 rfl (lv_room (Nat.le_of_ble_eq_true rfl)) dL_giveBack_7 ⟨Nat.le_of_ble_eq_true rfl, Nat.le_of_ble_eq_true rfl⟩) hV hS hA (fun r u H locs hp hV hS => ?_)
  obtain ⟨rfl, eu9⟩ := hp
  rw [eu9] at hV
  refine lv_toe (y := 0) hst ?_
  refine lv_if_ne (tgt := 15) hx hb dL_giveBack_10 rfl (fun h9 => absurd (by decide) h9) (fun _ => ?_)
  refine lv_iconst (v := 0) hx hb dL_giveBack_13 (by decide) ?_
  exact er_zret hx hb hr hlocks hV hS dL_giveBack_14 (by decide) ⟨rfl, rfl⟩

set_option maxHeartbeats 4000000 in
set_option maxRecDepth 100000 in
theorem c_L_lose_no (l : Launch) (D : va_G) (T : Nat → ClassId) (X : Nat → Nat → Nat) (L : List Nat) (tg : Nat → Nat × Nat) (sz : Nat) (A : ew_R) (ln : Nat) (th : Nat) (hth : ew_in X L tg 0 0 th) (lo : Nat) (hlo : ew_in X L tg 2 ln lo) (e3_0 : ew_in X L tg 3 ln (X 3 ln)) (hst : z_Asker_hasCopy (A 3 ln 0) = 0) : Met l yL_lose wsL_lose ({ frames := 10, cells := 0, slots := 0, locals := 227 }) (ec_Pc D vwCl (tysA T) (cfC T) X L tg A sz [.ref th, .ref lo]) (er_Qi D vwCl (cfC T) X L tg sz (fun r u => r = 0 ∧ u = A)) 0 0 (ew_A L sz) := by
  refine ec_met (by decide) rfl (Nat.le_of_ble_eq_true rfl) ?_
  intro p e s m below meth c ls hx hb hr hts hown hlocks hml hV hK hN hS hA hl hsz
  subst hsz
  have hl : lv_has ls 2 [(0, .ref th), (1, .ref lo)] := hl
  refine lv_aload_n hx hb dL_lose_0 rfl (lv_at hl 1 rfl) ?_
  refine ew_get (v := .ref (X 3 ln)) hx hb hts hown hK hV fL_107 hlo (cC_2 _ _ _ _) rfl dL_lose_1 ?_
  refine ew_get (v := .int (A 3 ln 0)) hx hb hts hown hK hV fL_111 e3_0 (cC_3 _ _ _ _) rfl dL_lose_4 ?_
  refine er_calli (va_runS (As := [.int (A 3 ln 0)]) (rest := []) ⟨hx, hb, hml, hown, hts⟩ (c_Asker_hasCopy l D T X L tg _ A (A 3 ln 0)) ⟨callB_of 1 hts gL_203.1 rfl rfl rfl (hts _ gL_203.2.2.2) (hts _ gL_203.2.1) (by decide +kernel) ⟨Nat.le_of_ble_eq_true rfl, Nat.le_of_ble_eq_true rfl⟩, hts _ gL_203.2.2.1⟩ (ec_preS hK hN hV) rfl rfl hl.1 rfl (lv_room (Nat.le_of_ble_eq_true rfl)) dL_lose_7 ⟨Nat.le_of_ble_eq_true rfl, Nat.le_of_ble_eq_true rfl⟩) hV hS hA (fun r u H locs hp hV hS => ?_)
  obtain ⟨rfl, eu9⟩ := hp
  rw [eu9] at hV
  refine lv_toe (y := 0) hst ?_
  refine lv_if_ne (tgt := 15) hx hb dL_lose_10 rfl (fun h9 => absurd (by decide) h9) (fun _ => ?_)
  refine lv_iconst (v := 0) hx hb dL_lose_13 (by decide) ?_
  exact er_zret hx hb hr hlocks hV hS dL_lose_14 (by decide) ⟨rfl, rfl⟩

set_option maxHeartbeats 4000000 in
set_option maxRecDepth 100000 in
theorem c_L_ship_no (l : Launch) (D : va_G) (T : Nat → ClassId) (X : Nat → Nat → Nat) (L : List Nat) (tg : Nat → Nat × Nat) (sz : Nat) (A : ew_R) (ln : Nat) (d : Nat) (th : Nat) (hth : ew_in X L tg 0 0 th) (lo : Nat) (hlo : ew_in X L tg 2 ln lo) (dl : Nat) (hdl : ew_in X L tg 4 d dl) (e17_0 : ew_in X L tg 17 d (X 17 d)) (hst : ¬ A 17 d 0 = 3) : Met l yL_ship wsL_ship ({ frames := 10, cells := 0, slots := 0, locals := 227 }) (ec_Pc D vwCl (tysA T) (cfC T) X L tg A sz [.ref th, .ref lo, .ref dl]) (er_Qi D vwCl (cfC T) X L tg sz (fun r u => r = 0 ∧ u = A)) 0 0 (ew_A L sz) := by
  refine ec_met (by decide) rfl (Nat.le_of_ble_eq_true rfl) ?_
  intro p e s m below meth c ls hx hb hr hts hown hlocks hml hV hK hN hS hA hl hsz
  subst hsz
  have hl : lv_has ls 3 [(0, .ref th), (1, .ref lo), (2, .ref dl)] := hl
  refine lv_aload_n hx hb dL_ship_0 rfl (lv_at hl 2 rfl) ?_
  refine ew_get (v := .ref (X 17 d)) hx hb hts hown hK hV fL_128 hdl (cC_4 _ _ _ _) rfl dL_ship_1 ?_
  refine ew_get (v := .int (A 17 d 0)) hx hb hts hown hK hV fL_111 e17_0 (cC_17 _ _ _ _) rfl dL_ship_4 ?_
  refine lv_iconst (v := 3) hx hb dL_ship_7 (by decide) ?_
  refine lv_icmp_eq (tgt := 13) hx hb dL_ship_8 rfl (fun h9 => absurd h9 hst) (fun _ => ?_)
  refine lv_iconst (v := 0) hx hb dL_ship_11 (by decide) ?_
  exact er_zret hx hb hr hlocks hV hS dL_ship_12 (by decide) ⟨rfl, rfl⟩

