set_option maxHeartbeats 4000000 in
set_option maxRecDepth 100000 in
theorem c_L_receive_no (l : Launch) (D : va_G) (T : Nat → ClassId) (X : Nat → Nat → Nat) (L : List Nat) (tg : Nat → Nat × Nat) (sz : Nat) (A : ew_R) (ln : Nat) (th : Nat) (hth : ew_in X L tg 0 0 th) (lo : Nat) (hlo : ew_in X L tg 2 ln lo) (e3_0 : ew_in X L tg 3 ln (X 3 ln)) (hst : ¬ A 3 ln 0 = 3) : Met l yL_receive wsL_receive ({ frames := 10, cells := 0, slots := 0, locals := 227 }) (ec_Pc D vwCl (tysA T) (cfC T) X L tg A sz [.ref th, .ref lo]) (er_Qi D vwCl (cfC T) X L tg sz (fun r u => r = 0 ∧ u = A)) 0 0 (ew_A L sz) := by
  refine ec_met (by decide) rfl (Nat.le_of_ble_eq_true rfl) ?_
  intro p e s m below meth c ls hx hb hr hts hown hlocks hml hV hK hN hS hA hl hsz
  subst hsz
  have hl : lv_has ls 2 [(0, .ref th), (1, .ref lo)] := hl
  refine lv_aload_n hx hb dL_receive_0 rfl (lv_at hl 1 rfl) ?_
  refine ew_get (v := .ref (X 3 ln)) hx hb hts hown hK hV fL_107 hlo (cC_2 _ _ _ _) rfl dL_receive_1 ?_
  refine ew_get (v := .int (A 3 ln 0)) hx hb hts hown hK hV fL_111 e3_0 (cC_3 _ _ _ _) rfl dL_receive_4 ?_
  refine lv_iconst (v := 3) hx hb dL_receive_7 (by decide) ?_
  refine lv_icmp_eq (tgt := 13) hx hb dL_receive_8 rfl (fun h9 => absurd h9 hst) (fun _ => ?_)
  refine lv_iconst (v := 0) hx hb dL_receive_11 (by decide) ?_
  exact er_zret hx hb hr hlocks hV hS dL_receive_12 (by decide) ⟨rfl, rfl⟩

def z_L_receive_ok (A : ew_R) (ln : Nat) (pd : Nat) (g : Nat) (n : Nat) (w : Nat) (cp : Nat) : Int32 × List (Nat × Nat) × ew_R :=
  (1, nw_5 pd g n, z_L_requesterWrites (up3 A 1 cp 2 (A 2 ln 1)) ln pd g n w 4 8 0)
set_option maxHeartbeats 4000000 in
set_option maxRecDepth 100000 in
theorem c_L_receive_ok (l : Launch) (D : va_G) (T : Nat → ClassId) (t0 : Nat × Nat) (X : Nat → Nat → Nat) (L : List Nat) (tg : Nat → Nat × Nat) (sz : Nat) (A : ew_R) (ln : Nat) (th : Nat) (hth : ew_in X L tg 0 0 th) (lo : Nat) (hlo : ew_in X L tg 2 ln lo) (pd : Nat) (g : Nat) (n : Nat) (w : Nat) (cp : Nat) (e3_0 : ew_in X L tg 3 ln (X 3 ln)) (e4_1 : ew_in X L tg 4 pd (X 4 pd)) (e5_2 : ew_in X L tg 5 pd (X 5 pd)) (e8_3 : ew_in X L tg 8 pd (X 8 pd)) (e7_4 : ew_in X L tg 7 0 (X 7 0)) (e12_5 : ew_in X L tg 12 0 (X 12 0)) (e1_6 : ew_in X L tg 1 cp (X 1 cp)) (hd : pd < 192) (hn : n < 512) (hLS : lsC 8 14 t0 X L tg A pd g n) (hw : w ≤ 64) (qw : A 7 0 1 = nI w) (hcl : clC X L tg A) (hnl : ∀ b ∈ L, (6, 512 * pd + n) ≠ tg b) (hnew : ∀ b ∈ L, (14, 64 * pd + g + 1) ≠ tg b) (q7 : A 2 ln 7 = nI pd) (hcp : cp < 32) (q4 : A 4 pd 4 = nI cp) (hst : A 3 ln 0 = 3) : Met l yL_receive wsL_receive ({ frames := 10, cells := 2, slots := 1004, locals := 320 }) (em_Pc D vwCl (tysA T) (cfC T) t0 X L tg A sz [.ref th, .ref lo]) (em_Qi D vwCl (cfC T) L sz (fun r u => r = (z_L_receive_ok A ln pd g n w cp).1 ∧ em_S (z_L_receive_ok A ln pd g n w cp).2.1 X L tg u.1 u.2.1 u.2.2.1 ∧ u.2.2.2 = (z_L_receive_ok A ln pd g n w cp).2.2)) 2 1004 (ew_A L sz) := by
  refine em_met (by decide) rfl (Nat.le_of_ble_eq_true rfl) ?_
  intro p e s m below meth c ls hx hb hr hts hown hlocks hml hnm hV hK hN hZ hS hA hl hsz
  subst hsz
  have hl : lv_has ls 2 [(0, .ref th), (1, .ref lo)] := hl
  refine lv_aload_n hx hb dL_receive_0 rfl (lv_at hl 1 rfl) ?_
  refine ew_get (v := .ref (X 3 ln)) hx hb hts hown hK hV fL_107 hlo (cC_2 _ _ _ _) rfl dL_receive_1 ?_
  refine ew_get (v := .int (A 3 ln 0)) hx hb hts hown hK hV fL_111 e3_0 (cC_3 _ _ _ _) rfl dL_receive_4 ?_
  refine lv_iconst (v := 3) hx hb dL_receive_7 (by decide) ?_
  refine lv_icmp_eq (tgt := 13) hx hb dL_receive_8 rfl (fun _ => ?_) (fun h9 => absurd hst h9)
  refine lv_aload_n hx hb dL_receive_13 rfl (lv_at hl 1 rfl) ?_
  refine ew_get (v := .ref (X 4 pd)) hx hb hts hown hK hV fL_212 hlo (cC_2 _ _ _ _) (ec_rd q7 (by omega)) dL_receive_14 ?_
  refine lv_aload_n hx hb dL_receive_17 rfl (lv_at hl 1 rfl) ?_
  refine ew_get (v := .int (A 2 ln 1)) hx hb hts hown hK hV fL_96 hlo (cC_2 _ _ _ _) rfl dL_receive_18 ?_
  refine er_callv (va_runV (As := [.int (A 2 ln 1)]) (rest := []) ⟨hx, hb, hml, hown, hts⟩ (c_Deal_moveCopy_c l D T X L tg _ A pd (X 4 pd) e4_1 (A 2 ln 1) cp e1_6 hcp q4) (cwV 1 hts gL_295 rfl rfl rfl (by decide +kernel) ⟨Nat.le_of_ble_eq_true rfl, Nat.le_of_ble_eq_true rfl⟩) (ec_preV hK hN hV e4_1 (cC_4 _ _ _ _) rfl) rfl rfl hl.1 rfl (lv_room (Nat.le_of_ble_eq_true rfl)) dL_receive_21 ⟨Nat.le_of_ble_eq_true rfl, Nat.le_of_ble_eq_true rfl⟩) hV hS hA (fun u1 H locs eu1 hV hS => ?_)
  have eu1 : u1 = up3 A 1 cp 2 (A 2 ln 1) := eu1
  subst eu1
  refine lv_aload_n hx hb dL_receive_24 rfl (lv_at hl 0 rfl) ?_
  refine lv_aload_n hx hb dL_receive_25 rfl (lv_at hl 1 rfl) ?_
  refine lv_iconst (v := 4) hx hb dL_receive_26 (by decide) ?_
  refine lv_bipush (v := 8) hx hb dL_receive_27 (by decide) ?_
  refine lv_iconst (v := 0) hx hb dL_receive_29 (by decide) ?_
  refine em_calli (va_runV (As := [.ref lo, .int 4, .int 8, .int 0]) (rest := []) ⟨hx, hb, hml, hown, hts⟩ (c_L_requesterWrites l D T t0 X L tg _ (up3 A 1 cp 2 (A 2 ln 1)) ln pd g n w th lo (X 3 ln) (X 4 pd) (X 5 pd) (X 8 pd) (X 7 0) (X 12 0) 4 8 0 hd hn hth e5_2 e8_3 e7_4 e12_5 (lsC_up hLS (by decide) (by decide)) hw (by simpa [up3, va_up] using qw) (clC_up hcl (fun _ _ h => h)) hnl hnew hlo e3_0 e4_1 (by simpa [up3, va_up] using q7)) (cwV 4 hts gL_81 rfl rfl rfl (by decide +kernel) ⟨Nat.le_of_ble_eq_true rfl, Nat.le_of_ble_eq_true rfl⟩) (em_preV hK hN hV hZ hS hA hth (cC_0 _ _ _ _) rfl) rfl rfl hl.1 rfl (lv_room (Nat.le_of_ble_eq_true rfl)) dL_receive_30 ⟨Nat.le_of_ble_eq_true rfl, Nat.le_of_ble_eq_true rfl⟩) hV hS hA (fun r X1 L1 tg1 u H locs hp hV hS => ?_)
  obtain ⟨rfl, hS9, eA9⟩ := hp
  rw [show z_L_receive_ok A ln pd g n w cp = (1, nw_5 pd g n, z_L_requesterWrites (up3 A 1 cp 2 (A 2 ln 1)) ln pd g n w 4 8 0) from rfl]
  exact em_zret hx hb hr hlocks hV hS dL_receive_33 (by decide) ⟨rfl, hS9, eA9⟩

set_option maxHeartbeats 4000000 in
set_option maxRecDepth 100000 in
theorem c_L_giveBack_no (l : Launch) (D : va_G) (T : Nat → ClassId) (X : Nat → Nat → Nat) (L : List Nat) (tg : Nat → Nat × Nat) (sz : Nat) (A : ew_R) (ln : Nat) (th : Nat) (hth : ew_in X L tg 0 0 th) (lo : Nat) (hlo : ew_in X L tg 2 ln lo) (e3_0 : ew_in X L tg 3 ln (X 3 ln)) (hst : z_Asker_hasCopy (A 3 ln 0) = 0) : Met l yL_giveBack wsL_giveBack ({ frames := 10, cells := 0, slots := 0, locals := 227 }) (ec_Pc D vwCl (tysA T) (cfC T) X L tg A sz [.ref th, .ref lo]) (er_Qi D vwCl (cfC T) X L tg sz (fun r u => r = 0 ∧ u = A)) 0 0 (ew_A L sz) := by
  refine ec_met (by decide) rfl (Nat.le_of_ble_eq_true rfl) ?_
  intro p e s m below meth c ls hx hb hr hts hown hlocks hml hV hK hN hS hA hl hsz
  subst hsz
  have hl : lv_has ls 2 [(0, .ref th), (1, .ref lo)] := hl
  refine lv_aload_n hx hb dL_giveBack_0 rfl (lv_at hl 1 rfl) ?_
  refine ew_get (v := .ref (X 3 ln)) hx hb hts hown hK hV fL_107 hlo (cC_2 _ _ _ _) rfl dL_giveBack_1 ?_
  refine ew_get (v := .int (A 3 ln 0)) hx hb hts hown hK hV fL_111 e3_0 (cC_3 _ _ _ _) rfl dL_giveBack_4 ?_
  refine er_calli (va_runS (As := [.int (A 3 ln 0)]) (rest := []) ⟨hx, hb, hml, hown, hts⟩ (c_Asker_hasCopy l D T X L tg _ A (A 3 ln 0)) ⟨callB_of 1 hts gL_203.1 rfl rfl rfl (hts _ gL_203.2.2.2) (hts _ gL_203.2.1) (by decide +kernel) ⟨Nat.le_of_ble_eq_true rfl, Nat.le_of_ble_eq_true rfl⟩, hts _ gL_203.2.2.1⟩ (ec_preS hK hN hV) rfl rfl hl.1 rfl (lv_room (Nat.le_of_ble_eq_true rfl)) dL_giveBack_7 ⟨Nat.le_of_ble_eq_true rfl, Nat.le_of_ble_eq_true rfl⟩) hV hS hA (fun r u H locs hp hV hS => ?_)
  obtain ⟨rfl, eu9⟩ := hp
  rw [eu9] at hV
  refine lv_toe (y := 0) hst ?_
  refine lv_if_ne (tgt := 15) hx hb dL_giveBack_10 rfl (fun h9 => absurd (by decide) h9) (fun _ => ?_)
  refine lv_iconst (v := 0) hx hb dL_giveBack_13 (by decide) ?_
  exact er_zret hx hb hr hlocks hV hS dL_giveBack_14 (by decide) ⟨rfl, rfl⟩

set_option maxHeartbeats 4000000 in
set_option maxRecDepth 100000 in
theorem c_L_lose_no (l : Launch) (D : va_G) (T : Nat → ClassId) (X : Nat → Nat → Nat) (L : List Nat) (tg : Nat → Nat × Nat) (sz : Nat) (A : ew_R) (ln : Nat) (th : Nat) (hth : ew_in X L tg 0 0 th) (lo : Nat) (hlo : ew_in X L tg 2 ln lo) (e3_0 : ew_in X L tg 3 ln (X 3 ln)) (hst : z_Asker_hasCopy (A 3 ln 0) = 0) : Met l yL_lose wsL_lose ({ frames := 10, cells := 0, slots := 0, locals := 227 }) (ec_Pc D vwCl (tysA T) (cfC T) X L tg A sz [.ref th, .ref lo]) (er_Qi D vwCl (cfC T) X L tg sz (fun r u => r = 0 ∧ u = A)) 0 0 (ew_A L sz) := by
  refine ec_met (by decide) rfl (Nat.le_of_ble_eq_true rfl) ?_
  intro p e s m below meth c ls hx hb hr hts hown hlocks hml hV hK hN hS hA hl hsz
  subst hsz
  have hl : lv_has ls 2 [(0, .ref th), (1, .ref lo)] := hl
  refine lv_aload_n hx hb dL_lose_0 rfl (lv_at hl 1 rfl) ?_
  refine ew_get (v := .ref (X 3 ln)) hx hb hts hown hK hV fL_107 hlo (cC_2 _ _ _ _) rfl dL_lose_1 ?_
  refine ew_get (v := .int (A 3 ln 0)) hx hb hts hown hK hV fL_111 e3_0 (cC_3 _ _ _ _) rfl dL_lose_4 ?_
  refine er_calli (va_runS (As := [.int (A 3 ln 0)]) (rest := []) ⟨hx, hb, hml, hown, hts⟩ (c_Asker_hasCopy l D T X L tg _ A (A 3 ln 0)) ⟨callB_of 1 hts gL_203.1 rfl rfl rfl (hts _ gL_203.2.2.2) (hts _ gL_203.2.1) (by decide +kernel) ⟨Nat.le_of_ble_eq_true rfl, Nat.le_of_ble_eq_true rfl⟩, hts _ gL_203.2.2.1⟩ (ec_preS hK hN hV) rfl rfl hl.1 rfl (lv_room (Nat.le_of_ble_eq_true rfl)) dL_lose_7 ⟨Nat.le_of_ble_eq_true rfl, Nat.le_of_ble_eq_true rfl⟩) hV hS hA (fun r u H locs hp hV hS => ?_)
  obtain ⟨rfl, eu9⟩ := hp
  rw [eu9] at hV
  refine lv_toe (y := 0) hst ?_
  refine lv_if_ne (tgt := 15) hx hb dL_lose_10 rfl (fun h9 => absurd (by decide) h9) (fun _ => ?_)
  refine lv_iconst (v := 0) hx hb dL_lose_13 (by decide) ?_
  exact er_zret hx hb hr hlocks hV hS dL_lose_14 (by decide) ⟨rfl, rfl⟩

def z_L_giveBack_ok (A : ew_R) (ln : Nat) (pd : Nat) (g : Nat) (n : Nat) (w : Nat) (cp : Nat) : Int32 × List (Nat × Nat) × ew_R :=
  (1, nw_5 pd g n, z_L_requesterWrites (up3 A 1 cp 2 6) ln pd g n w 7 12 0)
set_option maxHeartbeats 4000000 in
set_option maxRecDepth 100000 in
theorem c_L_giveBack_ok (l : Launch) (D : va_G) (T : Nat → ClassId) (t0 : Nat × Nat) (X : Nat → Nat → Nat) (L : List Nat) (tg : Nat → Nat × Nat) (sz : Nat) (A : ew_R) (ln : Nat) (th : Nat) (hth : ew_in X L tg 0 0 th) (lo : Nat) (hlo : ew_in X L tg 2 ln lo) (pd : Nat) (g : Nat) (n : Nat) (w : Nat) (cp : Nat) (e3_0 : ew_in X L tg 3 ln (X 3 ln)) (e4_1 : ew_in X L tg 4 pd (X 4 pd)) (e5_2 : ew_in X L tg 5 pd (X 5 pd)) (e8_3 : ew_in X L tg 8 pd (X 8 pd)) (e7_4 : ew_in X L tg 7 0 (X 7 0)) (e12_5 : ew_in X L tg 12 0 (X 12 0)) (e1_6 : ew_in X L tg 1 cp (X 1 cp)) (hd : pd < 192) (hn : n < 512) (hLS : lsC 8 14 t0 X L tg A pd g n) (hw : w ≤ 64) (qw : A 7 0 1 = nI w) (hcl : clC X L tg A) (hnl : ∀ b ∈ L, (6, 512 * pd + n) ≠ tg b) (hnew : ∀ b ∈ L, (14, 64 * pd + g + 1) ≠ tg b) (q7 : A 2 ln 7 = nI pd) (hcp : cp < 32) (q4 : A 4 pd 4 = nI cp) (hst : z_Asker_hasCopy (A 3 ln 0) = 1) : Met l yL_giveBack wsL_giveBack ({ frames := 10, cells := 2, slots := 1004, locals := 320 }) (em_Pc D vwCl (tysA T) (cfC T) t0 X L tg A sz [.ref th, .ref lo]) (em_Qi D vwCl (cfC T) L sz (fun r u => r = (z_L_giveBack_ok A ln pd g n w cp).1 ∧ em_S (z_L_giveBack_ok A ln pd g n w cp).2.1 X L tg u.1 u.2.1 u.2.2.1 ∧ u.2.2.2 = (z_L_giveBack_ok A ln pd g n w cp).2.2)) 2 1004 (ew_A L sz) := by
  refine em_met (by decide) rfl (Nat.le_of_ble_eq_true rfl) ?_
  intro p e s m below meth c ls hx hb hr hts hown hlocks hml hnm hV hK hN hZ hS hA hl hsz
  subst hsz
  have hl : lv_has ls 2 [(0, .ref th), (1, .ref lo)] := hl
  refine lv_aload_n hx hb dL_giveBack_0 rfl (lv_at hl 1 rfl) ?_
  refine ew_get (v := .ref (X 3 ln)) hx hb hts hown hK hV fL_107 hlo (cC_2 _ _ _ _) rfl dL_giveBack_1 ?_
  refine ew_get (v := .int (A 3 ln 0)) hx hb hts hown hK hV fL_111 e3_0 (cC_3 _ _ _ _) rfl dL_giveBack_4 ?_
  refine er_calli (va_runS (As := [.int (A 3 ln 0)]) (rest := []) ⟨hx, hb, hml, hown, hts⟩ (c_Asker_hasCopy l D T X L tg _ A (A 3 ln 0)) ⟨callB_of 1 hts gL_203.1 rfl rfl rfl (hts _ gL_203.2.2.2) (hts _ gL_203.2.1) (by decide +kernel) ⟨Nat.le_of_ble_eq_true rfl, Nat.le_of_ble_eq_true rfl⟩, hts _ gL_203.2.2.1⟩ (ec_preS hK hN hV) rfl rfl hl.1 rfl (lv_room (Nat.le_of_ble_eq_true rfl)) dL_giveBack_7 ⟨Nat.le_of_ble_eq_true rfl, Nat.le_of_ble_eq_true rfl⟩) hV hS hA (fun r u H locs hp hV hS => ?_)
  obtain ⟨rfl, eu9⟩ := hp
  rw [eu9] at hV
  refine lv_toe (y := 1) hst ?_
  refine lv_if_ne (tgt := 15) hx hb dL_giveBack_10 rfl (fun _ => ?_) (fun h9 => absurd h9 (by decide))
  refine lv_aload_n hx hb dL_giveBack_15 rfl (lv_at hl 1 rfl) ?_
  refine ew_get (v := .ref (X 4 pd)) hx hb hts hown hK hV fL_212 hlo (cC_2 _ _ _ _) (ec_rd q7 (by omega)) dL_giveBack_16 ?_
  refine lv_bipush (v := 6) hx hb dL_giveBack_19 (by decide) ?_
  refine er_callv (va_runV (As := [.int 6]) (rest := []) ⟨hx, hb, hml, hown, hts⟩ (c_Deal_moveCopy_c l D T X L tg _ A pd (X 4 pd) e4_1 6 cp e1_6 hcp q4) (cwV 1 hts gL_295 rfl rfl rfl (by decide +kernel) ⟨Nat.le_of_ble_eq_true rfl, Nat.le_of_ble_eq_true rfl⟩) (ec_preV hK hN hV e4_1 (cC_4 _ _ _ _) rfl) rfl rfl hl.1 rfl (lv_room (Nat.le_of_ble_eq_true rfl)) dL_giveBack_21 ⟨Nat.le_of_ble_eq_true rfl, Nat.le_of_ble_eq_true rfl⟩) hV hS hA (fun u1 H locs eu1 hV hS => ?_)
  have eu1 : u1 = up3 A 1 cp 2 6 := eu1
  subst eu1
  refine lv_aload_n hx hb dL_giveBack_24 rfl (lv_at hl 0 rfl) ?_
  refine lv_aload_n hx hb dL_giveBack_25 rfl (lv_at hl 1 rfl) ?_
  refine lv_bipush (v := 7) hx hb dL_giveBack_26 (by decide) ?_
  refine lv_bipush (v := 12) hx hb dL_giveBack_28 (by decide) ?_
  refine lv_iconst (v := 0) hx hb dL_giveBack_30 (by decide) ?_
  refine em_calli (va_runV (As := [.ref lo, .int 7, .int 12, .int 0]) (rest := []) ⟨hx, hb, hml, hown, hts⟩ (c_L_requesterWrites l D T t0 X L tg _ (up3 A 1 cp 2 6) ln pd g n w th lo (X 3 ln) (X 4 pd) (X 5 pd) (X 8 pd) (X 7 0) (X 12 0) 7 12 0 hd hn hth e5_2 e8_3 e7_4 e12_5 (lsC_up hLS (by decide) (by decide)) hw (by simpa [up3, va_up] using qw) (clC_up hcl (fun _ _ h => h)) hnl hnew hlo e3_0 e4_1 (by simpa [up3, va_up] using q7)) (cwV 4 hts gL_81 rfl rfl rfl (by decide +kernel) ⟨Nat.le_of_ble_eq_true rfl, Nat.le_of_ble_eq_true rfl⟩) (em_preV hK hN hV hZ hS hA hth (cC_0 _ _ _ _) rfl) rfl rfl hl.1 rfl (lv_room (Nat.le_of_ble_eq_true rfl)) dL_giveBack_31 ⟨Nat.le_of_ble_eq_true rfl, Nat.le_of_ble_eq_true rfl⟩) hV hS hA (fun r X1 L1 tg1 u H locs hp hV hS => ?_)
  obtain ⟨rfl, hS9, eA9⟩ := hp
  rw [show z_L_giveBack_ok A ln pd g n w cp = (1, nw_5 pd g n, z_L_requesterWrites (up3 A 1 cp 2 6) ln pd g n w 7 12 0) from rfl]
  exact em_zret hx hb hr hlocks hV hS dL_giveBack_34 (by decide) ⟨rfl, hS9, eA9⟩

set_option maxHeartbeats 4000000 in
set_option maxRecDepth 100000 in
theorem c_L_ship_no (l : Launch) (D : va_G) (T : Nat → ClassId) (X : Nat → Nat → Nat) (L : List Nat) (tg : Nat → Nat × Nat) (sz : Nat) (A : ew_R) (ln : Nat) (d : Nat) (th : Nat) (hth : ew_in X L tg 0 0 th) (lo : Nat) (hlo : ew_in X L tg 2 ln lo) (dl : Nat) (hdl : ew_in X L tg 4 d dl) (e17_0 : ew_in X L tg 17 d (X 17 d)) (hst : ¬ A 17 d 0 = 3) : Met l yL_ship wsL_ship ({ frames := 10, cells := 0, slots := 0, locals := 227 }) (ec_Pc D vwCl (tysA T) (cfC T) X L tg A sz [.ref th, .ref lo, .ref dl]) (er_Qi D vwCl (cfC T) X L tg sz (fun r u => r = 0 ∧ u = A)) 0 0 (ew_A L sz) := by
  refine ec_met (by decide) rfl (Nat.le_of_ble_eq_true rfl) ?_
  intro p e s m below meth c ls hx hb hr hts hown hlocks hml hV hK hN hS hA hl hsz
  subst hsz
  have hl : lv_has ls 3 [(0, .ref th), (1, .ref lo), (2, .ref dl)] := hl
  refine lv_aload_n hx hb dL_ship_0 rfl (lv_at hl 2 rfl) ?_
  refine ew_get (v := .ref (X 17 d)) hx hb hts hown hK hV fL_128 hdl (cC_4 _ _ _ _) rfl dL_ship_1 ?_
  refine ew_get (v := .int (A 17 d 0)) hx hb hts hown hK hV fL_111 e17_0 (cC_17 _ _ _ _) rfl dL_ship_4 ?_
  refine lv_iconst (v := 3) hx hb dL_ship_7 (by decide) ?_
  refine lv_icmp_eq (tgt := 13) hx hb dL_ship_8 rfl (fun h9 => absurd h9 hst) (fun _ => ?_)
  refine lv_iconst (v := 0) hx hb dL_ship_11 (by decide) ?_
  exact er_zret hx hb hr hlocks hV hS dL_ship_12 (by decide) ⟨rfl, rfl⟩

