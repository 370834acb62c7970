def z_L_accept_y (A : ew_R) (ln : Nat) (pd : Nat) (g : Nat) (n : Nat) (w : Nat) : ew_R :=
  z_L_requesterWrites A ln pd g n w 0 5 0
set_option maxHeartbeats 4000000 in
set_option maxRecDepth 100000 in
theorem c_L_accept_y (l : Launch) (D : va_G) (T : Nat → ClassId) (t0 : Nat × Nat) (X : Nat → Nat → Nat) (L : List Nat) (tg : Nat → Nat × Nat) (sz : Nat) (A : ew_R) (ln : Nat) (th : Nat) (hth : ew_in X L tg 0 0 th) (lo : Nat) (hlo : ew_in X L tg 2 ln lo) (pd : Nat) (g : Nat) (n : Nat) (w : Nat) (e3_0 : ew_in X L tg 3 ln (X 3 ln)) (e4_1 : ew_in X L tg 4 pd (X 4 pd)) (e5_2 : ew_in X L tg 5 pd (X 5 pd)) (e8_3 : ew_in X L tg 8 pd (X 8 pd)) (e7_4 : ew_in X L tg 7 0 (X 7 0)) (e12_5 : ew_in X L tg 12 0 (X 12 0)) (hd : pd < 192) (hn : n < 512) (hLS : lsC 8 14 t0 X L tg A pd g n) (hw : w ≤ 64) (qw : A 7 0 1 = nI w) (hcl : clC X L tg A) (hnl : ∀ b ∈ L, (6, 512 * pd + n) ≠ tg b) (hnew : ∀ b ∈ L, (14, 64 * pd + g + 1) ≠ tg b) (q7 : A 2 ln 7 = nI pd) (hst : A 3 ln 0 = 1) : Met l yL_accept wsL_accept ({ frames := 10, cells := 2, slots := 1004, locals := 320 }) (em_Pc D vwCl (tysA T) (cfC T) t0 X L tg A sz [.ref th, .ref lo]) (em_Qi D vwCl (cfC T) L sz (fun r u => r = 1 ∧ em_S (nw_5 pd g n) X L tg u.1 u.2.1 u.2.2.1 ∧ u.2.2.2 = z_L_accept_y A ln pd g n w)) 2 1004 (ew_A L sz) := by
  refine em_met (by decide) rfl (Nat.le_of_ble_eq_true rfl) ?_
  intro p e s m below meth c ls hx hb hr hts hown hlocks hml hnm hV hK hN hZ hS hA hl hsz
  subst hsz
  have hl : lv_has ls 2 [(0, .ref th), (1, .ref lo)] := hl
  refine lv_aload_n hx hb dL_accept_0 rfl (lv_at hl 1 rfl) ?_
  refine ew_get (v := .ref (X 3 ln)) hx hb hts hown hK hV fL_107 hlo (cC_2 _ _ _ _) rfl dL_accept_1 ?_
  refine ew_get (v := .int (A 3 ln 0)) hx hb hts hown hK hV fL_111 e3_0 (cC_3 _ _ _ _) rfl dL_accept_4 ?_
  refine lv_iconst (v := 1) hx hb dL_accept_7 (by decide) ?_
  refine lv_icmp_eq (tgt := 13) hx hb dL_accept_8 rfl (fun _ => ?_) (fun h9 => absurd hst h9)
  refine lv_aload_n hx hb dL_accept_13 rfl (lv_at hl 0 rfl) ?_
  refine lv_aload_n hx hb dL_accept_14 rfl (lv_at hl 1 rfl) ?_
  refine lv_iconst (v := 0) hx hb dL_accept_15 (by decide) ?_
  refine lv_iconst (v := 5) hx hb dL_accept_16 (by decide) ?_
  refine lv_iconst (v := 0) hx hb dL_accept_17 (by decide) ?_
  refine em_calli (va_runV (As := [.ref lo, .int 0, .int 5, .int 0]) (rest := []) ⟨hx, hb, hml, hown, hts⟩ (c_L_requesterWrites l D T t0 X L tg _ A ln pd g n w th lo (X 3 ln) (X 4 pd) (X 5 pd) (X 8 pd) (X 7 0) (X 12 0) 0 5 0 hd hn hth e5_2 e8_3 e7_4 e12_5 hLS hw qw hcl hnl hnew hlo e3_0 e4_1 q7) (cwV 4 hts gL_81 rfl rfl rfl (by decide +kernel) ⟨Nat.le_of_ble_eq_true rfl, Nat.le_of_ble_eq_true rfl⟩) (em_preV hK hN hV hZ hS hA hth (cC_0 _ _ _ _) rfl) rfl rfl hl.1 rfl (lv_room (Nat.le_of_ble_eq_true rfl)) dL_accept_18 ⟨Nat.le_of_ble_eq_true rfl, Nat.le_of_ble_eq_true rfl⟩) hV hS hA (fun r X1 L1 tg1 u H locs hp hV hS => ?_)
  obtain ⟨rfl, hS9, eA9⟩ := hp
  rw [show z_L_accept_y A ln pd g n w = z_L_requesterWrites A ln pd g n w 0 5 0 from rfl]
  exact em_zret hx hb hr hlocks hV hS dL_accept_21 (by decide) ⟨rfl, hS9, eA9⟩

set_option maxHeartbeats 4000000 in
set_option maxRecDepth 100000 in
theorem c_L_accept_no (l : Launch) (D : va_G) (T : Nat → ClassId) (X : Nat → Nat → Nat) (L : List Nat) (tg : Nat → Nat × Nat) (sz : Nat) (A : ew_R) (ln : Nat) (th : Nat) (hth : ew_in X L tg 0 0 th) (lo : Nat) (hlo : ew_in X L tg 2 ln lo) (e3_0 : ew_in X L tg 3 ln (X 3 ln)) (hst : ¬ A 3 ln 0 = 1) : Met l yL_accept wsL_accept ({ frames := 10, cells := 0, slots := 0, locals := 227 }) (ec_Pc D vwCl (tysA T) (cfC T) X L tg A sz [.ref th, .ref lo]) (er_Qi D vwCl (cfC T) X L tg sz (fun r u => r = 0 ∧ u = A)) 0 0 (ew_A L sz) := by
  refine ec_met (by decide) rfl (Nat.le_of_ble_eq_true rfl) ?_
  intro p e s m below meth c ls hx hb hr hts hown hlocks hml hV hK hN hS hA hl hsz
  subst hsz
  have hl : lv_has ls 2 [(0, .ref th), (1, .ref lo)] := hl
  refine lv_aload_n hx hb dL_accept_0 rfl (lv_at hl 1 rfl) ?_
  refine ew_get (v := .ref (X 3 ln)) hx hb hts hown hK hV fL_107 hlo (cC_2 _ _ _ _) rfl dL_accept_1 ?_
  refine ew_get (v := .int (A 3 ln 0)) hx hb hts hown hK hV fL_111 e3_0 (cC_3 _ _ _ _) rfl dL_accept_4 ?_
  refine lv_iconst (v := 1) hx hb dL_accept_7 (by decide) ?_
  refine lv_icmp_eq (tgt := 13) hx hb dL_accept_8 rfl (fun h9 => absurd h9 hst) (fun _ => ?_)
  refine lv_iconst (v := 0) hx hb dL_accept_11 (by decide) ?_
  exact er_zret hx hb hr hlocks hV hS dL_accept_12 (by decide) ⟨rfl, rfl⟩

def z_L_renew_y (A : ew_R) (ln : Nat) (pd : Nat) (g : Nat) (n : Nat) (w : Nat) : ew_R :=
  z_L_requesterWrites A ln pd g n w 5 9 0
set_option maxHeartbeats 4000000 in
set_option maxRecDepth 100000 in
theorem c_L_renew_y (l : Launch) (D : va_G) (T : Nat → ClassId) (t0 : Nat × Nat) (X : Nat → Nat → Nat) (L : List Nat) (tg : Nat → Nat × Nat) (sz : Nat) (A : ew_R) (ln : Nat) (th : Nat) (hth : ew_in X L tg 0 0 th) (lo : Nat) (hlo : ew_in X L tg 2 ln lo) (pd : Nat) (g : Nat) (n : Nat) (w : Nat) (e3_0 : ew_in X L tg 3 ln (X 3 ln)) (e4_1 : ew_in X L tg 4 pd (X 4 pd)) (e5_2 : ew_in X L tg 5 pd (X 5 pd)) (e8_3 : ew_in X L tg 8 pd (X 8 pd)) (e7_4 : ew_in X L tg 7 0 (X 7 0)) (e12_5 : ew_in X L tg 12 0 (X 12 0)) (hd : pd < 192) (hn : n < 512) (hLS : lsC 8 14 t0 X L tg A pd g n) (hw : w ≤ 64) (qw : A 7 0 1 = nI w) (hcl : clC X L tg A) (hnl : ∀ b ∈ L, (6, 512 * pd + n) ≠ tg b) (hnew : ∀ b ∈ L, (14, 64 * pd + g + 1) ≠ tg b) (q7 : A 2 ln 7 = nI pd) (hst : A 3 ln 0 = 4) : Met l yL_renew wsL_renew ({ frames := 10, cells := 2, slots := 1004, locals := 320 }) (em_Pc D vwCl (tysA T) (cfC T) t0 X L tg A sz [.ref th, .ref lo]) (em_Qi D vwCl (cfC T) L sz (fun r u => r = 1 ∧ em_S (nw_5 pd g n) X L tg u.1 u.2.1 u.2.2.1 ∧ u.2.2.2 = z_L_renew_y A ln pd g n w)) 2 1004 (ew_A L sz) := by
  refine em_met (by decide) rfl (Nat.le_of_ble_eq_true rfl) ?_
  intro p e s m below meth c ls hx hb hr hts hown hlocks hml hnm hV hK hN hZ hS hA hl hsz
  subst hsz
  have hl : lv_has ls 2 [(0, .ref th), (1, .ref lo)] := hl
  refine lv_aload_n hx hb dL_renew_0 rfl (lv_at hl 1 rfl) ?_
  refine ew_get (v := .ref (X 3 ln)) hx hb hts hown hK hV fL_107 hlo (cC_2 _ _ _ _) rfl dL_renew_1 ?_
  refine ew_get (v := .int (A 3 ln 0)) hx hb hts hown hK hV fL_111 e3_0 (cC_3 _ _ _ _) rfl dL_renew_4 ?_
  refine lv_iconst (v := 4) hx hb dL_renew_7 (by decide) ?_
  refine lv_icmp_eq (tgt := 13) hx hb dL_renew_8 rfl (fun _ => ?_) (fun h9 => absurd hst h9)
  refine lv_aload_n hx hb dL_renew_13 rfl (lv_at hl 0 rfl) ?_
  refine lv_aload_n hx hb dL_renew_14 rfl (lv_at hl 1 rfl) ?_
  refine lv_iconst (v := 5) hx hb dL_renew_15 (by decide) ?_
  refine lv_bipush (v := 9) hx hb dL_renew_16 (by decide) ?_
  refine lv_iconst (v := 0) hx hb dL_renew_18 (by decide) ?_
  refine em_calli (va_runV (As := [.ref lo, .int 5, .int 9, .int 0]) (rest := []) ⟨hx, hb, hml, hown, hts⟩ (c_L_requesterWrites l D T t0 X L tg _ A ln pd g n w th lo (X 3 ln) (X 4 pd) (X 5 pd) (X 8 pd) (X 7 0) (X 12 0) 5 9 0 hd hn hth e5_2 e8_3 e7_4 e12_5 hLS hw qw hcl hnl hnew hlo e3_0 e4_1 q7) (cwV 4 hts gL_81 rfl rfl rfl (by decide +kernel) ⟨Nat.le_of_ble_eq_true rfl, Nat.le_of_ble_eq_true rfl⟩) (em_preV hK hN hV hZ hS hA hth (cC_0 _ _ _ _) rfl) rfl rfl hl.1 rfl (lv_room (Nat.le_of_ble_eq_true rfl)) dL_renew_19 ⟨Nat.le_of_ble_eq_true rfl, Nat.le_of_ble_eq_true rfl⟩) hV hS hA (fun r X1 L1 tg1 u H locs hp hV hS => ?_)
  obtain ⟨rfl, hS9, eA9⟩ := hp
  rw [show z_L_renew_y A ln pd g n w = z_L_requesterWrites A ln pd g n w 5 9 0 from rfl]
  exact em_zret hx hb hr hlocks hV hS dL_renew_22 (by decide) ⟨rfl, hS9, eA9⟩

set_option maxHeartbeats 4000000 in
set_option maxRecDepth 100000 in
theorem c_L_renew_no (l : Launch) (D : va_G) (T : Nat → ClassId) (X : Nat → Nat → Nat) (L : List Nat) (tg : Nat → Nat × Nat) (sz : Nat) (A : ew_R) (ln : Nat) (th : Nat) (hth : ew_in X L tg 0 0 th) (lo : Nat) (hlo : ew_in X L tg 2 ln lo) (e3_0 : ew_in X L tg 3 ln (X 3 ln)) (hst : ¬ A 3 ln 0 = 4) : Met l yL_renew wsL_renew ({ frames := 10, cells := 0, slots := 0, locals := 227 }) (ec_Pc D vwCl (tysA T) (cfC T) X L tg A sz [.ref th, .ref lo]) (er_Qi D vwCl (cfC T) X L tg sz (fun r u => r = 0 ∧ u = A)) 0 0 (ew_A L sz) := by
  refine ec_met (by decide) rfl (Nat.le_of_ble_eq_true rfl) ?_
  intro p e s m below meth c ls hx hb hr hts hown hlocks hml hV hK hN hS hA hl hsz
  subst hsz
  have hl : lv_has ls 2 [(0, .ref th), (1, .ref lo)] := hl
  refine lv_aload_n hx hb dL_renew_0 rfl (lv_at hl 1 rfl) ?_
  refine ew_get (v := .ref (X 3 ln)) hx hb hts hown hK hV fL_107 hlo (cC_2 _ _ _ _) rfl dL_renew_1 ?_
  refine ew_get (v := .int (A 3 ln 0)) hx hb hts hown hK hV fL_111 e3_0 (cC_3 _ _ _ _) rfl dL_renew_4 ?_
  refine lv_iconst (v := 4) hx hb dL_renew_7 (by decide) ?_
  refine lv_icmp_eq (tgt := 13) hx hb dL_renew_8 rfl (fun h9 => absurd h9 hst) (fun _ => ?_)
  refine lv_iconst (v := 0) hx hb dL_renew_11 (by decide) ?_
  exact er_zret hx hb hr hlocks hV hS dL_renew_12 (by decide) ⟨rfl, rfl⟩

def z_L_cancel_y0 (A : ew_R) (ln : Nat) (pd : Nat) (g : Nat) (n : Nat) (w : Nat) : ew_R :=
  z_L_requesterWrites A ln pd g n w 10 15 0
set_option maxHeartbeats 4000000 in
set_option maxRecDepth 100000 in
theorem c_L_cancel_y0 (l : Launch) (D : va_G) (T : Nat → ClassId) (t0 : Nat × Nat) (X : Nat → Nat → Nat) (L : List Nat) (tg : Nat → Nat × Nat) (sz : Nat) (A : ew_R) (ln : Nat) (th : Nat) (hth : ew_in X L tg 0 0 th) (lo : Nat) (hlo : ew_in X L tg 2 ln lo) (pd : Nat) (g : Nat) (n : Nat) (w : Nat) (e3_0 : ew_in X L tg 3 ln (X 3 ln)) (e4_1 : ew_in X L tg 4 pd (X 4 pd)) (e5_2 : ew_in X L tg 5 pd (X 5 pd)) (e8_3 : ew_in X L tg 8 pd (X 8 pd)) (e7_4 : ew_in X L tg 7 0 (X 7 0)) (e12_5 : ew_in X L tg 12 0 (X 12 0)) (hd : pd < 192) (hn : n < 512) (hLS : lsC 8 14 t0 X L tg A pd g n) (hw : w ≤ 64) (qw : A 7 0 1 = nI w) (hcl : clC X L tg A) (hnl : ∀ b ∈ L, (6, 512 * pd + n) ≠ tg b) (hnew : ∀ b ∈ L, (14, 64 * pd + g + 1) ≠ tg b) (q7 : A 2 ln 7 = nI pd) (hst : A 3 ln 0 = 0) : Met l yL_cancel wsL_cancel ({ frames := 10, cells := 2, slots := 1004, locals := 320 }) (em_Pc D vwCl (tysA T) (cfC T) t0 X L tg A sz [.ref th, .ref lo]) (em_Qi D vwCl (cfC T) L sz (fun r u => r = 1 ∧ em_S (nw_5 pd g n) X L tg u.1 u.2.1 u.2.2.1 ∧ u.2.2.2 = z_L_cancel_y0 A ln pd g n w)) 2 1004 (ew_A L sz) := by
  refine em_met (by decide) rfl (Nat.le_of_ble_eq_true rfl) ?_
  intro p e s m below meth c ls hx hb hr hts hown hlocks hml hnm hV hK hN hZ hS hA hl hsz
  subst hsz
  have hl : lv_has ls 3 [(0, .ref th), (1, .ref lo)] := hl
  refine lv_aload_n hx hb dL_cancel_0 rfl (lv_at hl 1 rfl) ?_
  refine ew_get (v := .ref (X 3 ln)) hx hb hts hown hK hV fL_107 hlo (cC_2 _ _ _ _) rfl dL_cancel_1 ?_
  refine ew_get (v := .int (A 3 ln 0)) hx hb hts hown hK hV fL_111 e3_0 (cC_3 _ _ _ _) rfl dL_cancel_4 ?_
  refine lv_istore_n (lv' := [(2, .int (A 3 ln 0)), (0, .ref th), (1, .ref lo)]) hx hb dL_cancel_7 rfl hl (by decide) rfl (fun ls hl => ?_)
  refine lv_iload_n hx hb dL_cancel_8 rfl (lv_at hl 0 rfl) ?_
  refine lv_if_eq (tgt := 24) hx hb dL_cancel_9 rfl (fun _ => ?_) (fun h9 => absurd hst h9)
  refine lv_aload_n hx hb dL_cancel_24 rfl (lv_at hl 1 rfl) ?_
  refine lv_aload_n hx hb dL_cancel_25 rfl (lv_at hl 2 rfl) ?_
  refine lv_bipush (v := 10) hx hb dL_cancel_26 (by decide) ?_
  refine lv_bipush (v := 15) hx hb dL_cancel_28 (by decide) ?_
  refine lv_iconst (v := 0) hx hb dL_cancel_30 (by decide) ?_
  refine em_calli (va_runV (As := [.ref lo, .int 10, .int 15, .int 0]) (rest := []) ⟨hx, hb, hml, hown, hts⟩ (c_L_requesterWrites l D T t0 X L tg _ A ln pd g n w th lo (X 3 ln) (X 4 pd) (X 5 pd) (X 8 pd) (X 7 0) (X 12 0) 10 15 0 hd hn hth e5_2 e8_3 e7_4 e12_5 hLS hw qw hcl hnl hnew hlo e3_0 e4_1 q7) (cwV 4 hts gL_81 rfl rfl rfl (by decide +kernel) ⟨Nat.le_of_ble_eq_true rfl, Nat.le_of_ble_eq_true rfl⟩) (em_preV hK hN hV hZ hS hA hth (cC_0 _ _ _ _) rfl) rfl rfl hl.1 rfl (lv_room (Nat.le_of_ble_eq_true rfl)) dL_cancel_31 ⟨Nat.le_of_ble_eq_true rfl, Nat.le_of_ble_eq_true rfl⟩) hV hS hA (fun r X1 L1 tg1 u H locs hp hV hS => ?_)
  obtain ⟨rfl, hS9, eA9⟩ := hp
  rw [show z_L_cancel_y0 A ln pd g n w = z_L_requesterWrites A ln pd g n w 10 15 0 from rfl]
  exact em_zret hx hb hr hlocks hV hS dL_cancel_34 (by decide) ⟨rfl, hS9, eA9⟩

def z_L_cancel_y1 (A : ew_R) (ln : Nat) (pd : Nat) (g : Nat) (n : Nat) (w : Nat) : ew_R :=
  z_L_requesterWrites A ln pd g n w 10 15 0
set_option maxHeartbeats 4000000 in
set_option maxRecDepth 100000 in
theorem c_L_cancel_y1 (l : Launch) (D : va_G) (T : Nat → ClassId) (t0 : Nat × Nat) (X : Nat → Nat → Nat) (L : List Nat) (tg : Nat → Nat × Nat) (sz : Nat) (A : ew_R) (ln : Nat) (th : Nat) (hth : ew_in X L tg 0 0 th) (lo : Nat) (hlo : ew_in X L tg 2 ln lo) (pd : Nat) (g : Nat) (n : Nat) (w : Nat) (e3_0 : ew_in X L tg 3 ln (X 3 ln)) (e4_1 : ew_in X L tg 4 pd (X 4 pd)) (e5_2 : ew_in X L tg 5 pd (X 5 pd)) (e8_3 : ew_in X L tg 8 pd (X 8 pd)) (e7_4 : ew_in X L tg 7 0 (X 7 0)) (e12_5 : ew_in X L tg 12 0 (X 12 0)) (hd : pd < 192) (hn : n < 512) (hLS : lsC 8 14 t0 X L tg A pd g n) (hw : w ≤ 64) (qw : A 7 0 1 = nI w) (hcl : clC X L tg A) (hnl : ∀ b ∈ L, (6, 512 * pd + n) ≠ tg b) (hnew : ∀ b ∈ L, (14, 64 * pd + g + 1) ≠ tg b) (q7 : A 2 ln 7 = nI pd) (hst : A 3 ln 0 = 1) : Met l yL_cancel wsL_cancel ({ frames := 10, cells := 2, slots := 1004, locals := 320 }) (em_Pc D vwCl (tysA T) (cfC T) t0 X L tg A sz [.ref th, .ref lo]) (em_Qi D vwCl (cfC T) L sz (fun r u => r = 1 ∧ em_S (nw_5 pd g n) X L tg u.1 u.2.1 u.2.2.1 ∧ u.2.2.2 = z_L_cancel_y1 A ln pd g n w)) 2 1004 (ew_A L sz) := by
  refine em_met (by decide) rfl (Nat.le_of_ble_eq_true rfl) ?_
  intro p e s m below meth c ls hx hb hr hts hown hlocks hml hnm hV hK hN hZ hS hA hl hsz
  subst hsz
  have hl : lv_has ls 3 [(0, .ref th), (1, .ref lo)] := hl
  refine lv_aload_n hx hb dL_cancel_0 rfl (lv_at hl 1 rfl) ?_
  refine ew_get (v := .ref (X 3 ln)) hx hb hts hown hK hV fL_107 hlo (cC_2 _ _ _ _) rfl dL_cancel_1 ?_
  refine ew_get (v := .int (A 3 ln 0)) hx hb hts hown hK hV fL_111 e3_0 (cC_3 _ _ _ _) rfl dL_cancel_4 ?_
  refine lv_istore_n (lv' := [(2, .int (A 3 ln 0)), (0, .ref th), (1, .ref lo)]) hx hb dL_cancel_7 rfl hl (by decide) rfl (fun ls hl => ?_)
  refine lv_iload_n hx hb dL_cancel_8 rfl (lv_at hl 0 rfl) ?_
  refine lv_if_eq (tgt := 24) hx hb dL_cancel_9 rfl (fun h9 => absurd h9 (by rw [hst]; decide)) (fun _ => ?_)
  refine lv_iload_n hx hb dL_cancel_12 rfl (lv_at hl 0 rfl) ?_
  refine lv_iconst (v := 1) hx hb dL_cancel_13 (by decide) ?_
  refine lv_icmp_eq (tgt := 24) hx hb dL_cancel_14 rfl (fun _ => ?_) (fun h9 => absurd hst h9)
  refine lv_aload_n hx hb dL_cancel_24 rfl (lv_at hl 1 rfl) ?_
  refine lv_aload_n hx hb dL_cancel_25 rfl (lv_at hl 2 rfl) ?_
  refine lv_bipush (v := 10) hx hb dL_cancel_26 (by decide) ?_
  refine lv_bipush (v := 15) hx hb dL_cancel_28 (by decide) ?_
  refine lv_iconst (v := 0) hx hb dL_cancel_30 (by decide) ?_
  refine em_calli (va_runV (As := [.ref lo, .int 10, .int 15, .int 0]) (rest := []) ⟨hx, hb, hml, hown, hts⟩ (c_L_requesterWrites l D T t0 X L tg _ A ln pd g n w th lo (X 3 ln) (X 4 pd) (X 5 pd) (X 8 pd) (X 7 0) (X 12 0) 10 15 0 hd hn hth e5_2 e8_3 e7_4 e12_5 hLS hw qw hcl hnl hnew hlo e3_0 e4_1 q7) (cwV 4 hts gL_81 rfl rfl rfl (by decide +kernel) ⟨Nat.le_of_ble_eq_true rfl, Nat.le_of_ble_eq_true rfl⟩) (em_preV hK hN hV hZ hS hA hth (cC_0 _ _ _ _) rfl) rfl rfl hl.1 rfl (lv_room (Nat.le_of_ble_eq_true rfl)) dL_cancel_31 ⟨Nat.le_of_ble_eq_true rfl, Nat.le_of_ble_eq_true rfl⟩) hV hS hA (fun r X1 L1 tg1 u H locs hp hV hS => ?_)
  obtain ⟨rfl, hS9, eA9⟩ := hp
  rw [show z_L_cancel_y1 A ln pd g n w = z_L_requesterWrites A ln pd g n w 10 15 0 from rfl]
  exact em_zret hx hb hr hlocks hV hS dL_cancel_34 (by decide) ⟨rfl, hS9, eA9⟩

def z_L_cancel_y2 (A : ew_R) (ln : Nat) (pd : Nat) (g : Nat) (n : Nat) (w : Nat) : ew_R :=
  z_L_requesterWrites A ln pd g n w 10 15 0
set_option maxHeartbeats 4000000 in
set_option maxRecDepth 100000 in
theorem c_L_cancel_y2 (l : Launch) (D : va_G) (T : Nat → ClassId) (t0 : Nat × Nat) (X : Nat → Nat → Nat) (L : List Nat) (tg : Nat → Nat × Nat) (sz : Nat) (A : ew_R) (ln : Nat) (th : Nat) (hth : ew_in X L tg 0 0 th) (lo : Nat) (hlo : ew_in X L tg 2 ln lo) (pd : Nat) (g : Nat) (n : Nat) (w : Nat) (e3_0 : ew_in X L tg 3 ln (X 3 ln)) (e4_1 : ew_in X L tg 4 pd (X 4 pd)) (e5_2 : ew_in X L tg 5 pd (X 5 pd)) (e8_3 : ew_in X L tg 8 pd (X 8 pd)) (e7_4 : ew_in X L tg 7 0 (X 7 0)) (e12_5 : ew_in X L tg 12 0 (X 12 0)) (hd : pd < 192) (hn : n < 512) (hLS : lsC 8 14 t0 X L tg A pd g n) (hw : w ≤ 64) (qw : A 7 0 1 = nI w) (hcl : clC X L tg A) (hnl : ∀ b ∈ L, (6, 512 * pd + n) ≠ tg b) (hnew : ∀ b ∈ L, (14, 64 * pd + g + 1) ≠ tg b) (q7 : A 2 ln 7 = nI pd) (hst : A 3 ln 0 = 2) : Met l yL_cancel wsL_cancel ({ frames := 10, cells := 2, slots := 1004, locals := 320 }) (em_Pc D vwCl (tysA T) (cfC T) t0 X L tg A sz [.ref th, .ref lo]) (em_Qi D vwCl (cfC T) L sz (fun r u => r = 1 ∧ em_S (nw_5 pd g n) X L tg u.1 u.2.1 u.2.2.1 ∧ u.2.2.2 = z_L_cancel_y2 A ln pd g n w)) 2 1004 (ew_A L sz) := by
  refine em_met (by decide) rfl (Nat.le_of_ble_eq_true rfl) ?_
  intro p e s m below meth c ls hx hb hr hts hown hlocks hml hnm hV hK hN hZ hS hA hl hsz
  subst hsz
  have hl : lv_has ls 3 [(0, .ref th), (1, .ref lo)] := hl
  refine lv_aload_n hx hb dL_cancel_0 rfl (lv_at hl 1 rfl) ?_
  refine ew_get (v := .ref (X 3 ln)) hx hb hts hown hK hV fL_107 hlo (cC_2 _ _ _ _) rfl dL_cancel_1 ?_
  refine ew_get (v := .int (A 3 ln 0)) hx hb hts hown hK hV fL_111 e3_0 (cC_3 _ _ _ _) rfl dL_cancel_4 ?_
  refine lv_istore_n (lv' := [(2, .int (A 3 ln 0)), (0, .ref th), (1, .ref lo)]) hx hb dL_cancel_7 rfl hl (by decide) rfl (fun ls hl => ?_)
  refine lv_iload_n hx hb dL_cancel_8 rfl (lv_at hl 0 rfl) ?_
  refine lv_if_eq (tgt := 24) hx hb dL_cancel_9 rfl (fun h9 => absurd h9 (by rw [hst]; decide)) (fun _ => ?_)
  refine lv_iload_n hx hb dL_cancel_12 rfl (lv_at hl 0 rfl) ?_
  refine lv_iconst (v := 1) hx hb dL_cancel_13 (by decide) ?_
  refine lv_icmp_eq (tgt := 24) hx hb dL_cancel_14 rfl (fun h9 => absurd h9 (by rw [hst]; decide)) (fun _ => ?_)
  refine lv_iload_n hx hb dL_cancel_17 rfl (lv_at hl 0 rfl) ?_
  refine lv_iconst (v := 2) hx hb dL_cancel_18 (by decide) ?_
  refine lv_icmp_eq (tgt := 24) hx hb dL_cancel_19 rfl (fun _ => ?_) (fun h9 => absurd hst h9)
  refine lv_aload_n hx hb dL_cancel_24 rfl (lv_at hl 1 rfl) ?_
  refine lv_aload_n hx hb dL_cancel_25 rfl (lv_at hl 2 rfl) ?_
  refine lv_bipush (v := 10) hx hb dL_cancel_26 (by decide) ?_
  refine lv_bipush (v := 15) hx hb dL_cancel_28 (by decide) ?_
  refine lv_iconst (v := 0) hx hb dL_cancel_30 (by decide) ?_
  refine em_calli (va_runV (As := [.ref lo, .int 10, .int 15, .int 0]) (rest := []) ⟨hx, hb, hml, hown, hts⟩ (c_L_requesterWrites l D T t0 X L tg _ A ln pd g n w th lo (X 3 ln) (X 4 pd) (X 5 pd) (X 8 pd) (X 7 0) (X 12 0) 10 15 0 hd hn hth e5_2 e8_3 e7_4 e12_5 hLS hw qw hcl hnl hnew hlo e3_0 e4_1 q7) (cwV 4 hts gL_81 rfl rfl rfl (by decide +kernel) ⟨Nat.le_of_ble_eq_true rfl, Nat.le_of_ble_eq_true rfl⟩) (em_preV hK hN hV hZ hS hA hth (cC_0 _ _ _ _) rfl) rfl rfl hl.1 rfl (lv_room (Nat.le_of_ble_eq_true rfl)) dL_cancel_31 ⟨Nat.le_of_ble_eq_true rfl, Nat.le_of_ble_eq_true rfl⟩) hV hS hA (fun r X1 L1 tg1 u H locs hp hV hS => ?_)
  obtain ⟨rfl, hS9, eA9⟩ := hp
  rw [show z_L_cancel_y2 A ln pd g n w = z_L_requesterWrites A ln pd g n w 10 15 0 from rfl]
  exact em_zret hx hb hr hlocks hV hS dL_cancel_34 (by decide) ⟨rfl, hS9, eA9⟩

set_option maxHeartbeats 4000000 in
set_option maxRecDepth 100000 in
theorem c_L_cancel_no (l : Launch) (D : va_G) (T : Nat → ClassId) (X : Nat → Nat → Nat) (L : List Nat) (tg : Nat → Nat × Nat) (sz : Nat) (A : ew_R) (ln : Nat) (th : Nat) (hth : ew_in X L tg 0 0 th) (lo : Nat) (hlo : ew_in X L tg 2 ln lo) (e3_0 : ew_in X L tg 3 ln (X 3 ln)) (h0 : ¬ A 3 ln 0 = 0) (h1 : ¬ A 3 ln 0 = 1) (h2 : ¬ A 3 ln 0 = 2) : Met l yL_cancel wsL_cancel ({ frames := 10, cells := 0, slots := 0, locals := 227 }) (ec_Pc D vwCl (tysA T) (cfC T) X L tg A sz [.ref th, .ref lo]) (er_Qi D vwCl (cfC T) X L tg sz (fun r u => r = 0 ∧ u = A)) 0 0 (ew_A L sz) := by
  refine ec_met (by decide) rfl (Nat.le_of_ble_eq_true rfl) ?_
  intro p e s m below meth c ls hx hb hr hts hown hlocks hml hV hK hN hS hA hl hsz
  subst hsz
  have hl : lv_has ls 3 [(0, .ref th), (1, .ref lo)] := hl
  refine lv_aload_n hx hb dL_cancel_0 rfl (lv_at hl 1 rfl) ?_
  refine ew_get (v := .ref (X 3 ln)) hx hb hts hown hK hV fL_107 hlo (cC_2 _ _ _ _) rfl dL_cancel_1 ?_
  refine ew_get (v := .int (A 3 ln 0)) hx hb hts hown hK hV fL_111 e3_0 (cC_3 _ _ _ _) rfl dL_cancel_4 ?_
  refine lv_istore_n (lv' := [(2, .int (A 3 ln 0)), (0, .ref th), (1, .ref lo)]) hx hb dL_cancel_7 rfl hl (by decide) rfl (fun ls hl => ?_)
  refine lv_iload_n hx hb dL_cancel_8 rfl (lv_at hl 0 rfl) ?_
  refine lv_if_eq (tgt := 24) hx hb dL_cancel_9 rfl (fun h9 => absurd h9 h0) (fun _ => ?_)
  refine lv_iload_n hx hb dL_cancel_12 rfl (lv_at hl 0 rfl) ?_
  refine lv_iconst (v := 1) hx hb dL_cancel_13 (by decide) ?_
  refine lv_icmp_eq (tgt := 24) hx hb dL_cancel_14 rfl (fun h9 => absurd h9 h1) (fun _ => ?_)
  refine lv_iload_n hx hb dL_cancel_17 rfl (lv_at hl 0 rfl) ?_
  refine lv_iconst (v := 2) hx hb dL_cancel_18 (by decide) ?_
  refine lv_icmp_eq (tgt := 24) hx hb dL_cancel_19 rfl (fun h9 => absurd h9 h2) (fun _ => ?_)
  refine lv_iconst (v := 0) hx hb dL_cancel_22 (by decide) ?_
  exact er_zret hx hb hr hlocks hV hS dL_cancel_23 (by decide) ⟨rfl, rfl⟩

def z_L_receive_y (A : ew_R) (ln : Nat) (pd : Nat) (g : Nat) (n : Nat) (w : Nat) (cp : Nat) : ew_R :=
  z_L_requesterWrites (up3 A 1 cp 2 (A 2 ln 1)) ln pd g n w 4 8 0
set_option maxHeartbeats 4000000 in
set_option maxRecDepth 100000 in
theorem c_L_receive_y (l : Launch) (D : va_G) (T : Nat → ClassId) (t0 : Nat × Nat) (X : Nat → Nat → Nat) (L : List Nat) (tg : Nat → Nat × Nat) (sz : Nat) (A : ew_R) (ln : Nat) (th : Nat) (hth : ew_in X L tg 0 0 th) (lo : Nat) (hlo : ew_in X L tg 2 ln lo) (pd : Nat) (g : Nat) (n : Nat) (w : Nat) (cp : Nat) (e3_0 : ew_in X L tg 3 ln (X 3 ln)) (e4_1 : ew_in X L tg 4 pd (X 4 pd)) (e5_2 : ew_in X L tg 5 pd (X 5 pd)) (e8_3 : ew_in X L tg 8 pd (X 8 pd)) (e7_4 : ew_in X L tg 7 0 (X 7 0)) (e12_5 : ew_in X L tg 12 0 (X 12 0)) (e1_6 : ew_in X L tg 1 cp (X 1 cp)) (hd : pd < 192) (hn : n < 512) (hLS : lsC 8 14 t0 X L tg A pd g n) (hw : w ≤ 64) (qw : A 7 0 1 = nI w) (hcl : clC X L tg A) (hnl : ∀ b ∈ L, (6, 512 * pd + n) ≠ tg b) (hnew : ∀ b ∈ L, (14, 64 * pd + g + 1) ≠ tg b) (q7 : A 2 ln 7 = nI pd) (hcp : cp < 32) (q4 : A 4 pd 4 = nI cp) (hst : A 3 ln 0 = 3) : Met l yL_receive wsL_receive ({ frames := 10, cells := 2, slots := 1004, locals := 320 }) (em_Pc D vwCl (tysA T) (cfC T) t0 X L tg A sz [.ref th, .ref lo]) (em_Qi D vwCl (cfC T) L sz (fun r u => r = 1 ∧ em_S (nw_5 pd g n) X L tg u.1 u.2.1 u.2.2.1 ∧ u.2.2.2 = z_L_receive_y A ln pd g n w cp)) 2 1004 (ew_A L sz) := by
  refine em_met (by decide) rfl (Nat.le_of_ble_eq_true rfl) ?_
  intro p e s m below meth c ls hx hb hr hts hown hlocks hml hnm hV hK hN hZ hS hA hl hsz
  subst hsz
  have hl : lv_has ls 2 [(0, .ref th), (1, .ref lo)] := hl
  refine lv_aload_n hx hb dL_receive_0 rfl (lv_at hl 1 rfl) ?_
  refine ew_get (v := .ref (X 3 ln)) hx hb hts hown hK hV fL_107 hlo (cC_2 _ _ _ _) rfl dL_receive_1 ?_
  refine ew_get (v := .int (A 3 ln 0)) hx hb hts hown hK hV fL_111 e3_0 (cC_3 _ _ _ _) rfl dL_receive_4 ?_
  refine lv_iconst (v := 3) hx hb dL_receive_7 (by decide) ?_
  refine lv_icmp_eq (tgt := 13) hx hb dL_receive_8 rfl (fun _ => ?_) (fun h9 => absurd hst h9)
  refine lv_aload_n hx hb dL_receive_13 rfl (lv_at hl 1 rfl) ?_
  refine ew_get (v := .ref (X 4 pd)) hx hb hts hown hK hV fL_212 hlo (cC_2 _ _ _ _) (ec_rd q7 (by omega)) dL_receive_14 ?_
  refine lv_aload_n hx hb dL_receive_17 rfl (lv_at hl 1 rfl) ?_
  refine ew_get (v := .int (A 2 ln 1)) hx hb hts hown hK hV fL_96 hlo (cC_2 _ _ _ _) rfl dL_receive_18 ?_
  refine er_callv (va_runV (As := [.int (A 2 ln 1)]) (rest := []) ⟨hx, hb, hml, hown, hts⟩ (c_Deal_moveCopy_c l D T X L tg _ A pd (X 4 pd) e4_1 (A 2 ln 1) cp e1_6 hcp q4) (cwV 1 hts gL_295 rfl rfl rfl (by decide +kernel) ⟨Nat.le_of_ble_eq_true rfl, Nat.le_of_ble_eq_true rfl⟩) (ec_preV hK hN hV e4_1 (cC_4 _ _ _ _) rfl) rfl rfl hl.1 rfl (lv_room (Nat.le_of_ble_eq_true rfl)) dL_receive_21 ⟨Nat.le_of_ble_eq_true rfl, Nat.le_of_ble_eq_true rfl⟩) hV hS hA (fun u1 H locs eu1 hV hS => ?_)
  have eu1 : u1 = up3 A 1 cp 2 (A 2 ln 1) := eu1
  rw [eu1] at hV
  refine lv_aload_n hx hb dL_receive_24 rfl (lv_at hl 0 rfl) ?_
  refine lv_aload_n hx hb dL_receive_25 rfl (lv_at hl 1 rfl) ?_
  refine lv_iconst (v := 4) hx hb dL_receive_26 (by decide) ?_
  refine lv_bipush (v := 8) hx hb dL_receive_27 (by decide) ?_
  refine lv_iconst (v := 0) hx hb dL_receive_29 (by decide) ?_
  refine em_calli (va_runV (As := [.ref lo, .int 4, .int 8, .int 0]) (rest := []) ⟨hx, hb, hml, hown, hts⟩ (c_L_requesterWrites l D T t0 X L tg _ (up3 A 1 cp 2 (A 2 ln 1)) ln pd g n w th lo (X 3 ln) (X 4 pd) (X 5 pd) (X 8 pd) (X 7 0) (X 12 0) 4 8 0 hd hn hth e5_2 e8_3 e7_4 e12_5 (lsC_up (c := 1) (i := cp) (j := 2) (x := A 2 ln 1) hLS (by decide) (by decide)) hw qw (clC_1 (i := cp) (k := 2) (x := A 2 ln 1) hcl) hnl hnew hlo e3_0 e4_1 q7) (cwV 4 hts gL_81 rfl rfl rfl (by decide +kernel) ⟨Nat.le_of_ble_eq_true rfl, Nat.le_of_ble_eq_true rfl⟩) (em_preV hK hN hV hZ hS hA hth (cC_0 _ _ _ _) rfl) rfl rfl hl.1 rfl (lv_room (Nat.le_of_ble_eq_true rfl)) dL_receive_30 ⟨Nat.le_of_ble_eq_true rfl, Nat.le_of_ble_eq_true rfl⟩) hV hS hA (fun r X1 L1 tg1 u H locs hp hV hS => ?_)
  obtain ⟨rfl, hS9, eA9⟩ := hp
  rw [show z_L_receive_y A ln pd g n w cp = z_L_requesterWrites (up3 A 1 cp 2 (A 2 ln 1)) ln pd g n w 4 8 0 from rfl]
  exact em_zret hx hb hr hlocks hV hS dL_receive_33 (by decide) ⟨rfl, hS9, eA9⟩

def z_L_giveBack_y (A : ew_R) (ln : Nat) (pd : Nat) (g : Nat) (n : Nat) (w : Nat) (cp : Nat) : ew_R :=
  z_L_requesterWrites (up3 A 1 cp 2 6) ln pd g n w 7 12 0
set_option maxHeartbeats 4000000 in
set_option maxRecDepth 100000 in
theorem c_L_giveBack_y (l : Launch) (D : va_G) (T : Nat → ClassId) (t0 : Nat × Nat) (X : Nat → Nat → Nat) (L : List Nat) (tg : Nat → Nat × Nat) (sz : Nat) (A : ew_R) (ln : Nat) (th : Nat) (hth : ew_in X L tg 0 0 th) (lo : Nat) (hlo : ew_in X L tg 2 ln lo) (pd : Nat) (g : Nat) (n : Nat) (w : Nat) (cp : Nat) (e3_0 : ew_in X L tg 3 ln (X 3 ln)) (e4_1 : ew_in X L tg 4 pd (X 4 pd)) (e5_2 : ew_in X L tg 5 pd (X 5 pd)) (e8_3 : ew_in X L tg 8 pd (X 8 pd)) (e7_4 : ew_in X L tg 7 0 (X 7 0)) (e12_5 : ew_in X L tg 12 0 (X 12 0)) (e1_6 : ew_in X L tg 1 cp (X 1 cp)) (hd : pd < 192) (hn : n < 512) (hLS : lsC 8 14 t0 X L tg A pd g n) (hw : w ≤ 64) (qw : A 7 0 1 = nI w) (hcl : clC X L tg A) (hnl : ∀ b ∈ L, (6, 512 * pd + n) ≠ tg b) (hnew : ∀ b ∈ L, (14, 64 * pd + g + 1) ≠ tg b) (q7 : A 2 ln 7 = nI pd) (hcp : cp < 32) (q4 : A 4 pd 4 = nI cp) (hst : z_Asker_hasCopy (A 3 ln 0) = 1) : Met l yL_giveBack wsL_giveBack ({ frames := 10, cells := 2, slots := 1004, locals := 320 }) (em_Pc D vwCl (tysA T) (cfC T) t0 X L tg A sz [.ref th, .ref lo]) (em_Qi D vwCl (cfC T) L sz (fun r u => r = 1 ∧ em_S (nw_5 pd g n) X L tg u.1 u.2.1 u.2.2.1 ∧ u.2.2.2 = z_L_giveBack_y A ln pd g n w cp)) 2 1004 (ew_A L sz) := by
  refine em_met (by decide) rfl (Nat.le_of_ble_eq_true rfl) ?_
  intro p e s m below meth c ls hx hb hr hts hown hlocks hml hnm hV hK hN hZ hS hA hl hsz
  subst hsz
  have hl : lv_has ls 2 [(0, .ref th), (1, .ref lo)] := hl
  refine lv_aload_n hx hb dL_giveBack_0 rfl (lv_at hl 1 rfl) ?_
  refine ew_get (v := .ref (X 3 ln)) hx hb hts hown hK hV fL_107 hlo (cC_2 _ _ _ _) rfl dL_giveBack_1 ?_
  refine ew_get (v := .int (A 3 ln 0)) hx hb hts hown hK hV fL_111 e3_0 (cC_3 _ _ _ _) rfl dL_giveBack_4 ?_
  refine er_calli (va_runS (As := [.int (A 3 ln 0)]) (rest := []) ⟨hx, hb, hml, hown, hts⟩ (c_Asker_hasCopy l D T X L tg _ A (A 3 ln 0)) ⟨callB_of 1 hts gL_203.1 rfl rfl rfl (hts _ gL_203.2.2.2) (hts _ gL_203.2.1) (by decide +kernel) ⟨Nat.le_of_ble_eq_true rfl, Nat.le_of_ble_eq_true rfl⟩, hts _ gL_203.2.2.1⟩ (ec_preS hK hN hV) rfl rfl hl.1 rfl (lv_room (Nat.le_of_ble_eq_true rfl)) dL_giveBack_7 ⟨Nat.le_of_ble_eq_true rfl, Nat.le_of_ble_eq_true rfl⟩) hV hS hA (fun r u H locs hp hV hS => ?_)
  obtain ⟨rfl, eu9⟩ := hp
  rw [eu9] at hV
  refine lv_toe (y := 1) hst ?_
  refine lv_if_ne (tgt := 15) hx hb dL_giveBack_10 rfl (fun _ => ?_) (fun h9 => absurd h9 (by decide))
  refine lv_aload_n hx hb dL_giveBack_15 rfl (lv_at hl 1 rfl) ?_
  refine ew_get (v := .ref (X 4 pd)) hx hb hts hown hK hV fL_212 hlo (cC_2 _ _ _ _) (ec_rd q7 (by omega)) dL_giveBack_16 ?_
  refine lv_bipush (v := 6) hx hb dL_giveBack_19 (by decide) ?_
  refine er_callv (va_runV (As := [.int 6]) (rest := []) ⟨hx, hb, hml, hown, hts⟩ (c_Deal_moveCopy_c l D T X L tg _ A pd (X 4 pd) e4_1 6 cp e1_6 hcp q4) (cwV 1 hts gL_295 rfl rfl rfl (by decide +kernel) ⟨Nat.le_of_ble_eq_true rfl, Nat.le_of_ble_eq_true rfl⟩) (ec_preV hK hN hV e4_1 (cC_4 _ _ _ _) rfl) rfl rfl hl.1 rfl (lv_room (Nat.le_of_ble_eq_true rfl)) dL_giveBack_21 ⟨Nat.le_of_ble_eq_true rfl, Nat.le_of_ble_eq_true rfl⟩) hV hS hA (fun u1 H locs eu1 hV hS => ?_)
  have eu1 : u1 = up3 A 1 cp 2 6 := eu1
  rw [eu1] at hV
  refine lv_aload_n hx hb dL_giveBack_24 rfl (lv_at hl 0 rfl) ?_
  refine lv_aload_n hx hb dL_giveBack_25 rfl (lv_at hl 1 rfl) ?_
  refine lv_bipush (v := 7) hx hb dL_giveBack_26 (by decide) ?_
  refine lv_bipush (v := 12) hx hb dL_giveBack_28 (by decide) ?_
  refine lv_iconst (v := 0) hx hb dL_giveBack_30 (by decide) ?_
  refine em_calli (va_runV (As := [.ref lo, .int 7, .int 12, .int 0]) (rest := []) ⟨hx, hb, hml, hown, hts⟩ (c_L_requesterWrites l D T t0 X L tg _ (up3 A 1 cp 2 6) ln pd g n w th lo (X 3 ln) (X 4 pd) (X 5 pd) (X 8 pd) (X 7 0) (X 12 0) 7 12 0 hd hn hth e5_2 e8_3 e7_4 e12_5 (lsC_up (c := 1) (i := cp) (j := 2) (x := 6) hLS (by decide) (by decide)) hw qw (clC_1 (i := cp) (k := 2) (x := 6) hcl) hnl hnew hlo e3_0 e4_1 q7) (cwV 4 hts gL_81 rfl rfl rfl (by decide +kernel) ⟨Nat.le_of_ble_eq_true rfl, Nat.le_of_ble_eq_true rfl⟩) (em_preV hK hN hV hZ hS hA hth (cC_0 _ _ _ _) rfl) rfl rfl hl.1 rfl (lv_room (Nat.le_of_ble_eq_true rfl)) dL_giveBack_31 ⟨Nat.le_of_ble_eq_true rfl, Nat.le_of_ble_eq_true rfl⟩) hV hS hA (fun r X1 L1 tg1 u H locs hp hV hS => ?_)
  obtain ⟨rfl, hS9, eA9⟩ := hp
  rw [show z_L_giveBack_y A ln pd g n w cp = z_L_requesterWrites (up3 A 1 cp 2 6) ln pd g n w 7 12 0 from rfl]
  exact em_zret hx hb hr hlocks hV hS dL_giveBack_34 (by decide) ⟨rfl, hS9, eA9⟩

def z_L_refuse_y (A : ew_R) (d : Nat) (g : Nat) (n : Nat) (w : Nat) : ew_R :=
  z_L_supplierWrites A d g n w 10 4 0
set_option maxHeartbeats 4000000 in
set_option maxRecDepth 100000 in
theorem c_L_refuse_y (l : Launch) (D : va_G) (T : Nat → ClassId) (t0 : Nat × Nat) (X : Nat → Nat → Nat) (L : List Nat) (tg : Nat → Nat × Nat) (sz : Nat) (A : ew_R) (d : Nat) (th : Nat) (hth : ew_in X L tg 0 0 th) (dl : Nat) (hdl : ew_in X L tg 4 d dl) (g : Nat) (n : Nat) (w : Nat) (e17_0 : ew_in X L tg 17 d (X 17 d)) (e15_1 : ew_in X L tg 15 d (X 15 d)) (e16_2 : ew_in X L tg 16 d (X 16 d)) (e7_3 : ew_in X L tg 7 0 (X 7 0)) (e12_4 : ew_in X L tg 12 0 (X 12 0)) (hd : d < 192) (hn : n < 512) (hLS : lsC 16 20 t0 X L tg A d g n) (hw : w ≤ 64) (qw : A 7 0 1 = nI w) (hcl : clC X L tg A) (hnl : ∀ b ∈ L, (19, 512 * d + n) ≠ tg b) (hnew : ∀ b ∈ L, (20, 64 * d + g + 1) ≠ tg b) (hst : A 17 d 0 = 1) : Met l yL_refuse wsL_refuse ({ frames := 10, cells := 2, slots := 1004, locals := 320 }) (em_Pc D vwCl (tysA T) (cfC T) t0 X L tg A sz [.ref th, .ref dl]) (em_Qi D vwCl (cfC T) L sz (fun r u => r = 1 ∧ em_S (nw_15 d g n) X L tg u.1 u.2.1 u.2.2.1 ∧ u.2.2.2 = z_L_refuse_y A d g n w)) 2 1004 (ew_A L sz) := by
  refine em_met (by decide) rfl (Nat.le_of_ble_eq_true rfl) ?_
  intro p e s m below meth c ls hx hb hr hts hown hlocks hml hnm hV hK hN hZ hS hA hl hsz
  subst hsz
  have hl : lv_has ls 2 [(0, .ref th), (1, .ref dl)] := hl
  refine lv_aload_n hx hb dL_refuse_0 rfl (lv_at hl 1 rfl) ?_
  refine ew_get (v := .ref (X 17 d)) hx hb hts hown hK hV fL_128 hdl (cC_4 _ _ _ _) rfl dL_refuse_1 ?_
  refine ew_get (v := .int (A 17 d 0)) hx hb hts hown hK hV fL_111 e17_0 (cC_17 _ _ _ _) rfl dL_refuse_4 ?_
  refine lv_iconst (v := 1) hx hb dL_refuse_7 (by decide) ?_
  refine lv_icmp_eq (tgt := 13) hx hb dL_refuse_8 rfl (fun _ => ?_) (fun h9 => absurd hst h9)
  refine lv_aload_n hx hb dL_refuse_13 rfl (lv_at hl 0 rfl) ?_
  refine lv_aload_n hx hb dL_refuse_14 rfl (lv_at hl 1 rfl) ?_
  refine lv_bipush (v := 10) hx hb dL_refuse_15 (by decide) ?_
  refine lv_iconst (v := 4) hx hb dL_refuse_17 (by decide) ?_
  refine lv_iconst (v := 0) hx hb dL_refuse_18 (by decide) ?_
  refine em_calli (va_runV (As := [.ref dl, .int 10, .int 4, .int 0]) (rest := []) ⟨hx, hb, hml, hown, hts⟩ (c_L_supplierWrites l D T t0 X L tg _ A d g n w th dl (X 17 d) (X 15 d) (X 16 d) (X 7 0) (X 12 0) 10 4 0 hd hn hth e15_1 e16_2 e7_3 e12_4 hLS hw qw hcl hnl hnew e17_0 hdl) (cwV 4 hts gL_337 rfl rfl rfl (by decide +kernel) ⟨Nat.le_of_ble_eq_true rfl, Nat.le_of_ble_eq_true rfl⟩) (em_preV hK hN hV hZ hS hA hth (cC_0 _ _ _ _) rfl) rfl rfl hl.1 rfl (lv_room (Nat.le_of_ble_eq_true rfl)) dL_refuse_19 ⟨Nat.le_of_ble_eq_true rfl, Nat.le_of_ble_eq_true rfl⟩) hV hS hA (fun r X1 L1 tg1 u H locs hp hV hS => ?_)
  obtain ⟨rfl, hS9, eA9⟩ := hp
  rw [show z_L_refuse_y A d g n w = z_L_supplierWrites A d g n w 10 4 0 from rfl]
  exact em_zret hx hb hr hlocks hV hS dL_refuse_22 (by decide) ⟨rfl, hS9, eA9⟩

set_option maxHeartbeats 4000000 in
set_option maxRecDepth 100000 in
theorem c_L_refuse_no (l : Launch) (D : va_G) (T : Nat → ClassId) (X : Nat → Nat → Nat) (L : List Nat) (tg : Nat → Nat × Nat) (sz : Nat) (A : ew_R) (d : Nat) (th : Nat) (hth : ew_in X L tg 0 0 th) (dl : Nat) (hdl : ew_in X L tg 4 d dl) (e17_0 : ew_in X L tg 17 d (X 17 d)) (hst : ¬ A 17 d 0 = 1) : Met l yL_refuse wsL_refuse ({ frames := 10, cells := 0, slots := 0, locals := 227 }) (ec_Pc D vwCl (tysA T) (cfC T) X L tg A sz [.ref th, .ref dl]) (er_Qi D vwCl (cfC T) X L tg sz (fun r u => r = 0 ∧ u = A)) 0 0 (ew_A L sz) := by
  refine ec_met (by decide) rfl (Nat.le_of_ble_eq_true rfl) ?_
  intro p e s m below meth c ls hx hb hr hts hown hlocks hml hV hK hN hS hA hl hsz
  subst hsz
  have hl : lv_has ls 2 [(0, .ref th), (1, .ref dl)] := hl
  refine lv_aload_n hx hb dL_refuse_0 rfl (lv_at hl 1 rfl) ?_
  refine ew_get (v := .ref (X 17 d)) hx hb hts hown hK hV fL_128 hdl (cC_4 _ _ _ _) rfl dL_refuse_1 ?_
  refine ew_get (v := .int (A 17 d 0)) hx hb hts hown hK hV fL_111 e17_0 (cC_17 _ _ _ _) rfl dL_refuse_4 ?_
  refine lv_iconst (v := 1) hx hb dL_refuse_7 (by decide) ?_
  refine lv_icmp_eq (tgt := 13) hx hb dL_refuse_8 rfl (fun h9 => absurd h9 hst) (fun _ => ?_)
  refine lv_iconst (v := 0) hx hb dL_refuse_11 (by decide) ?_
  exact er_zret hx hb hr hlocks hV hS dL_refuse_12 (by decide) ⟨rfl, rfl⟩

def z_L_deny_y (A : ew_R) (d : Nat) (g : Nat) (n : Nat) (w : Nat) : ew_R :=
  z_L_supplierWrites A d g n w 5 10 0
set_option maxHeartbeats 4000000 in
set_option maxRecDepth 100000 in
theorem c_L_deny_y (l : Launch) (D : va_G) (T : Nat → ClassId) (t0 : Nat × Nat) (X : Nat → Nat → Nat) (L : List Nat) (tg : Nat → Nat × Nat) (sz : Nat) (A : ew_R) (d : Nat) (th : Nat) (hth : ew_in X L tg 0 0 th) (dl : Nat) (hdl : ew_in X L tg 4 d dl) (g : Nat) (n : Nat) (w : Nat) (e17_0 : ew_in X L tg 17 d (X 17 d)) (e15_1 : ew_in X L tg 15 d (X 15 d)) (e16_2 : ew_in X L tg 16 d (X 16 d)) (e7_3 : ew_in X L tg 7 0 (X 7 0)) (e12_4 : ew_in X L tg 12 0 (X 12 0)) (hd : d < 192) (hn : n < 512) (hLS : lsC 16 20 t0 X L tg A d g n) (hw : w ≤ 64) (qw : A 7 0 1 = nI w) (hcl : clC X L tg A) (hnl : ∀ b ∈ L, (19, 512 * d + n) ≠ tg b) (hnew : ∀ b ∈ L, (20, 64 * d + g + 1) ≠ tg b) (hst : A 17 d 0 = 6) : Met l yL_deny wsL_deny ({ frames := 10, cells := 2, slots := 1004, locals := 320 }) (em_Pc D vwCl (tysA T) (cfC T) t0 X L tg A sz [.ref th, .ref dl]) (em_Qi D vwCl (cfC T) L sz (fun r u => r = 1 ∧ em_S (nw_15 d g n) X L tg u.1 u.2.1 u.2.2.1 ∧ u.2.2.2 = z_L_deny_y A d g n w)) 2 1004 (ew_A L sz) := by
  refine em_met (by decide) rfl (Nat.le_of_ble_eq_true rfl) ?_
  intro p e s m below meth c ls hx hb hr hts hown hlocks hml hnm hV hK hN hZ hS hA hl hsz
  subst hsz
  have hl : lv_has ls 2 [(0, .ref th), (1, .ref dl)] := hl
  refine lv_aload_n hx hb dL_deny_0 rfl (lv_at hl 1 rfl) ?_
  refine ew_get (v := .ref (X 17 d)) hx hb hts hown hK hV fL_128 hdl (cC_4 _ _ _ _) rfl dL_deny_1 ?_
  refine ew_get (v := .int (A 17 d 0)) hx hb hts hown hK hV fL_111 e17_0 (cC_17 _ _ _ _) rfl dL_deny_4 ?_
  refine lv_bipush (v := 6) hx hb dL_deny_7 (by decide) ?_
  refine lv_icmp_eq (tgt := 14) hx hb dL_deny_9 rfl (fun _ => ?_) (fun h9 => absurd hst h9)
  refine lv_aload_n hx hb dL_deny_14 rfl (lv_at hl 0 rfl) ?_
  refine lv_aload_n hx hb dL_deny_15 rfl (lv_at hl 1 rfl) ?_
  refine lv_iconst (v := 5) hx hb dL_deny_16 (by decide) ?_
  refine lv_bipush (v := 10) hx hb dL_deny_17 (by decide) ?_
  refine lv_iconst (v := 0) hx hb dL_deny_19 (by decide) ?_
  refine em_calli (va_runV (As := [.ref dl, .int 5, .int 10, .int 0]) (rest := []) ⟨hx, hb, hml, hown, hts⟩ (c_L_supplierWrites l D T t0 X L tg _ A d g n w th dl (X 17 d) (X 15 d) (X 16 d) (X 7 0) (X 12 0) 5 10 0 hd hn hth e15_1 e16_2 e7_3 e12_4 hLS hw qw hcl hnl hnew e17_0 hdl) (cwV 4 hts gL_337 rfl rfl rfl (by decide +kernel) ⟨Nat.le_of_ble_eq_true rfl, Nat.le_of_ble_eq_true rfl⟩) (em_preV hK hN hV hZ hS hA hth (cC_0 _ _ _ _) rfl) rfl rfl hl.1 rfl (lv_room (Nat.le_of_ble_eq_true rfl)) dL_deny_20 ⟨Nat.le_of_ble_eq_true rfl, Nat.le_of_ble_eq_true rfl⟩) hV hS hA (fun r X1 L1 tg1 u H locs hp hV hS => ?_)
  obtain ⟨rfl, hS9, eA9⟩ := hp
  rw [show z_L_deny_y A d g n w = z_L_supplierWrites A d g n w 5 10 0 from rfl]
  exact em_zret hx hb hr hlocks hV hS dL_deny_23 (by decide) ⟨rfl, hS9, eA9⟩

set_option maxHeartbeats 4000000 in
set_option maxRecDepth 100000 in
theorem c_L_deny_no (l : Launch) (D : va_G) (T : Nat → ClassId) (X : Nat → Nat → Nat) (L : List Nat) (tg : Nat → Nat × Nat) (sz : Nat) (A : ew_R) (d : Nat) (th : Nat) (hth : ew_in X L tg 0 0 th) (dl : Nat) (hdl : ew_in X L tg 4 d dl) (e17_0 : ew_in X L tg 17 d (X 17 d)) (hst : ¬ A 17 d 0 = 6) : Met l yL_deny wsL_deny ({ frames := 10, cells := 0, slots := 0, locals := 227 }) (ec_Pc D vwCl (tysA T) (cfC T) X L tg A sz [.ref th, .ref dl]) (er_Qi D vwCl (cfC T) X L tg sz (fun r u => r = 0 ∧ u = A)) 0 0 (ew_A L sz) := by
  refine ec_met (by decide) rfl (Nat.le_of_ble_eq_true rfl) ?_
  intro p e s m below meth c ls hx hb hr hts hown hlocks hml hV hK hN hS hA hl hsz
  subst hsz
  have hl : lv_has ls 2 [(0, .ref th), (1, .ref dl)] := hl
  refine lv_aload_n hx hb dL_deny_0 rfl (lv_at hl 1 rfl) ?_
  refine ew_get (v := .ref (X 17 d)) hx hb hts hown hK hV fL_128 hdl (cC_4 _ _ _ _) rfl dL_deny_1 ?_
  refine ew_get (v := .int (A 17 d 0)) hx hb hts hown hK hV fL_111 e17_0 (cC_17 _ _ _ _) rfl dL_deny_4 ?_
  refine lv_bipush (v := 6) hx hb dL_deny_7 (by decide) ?_
  refine lv_icmp_eq (tgt := 14) hx hb dL_deny_9 rfl (fun h9 => absurd h9 hst) (fun _ => ?_)
  refine lv_iconst (v := 0) hx hb dL_deny_12 (by decide) ?_
  exact er_zret hx hb hr hlocks hV hS dL_deny_13 (by decide) ⟨rfl, rfl⟩

def z_L_offer_y (A : ew_R) (d : Nat) (pr : Int32) (g : Nat) (n : Nat) (w : Nat) : ew_R :=
  z_L_supplierWrites (up3 A 17 d 2 pr) d g n w 2 3 pr
set_option maxHeartbeats 4000000 in
set_option maxRecDepth 100000 in
theorem c_L_offer_y (l : Launch) (D : va_G) (T : Nat → ClassId) (t0 : Nat × Nat) (X : Nat → Nat → Nat) (L : List Nat) (tg : Nat → Nat × Nat) (sz : Nat) (A : ew_R) (d : Nat) (th : Nat) (hth : ew_in X L tg 0 0 th) (dl : Nat) (hdl : ew_in X L tg 4 d dl) (pr : Int32) (g : Nat) (n : Nat) (w : Nat) (e17_0 : ew_in X L tg 17 d (X 17 d)) (e15_1 : ew_in X L tg 15 d (X 15 d)) (e16_2 : ew_in X L tg 16 d (X 16 d)) (e7_3 : ew_in X L tg 7 0 (X 7 0)) (e12_4 : ew_in X L tg 12 0 (X 12 0)) (hd : d < 192) (hn : n < 512) (hLS : lsC 16 20 t0 X L tg A d g n) (hw : w ≤ 64) (qw : A 7 0 1 = nI w) (hcl : clC X L tg A) (hnl : ∀ b ∈ L, (19, 512 * d + n) ≠ tg b) (hnew : ∀ b ∈ L, (20, 64 * d + g + 1) ≠ tg b) (hp0 : A 17 d 2 = 0) (hst : A 17 d 0 = 1) (hp1 : ¬ pr < 1) (hp2 : pr ≤ 1000) : Met l yL_offer wsL_offer ({ frames := 10, cells := 2, slots := 1004, locals := 320 }) (em_Pc D vwCl (tysA T) (cfC T) t0 X L tg A sz [.ref th, .ref dl, .int pr]) (em_Qi D vwCl (cfC T) L sz (fun r u => r = 1 ∧ em_S (nw_15 d g n) X L tg u.1 u.2.1 u.2.2.1 ∧ u.2.2.2 = z_L_offer_y A d pr g n w)) 2 1004 (ew_A L sz) := by
  refine em_met (by decide) rfl (Nat.le_of_ble_eq_true rfl) ?_
  intro p e s m below meth c ls hx hb hr hts hown hlocks hml hnm hV hK hN hZ hS hA hl hsz
  subst hsz
  have hl : lv_has ls 4 [(0, .ref th), (1, .ref dl), (2, .int pr)] := hl
  refine lv_aload_n hx hb dL_offer_0 rfl (lv_at hl 1 rfl) ?_
  refine ew_get (v := .ref (X 17 d)) hx hb hts hown hK hV fL_128 hdl (cC_4 _ _ _ _) rfl dL_offer_1 ?_
  refine ew_get (v := .int (A 17 d 2)) hx hb hts hown hK hV fL_243 e17_0 (cC_17 _ _ _ _) rfl dL_offer_4 ?_
  refine lv_if_eq (tgt := 14) hx hb dL_offer_7 rfl (fun _ => ?_) (fun h9 => absurd hp0 h9)
  refine lv_iconst (v := 0) hx hb dL_offer_14 (by decide) ?_
  refine lv_istore_n (lv' := [(3, .int 0), (0, .ref th), (1, .ref dl), (2, .int pr)]) hx hb dL_offer_15 rfl hl (by decide) rfl (fun ls hl => ?_)
  refine lv_aload_n hx hb dL_offer_16 rfl (lv_at hl 2 rfl) ?_
  refine ew_get (v := .ref (X 17 d)) hx hb hts hown hK hV fL_128 hdl (cC_4 _ _ _ _) rfl dL_offer_17 ?_
  refine ew_get (v := .int (A 17 d 0)) hx hb hts hown hK hV fL_111 e17_0 (cC_17 _ _ _ _) rfl dL_offer_20 ?_
  refine lv_iconst (v := 1) hx hb dL_offer_23 (by decide) ?_
  refine lv_icmp_ne (tgt := 43) hx hb dL_offer_24 rfl (fun h9 => absurd hst h9) (fun _ => ?_)
  refine lv_iload_n hx hb dL_offer_27 rfl (lv_at hl 0 rfl) ?_
  refine lv_if_ne (tgt := 43) hx hb dL_offer_28 rfl (fun h9 => absurd (by decide) h9) (fun _ => ?_)
  refine lv_iload_n hx hb dL_offer_31 rfl (lv_at hl 3 rfl) ?_
  refine lv_iconst (v := 1) hx hb dL_offer_32 (by decide) ?_
  refine lv_icmp_lt (tgt := 43) hx hb dL_offer_33 rfl (fun h9 => absurd h9 hp1) (fun _ => ?_)
  refine lv_iload_n hx hb dL_offer_36 rfl (lv_at hl 3 rfl) ?_
  refine lv_sipush (v := 1000) hx hb dL_offer_37 (by decide) ?_
  refine lv_icmp_le (tgt := 45) hx hb dL_offer_40 rfl (fun _ => ?_) (fun h9 => absurd hp2 h9)
  refine lv_aload_n hx hb dL_offer_45 rfl (lv_at hl 2 rfl) ?_
  refine ew_get (v := .ref (X 17 d)) hx hb hts hown hK hV fL_128 hdl (cC_4 _ _ _ _) rfl dL_offer_46 ?_
  refine lv_iload_n hx hb dL_offer_49 rfl (lv_at hl 3 rfl) ?_
  refine ew_put (ty := .int) hx hb hts hown hK hV hS fL_243 gPage e17_0 (cC_17 _ _ _ _) 2 _ (pC_17_2 _ _ _ _ _) rfl (by decide +kernel) rfl rfl (Nat.le_of_ble_eq_true rfl) dL_offer_50 (fun H locs hV hS => ?_)
  refine lv_aload_n hx hb dL_offer_53 rfl (lv_at hl 1 rfl) ?_
  refine lv_aload_n hx hb dL_offer_54 rfl (lv_at hl 2 rfl) ?_
  refine lv_iconst (v := 2) hx hb dL_offer_55 (by decide) ?_
  refine lv_iconst (v := 3) hx hb dL_offer_56 (by decide) ?_
  refine lv_iload_n hx hb dL_offer_57 rfl (lv_at hl 3 rfl) ?_
  refine em_calli (va_runV (As := [.ref dl, .int 2, .int 3, .int pr]) (rest := []) ⟨hx, hb, hml, hown, hts⟩ (c_L_supplierWrites l D T t0 X L tg _ (up3 A 17 d 2 pr) d g n w th dl (X 17 d) (X 15 d) (X 16 d) (X 7 0) (X 12 0) 2 3 pr hd hn hth e15_1 e16_2 e7_3 e12_4 (lsC_up (c := 17) (i := d) (j := 2) (x := pr) hLS (by decide) (by decide)) hw qw (clC_17 (i := d) (k := 2) (x := pr) hcl) hnl hnew e17_0 hdl) (cwV 4 hts gL_337 rfl rfl rfl (by decide +kernel) ⟨Nat.le_of_ble_eq_true rfl, Nat.le_of_ble_eq_true rfl⟩) (em_preV hK hN hV hZ hS hA hth (cC_0 _ _ _ _) rfl) rfl rfl hl.1 rfl (lv_room (Nat.le_of_ble_eq_true rfl)) dL_offer_58 ⟨Nat.le_of_ble_eq_true rfl, Nat.le_of_ble_eq_true rfl⟩) hV hS hA (fun r X1 L1 tg1 u H locs hp hV hS => ?_)
  obtain ⟨rfl, hS9, eA9⟩ := hp
  rw [show z_L_offer_y A d pr g n w = z_L_supplierWrites (up3 A 17 d 2 pr) d g n w 2 3 pr from rfl]
  exact em_zret hx hb hr hlocks hV hS dL_offer_61 (by decide) ⟨rfl, hS9, eA9⟩

set_option maxHeartbeats 4000000 in
set_option maxRecDepth 100000 in
theorem c_L_offer_no1 (l : Launch) (D : va_G) (T : Nat → ClassId) (X : Nat → Nat → Nat) (L : List Nat) (tg : Nat → Nat × Nat) (sz : Nat) (A : ew_R) (d : Nat) (th : Nat) (hth : ew_in X L tg 0 0 th) (dl : Nat) (hdl : ew_in X L tg 4 d dl) (pr : Int32) (e17_0 : ew_in X L tg 17 d (X 17 d)) (hst : ¬ A 17 d 0 = 1) : Met l yL_offer wsL_offer ({ frames := 10, cells := 0, slots := 0, locals := 227 }) (ec_Pc D vwCl (tysA T) (cfC T) X L tg A sz [.ref th, .ref dl, .int pr]) (er_Qi D vwCl (cfC T) X L tg sz (fun r u => r = 0 ∧ u = A)) 0 0 (ew_A L sz) := by
  refine ec_met (by decide) rfl (Nat.le_of_ble_eq_true rfl) ?_
  intro p e s m below meth c ls hx hb hr hts hown hlocks hml hV hK hN hS hA hl hsz
  subst hsz
  have hl : lv_has ls 4 [(0, .ref th), (1, .ref dl), (2, .int pr)] := hl
  refine lv_aload_n hx hb dL_offer_0 rfl (lv_at hl 1 rfl) ?_
  refine ew_get (v := .ref (X 17 d)) hx hb hts hown hK hV fL_128 hdl (cC_4 _ _ _ _) rfl dL_offer_1 ?_
  refine ew_get (v := .int (A 17 d 2)) hx hb hts hown hK hV fL_243 e17_0 (cC_17 _ _ _ _) rfl dL_offer_4 ?_
  refine lv_if_eq (tgt := 14) hx hb dL_offer_7 rfl (fun h1 => ?_) (fun h1 => ?_)
  · refine lv_iconst (v := 0) hx hb dL_offer_14 (by decide) ?_
    refine lv_istore_n (lv' := [(3, .int 0), (0, .ref th), (1, .ref dl), (2, .int pr)]) hx hb dL_offer_15 rfl hl (by decide) rfl (fun ls hl => ?_)
    refine lv_aload_n hx hb dL_offer_16 rfl (lv_at hl 2 rfl) ?_
    refine ew_get (v := .ref (X 17 d)) hx hb hts hown hK hV fL_128 hdl (cC_4 _ _ _ _) rfl dL_offer_17 ?_
    refine ew_get (v := .int (A 17 d 0)) hx hb hts hown hK hV fL_111 e17_0 (cC_17 _ _ _ _) rfl dL_offer_20 ?_
    refine lv_iconst (v := 1) hx hb dL_offer_23 (by decide) ?_
    refine lv_icmp_ne (tgt := 43) hx hb dL_offer_24 rfl (fun _ => ?_) (fun h9 => absurd h9 hst)
    refine lv_iconst (v := 0) hx hb dL_offer_43 (by decide) ?_
    exact er_zret hx hb hr hlocks hV hS dL_offer_44 (by decide) ⟨rfl, rfl⟩
  · refine lv_iconst (v := 1) hx hb dL_offer_10 (by decide) ?_
    refine lv_goto (tgt := 15) hx hb dL_offer_11 rfl ?_
    refine lv_istore_n (lv' := [(3, .int 1), (0, .ref th), (1, .ref dl), (2, .int pr)]) hx hb dL_offer_15 rfl hl (by decide) rfl (fun ls hl => ?_)
    refine lv_aload_n hx hb dL_offer_16 rfl (lv_at hl 2 rfl) ?_
    refine ew_get (v := .ref (X 17 d)) hx hb hts hown hK hV fL_128 hdl (cC_4 _ _ _ _) rfl dL_offer_17 ?_
    refine ew_get (v := .int (A 17 d 0)) hx hb hts hown hK hV fL_111 e17_0 (cC_17 _ _ _ _) rfl dL_offer_20 ?_
    refine lv_iconst (v := 1) hx hb dL_offer_23 (by decide) ?_
    refine lv_icmp_ne (tgt := 43) hx hb dL_offer_24 rfl (fun _ => ?_) (fun h9 => absurd h9 hst)
    refine lv_iconst (v := 0) hx hb dL_offer_43 (by decide) ?_
    exact er_zret hx hb hr hlocks hV hS dL_offer_44 (by decide) ⟨rfl, rfl⟩

set_option maxHeartbeats 4000000 in
set_option maxRecDepth 100000 in
theorem c_L_offer_no2 (l : Launch) (D : va_G) (T : Nat → ClassId) (X : Nat → Nat → Nat) (L : List Nat) (tg : Nat → Nat × Nat) (sz : Nat) (A : ew_R) (d : Nat) (th : Nat) (hth : ew_in X L tg 0 0 th) (dl : Nat) (hdl : ew_in X L tg 4 d dl) (pr : Int32) (e17_0 : ew_in X L tg 17 d (X 17 d)) (hst : A 17 d 0 = 1) (hp0 : ¬ A 17 d 2 = 0) : Met l yL_offer wsL_offer ({ frames := 10, cells := 0, slots := 0, locals := 227 }) (ec_Pc D vwCl (tysA T) (cfC T) X L tg A sz [.ref th, .ref dl, .int pr]) (er_Qi D vwCl (cfC T) X L tg sz (fun r u => r = 0 ∧ u = A)) 0 0 (ew_A L sz) := by
  refine ec_met (by decide) rfl (Nat.le_of_ble_eq_true rfl) ?_
  intro p e s m below meth c ls hx hb hr hts hown hlocks hml hV hK hN hS hA hl hsz
  subst hsz
  have hl : lv_has ls 4 [(0, .ref th), (1, .ref dl), (2, .int pr)] := hl
  refine lv_aload_n hx hb dL_offer_0 rfl (lv_at hl 1 rfl) ?_
  refine ew_get (v := .ref (X 17 d)) hx hb hts hown hK hV fL_128 hdl (cC_4 _ _ _ _) rfl dL_offer_1 ?_
  refine ew_get (v := .int (A 17 d 2)) hx hb hts hown hK hV fL_243 e17_0 (cC_17 _ _ _ _) rfl dL_offer_4 ?_
  refine lv_if_eq (tgt := 14) hx hb dL_offer_7 rfl (fun h9 => absurd h9 hp0) (fun _ => ?_)
  refine lv_iconst (v := 1) hx hb dL_offer_10 (by decide) ?_
  refine lv_goto (tgt := 15) hx hb dL_offer_11 rfl ?_
  refine lv_istore_n (lv' := [(3, .int 1), (0, .ref th), (1, .ref dl), (2, .int pr)]) hx hb dL_offer_15 rfl hl (by decide) rfl (fun ls hl => ?_)
  refine lv_aload_n hx hb dL_offer_16 rfl (lv_at hl 2 rfl) ?_
  refine ew_get (v := .ref (X 17 d)) hx hb hts hown hK hV fL_128 hdl (cC_4 _ _ _ _) rfl dL_offer_17 ?_
  refine ew_get (v := .int (A 17 d 0)) hx hb hts hown hK hV fL_111 e17_0 (cC_17 _ _ _ _) rfl dL_offer_20 ?_
  refine lv_iconst (v := 1) hx hb dL_offer_23 (by decide) ?_
  refine lv_icmp_ne (tgt := 43) hx hb dL_offer_24 rfl (fun h9 => absurd hst h9) (fun _ => ?_)
  refine lv_iload_n hx hb dL_offer_27 rfl (lv_at hl 0 rfl) ?_
  refine lv_if_ne (tgt := 43) hx hb dL_offer_28 rfl (fun _ => ?_) (fun h9 => absurd h9 (by decide))
  refine lv_iconst (v := 0) hx hb dL_offer_43 (by decide) ?_
  exact er_zret hx hb hr hlocks hV hS dL_offer_44 (by decide) ⟨rfl, rfl⟩

set_option maxHeartbeats 4000000 in
set_option maxRecDepth 100000 in
theorem c_L_offer_no3 (l : Launch) (D : va_G) (T : Nat → ClassId) (X : Nat → Nat → Nat) (L : List Nat) (tg : Nat → Nat × Nat) (sz : Nat) (A : ew_R) (d : Nat) (th : Nat) (hth : ew_in X L tg 0 0 th) (dl : Nat) (hdl : ew_in X L tg 4 d dl) (pr : Int32) (e17_0 : ew_in X L tg 17 d (X 17 d)) (hp0 : A 17 d 2 = 0) (hst : A 17 d 0 = 1) (hp1 : pr < 1) : Met l yL_offer wsL_offer ({ frames := 10, cells := 0, slots := 0, locals := 227 }) (ec_Pc D vwCl (tysA T) (cfC T) X L tg A sz [.ref th, .ref dl, .int pr]) (er_Qi D vwCl (cfC T) X L tg sz (fun r u => r = 0 ∧ u = A)) 0 0 (ew_A L sz) := by
  refine ec_met (by decide) rfl (Nat.le_of_ble_eq_true rfl) ?_
  intro p e s m below meth c ls hx hb hr hts hown hlocks hml hV hK hN hS hA hl hsz
  subst hsz
  have hl : lv_has ls 4 [(0, .ref th), (1, .ref dl), (2, .int pr)] := hl
  refine lv_aload_n hx hb dL_offer_0 rfl (lv_at hl 1 rfl) ?_
  refine ew_get (v := .ref (X 17 d)) hx hb hts hown hK hV fL_128 hdl (cC_4 _ _ _ _) rfl dL_offer_1 ?_
  refine ew_get (v := .int (A 17 d 2)) hx hb hts hown hK hV fL_243 e17_0 (cC_17 _ _ _ _) rfl dL_offer_4 ?_
  refine lv_if_eq (tgt := 14) hx hb dL_offer_7 rfl (fun _ => ?_) (fun h9 => absurd hp0 h9)
  refine lv_iconst (v := 0) hx hb dL_offer_14 (by decide) ?_
  refine lv_istore_n (lv' := [(3, .int 0), (0, .ref th), (1, .ref dl), (2, .int pr)]) hx hb dL_offer_15 rfl hl (by decide) rfl (fun ls hl => ?_)
  refine lv_aload_n hx hb dL_offer_16 rfl (lv_at hl 2 rfl) ?_
  refine ew_get (v := .ref (X 17 d)) hx hb hts hown hK hV fL_128 hdl (cC_4 _ _ _ _) rfl dL_offer_17 ?_
  refine ew_get (v := .int (A 17 d 0)) hx hb hts hown hK hV fL_111 e17_0 (cC_17 _ _ _ _) rfl dL_offer_20 ?_
  refine lv_iconst (v := 1) hx hb dL_offer_23 (by decide) ?_
  refine lv_icmp_ne (tgt := 43) hx hb dL_offer_24 rfl (fun h9 => absurd hst h9) (fun _ => ?_)
  refine lv_iload_n hx hb dL_offer_27 rfl (lv_at hl 0 rfl) ?_
  refine lv_if_ne (tgt := 43) hx hb dL_offer_28 rfl (fun h9 => absurd (by decide) h9) (fun _ => ?_)
  refine lv_iload_n hx hb dL_offer_31 rfl (lv_at hl 3 rfl) ?_
  refine lv_iconst (v := 1) hx hb dL_offer_32 (by decide) ?_
  refine lv_icmp_lt (tgt := 43) hx hb dL_offer_33 rfl (fun _ => ?_) (fun h9 => absurd hp1 h9)
  refine lv_iconst (v := 0) hx hb dL_offer_43 (by decide) ?_
  exact er_zret hx hb hr hlocks hV hS dL_offer_44 (by decide) ⟨rfl, rfl⟩

set_option maxHeartbeats 4000000 in
set_option maxRecDepth 100000 in
theorem c_L_offer_no4 (l : Launch) (D : va_G) (T : Nat → ClassId) (X : Nat → Nat → Nat) (L : List Nat) (tg : Nat → Nat × Nat) (sz : Nat) (A : ew_R) (d : Nat) (th : Nat) (hth : ew_in X L tg 0 0 th) (dl : Nat) (hdl : ew_in X L tg 4 d dl) (pr : Int32) (e17_0 : ew_in X L tg 17 d (X 17 d)) (hp0 : A 17 d 2 = 0) (hst : A 17 d 0 = 1) (hp1 : ¬ pr < 1) (hp2 : ¬ pr ≤ 1000) : Met l yL_offer wsL_offer ({ frames := 10, cells := 0, slots := 0, locals := 227 }) (ec_Pc D vwCl (tysA T) (cfC T) X L tg A sz [.ref th, .ref dl, .int pr]) (er_Qi D vwCl (cfC T) X L tg sz (fun r u => r = 0 ∧ u = A)) 0 0 (ew_A L sz) := by
  refine ec_met (by decide) rfl (Nat.le_of_ble_eq_true rfl) ?_
  intro p e s m below meth c ls hx hb hr hts hown hlocks hml hV hK hN hS hA hl hsz
  subst hsz
  have hl : lv_has ls 4 [(0, .ref th), (1, .ref dl), (2, .int pr)] := hl
  refine lv_aload_n hx hb dL_offer_0 rfl (lv_at hl 1 rfl) ?_
  refine ew_get (v := .ref (X 17 d)) hx hb hts hown hK hV fL_128 hdl (cC_4 _ _ _ _) rfl dL_offer_1 ?_
  refine ew_get (v := .int (A 17 d 2)) hx hb hts hown hK hV fL_243 e17_0 (cC_17 _ _ _ _) rfl dL_offer_4 ?_
  refine lv_if_eq (tgt := 14) hx hb dL_offer_7 rfl (fun _ => ?_) (fun h9 => absurd hp0 h9)
  refine lv_iconst (v := 0) hx hb dL_offer_14 (by decide) ?_
  refine lv_istore_n (lv' := [(3, .int 0), (0, .ref th), (1, .ref dl), (2, .int pr)]) hx hb dL_offer_15 rfl hl (by decide) rfl (fun ls hl => ?_)
  refine lv_aload_n hx hb dL_offer_16 rfl (lv_at hl 2 rfl) ?_
  refine ew_get (v := .ref (X 17 d)) hx hb hts hown hK hV fL_128 hdl (cC_4 _ _ _ _) rfl dL_offer_17 ?_
  refine ew_get (v := .int (A 17 d 0)) hx hb hts hown hK hV fL_111 e17_0 (cC_17 _ _ _ _) rfl dL_offer_20 ?_
  refine lv_iconst (v := 1) hx hb dL_offer_23 (by decide) ?_
  refine lv_icmp_ne (tgt := 43) hx hb dL_offer_24 rfl (fun h9 => absurd hst h9) (fun _ => ?_)
  refine lv_iload_n hx hb dL_offer_27 rfl (lv_at hl 0 rfl) ?_
  refine lv_if_ne (tgt := 43) hx hb dL_offer_28 rfl (fun h9 => absurd (by decide) h9) (fun _ => ?_)
  refine lv_iload_n hx hb dL_offer_31 rfl (lv_at hl 3 rfl) ?_
  refine lv_iconst (v := 1) hx hb dL_offer_32 (by decide) ?_
  refine lv_icmp_lt (tgt := 43) hx hb dL_offer_33 rfl (fun h9 => absurd h9 hp1) (fun _ => ?_)
  refine lv_iload_n hx hb dL_offer_36 rfl (lv_at hl 3 rfl) ?_
  refine lv_sipush (v := 1000) hx hb dL_offer_37 (by decide) ?_
  refine lv_icmp_le (tgt := 45) hx hb dL_offer_40 rfl (fun h9 => absurd h9 hp2) (fun _ => ?_)
  refine lv_iconst (v := 0) hx hb dL_offer_43 (by decide) ?_
  exact er_zret hx hb hr hlocks hV hS dL_offer_44 (by decide) ⟨rfl, rfl⟩

def z_L_rd_accept_y (A : ew_R) (ln : Nat) (pd : Nat) (g : Nat) (n : Nat) (w : Nat) : ew_R :=
  z_L_accept_y A ln pd g n w
set_option maxHeartbeats 4000000 in
set_option maxRecDepth 100000 in
theorem c_L_rd_accept_y (l : Launch) (D : va_G) (T : Nat → ClassId) (t0 : Nat × Nat) (X : Nat → Nat → Nat) (L : List Nat) (tg : Nat → Nat × Nat) (sz : Nat) (A : ew_R) (ln : Nat) (th : Nat) (hth : ew_in X L tg 0 0 th) (lo : Nat) (hlo : ew_in X L tg 2 ln lo) (pd : Nat) (g : Nat) (n : Nat) (w : Nat) (e3_0 : ew_in X L tg 3 ln (X 3 ln)) (e4_1 : ew_in X L tg 4 pd (X 4 pd)) (e5_2 : ew_in X L tg 5 pd (X 5 pd)) (e8_3 : ew_in X L tg 8 pd (X 8 pd)) (e7_4 : ew_in X L tg 7 0 (X 7 0)) (e12_5 : ew_in X L tg 12 0 (X 12 0)) (hd : pd < 192) (hn : n < 512) (hLS : lsC 8 14 t0 X L tg A pd g n) (hw : w ≤ 64) (qw : A 7 0 1 = nI w) (hcl : clC X L tg A) (hnl : ∀ b ∈ L, (6, 512 * pd + n) ≠ tg b) (hnew : ∀ b ∈ L, (14, 64 * pd + g + 1) ≠ tg b) (q7 : A 2 ln 7 = nI pd) (hst : A 3 ln 0 = 1) : Met l yL_requesterDoes wsL_requesterDoes ({ frames := 11, cells := 2, slots := 1004, locals := 350 }) (em_Pc D vwCl (tysA T) (cfC T) t0 X L tg A sz [.ref th, .ref lo, .int 0]) (em_Qi D vwCl (cfC T) L sz (fun r u => r = 1 ∧ em_S (nw_5 pd g n) X L tg u.1 u.2.1 u.2.2.1 ∧ u.2.2.2 = z_L_rd_accept_y A ln pd g n w)) 2 1004 (ew_A L sz) := by
  refine em_met (by decide) rfl (Nat.le_of_ble_eq_true rfl) ?_
  intro p e s m below meth c ls hx hb hr hts hown hlocks hml hnm hV hK hN hZ hS hA hl hsz
  subst hsz
  have hl : lv_has ls 3 [(0, .ref th), (1, .ref lo), (2, .int 0)] := hl
  refine lv_iload_n hx hb dL_requesterDoes_0 rfl (lv_at hl 2 rfl) ?_
  refine lv_tableIn (tgt := 44) hx hb dL_requesterDoes_1 (by decide) (by decide) rfl rfl ?_
  refine lv_aload_n hx hb dL_requesterDoes_44 rfl (lv_at hl 0 rfl) ?_
  refine lv_aload_n hx hb dL_requesterDoes_45 rfl (lv_at hl 1 rfl) ?_
  refine em_calli (va_runV (As := [.ref lo]) (rest := []) ⟨hx, hb, hml, hown, hts⟩ (c_L_accept_y l D T t0 X L tg _ A ln th hth lo hlo pd g n w e3_0 e4_1 e5_2 e8_3 e7_4 e12_5 hd hn hLS hw qw hcl hnl hnew q7 hst) (cwV 1 hts gL_261 rfl rfl rfl (by decide +kernel) ⟨Nat.le_of_ble_eq_true rfl, Nat.le_of_ble_eq_true rfl⟩) (em_preV hK hN hV hZ hS hA hth (cC_0 _ _ _ _) rfl) rfl rfl hl.1 rfl (lv_room (Nat.le_of_ble_eq_true rfl)) dL_requesterDoes_46 ⟨Nat.le_of_ble_eq_true rfl, Nat.le_of_ble_eq_true rfl⟩) hV hS hA (fun r X1 L1 tg1 u H locs hp hV hS => ?_)
  obtain ⟨rfl, hS9, eA9⟩ := hp
  rw [show z_L_rd_accept_y A ln pd g n w = z_L_accept_y A ln pd g n w from rfl]
  exact em_zret hx hb hr hlocks hV hS dL_requesterDoes_49 (by decide) ⟨rfl, hS9, eA9⟩

set_option maxHeartbeats 4000000 in
set_option maxRecDepth 100000 in
theorem c_L_rd_accept_no (l : Launch) (D : va_G) (T : Nat → ClassId) (X : Nat → Nat → Nat) (L : List Nat) (tg : Nat → Nat × Nat) (sz : Nat) (A : ew_R) (ln : Nat) (th : Nat) (hth : ew_in X L tg 0 0 th) (lo : Nat) (hlo : ew_in X L tg 2 ln lo) (e3_0 : ew_in X L tg 3 ln (X 3 ln)) (hst : ¬ A 3 ln 0 = 1) : Met l yL_requesterDoes wsL_requesterDoes ({ frames := 11, cells := 0, slots := 0, locals := 249 }) (ec_Pc D vwCl (tysA T) (cfC T) X L tg A sz [.ref th, .ref lo, .int 0]) (er_Qi D vwCl (cfC T) X L tg sz (fun r u => r = 0 ∧ u = A)) 0 0 (ew_A L sz) := by
  refine ec_met (by decide) rfl (Nat.le_of_ble_eq_true rfl) ?_
  intro p e s m below meth c ls hx hb hr hts hown hlocks hml hV hK hN hS hA hl hsz
  subst hsz
  have hl : lv_has ls 3 [(0, .ref th), (1, .ref lo), (2, .int 0)] := hl
  refine lv_iload_n hx hb dL_requesterDoes_0 rfl (lv_at hl 2 rfl) ?_
  refine lv_tableIn (tgt := 44) hx hb dL_requesterDoes_1 (by decide) (by decide) rfl rfl ?_
  refine lv_aload_n hx hb dL_requesterDoes_44 rfl (lv_at hl 0 rfl) ?_
  refine lv_aload_n hx hb dL_requesterDoes_45 rfl (lv_at hl 1 rfl) ?_
  refine er_calli (va_runV (As := [.ref lo]) (rest := []) ⟨hx, hb, hml, hown, hts⟩ (c_L_accept_no l D T X L tg _ A ln th hth lo hlo e3_0 hst) (cwV 1 hts gL_261 rfl rfl rfl (by decide +kernel) ⟨Nat.le_of_ble_eq_true rfl, Nat.le_of_ble_eq_true rfl⟩) (ec_preV hK hN hV hth (cC_0 _ _ _ _) rfl) rfl rfl hl.1 rfl (lv_room (Nat.le_of_ble_eq_true rfl)) dL_requesterDoes_46 ⟨Nat.le_of_ble_eq_true rfl, Nat.le_of_ble_eq_true rfl⟩) hV hS hA (fun r u H locs hp hV hS => ?_)
  obtain ⟨rfl, eu9⟩ := hp
  rw [eu9] at hV
  exact er_zret hx hb hr hlocks hV hS dL_requesterDoes_49 (by decide) ⟨rfl, rfl⟩

def z_L_rd_cancel_y0 (A : ew_R) (ln : Nat) (pd : Nat) (g : Nat) (n : Nat) (w : Nat) : ew_R :=
  z_L_cancel_y0 A ln pd g n w
set_option maxHeartbeats 4000000 in
set_option maxRecDepth 100000 in
theorem c_L_rd_cancel_y0 (l : Launch) (D : va_G) (T : Nat → ClassId) (t0 : Nat × Nat) (X : Nat → Nat → Nat) (L : List Nat) (tg : Nat → Nat × Nat) (sz : Nat) (A : ew_R) (ln : Nat) (th : Nat) (hth : ew_in X L tg 0 0 th) (lo : Nat) (hlo : ew_in X L tg 2 ln lo) (pd : Nat) (g : Nat) (n : Nat) (w : Nat) (e3_0 : ew_in X L tg 3 ln (X 3 ln)) (e4_1 : ew_in X L tg 4 pd (X 4 pd)) (e5_2 : ew_in X L tg 5 pd (X 5 pd)) (e8_3 : ew_in X L tg 8 pd (X 8 pd)) (e7_4 : ew_in X L tg 7 0 (X 7 0)) (e12_5 : ew_in X L tg 12 0 (X 12 0)) (hd : pd < 192) (hn : n < 512) (hLS : lsC 8 14 t0 X L tg A pd g n) (hw : w ≤ 64) (qw : A 7 0 1 = nI w) (hcl : clC X L tg A) (hnl : ∀ b ∈ L, (6, 512 * pd + n) ≠ tg b) (hnew : ∀ b ∈ L, (14, 64 * pd + g + 1) ≠ tg b) (q7 : A 2 ln 7 = nI pd) (hst : A 3 ln 0 = 0) : Met l yL_requesterDoes wsL_requesterDoes ({ frames := 11, cells := 2, slots := 1004, locals := 350 }) (em_Pc D vwCl (tysA T) (cfC T) t0 X L tg A sz [.ref th, .ref lo, .int 2]) (em_Qi D vwCl (cfC T) L sz (fun r u => r = 1 ∧ em_S (nw_5 pd g n) X L tg u.1 u.2.1 u.2.2.1 ∧ u.2.2.2 = z_L_rd_cancel_y0 A ln pd g n w)) 2 1004 (ew_A L sz) := by
  refine em_met (by decide) rfl (Nat.le_of_ble_eq_true rfl) ?_
  intro p e s m below meth c ls hx hb hr hts hown hlocks hml hnm hV hK hN hZ hS hA hl hsz
  subst hsz
  have hl : lv_has ls 3 [(0, .ref th), (1, .ref lo), (2, .int 2)] := hl
  refine lv_iload_n hx hb dL_requesterDoes_0 rfl (lv_at hl 2 rfl) ?_
  refine lv_tableIn (tgt := 56) hx hb dL_requesterDoes_1 (by decide) (by decide) rfl rfl ?_
  refine lv_aload_n hx hb dL_requesterDoes_56 rfl (lv_at hl 0 rfl) ?_
  refine lv_aload_n hx hb dL_requesterDoes_57 rfl (lv_at hl 1 rfl) ?_
  refine em_calli (va_runV (As := [.ref lo]) (rest := []) ⟨hx, hb, hml, hown, hts⟩ (c_L_cancel_y0 l D T t0 X L tg _ A ln th hth lo hlo pd g n w e3_0 e4_1 e5_2 e8_3 e7_4 e12_5 hd hn hLS hw qw hcl hnl hnew q7 hst) (cwV 1 hts gL_268 rfl rfl rfl (by decide +kernel) ⟨Nat.le_of_ble_eq_true rfl, Nat.le_of_ble_eq_true rfl⟩) (em_preV hK hN hV hZ hS hA hth (cC_0 _ _ _ _) rfl) rfl rfl hl.1 rfl (lv_room (Nat.le_of_ble_eq_true rfl)) dL_requesterDoes_58 ⟨Nat.le_of_ble_eq_true rfl, Nat.le_of_ble_eq_true rfl⟩) hV hS hA (fun r X1 L1 tg1 u H locs hp hV hS => ?_)
  obtain ⟨rfl, hS9, eA9⟩ := hp
  rw [show z_L_rd_cancel_y0 A ln pd g n w = z_L_cancel_y0 A ln pd g n w from rfl]
  exact em_zret hx hb hr hlocks hV hS dL_requesterDoes_61 (by decide) ⟨rfl, hS9, eA9⟩

def z_L_rd_cancel_y1 (A : ew_R) (ln : Nat) (pd : Nat) (g : Nat) (n : Nat) (w : Nat) : ew_R :=
  z_L_cancel_y1 A ln pd g n w
set_option maxHeartbeats 4000000 in
set_option maxRecDepth 100000 in
theorem c_L_rd_cancel_y1 (l : Launch) (D : va_G) (T : Nat → ClassId) (t0 : Nat × Nat) (X : Nat → Nat → Nat) (L : List Nat) (tg : Nat → Nat × Nat) (sz : Nat) (A : ew_R) (ln : Nat) (th : Nat) (hth : ew_in X L tg 0 0 th) (lo : Nat) (hlo : ew_in X L tg 2 ln lo) (pd : Nat) (g : Nat) (n : Nat) (w : Nat) (e3_0 : ew_in X L tg 3 ln (X 3 ln)) (e4_1 : ew_in X L tg 4 pd (X 4 pd)) (e5_2 : ew_in X L tg 5 pd (X 5 pd)) (e8_3 : ew_in X L tg 8 pd (X 8 pd)) (e7_4 : ew_in X L tg 7 0 (X 7 0)) (e12_5 : ew_in X L tg 12 0 (X 12 0)) (hd : pd < 192) (hn : n < 512) (hLS : lsC 8 14 t0 X L tg A pd g n) (hw : w ≤ 64) (qw : A 7 0 1 = nI w) (hcl : clC X L tg A) (hnl : ∀ b ∈ L, (6, 512 * pd + n) ≠ tg b) (hnew : ∀ b ∈ L, (14, 64 * pd + g + 1) ≠ tg b) (q7 : A 2 ln 7 = nI pd) (hst : A 3 ln 0 = 1) : Met l yL_requesterDoes wsL_requesterDoes ({ frames := 11, cells := 2, slots := 1004, locals := 350 }) (em_Pc D vwCl (tysA T) (cfC T) t0 X L tg A sz [.ref th, .ref lo, .int 2]) (em_Qi D vwCl (cfC T) L sz (fun r u => r = 1 ∧ em_S (nw_5 pd g n) X L tg u.1 u.2.1 u.2.2.1 ∧ u.2.2.2 = z_L_rd_cancel_y1 A ln pd g n w)) 2 1004 (ew_A L sz) := by
  refine em_met (by decide) rfl (Nat.le_of_ble_eq_true rfl) ?_
  intro p e s m below meth c ls hx hb hr hts hown hlocks hml hnm hV hK hN hZ hS hA hl hsz
  subst hsz
  have hl : lv_has ls 3 [(0, .ref th), (1, .ref lo), (2, .int 2)] := hl
  refine lv_iload_n hx hb dL_requesterDoes_0 rfl (lv_at hl 2 rfl) ?_
  refine lv_tableIn (tgt := 56) hx hb dL_requesterDoes_1 (by decide) (by decide) rfl rfl ?_
  refine lv_aload_n hx hb dL_requesterDoes_56 rfl (lv_at hl 0 rfl) ?_
  refine lv_aload_n hx hb dL_requesterDoes_57 rfl (lv_at hl 1 rfl) ?_
  refine em_calli (va_runV (As := [.ref lo]) (rest := []) ⟨hx, hb, hml, hown, hts⟩ (c_L_cancel_y1 l D T t0 X L tg _ A ln th hth lo hlo pd g n w e3_0 e4_1 e5_2 e8_3 e7_4 e12_5 hd hn hLS hw qw hcl hnl hnew q7 hst) (cwV 1 hts gL_268 rfl rfl rfl (by decide +kernel) ⟨Nat.le_of_ble_eq_true rfl, Nat.le_of_ble_eq_true rfl⟩) (em_preV hK hN hV hZ hS hA hth (cC_0 _ _ _ _) rfl) rfl rfl hl.1 rfl (lv_room (Nat.le_of_ble_eq_true rfl)) dL_requesterDoes_58 ⟨Nat.le_of_ble_eq_true rfl, Nat.le_of_ble_eq_true rfl⟩) hV hS hA (fun r X1 L1 tg1 u H locs hp hV hS => ?_)
  obtain ⟨rfl, hS9, eA9⟩ := hp
  rw [show z_L_rd_cancel_y1 A ln pd g n w = z_L_cancel_y1 A ln pd g n w from rfl]
  exact em_zret hx hb hr hlocks hV hS dL_requesterDoes_61 (by decide) ⟨rfl, hS9, eA9⟩

def z_L_rd_cancel_y2 (A : ew_R) (ln : Nat) (pd : Nat) (g : Nat) (n : Nat) (w : Nat) : ew_R :=
  z_L_cancel_y2 A ln pd g n w
set_option maxHeartbeats 4000000 in
set_option maxRecDepth 100000 in
theorem c_L_rd_cancel_y2 (l : Launch) (D : va_G) (T : Nat → ClassId) (t0 : Nat × Nat) (X : Nat → Nat → Nat) (L : List Nat) (tg : Nat → Nat × Nat) (sz : Nat) (A : ew_R) (ln : Nat) (th : Nat) (hth : ew_in X L tg 0 0 th) (lo : Nat) (hlo : ew_in X L tg 2 ln lo) (pd : Nat) (g : Nat) (n : Nat) (w : Nat) (e3_0 : ew_in X L tg 3 ln (X 3 ln)) (e4_1 : ew_in X L tg 4 pd (X 4 pd)) (e5_2 : ew_in X L tg 5 pd (X 5 pd)) (e8_3 : ew_in X L tg 8 pd (X 8 pd)) (e7_4 : ew_in X L tg 7 0 (X 7 0)) (e12_5 : ew_in X L tg 12 0 (X 12 0)) (hd : pd < 192) (hn : n < 512) (hLS : lsC 8 14 t0 X L tg A pd g n) (hw : w ≤ 64) (qw : A 7 0 1 = nI w) (hcl : clC X L tg A) (hnl : ∀ b ∈ L, (6, 512 * pd + n) ≠ tg b) (hnew : ∀ b ∈ L, (14, 64 * pd + g + 1) ≠ tg b) (q7 : A 2 ln 7 = nI pd) (hst : A 3 ln 0 = 2) : Met l yL_requesterDoes wsL_requesterDoes ({ frames := 11, cells := 2, slots := 1004, locals := 350 }) (em_Pc D vwCl (tysA T) (cfC T) t0 X L tg A sz [.ref th, .ref lo, .int 2]) (em_Qi D vwCl (cfC T) L sz (fun r u => r = 1 ∧ em_S (nw_5 pd g n) X L tg u.1 u.2.1 u.2.2.1 ∧ u.2.2.2 = z_L_rd_cancel_y2 A ln pd g n w)) 2 1004 (ew_A L sz) := by
  refine em_met (by decide) rfl (Nat.le_of_ble_eq_true rfl) ?_
  intro p e s m below meth c ls hx hb hr hts hown hlocks hml hnm hV hK hN hZ hS hA hl hsz
  subst hsz
  have hl : lv_has ls 3 [(0, .ref th), (1, .ref lo), (2, .int 2)] := hl
  refine lv_iload_n hx hb dL_requesterDoes_0 rfl (lv_at hl 2 rfl) ?_
  refine lv_tableIn (tgt := 56) hx hb dL_requesterDoes_1 (by decide) (by decide) rfl rfl ?_
  refine lv_aload_n hx hb dL_requesterDoes_56 rfl (lv_at hl 0 rfl) ?_
  refine lv_aload_n hx hb dL_requesterDoes_57 rfl (lv_at hl 1 rfl) ?_
  refine em_calli (va_runV (As := [.ref lo]) (rest := []) ⟨hx, hb, hml, hown, hts⟩ (c_L_cancel_y2 l D T t0 X L tg _ A ln th hth lo hlo pd g n w e3_0 e4_1 e5_2 e8_3 e7_4 e12_5 hd hn hLS hw qw hcl hnl hnew q7 hst) (cwV 1 hts gL_268 rfl rfl rfl (by decide +kernel) ⟨Nat.le_of_ble_eq_true rfl, Nat.le_of_ble_eq_true rfl⟩) (em_preV hK hN hV hZ hS hA hth (cC_0 _ _ _ _) rfl) rfl rfl hl.1 rfl (lv_room (Nat.le_of_ble_eq_true rfl)) dL_requesterDoes_58 ⟨Nat.le_of_ble_eq_true rfl, Nat.le_of_ble_eq_true rfl⟩) hV hS hA (fun r X1 L1 tg1 u H locs hp hV hS => ?_)
  obtain ⟨rfl, hS9, eA9⟩ := hp
  rw [show z_L_rd_cancel_y2 A ln pd g n w = z_L_cancel_y2 A ln pd g n w from rfl]
  exact em_zret hx hb hr hlocks hV hS dL_requesterDoes_61 (by decide) ⟨rfl, hS9, eA9⟩

set_option maxHeartbeats 4000000 in
set_option maxRecDepth 100000 in
theorem c_L_rd_cancel_no (l : Launch) (D : va_G) (T : Nat → ClassId) (X : Nat → Nat → Nat) (L : List Nat) (tg : Nat → Nat × Nat) (sz : Nat) (A : ew_R) (ln : Nat) (th : Nat) (hth : ew_in X L tg 0 0 th) (lo : Nat) (hlo : ew_in X L tg 2 ln lo) (e3_0 : ew_in X L tg 3 ln (X 3 ln)) (h0 : ¬ A 3 ln 0 = 0) (h1 : ¬ A 3 ln 0 = 1) (h2 : ¬ A 3 ln 0 = 2) : Met l yL_requesterDoes wsL_requesterDoes ({ frames := 11, cells := 0, slots := 0, locals := 249 }) (ec_Pc D vwCl (tysA T) (cfC T) X L tg A sz [.ref th, .ref lo, .int 2]) (er_Qi D vwCl (cfC T) X L tg sz (fun r u => r = 0 ∧ u = A)) 0 0 (ew_A L sz) := by
  refine ec_met (by decide) rfl (Nat.le_of_ble_eq_true rfl) ?_
  intro p e s m below meth c ls hx hb hr hts hown hlocks hml hV hK hN hS hA hl hsz
  subst hsz
  have hl : lv_has ls 3 [(0, .ref th), (1, .ref lo), (2, .int 2)] := hl
  refine lv_iload_n hx hb dL_requesterDoes_0 rfl (lv_at hl 2 rfl) ?_
  refine lv_tableIn (tgt := 56) hx hb dL_requesterDoes_1 (by decide) (by decide) rfl rfl ?_
  refine lv_aload_n hx hb dL_requesterDoes_56 rfl (lv_at hl 0 rfl) ?_
  refine lv_aload_n hx hb dL_requesterDoes_57 rfl (lv_at hl 1 rfl) ?_
  refine er_calli (va_runV (As := [.ref lo]) (rest := []) ⟨hx, hb, hml, hown, hts⟩ (c_L_cancel_no l D T X L tg _ A ln th hth lo hlo e3_0 h0 h1 h2) (cwV 1 hts gL_268 rfl rfl rfl (by decide +kernel) ⟨Nat.le_of_ble_eq_true rfl, Nat.le_of_ble_eq_true rfl⟩) (ec_preV hK hN hV hth (cC_0 _ _ _ _) rfl) rfl rfl hl.1 rfl (lv_room (Nat.le_of_ble_eq_true rfl)) dL_requesterDoes_58 ⟨Nat.le_of_ble_eq_true rfl, Nat.le_of_ble_eq_true rfl⟩) hV hS hA (fun r u H locs hp hV hS => ?_)
  obtain ⟨rfl, eu9⟩ := hp
  rw [eu9] at hV
  exact er_zret hx hb hr hlocks hV hS dL_requesterDoes_61 (by decide) ⟨rfl, rfl⟩

def z_L_rd_receive_y (A : ew_R) (ln : Nat) (pd : Nat) (g : Nat) (n : Nat) (w : Nat) (cp : Nat) : ew_R :=
  z_L_receive_y A ln pd g n w cp
set_option maxHeartbeats 4000000 in
set_option maxRecDepth 100000 in
theorem c_L_rd_receive_y (l : Launch) (D : va_G) (T : Nat → ClassId) (t0 : Nat × Nat) (X : Nat → Nat → Nat) (L : List Nat) (tg : Nat → Nat × Nat) (sz : Nat) (A : ew_R) (ln : Nat) (th : Nat) (hth : ew_in X L tg 0 0 th) (lo : Nat) (hlo : ew_in X L tg 2 ln lo) (pd : Nat) (g : Nat) (n : Nat) (w : Nat) (cp : Nat) (e3_0 : ew_in X L tg 3 ln (X 3 ln)) (e4_1 : ew_in X L tg 4 pd (X 4 pd)) (e5_2 : ew_in X L tg 5 pd (X 5 pd)) (e8_3 : ew_in X L tg 8 pd (X 8 pd)) (e7_4 : ew_in X L tg 7 0 (X 7 0)) (e12_5 : ew_in X L tg 12 0 (X 12 0)) (e1_6 : ew_in X L tg 1 cp (X 1 cp)) (hd : pd < 192) (hn : n < 512) (hLS : lsC 8 14 t0 X L tg A pd g n) (hw : w ≤ 64) (qw : A 7 0 1 = nI w) (hcl : clC X L tg A) (hnl : ∀ b ∈ L, (6, 512 * pd + n) ≠ tg b) (hnew : ∀ b ∈ L, (14, 64 * pd + g + 1) ≠ tg b) (q7 : A 2 ln 7 = nI pd) (hcp : cp < 32) (q4 : A 4 pd 4 = nI cp) (hst : A 3 ln 0 = 3) : Met l yL_requesterDoes wsL_requesterDoes ({ frames := 11, cells := 2, slots := 1004, locals := 350 }) (em_Pc D vwCl (tysA T) (cfC T) t0 X L tg A sz [.ref th, .ref lo, .int 3]) (em_Qi D vwCl (cfC T) L sz (fun r u => r = 1 ∧ em_S (nw_5 pd g n) X L tg u.1 u.2.1 u.2.2.1 ∧ u.2.2.2 = z_L_rd_receive_y A ln pd g n w cp)) 2 1004 (ew_A L sz) := by
  refine em_met (by decide) rfl (Nat.le_of_ble_eq_true rfl) ?_
  intro p e s m below meth c ls hx hb hr hts hown hlocks hml hnm hV hK hN hZ hS hA hl hsz
  subst hsz
  have hl : lv_has ls 3 [(0, .ref th), (1, .ref lo), (2, .int 3)] := hl
  refine lv_iload_n hx hb dL_requesterDoes_0 rfl (lv_at hl 2 rfl) ?_
  refine lv_tableIn (tgt := 62) hx hb dL_requesterDoes_1 (by decide) (by decide) rfl rfl ?_
  refine lv_aload_n hx hb dL_requesterDoes_62 rfl (lv_at hl 0 rfl) ?_
  refine lv_aload_n hx hb dL_requesterDoes_63 rfl (lv_at hl 1 rfl) ?_
  refine em_calli (va_runV (As := [.ref lo]) (rest := []) ⟨hx, hb, hml, hown, hts⟩ (c_L_receive_y l D T t0 X L tg _ A ln th hth lo hlo pd g n w cp e3_0 e4_1 e5_2 e8_3 e7_4 e12_5 e1_6 hd hn hLS hw qw hcl hnl hnew q7 hcp q4 hst) (cwV 1 hts gL_271 rfl rfl rfl (by decide +kernel) ⟨Nat.le_of_ble_eq_true rfl, Nat.le_of_ble_eq_true rfl⟩) (em_preV hK hN hV hZ hS hA hth (cC_0 _ _ _ _) rfl) rfl rfl hl.1 rfl (lv_room (Nat.le_of_ble_eq_true rfl)) dL_requesterDoes_64 ⟨Nat.le_of_ble_eq_true rfl, Nat.le_of_ble_eq_true rfl⟩) hV hS hA (fun r X1 L1 tg1 u H locs hp hV hS => ?_)
  obtain ⟨rfl, hS9, eA9⟩ := hp
  rw [show z_L_rd_receive_y A ln pd g n w cp = z_L_receive_y A ln pd g n w cp from rfl]
  exact em_zret hx hb hr hlocks hV hS dL_requesterDoes_67 (by decide) ⟨rfl, hS9, eA9⟩

set_option maxHeartbeats 4000000 in
set_option maxRecDepth 100000 in
theorem c_L_rd_receive_no (l : Launch) (D : va_G) (T : Nat → ClassId) (X : Nat → Nat → Nat) (L : List Nat) (tg : Nat → Nat × Nat) (sz : Nat) (A : ew_R) (ln : Nat) (th : Nat) (hth : ew_in X L tg 0 0 th) (lo : Nat) (hlo : ew_in X L tg 2 ln lo) (e3_0 : ew_in X L tg 3 ln (X 3 ln)) (hst : ¬ A 3 ln 0 = 3) : Met l yL_requesterDoes wsL_requesterDoes ({ frames := 11, cells := 0, slots := 0, locals := 249 }) (ec_Pc D vwCl (tysA T) (cfC T) X L tg A sz [.ref th, .ref lo, .int 3]) (er_Qi D vwCl (cfC T) X L tg sz (fun r u => r = 0 ∧ u = A)) 0 0 (ew_A L sz) := by
  refine ec_met (by decide) rfl (Nat.le_of_ble_eq_true rfl) ?_
  intro p e s m below meth c ls hx hb hr hts hown hlocks hml hV hK hN hS hA hl hsz
  subst hsz
  have hl : lv_has ls 3 [(0, .ref th), (1, .ref lo), (2, .int 3)] := hl
  refine lv_iload_n hx hb dL_requesterDoes_0 rfl (lv_at hl 2 rfl) ?_
  refine lv_tableIn (tgt := 62) hx hb dL_requesterDoes_1 (by decide) (by decide) rfl rfl ?_
  refine lv_aload_n hx hb dL_requesterDoes_62 rfl (lv_at hl 0 rfl) ?_
  refine lv_aload_n hx hb dL_requesterDoes_63 rfl (lv_at hl 1 rfl) ?_
  refine er_calli (va_runV (As := [.ref lo]) (rest := []) ⟨hx, hb, hml, hown, hts⟩ (c_L_receive_no l D T X L tg _ A ln th hth lo hlo e3_0 hst) (cwV 1 hts gL_271 rfl rfl rfl (by decide +kernel) ⟨Nat.le_of_ble_eq_true rfl, Nat.le_of_ble_eq_true rfl⟩) (ec_preV hK hN hV hth (cC_0 _ _ _ _) rfl) rfl rfl hl.1 rfl (lv_room (Nat.le_of_ble_eq_true rfl)) dL_requesterDoes_64 ⟨Nat.le_of_ble_eq_true rfl, Nat.le_of_ble_eq_true rfl⟩) hV hS hA (fun r u H locs hp hV hS => ?_)
  obtain ⟨rfl, eu9⟩ := hp
  rw [eu9] at hV
  exact er_zret hx hb hr hlocks hV hS dL_requesterDoes_67 (by decide) ⟨rfl, rfl⟩

def z_L_rd_renew_y (A : ew_R) (ln : Nat) (pd : Nat) (g : Nat) (n : Nat) (w : Nat) : ew_R :=
  z_L_renew_y A ln pd g n w
set_option maxHeartbeats 4000000 in
set_option maxRecDepth 100000 in
theorem c_L_rd_renew_y (l : Launch) (D : va_G) (T : Nat → ClassId) (t0 : Nat × Nat) (X : Nat → Nat → Nat) (L : List Nat) (tg : Nat → Nat × Nat) (sz : Nat) (A : ew_R) (ln : Nat) (th : Nat) (hth : ew_in X L tg 0 0 th) (lo : Nat) (hlo : ew_in X L tg 2 ln lo) (pd : Nat) (g : Nat) (n : Nat) (w : Nat) (e3_0 : ew_in X L tg 3 ln (X 3 ln)) (e4_1 : ew_in X L tg 4 pd (X 4 pd)) (e5_2 : ew_in X L tg 5 pd (X 5 pd)) (e8_3 : ew_in X L tg 8 pd (X 8 pd)) (e7_4 : ew_in X L tg 7 0 (X 7 0)) (e12_5 : ew_in X L tg 12 0 (X 12 0)) (hd : pd < 192) (hn : n < 512) (hLS : lsC 8 14 t0 X L tg A pd g n) (hw : w ≤ 64) (qw : A 7 0 1 = nI w) (hcl : clC X L tg A) (hnl : ∀ b ∈ L, (6, 512 * pd + n) ≠ tg b) (hnew : ∀ b ∈ L, (14, 64 * pd + g + 1) ≠ tg b) (q7 : A 2 ln 7 = nI pd) (hst : A 3 ln 0 = 4) : Met l yL_requesterDoes wsL_requesterDoes ({ frames := 11, cells := 2, slots := 1004, locals := 350 }) (em_Pc D vwCl (tysA T) (cfC T) t0 X L tg A sz [.ref th, .ref lo, .int 4]) (em_Qi D vwCl (cfC T) L sz (fun r u => r = 1 ∧ em_S (nw_5 pd g n) X L tg u.1 u.2.1 u.2.2.1 ∧ u.2.2.2 = z_L_rd_renew_y A ln pd g n w)) 2 1004 (ew_A L sz) := by
  refine em_met (by decide) rfl (Nat.le_of_ble_eq_true rfl) ?_
  intro p e s m below meth c ls hx hb hr hts hown hlocks hml hnm hV hK hN hZ hS hA hl hsz
  subst hsz
  have hl : lv_has ls 3 [(0, .ref th), (1, .ref lo), (2, .int 4)] := hl
  refine lv_iload_n hx hb dL_requesterDoes_0 rfl (lv_at hl 2 rfl) ?_
  refine lv_tableIn (tgt := 68) hx hb dL_requesterDoes_1 (by decide) (by decide) rfl rfl ?_
  refine lv_aload_n hx hb dL_requesterDoes_68 rfl (lv_at hl 0 rfl) ?_
  refine lv_aload_n hx hb dL_requesterDoes_69 rfl (lv_at hl 1 rfl) ?_
  refine em_calli (va_runV (As := [.ref lo]) (rest := []) ⟨hx, hb, hml, hown, hts⟩ (c_L_renew_y l D T t0 X L tg _ A ln th hth lo hlo pd g n w e3_0 e4_1 e5_2 e8_3 e7_4 e12_5 hd hn hLS hw qw hcl hnl hnew q7 hst) (cwV 1 hts gL_274 rfl rfl rfl (by decide +kernel) ⟨Nat.le_of_ble_eq_true rfl, Nat.le_of_ble_eq_true rfl⟩) (em_preV hK hN hV hZ hS hA hth (cC_0 _ _ _ _) rfl) rfl rfl hl.1 rfl (lv_room (Nat.le_of_ble_eq_true rfl)) dL_requesterDoes_70 ⟨Nat.le_of_ble_eq_true rfl, Nat.le_of_ble_eq_true rfl⟩) hV hS hA (fun r X1 L1 tg1 u H locs hp hV hS => ?_)
  obtain ⟨rfl, hS9, eA9⟩ := hp
  rw [show z_L_rd_renew_y A ln pd g n w = z_L_renew_y A ln pd g n w from rfl]
  exact em_zret hx hb hr hlocks hV hS dL_requesterDoes_73 (by decide) ⟨rfl, hS9, eA9⟩

set_option maxHeartbeats 4000000 in
set_option maxRecDepth 100000 in
theorem c_L_rd_renew_no (l : Launch) (D : va_G) (T : Nat → ClassId) (X : Nat → Nat → Nat) (L : List Nat) (tg : Nat → Nat × Nat) (sz : Nat) (A : ew_R) (ln : Nat) (th : Nat) (hth : ew_in X L tg 0 0 th) (lo : Nat) (hlo : ew_in X L tg 2 ln lo) (e3_0 : ew_in X L tg 3 ln (X 3 ln)) (hst : ¬ A 3 ln 0 = 4) : Met l yL_requesterDoes wsL_requesterDoes ({ frames := 11, cells := 0, slots := 0, locals := 249 }) (ec_Pc D vwCl (tysA T) (cfC T) X L tg A sz [.ref th, .ref lo, .int 4]) (er_Qi D vwCl (cfC T) X L tg sz (fun r u => r = 0 ∧ u = A)) 0 0 (ew_A L sz) := by
  refine ec_met (by decide) rfl (Nat.le_of_ble_eq_true rfl) ?_
  intro p e s m below meth c ls hx hb hr hts hown hlocks hml hV hK hN hS hA hl hsz
  subst hsz
  have hl : lv_has ls 3 [(0, .ref th), (1, .ref lo), (2, .int 4)] := hl
  refine lv_iload_n hx hb dL_requesterDoes_0 rfl (lv_at hl 2 rfl) ?_
  refine lv_tableIn (tgt := 68) hx hb dL_requesterDoes_1 (by decide) (by decide) rfl rfl ?_
  refine lv_aload_n hx hb dL_requesterDoes_68 rfl (lv_at hl 0 rfl) ?_
  refine lv_aload_n hx hb dL_requesterDoes_69 rfl (lv_at hl 1 rfl) ?_
  refine er_calli (va_runV (As := [.ref lo]) (rest := []) ⟨hx, hb, hml, hown, hts⟩ (c_L_renew_no l D T X L tg _ A ln th hth lo hlo e3_0 hst) (cwV 1 hts gL_274 rfl rfl rfl (by decide +kernel) ⟨Nat.le_of_ble_eq_true rfl, Nat.le_of_ble_eq_true rfl⟩) (ec_preV hK hN hV hth (cC_0 _ _ _ _) rfl) rfl rfl hl.1 rfl (lv_room (Nat.le_of_ble_eq_true rfl)) dL_requesterDoes_70 ⟨Nat.le_of_ble_eq_true rfl, Nat.le_of_ble_eq_true rfl⟩) hV hS hA (fun r u H locs hp hV hS => ?_)
  obtain ⟨rfl, eu9⟩ := hp
  rw [eu9] at hV
  exact er_zret hx hb hr hlocks hV hS dL_requesterDoes_73 (by decide) ⟨rfl, rfl⟩

def z_L_rd_giveBack_y (A : ew_R) (ln : Nat) (pd : Nat) (g : Nat) (n : Nat) (w : Nat) (cp : Nat) : ew_R :=
  z_L_giveBack_y A ln pd g n w cp
set_option maxHeartbeats 4000000 in
set_option maxRecDepth 100000 in
theorem c_L_rd_giveBack_y (l : Launch) (D : va_G) (T : Nat → ClassId) (t0 : Nat × Nat) (X : Nat → Nat → Nat) (L : List Nat) (tg : Nat → Nat × Nat) (sz : Nat) (A : ew_R) (ln : Nat) (th : Nat) (hth : ew_in X L tg 0 0 th) (lo : Nat) (hlo : ew_in X L tg 2 ln lo) (pd : Nat) (g : Nat) (n : Nat) (w : Nat) (cp : Nat) (e3_0 : ew_in X L tg 3 ln (X 3 ln)) (e4_1 : ew_in X L tg 4 pd (X 4 pd)) (e5_2 : ew_in X L tg 5 pd (X 5 pd)) (e8_3 : ew_in X L tg 8 pd (X 8 pd)) (e7_4 : ew_in X L tg 7 0 (X 7 0)) (e12_5 : ew_in X L tg 12 0 (X 12 0)) (e1_6 : ew_in X L tg 1 cp (X 1 cp)) (hd : pd < 192) (hn : n < 512) (hLS : lsC 8 14 t0 X L tg A pd g n) (hw : w ≤ 64) (qw : A 7 0 1 = nI w) (hcl : clC X L tg A) (hnl : ∀ b ∈ L, (6, 512 * pd + n) ≠ tg b) (hnew : ∀ b ∈ L, (14, 64 * pd + g + 1) ≠ tg b) (q7 : A 2 ln 7 = nI pd) (hcp : cp < 32) (q4 : A 4 pd 4 = nI cp) (hst : z_Asker_hasCopy (A 3 ln 0) = 1) : Met l yL_requesterDoes wsL_requesterDoes ({ frames := 11, cells := 2, slots := 1004, locals := 350 }) (em_Pc D vwCl (tysA T) (cfC T) t0 X L tg A sz [.ref th, .ref lo, .int 5]) (em_Qi D vwCl (cfC T) L sz (fun r u => r = 1 ∧ em_S (nw_5 pd g n) X L tg u.1 u.2.1 u.2.2.1 ∧ u.2.2.2 = z_L_rd_giveBack_y A ln pd g n w cp)) 2 1004 (ew_A L sz) := by
  refine em_met (by decide) rfl (Nat.le_of_ble_eq_true rfl) ?_
  intro p e s m below meth c ls hx hb hr hts hown hlocks hml hnm hV hK hN hZ hS hA hl hsz
  subst hsz
  have hl : lv_has ls 3 [(0, .ref th), (1, .ref lo), (2, .int 5)] := hl
  refine lv_iload_n hx hb dL_requesterDoes_0 rfl (lv_at hl 2 rfl) ?_
  refine lv_tableIn (tgt := 74) hx hb dL_requesterDoes_1 (by decide) (by decide) rfl rfl ?_
  refine lv_aload_n hx hb dL_requesterDoes_74 rfl (lv_at hl 0 rfl) ?_
  refine lv_aload_n hx hb dL_requesterDoes_75 rfl (lv_at hl 1 rfl) ?_
  refine em_calli (va_runV (As := [.ref lo]) (rest := []) ⟨hx, hb, hml, hown, hts⟩ (c_L_giveBack_y l D T t0 X L tg _ A ln th hth lo hlo pd g n w cp e3_0 e4_1 e5_2 e8_3 e7_4 e12_5 e1_6 hd hn hLS hw qw hcl hnl hnew q7 hcp q4 hst) (cwV 1 hts gL_277 rfl rfl rfl (by decide +kernel) ⟨Nat.le_of_ble_eq_true rfl, Nat.le_of_ble_eq_true rfl⟩) (em_preV hK hN hV hZ hS hA hth (cC_0 _ _ _ _) rfl) rfl rfl hl.1 rfl (lv_room (Nat.le_of_ble_eq_true rfl)) dL_requesterDoes_76 ⟨Nat.le_of_ble_eq_true rfl, Nat.le_of_ble_eq_true rfl⟩) hV hS hA (fun r X1 L1 tg1 u H locs hp hV hS => ?_)
  obtain ⟨rfl, hS9, eA9⟩ := hp
  rw [show z_L_rd_giveBack_y A ln pd g n w cp = z_L_giveBack_y A ln pd g n w cp from rfl]
  exact em_zret hx hb hr hlocks hV hS dL_requesterDoes_79 (by decide) ⟨rfl, hS9, eA9⟩

set_option maxHeartbeats 4000000 in
set_option maxRecDepth 100000 in
theorem c_L_rd_giveBack_no (l : Launch) (D : va_G) (T : Nat → ClassId) (X : Nat → Nat → Nat) (L : List Nat) (tg : Nat → Nat × Nat) (sz : Nat) (A : ew_R) (ln : Nat) (th : Nat) (hth : ew_in X L tg 0 0 th) (lo : Nat) (hlo : ew_in X L tg 2 ln lo) (e3_0 : ew_in X L tg 3 ln (X 3 ln)) (hst : z_Asker_hasCopy (A 3 ln 0) = 0) : Met l yL_requesterDoes wsL_requesterDoes ({ frames := 11, cells := 0, slots := 0, locals := 249 }) (ec_Pc D vwCl (tysA T) (cfC T) X L tg A sz [.ref th, .ref lo, .int 5]) (er_Qi D vwCl (cfC T) X L tg sz (fun r u => r = 0 ∧ u = A)) 0 0 (ew_A L sz) := by
  refine ec_met (by decide) rfl (Nat.le_of_ble_eq_true rfl) ?_
  intro p e s m below meth c ls hx hb hr hts hown hlocks hml hV hK hN hS hA hl hsz
  subst hsz
  have hl : lv_has ls 3 [(0, .ref th), (1, .ref lo), (2, .int 5)] := hl
  refine lv_iload_n hx hb dL_requesterDoes_0 rfl (lv_at hl 2 rfl) ?_
  refine lv_tableIn (tgt := 74) hx hb dL_requesterDoes_1 (by decide) (by decide) rfl rfl ?_
  refine lv_aload_n hx hb dL_requesterDoes_74 rfl (lv_at hl 0 rfl) ?_
  refine lv_aload_n hx hb dL_requesterDoes_75 rfl (lv_at hl 1 rfl) ?_
  refine er_calli (va_runV (As := [.ref lo]) (rest := []) ⟨hx, hb, hml, hown, hts⟩ (c_L_giveBack_no l D T X L tg _ A ln th hth lo hlo e3_0 hst) (cwV 1 hts gL_277 rfl rfl rfl (by decide +kernel) ⟨Nat.le_of_ble_eq_true rfl, Nat.le_of_ble_eq_true rfl⟩) (ec_preV hK hN hV hth (cC_0 _ _ _ _) rfl) rfl rfl hl.1 rfl (lv_room (Nat.le_of_ble_eq_true rfl)) dL_requesterDoes_76 ⟨Nat.le_of_ble_eq_true rfl, Nat.le_of_ble_eq_true rfl⟩) hV hS hA (fun r u H locs hp hV hS => ?_)
  obtain ⟨rfl, eu9⟩ := hp
  rw [eu9] at hV
  exact er_zret hx hb hr hlocks hV hS dL_requesterDoes_79 (by decide) ⟨rfl, rfl⟩

def z_L_rd_lose_ok (A : ew_R) (ln : Nat) (pd : Nat) (g : Nat) (n : Nat) (w : Nat) (cp : Nat) (rq : Nat) : ew_R :=
  z_L_lose_ok A ln pd g n w cp rq
set_option maxHeartbeats 4000000 in
set_option maxRecDepth 100000 in
theorem c_L_rd_lose_ok (l : Launch) (D : va_G) (T : Nat → ClassId) (t0 : Nat × Nat) (X : Nat → Nat → Nat) (L : List Nat) (tg : Nat → Nat × Nat) (sz : Nat) (A : ew_R) (ln : Nat) (th : Nat) (hth : ew_in X L tg 0 0 th) (lo : Nat) (hlo : ew_in X L tg 2 ln lo) (pd : Nat) (g : Nat) (n : Nat) (w : Nat) (cp : Nat) (rq : Nat) (e3_0 : ew_in X L tg 3 ln (X 3 ln)) (e4_1 : ew_in X L tg 4 pd (X 4 pd)) (e5_2 : ew_in X L tg 5 pd (X 5 pd)) (e8_3 : ew_in X L tg 8 pd (X 8 pd)) (e7_4 : ew_in X L tg 7 0 (X 7 0)) (e12_5 : ew_in X L tg 12 0 (X 12 0)) (e1_6 : ew_in X L tg 1 cp (X 1 cp)) (e11_7 : ew_in X L tg 11 0 (X 11 0)) (hd : pd < 192) (hn : n < 512) (hLS : lsC 8 14 t0 X L tg A pd g n) (hw : w ≤ 64) (qw : A 7 0 1 = nI w) (hcl : clC X L tg A) (hnl : ∀ b ∈ L, (6, 512 * pd + n) ≠ tg b) (hnew : ∀ b ∈ L, (14, 64 * pd + g + 1) ≠ tg b) (q7 : A 2 ln 7 = nI pd) (hcp : cp < 32) (q4 : A 4 pd 4 = nI cp) (hrq : rq < 6) (q1 : A 2 ln 1 = nI rq) (hst : z_Asker_hasCopy (A 3 ln 0) = 1) : Met l yL_requesterDoes wsL_requesterDoes ({ frames := 11, cells := 2, slots := 1004, locals := 350 }) (em_Pc D vwCl (tysA T) (cfC T) t0 X L tg A sz [.ref th, .ref lo, .int 6]) (em_Qi D vwCl (cfC T) L sz (fun r u => r = 1 ∧ em_S (nw_5 pd g n) X L tg u.1 u.2.1 u.2.2.1 ∧ u.2.2.2 = z_L_rd_lose_ok A ln pd g n w cp rq)) 2 1004 (ew_A L sz) := by
  refine em_met (by decide) rfl (Nat.le_of_ble_eq_true rfl) ?_
  intro p e s m below meth c ls hx hb hr hts hown hlocks hml hnm hV hK hN hZ hS hA hl hsz
  subst hsz
  have hl : lv_has ls 3 [(0, .ref th), (1, .ref lo), (2, .int 6)] := hl
  refine lv_iload_n hx hb dL_requesterDoes_0 rfl (lv_at hl 2 rfl) ?_
  refine lv_tableIn (tgt := 80) hx hb dL_requesterDoes_1 (by decide) (by decide) rfl rfl ?_
  refine lv_aload_n hx hb dL_requesterDoes_80 rfl (lv_at hl 0 rfl) ?_
  refine lv_aload_n hx hb dL_requesterDoes_81 rfl (lv_at hl 1 rfl) ?_
  refine em_calli (va_runV (As := [.ref lo]) (rest := []) ⟨hx, hb, hml, hown, hts⟩ (c_L_lose_ok l D T t0 X L tg _ A ln th hth lo hlo pd g n w cp rq e3_0 e4_1 e5_2 e8_3 e7_4 e12_5 e1_6 e11_7 hd hn hLS hw qw hcl hnl hnew q7 hcp q4 hrq q1 hst) (cwV 1 hts gL_280 rfl rfl rfl (by decide +kernel) ⟨Nat.le_of_ble_eq_true rfl, Nat.le_of_ble_eq_true rfl⟩) (em_preV hK hN hV hZ hS hA hth (cC_0 _ _ _ _) rfl) rfl rfl hl.1 rfl (lv_room (Nat.le_of_ble_eq_true rfl)) dL_requesterDoes_82 ⟨Nat.le_of_ble_eq_true rfl, Nat.le_of_ble_eq_true rfl⟩) hV hS hA (fun r X1 L1 tg1 u H locs hp hV hS => ?_)
  obtain ⟨rfl, hS9, eA9⟩ := hp
  rw [show z_L_rd_lose_ok A ln pd g n w cp rq = z_L_lose_ok A ln pd g n w cp rq from rfl]
  exact em_zret hx hb hr hlocks hV hS dL_requesterDoes_85 (by decide) ⟨rfl, hS9, eA9⟩

set_option maxHeartbeats 4000000 in
set_option maxRecDepth 100000 in
theorem c_L_rd_lose_no (l : Launch) (D : va_G) (T : Nat → ClassId) (X : Nat → Nat → Nat) (L : List Nat) (tg : Nat → Nat × Nat) (sz : Nat) (A : ew_R) (ln : Nat) (th : Nat) (hth : ew_in X L tg 0 0 th) (lo : Nat) (hlo : ew_in X L tg 2 ln lo) (e3_0 : ew_in X L tg 3 ln (X 3 ln)) (hst : z_Asker_hasCopy (A 3 ln 0) = 0) : Met l yL_requesterDoes wsL_requesterDoes ({ frames := 11, cells := 0, slots := 0, locals := 249 }) (ec_Pc D vwCl (tysA T) (cfC T) X L tg A sz [.ref th, .ref lo, .int 6]) (er_Qi D vwCl (cfC T) X L tg sz (fun r u => r = 0 ∧ u = A)) 0 0 (ew_A L sz) := by
  refine ec_met (by decide) rfl (Nat.le_of_ble_eq_true rfl) ?_
  intro p e s m below meth c ls hx hb hr hts hown hlocks hml hV hK hN hS hA hl hsz
  subst hsz
  have hl : lv_has ls 3 [(0, .ref th), (1, .ref lo), (2, .int 6)] := hl
  refine lv_iload_n hx hb dL_requesterDoes_0 rfl (lv_at hl 2 rfl) ?_
  refine lv_tableIn (tgt := 80) hx hb dL_requesterDoes_1 (by decide) (by decide) rfl rfl ?_
  refine lv_aload_n hx hb dL_requesterDoes_80 rfl (lv_at hl 0 rfl) ?_
  refine lv_aload_n hx hb dL_requesterDoes_81 rfl (lv_at hl 1 rfl) ?_
  refine er_calli (va_runV (As := [.ref lo]) (rest := []) ⟨hx, hb, hml, hown, hts⟩ (c_L_lose_no l D T X L tg _ A ln th hth lo hlo e3_0 hst) (cwV 1 hts gL_280 rfl rfl rfl (by decide +kernel) ⟨Nat.le_of_ble_eq_true rfl, Nat.le_of_ble_eq_true rfl⟩) (ec_preV hK hN hV hth (cC_0 _ _ _ _) rfl) rfl rfl hl.1 rfl (lv_room (Nat.le_of_ble_eq_true rfl)) dL_requesterDoes_82 ⟨Nat.le_of_ble_eq_true rfl, Nat.le_of_ble_eq_true rfl⟩) hV hS hA (fun r u H locs hp hV hS => ?_)
  obtain ⟨rfl, eu9⟩ := hp
  rw [eu9] at hV
  exact er_zret hx hb hr hlocks hV hS dL_requesterDoes_85 (by decide) ⟨rfl, rfl⟩

def z_L_sd_offer_y (A : ew_R) (ln : Nat) (d : Nat) (pr : Int32) (g : Nat) (n : Nat) (w : Nat) : ew_R :=
  z_L_offer_y A d pr g n w
set_option maxHeartbeats 4000000 in
set_option maxRecDepth 100000 in
theorem c_L_sd_offer_y (l : Launch) (D : va_G) (T : Nat → ClassId) (t0 : Nat × Nat) (X : Nat → Nat → Nat) (L : List Nat) (tg : Nat → Nat × Nat) (sz : Nat) (A : ew_R) (ln : Nat) (d : Nat) (th : Nat) (hth : ew_in X L tg 0 0 th) (lo : Nat) (hlo : ew_in X L tg 2 ln lo) (dl : Nat) (hdl : ew_in X L tg 4 d dl) (pr : Int32) (g : Nat) (n : Nat) (w : Nat) (e17_0 : ew_in X L tg 17 d (X 17 d)) (e15_1 : ew_in X L tg 15 d (X 15 d)) (e16_2 : ew_in X L tg 16 d (X 16 d)) (e7_3 : ew_in X L tg 7 0 (X 7 0)) (e12_4 : ew_in X L tg 12 0 (X 12 0)) (hd : d < 192) (hn : n < 512) (hLS : lsC 16 20 t0 X L tg A d g n) (hw : w ≤ 64) (qw : A 7 0 1 = nI w) (hcl : clC X L tg A) (hnl : ∀ b ∈ L, (19, 512 * d + n) ≠ tg b) (hnew : ∀ b ∈ L, (20, 64 * d + g + 1) ≠ tg b) (hp0 : A 17 d 2 = 0) (hst : A 17 d 0 = 1) (hp1 : ¬ pr < 1) (hp2 : pr ≤ 1000) : Met l yL_supplierDoes wsL_supplierDoes ({ frames := 11, cells := 2, slots := 1004, locals := 350 }) (em_Pc D vwCl (tysA T) (cfC T) t0 X L tg A sz [.ref th, .ref lo, .ref dl, .int 8, .int pr]) (em_Qi D vwCl (cfC T) L sz (fun r u => r = 1 ∧ em_S (nw_15 d g n) X L tg u.1 u.2.1 u.2.2.1 ∧ u.2.2.2 = z_L_sd_offer_y A ln d pr g n w)) 2 1004 (ew_A L sz) := by
  refine em_met (by decide) rfl (Nat.le_of_ble_eq_true rfl) ?_
  intro p e s m below meth c ls hx hb hr hts hown hlocks hml hnm hV hK hN hZ hS hA hl hsz
  subst hsz
  have hl : lv_has ls 5 [(0, .ref th), (1, .ref lo), (2, .ref dl), (3, .int 8), (4, .int pr)] := hl
  refine lv_iload_n hx hb dL_supplierDoes_0 rfl (lv_at hl 3 rfl) ?_
  refine lv_tableIn (tgt := 61) hx hb dL_supplierDoes_1 (by decide) (by decide) rfl rfl ?_
  refine lv_aload_n hx hb dL_supplierDoes_61 rfl (lv_at hl 0 rfl) ?_
  refine lv_aload_n hx hb dL_supplierDoes_62 rfl (lv_at hl 2 rfl) ?_
  refine lv_iload hx hb dL_supplierDoes_63 (lv_at hl 4 rfl) ?_
  refine em_calli (va_runV (As := [.ref dl, .int pr]) (rest := []) ⟨hx, hb, hml, hown, hts⟩ (c_L_offer_y l D T t0 X L tg _ A d th hth dl hdl pr g n w e17_0 e15_1 e16_2 e7_3 e12_4 hd hn hLS hw qw hcl hnl hnew hp0 hst hp1 hp2) (cwV 2 hts gL_305 rfl rfl rfl (by decide +kernel) ⟨Nat.le_of_ble_eq_true rfl, Nat.le_of_ble_eq_true rfl⟩) (em_preV hK hN hV hZ hS hA hth (cC_0 _ _ _ _) rfl) rfl rfl hl.1 rfl (lv_room (Nat.le_of_ble_eq_true rfl)) dL_supplierDoes_65 ⟨Nat.le_of_ble_eq_true rfl, Nat.le_of_ble_eq_true rfl⟩) hV hS hA (fun r X1 L1 tg1 u H locs hp hV hS => ?_)
  obtain ⟨rfl, hS9, eA9⟩ := hp
  rw [show z_L_sd_offer_y A ln d pr g n w = z_L_offer_y A d pr g n w from rfl]
  exact em_zret hx hb hr hlocks hV hS dL_supplierDoes_68 (by decide) ⟨rfl, hS9, eA9⟩

set_option maxHeartbeats 4000000 in
set_option maxRecDepth 100000 in
theorem c_L_sd_offer_no1 (l : Launch) (D : va_G) (T : Nat → ClassId) (X : Nat → Nat → Nat) (L : List Nat) (tg : Nat → Nat × Nat) (sz : Nat) (A : ew_R) (ln : Nat) (d : Nat) (th : Nat) (hth : ew_in X L tg 0 0 th) (lo : Nat) (hlo : ew_in X L tg 2 ln lo) (dl : Nat) (hdl : ew_in X L tg 4 d dl) (pr : Int32) (e17_0 : ew_in X L tg 17 d (X 17 d)) (hst : ¬ A 17 d 0 = 1) : Met l yL_supplierDoes wsL_supplierDoes ({ frames := 11, cells := 0, slots := 0, locals := 250 }) (ec_Pc D vwCl (tysA T) (cfC T) X L tg A sz [.ref th, .ref lo, .ref dl, .int 8, .int pr]) (er_Qi D vwCl (cfC T) X L tg sz (fun r u => r = 0 ∧ u = A)) 0 0 (ew_A L sz) := by
  refine ec_met (by decide) rfl (Nat.le_of_ble_eq_true rfl) ?_
  intro p e s m below meth c ls hx hb hr hts hown hlocks hml hV hK hN hS hA hl hsz
  subst hsz
  have hl : lv_has ls 5 [(0, .ref th), (1, .ref lo), (2, .ref dl), (3, .int 8), (4, .int pr)] := hl
  refine lv_iload_n hx hb dL_supplierDoes_0 rfl (lv_at hl 3 rfl) ?_
  refine lv_tableIn (tgt := 61) hx hb dL_supplierDoes_1 (by decide) (by decide) rfl rfl ?_
  refine lv_aload_n hx hb dL_supplierDoes_61 rfl (lv_at hl 0 rfl) ?_
  refine lv_aload_n hx hb dL_supplierDoes_62 rfl (lv_at hl 2 rfl) ?_
  refine lv_iload hx hb dL_supplierDoes_63 (lv_at hl 4 rfl) ?_
  refine er_calli (va_runV (As := [.ref dl, .int pr]) (rest := []) ⟨hx, hb, hml, hown, hts⟩ (c_L_offer_no1 l D T X L tg _ A d th hth dl hdl pr e17_0 hst) (cwV 2 hts gL_305 rfl rfl rfl (by decide +kernel) ⟨Nat.le_of_ble_eq_true rfl, Nat.le_of_ble_eq_true rfl⟩) (ec_preV hK hN hV hth (cC_0 _ _ _ _) rfl) rfl rfl hl.1 rfl (lv_room (Nat.le_of_ble_eq_true rfl)) dL_supplierDoes_65 ⟨Nat.le_of_ble_eq_true rfl, Nat.le_of_ble_eq_true rfl⟩) hV hS hA (fun r u H locs hp hV hS => ?_)
  obtain ⟨rfl, eu9⟩ := hp
  rw [eu9] at hV
  exact er_zret hx hb hr hlocks hV hS dL_supplierDoes_68 (by decide) ⟨rfl, rfl⟩

set_option maxHeartbeats 4000000 in
set_option maxRecDepth 100000 in
theorem c_L_sd_offer_no2 (l : Launch) (D : va_G) (T : Nat → ClassId) (X : Nat → Nat → Nat) (L : List Nat) (tg : Nat → Nat × Nat) (sz : Nat) (A : ew_R) (ln : Nat) (d : Nat) (th : Nat) (hth : ew_in X L tg 0 0 th) (lo : Nat) (hlo : ew_in X L tg 2 ln lo) (dl : Nat) (hdl : ew_in X L tg 4 d dl) (pr : Int32) (e17_0 : ew_in X L tg 17 d (X 17 d)) (hst : A 17 d 0 = 1) (hp0 : ¬ A 17 d 2 = 0) : Met l yL_supplierDoes wsL_supplierDoes ({ frames := 11, cells := 0, slots := 0, locals := 250 }) (ec_Pc D vwCl (tysA T) (cfC T) X L tg A sz [.ref th, .ref lo, .ref dl, .int 8, .int pr]) (er_Qi D vwCl (cfC T) X L tg sz (fun r u => r = 0 ∧ u = A)) 0 0 (ew_A L sz) := by
  refine ec_met (by decide) rfl (Nat.le_of_ble_eq_true rfl) ?_
  intro p e s m below meth c ls hx hb hr hts hown hlocks hml hV hK hN hS hA hl hsz
  subst hsz
  have hl : lv_has ls 5 [(0, .ref th), (1, .ref lo), (2, .ref dl), (3, .int 8), (4, .int pr)] := hl
  refine lv_iload_n hx hb dL_supplierDoes_0 rfl (lv_at hl 3 rfl) ?_
  refine lv_tableIn (tgt := 61) hx hb dL_supplierDoes_1 (by decide) (by decide) rfl rfl ?_
  refine lv_aload_n hx hb dL_supplierDoes_61 rfl (lv_at hl 0 rfl) ?_
  refine lv_aload_n hx hb dL_supplierDoes_62 rfl (lv_at hl 2 rfl) ?_
  refine lv_iload hx hb dL_supplierDoes_63 (lv_at hl 4 rfl) ?_
  refine er_calli (va_runV (As := [.ref dl, .int pr]) (rest := []) ⟨hx, hb, hml, hown, hts⟩ (c_L_offer_no2 l D T X L tg _ A d th hth dl hdl pr e17_0 hst hp0) (cwV 2 hts gL_305 rfl rfl rfl (by decide +kernel) ⟨Nat.le_of_ble_eq_true rfl, Nat.le_of_ble_eq_true rfl⟩) (ec_preV hK hN hV hth (cC_0 _ _ _ _) rfl) rfl rfl hl.1 rfl (lv_room (Nat.le_of_ble_eq_true rfl)) dL_supplierDoes_65 ⟨Nat.le_of_ble_eq_true rfl, Nat.le_of_ble_eq_true rfl⟩) hV hS hA (fun r u H locs hp hV hS => ?_)
  obtain ⟨rfl, eu9⟩ := hp
  rw [eu9] at hV
  exact er_zret hx hb hr hlocks hV hS dL_supplierDoes_68 (by decide) ⟨rfl, rfl⟩

set_option maxHeartbeats 4000000 in
set_option maxRecDepth 100000 in
theorem c_L_sd_offer_no3 (l : Launch) (D : va_G) (T : Nat → ClassId) (X : Nat → Nat → Nat) (L : List Nat) (tg : Nat → Nat × Nat) (sz : Nat) (A : ew_R) (ln : Nat) (d : Nat) (th : Nat) (hth : ew_in X L tg 0 0 th) (lo : Nat) (hlo : ew_in X L tg 2 ln lo) (dl : Nat) (hdl : ew_in X L tg 4 d dl) (pr : Int32) (e17_0 : ew_in X L tg 17 d (X 17 d)) (hp0 : A 17 d 2 = 0) (hst : A 17 d 0 = 1) (hp1 : pr < 1) : Met l yL_supplierDoes wsL_supplierDoes ({ frames := 11, cells := 0, slots := 0, locals := 250 }) (ec_Pc D vwCl (tysA T) (cfC T) X L tg A sz [.ref th, .ref lo, .ref dl, .int 8, .int pr]) (er_Qi D vwCl (cfC T) X L tg sz (fun r u => r = 0 ∧ u = A)) 0 0 (ew_A L sz) := by
  refine ec_met (by decide) rfl (Nat.le_of_ble_eq_true rfl) ?_
  intro p e s m below meth c ls hx hb hr hts hown hlocks hml hV hK hN hS hA hl hsz
  subst hsz
  have hl : lv_has ls 5 [(0, .ref th), (1, .ref lo), (2, .ref dl), (3, .int 8), (4, .int pr)] := hl
  refine lv_iload_n hx hb dL_supplierDoes_0 rfl (lv_at hl 3 rfl) ?_
  refine lv_tableIn (tgt := 61) hx hb dL_supplierDoes_1 (by decide) (by decide) rfl rfl ?_
  refine lv_aload_n hx hb dL_supplierDoes_61 rfl (lv_at hl 0 rfl) ?_
  refine lv_aload_n hx hb dL_supplierDoes_62 rfl (lv_at hl 2 rfl) ?_
  refine lv_iload hx hb dL_supplierDoes_63 (lv_at hl 4 rfl) ?_
  refine er_calli (va_runV (As := [.ref dl, .int pr]) (rest := []) ⟨hx, hb, hml, hown, hts⟩ (c_L_offer_no3 l D T X L tg _ A d th hth dl hdl pr e17_0 hp0 hst hp1) (cwV 2 hts gL_305 rfl rfl rfl (by decide +kernel) ⟨Nat.le_of_ble_eq_true rfl, Nat.le_of_ble_eq_true rfl⟩) (ec_preV hK hN hV hth (cC_0 _ _ _ _) rfl) rfl rfl hl.1 rfl (lv_room (Nat.le_of_ble_eq_true rfl)) dL_supplierDoes_65 ⟨Nat.le_of_ble_eq_true rfl, Nat.le_of_ble_eq_true rfl⟩) hV hS hA (fun r u H locs hp hV hS => ?_)
  obtain ⟨rfl, eu9⟩ := hp
  rw [eu9] at hV
  exact er_zret hx hb hr hlocks hV hS dL_supplierDoes_68 (by decide) ⟨rfl, rfl⟩

set_option maxHeartbeats 4000000 in
set_option maxRecDepth 100000 in
theorem c_L_sd_offer_no4 (l : Launch) (D : va_G) (T : Nat → ClassId) (X : Nat → Nat → Nat) (L : List Nat) (tg : Nat → Nat × Nat) (sz : Nat) (A : ew_R) (ln : Nat) (d : Nat) (th : Nat) (hth : ew_in X L tg 0 0 th) (lo : Nat) (hlo : ew_in X L tg 2 ln lo) (dl : Nat) (hdl : ew_in X L tg 4 d dl) (pr : Int32) (e17_0 : ew_in X L tg 17 d (X 17 d)) (hp0 : A 17 d 2 = 0) (hst : A 17 d 0 = 1) (hp1 : ¬ pr < 1) (hp2 : ¬ pr ≤ 1000) : Met l yL_supplierDoes wsL_supplierDoes ({ frames := 11, cells := 0, slots := 0, locals := 250 }) (ec_Pc D vwCl (tysA T) (cfC T) X L tg A sz [.ref th, .ref lo, .ref dl, .int 8, .int pr]) (er_Qi D vwCl (cfC T) X L tg sz (fun r u => r = 0 ∧ u = A)) 0 0 (ew_A L sz) := by
  refine ec_met (by decide) rfl (Nat.le_of_ble_eq_true rfl) ?_
  intro p e s m below meth c ls hx hb hr hts hown hlocks hml hV hK hN hS hA hl hsz
  subst hsz
  have hl : lv_has ls 5 [(0, .ref th), (1, .ref lo), (2, .ref dl), (3, .int 8), (4, .int pr)] := hl
  refine lv_iload_n hx hb dL_supplierDoes_0 rfl (lv_at hl 3 rfl) ?_
  refine lv_tableIn (tgt := 61) hx hb dL_supplierDoes_1 (by decide) (by decide) rfl rfl ?_
  refine lv_aload_n hx hb dL_supplierDoes_61 rfl (lv_at hl 0 rfl) ?_
  refine lv_aload_n hx hb dL_supplierDoes_62 rfl (lv_at hl 2 rfl) ?_
  refine lv_iload hx hb dL_supplierDoes_63 (lv_at hl 4 rfl) ?_
  refine er_calli (va_runV (As := [.ref dl, .int pr]) (rest := []) ⟨hx, hb, hml, hown, hts⟩ (c_L_offer_no4 l D T X L tg _ A d th hth dl hdl pr e17_0 hp0 hst hp1 hp2) (cwV 2 hts gL_305 rfl rfl rfl (by decide +kernel) ⟨Nat.le_of_ble_eq_true rfl, Nat.le_of_ble_eq_true rfl⟩) (ec_preV hK hN hV hth (cC_0 _ _ _ _) rfl) rfl rfl hl.1 rfl (lv_room (Nat.le_of_ble_eq_true rfl)) dL_supplierDoes_65 ⟨Nat.le_of_ble_eq_true rfl, Nat.le_of_ble_eq_true rfl⟩) hV hS hA (fun r u H locs hp hV hS => ?_)
  obtain ⟨rfl, eu9⟩ := hp
  rw [eu9] at hV
  exact er_zret hx hb hr hlocks hV hS dL_supplierDoes_68 (by decide) ⟨rfl, rfl⟩

def z_L_sd_refuse_y (A : ew_R) (ln : Nat) (d : Nat) (ar : Int32) (g : Nat) (n : Nat) (w : Nat) : ew_R :=
  z_L_refuse_y A d g n w
set_option maxHeartbeats 4000000 in
set_option maxRecDepth 100000 in
theorem c_L_sd_refuse_y (l : Launch) (D : va_G) (T : Nat → ClassId) (t0 : Nat × Nat) (X : Nat → Nat → Nat) (L : List Nat) (tg : Nat → Nat × Nat) (sz : Nat) (A : ew_R) (ln : Nat) (d : Nat) (th : Nat) (hth : ew_in X L tg 0 0 th) (lo : Nat) (hlo : ew_in X L tg 2 ln lo) (dl : Nat) (hdl : ew_in X L tg 4 d dl) (ar : Int32) (g : Nat) (n : Nat) (w : Nat) (e17_0 : ew_in X L tg 17 d (X 17 d)) (e15_1 : ew_in X L tg 15 d (X 15 d)) (e16_2 : ew_in X L tg 16 d (X 16 d)) (e7_3 : ew_in X L tg 7 0 (X 7 0)) (e12_4 : ew_in X L tg 12 0 (X 12 0)) (hd : d < 192) (hn : n < 512) (hLS : lsC 16 20 t0 X L tg A d g n) (hw : w ≤ 64) (qw : A 7 0 1 = nI w) (hcl : clC X L tg A) (hnl : ∀ b ∈ L, (19, 512 * d + n) ≠ tg b) (hnew : ∀ b ∈ L, (20, 64 * d + g + 1) ≠ tg b) (hst : A 17 d 0 = 1) : Met l yL_supplierDoes wsL_supplierDoes ({ frames := 11, cells := 2, slots := 1004, locals := 350 }) (em_Pc D vwCl (tysA T) (cfC T) t0 X L tg A sz [.ref th, .ref lo, .ref dl, .int 9, .int ar]) (em_Qi D vwCl (cfC T) L sz (fun r u => r = 1 ∧ em_S (nw_15 d g n) X L tg u.1 u.2.1 u.2.2.1 ∧ u.2.2.2 = z_L_sd_refuse_y A ln d ar g n w)) 2 1004 (ew_A L sz) := by
  refine em_met (by decide) rfl (Nat.le_of_ble_eq_true rfl) ?_
  intro p e s m below meth c ls hx hb hr hts hown hlocks hml hnm hV hK hN hZ hS hA hl hsz
  subst hsz
  have hl : lv_has ls 5 [(0, .ref th), (1, .ref lo), (2, .ref dl), (3, .int 9), (4, .int ar)] := hl
  refine lv_iload_n hx hb dL_supplierDoes_0 rfl (lv_at hl 3 rfl) ?_
  refine lv_tableIn (tgt := 69) hx hb dL_supplierDoes_1 (by decide) (by decide) rfl rfl ?_
  refine lv_aload_n hx hb dL_supplierDoes_69 rfl (lv_at hl 0 rfl) ?_
  refine lv_aload_n hx hb dL_supplierDoes_70 rfl (lv_at hl 2 rfl) ?_
  refine em_calli (va_runV (As := [.ref dl]) (rest := []) ⟨hx, hb, hml, hown, hts⟩ (c_L_refuse_y l D T t0 X L tg _ A d th hth dl hdl g n w e17_0 e15_1 e16_2 e7_3 e12_4 hd hn hLS hw qw hcl hnl hnew hst) (cwV 1 hts gL_309 rfl rfl rfl (by decide +kernel) ⟨Nat.le_of_ble_eq_true rfl, Nat.le_of_ble_eq_true rfl⟩) (em_preV hK hN hV hZ hS hA hth (cC_0 _ _ _ _) rfl) rfl rfl hl.1 rfl (lv_room (Nat.le_of_ble_eq_true rfl)) dL_supplierDoes_71 ⟨Nat.le_of_ble_eq_true rfl, Nat.le_of_ble_eq_true rfl⟩) hV hS hA (fun r X1 L1 tg1 u H locs hp hV hS => ?_)
  obtain ⟨rfl, hS9, eA9⟩ := hp
  rw [show z_L_sd_refuse_y A ln d ar g n w = z_L_refuse_y A d g n w from rfl]
  exact em_zret hx hb hr hlocks hV hS dL_supplierDoes_74 (by decide) ⟨rfl, hS9, eA9⟩

set_option maxHeartbeats 4000000 in
set_option maxRecDepth 100000 in
theorem c_L_sd_refuse_no (l : Launch) (D : va_G) (T : Nat → ClassId) (X : Nat → Nat → Nat) (L : List Nat) (tg : Nat → Nat × Nat) (sz : Nat) (A : ew_R) (ln : Nat) (d : Nat) (th : Nat) (hth : ew_in X L tg 0 0 th) (lo : Nat) (hlo : ew_in X L tg 2 ln lo) (dl : Nat) (hdl : ew_in X L tg 4 d dl) (ar : Int32) (e17_0 : ew_in X L tg 17 d (X 17 d)) (hst : ¬ A 17 d 0 = 1) : Met l yL_supplierDoes wsL_supplierDoes ({ frames := 11, cells := 0, slots := 0, locals := 250 }) (ec_Pc D vwCl (tysA T) (cfC T) X L tg A sz [.ref th, .ref lo, .ref dl, .int 9, .int ar]) (er_Qi D vwCl (cfC T) X L tg sz (fun r u => r = 0 ∧ u = A)) 0 0 (ew_A L sz) := by
  refine ec_met (by decide) rfl (Nat.le_of_ble_eq_true rfl) ?_
  intro p e s m below meth c ls hx hb hr hts hown hlocks hml hV hK hN hS hA hl hsz
  subst hsz
  have hl : lv_has ls 5 [(0, .ref th), (1, .ref lo), (2, .ref dl), (3, .int 9), (4, .int ar)] := hl
  refine lv_iload_n hx hb dL_supplierDoes_0 rfl (lv_at hl 3 rfl) ?_
  refine lv_tableIn (tgt := 69) hx hb dL_supplierDoes_1 (by decide) (by decide) rfl rfl ?_
  refine lv_aload_n hx hb dL_supplierDoes_69 rfl (lv_at hl 0 rfl) ?_
  refine lv_aload_n hx hb dL_supplierDoes_70 rfl (lv_at hl 2 rfl) ?_
  refine er_calli (va_runV (As := [.ref dl]) (rest := []) ⟨hx, hb, hml, hown, hts⟩ (c_L_refuse_no l D T X L tg _ A d th hth dl hdl e17_0 hst) (cwV 1 hts gL_309 rfl rfl rfl (by decide +kernel) ⟨Nat.le_of_ble_eq_true rfl, Nat.le_of_ble_eq_true rfl⟩) (ec_preV hK hN hV hth (cC_0 _ _ _ _) rfl) rfl rfl hl.1 rfl (lv_room (Nat.le_of_ble_eq_true rfl)) dL_supplierDoes_71 ⟨Nat.le_of_ble_eq_true rfl, Nat.le_of_ble_eq_true rfl⟩) hV hS hA (fun r u H locs hp hV hS => ?_)
  obtain ⟨rfl, eu9⟩ := hp
  rw [eu9] at hV
  exact er_zret hx hb hr hlocks hV hS dL_supplierDoes_74 (by decide) ⟨rfl, rfl⟩

def z_L_sd_ship_ok (A : ew_R) (ln : Nat) (d : Nat) (ar : Int32) (g : Nat) (n : Nat) (w : Nat) (cp : Nat) (M : Int32) : ew_R :=
  z_L_ship_ok A ln d g n w cp M
set_option maxHeartbeats 4000000 in
set_option maxRecDepth 100000 in
theorem c_L_sd_ship_ok (l : Launch) (D : va_G) (T : Nat → ClassId) (t0 : Nat × Nat) (X : Nat → Nat → Nat) (L : List Nat) (tg : Nat → Nat × Nat) (sz : Nat) (A : ew_R) (ln : Nat) (d : Nat) (th : Nat) (hth : ew_in X L tg 0 0 th) (lo : Nat) (hlo : ew_in X L tg 2 ln lo) (dl : Nat) (hdl : ew_in X L tg 4 d dl) (ar : Int32) (g : Nat) (n : Nat) (w : Nat) (cp : Nat) (M : Int32) (e17_0 : ew_in X L tg 17 d (X 17 d)) (e15_1 : ew_in X L tg 15 d (X 15 d)) (e16_2 : ew_in X L tg 16 d (X 16 d)) (e7_3 : ew_in X L tg 7 0 (X 7 0)) (e12_4 : ew_in X L tg 12 0 (X 12 0)) (e1_5 : ew_in X L tg 1 cp (X 1 cp)) (hd : d < 192) (hn : n < 512) (hLS : lsC 16 20 t0 X L tg A d g n) (hw : w ≤ 64) (qw : A 7 0 1 = nI w) (hcl : clC X L tg A) (hnl : ∀ b ∈ L, (19, 512 * d + n) ≠ tg b) (hnew : ∀ b ∈ L, (20, 64 * d + g + 1) ≠ tg b) (hcp : cp < 32) (q4 : A 4 d 4 = nI cp) (hM : (A 0 0 7) + (A 2 ln 4) = M) (hst : A 17 d 0 = 3) : Met l yL_supplierDoes wsL_supplierDoes ({ frames := 11, cells := 2, slots := 1004, locals := 350 }) (em_Pc D vwCl (tysA T) (cfC T) t0 X L tg A sz [.ref th, .ref lo, .ref dl, .int 10, .int ar]) (em_Qi D vwCl (cfC T) L sz (fun r u => r = 1 ∧ em_S (nw_15 d g n) X L tg u.1 u.2.1 u.2.2.1 ∧ u.2.2.2 = z_L_sd_ship_ok A ln d ar g n w cp M)) 2 1004 (ew_A L sz) := by
  refine em_met (by decide) rfl (Nat.le_of_ble_eq_true rfl) ?_
  intro p e s m below meth c ls hx hb hr hts hown hlocks hml hnm hV hK hN hZ hS hA hl hsz
  subst hsz
  have hl : lv_has ls 5 [(0, .ref th), (1, .ref lo), (2, .ref dl), (3, .int 10), (4, .int ar)] := hl
  refine lv_iload_n hx hb dL_supplierDoes_0 rfl (lv_at hl 3 rfl) ?_
  refine lv_tableIn (tgt := 75) hx hb dL_supplierDoes_1 (by decide) (by decide) rfl rfl ?_
  refine lv_aload_n hx hb dL_supplierDoes_75 rfl (lv_at hl 0 rfl) ?_
  refine lv_aload_n hx hb dL_supplierDoes_76 rfl (lv_at hl 1 rfl) ?_
  refine lv_aload_n hx hb dL_supplierDoes_77 rfl (lv_at hl 2 rfl) ?_
  refine em_calli (va_runV (As := [.ref lo, .ref dl]) (rest := []) ⟨hx, hb, hml, hown, hts⟩ (c_L_ship_ok l D T t0 X L tg _ A ln d th hth lo hlo dl hdl g n w cp M e17_0 e15_1 e16_2 e7_3 e12_4 e1_5 hd hn hLS hw qw hcl hnl hnew hcp q4 hM hst) (cwV 2 hts gL_313 rfl rfl rfl (by decide +kernel) ⟨Nat.le_of_ble_eq_true rfl, Nat.le_of_ble_eq_true rfl⟩) (em_preV hK hN hV hZ hS hA hth (cC_0 _ _ _ _) rfl) rfl rfl hl.1 rfl (lv_room (Nat.le_of_ble_eq_true rfl)) dL_supplierDoes_78 ⟨Nat.le_of_ble_eq_true rfl, Nat.le_of_ble_eq_true rfl⟩) hV hS hA (fun r X1 L1 tg1 u H locs hp hV hS => ?_)
  obtain ⟨rfl, hS9, eA9⟩ := hp
  rw [show z_L_sd_ship_ok A ln d ar g n w cp M = z_L_ship_ok A ln d g n w cp M from rfl]
  exact em_zret hx hb hr hlocks hV hS dL_supplierDoes_81 (by decide) ⟨rfl, hS9, eA9⟩

set_option maxHeartbeats 4000000 in
set_option maxRecDepth 100000 in
theorem c_L_sd_ship_no (l : Launch) (D : va_G) (T : Nat → ClassId) (X : Nat → Nat → Nat) (L : List Nat) (tg : Nat → Nat × Nat) (sz : Nat) (A : ew_R) (ln : Nat) (d : Nat) (th : Nat) (hth : ew_in X L tg 0 0 th) (lo : Nat) (hlo : ew_in X L tg 2 ln lo) (dl : Nat) (hdl : ew_in X L tg 4 d dl) (ar : Int32) (e17_0 : ew_in X L tg 17 d (X 17 d)) (hst : ¬ A 17 d 0 = 3) : Met l yL_supplierDoes wsL_supplierDoes ({ frames := 11, cells := 0, slots := 0, locals := 250 }) (ec_Pc D vwCl (tysA T) (cfC T) X L tg A sz [.ref th, .ref lo, .ref dl, .int 10, .int ar]) (er_Qi D vwCl (cfC T) X L tg sz (fun r u => r = 0 ∧ u = A)) 0 0 (ew_A L sz) := by
  refine ec_met (by decide) rfl (Nat.le_of_ble_eq_true rfl) ?_
  intro p e s m below meth c ls hx hb hr hts hown hlocks hml hV hK hN hS hA hl hsz
  subst hsz
  have hl : lv_has ls 5 [(0, .ref th), (1, .ref lo), (2, .ref dl), (3, .int 10), (4, .int ar)] := hl
  refine lv_iload_n hx hb dL_supplierDoes_0 rfl (lv_at hl 3 rfl) ?_
  refine lv_tableIn (tgt := 75) hx hb dL_supplierDoes_1 (by decide) (by decide) rfl rfl ?_
  refine lv_aload_n hx hb dL_supplierDoes_75 rfl (lv_at hl 0 rfl) ?_
  refine lv_aload_n hx hb dL_supplierDoes_76 rfl (lv_at hl 1 rfl) ?_
  refine lv_aload_n hx hb dL_supplierDoes_77 rfl (lv_at hl 2 rfl) ?_
  refine er_calli (va_runV (As := [.ref lo, .ref dl]) (rest := []) ⟨hx, hb, hml, hown, hts⟩ (c_L_ship_no l D T X L tg _ A ln d th hth lo hlo dl hdl e17_0 hst) (cwV 2 hts gL_313 rfl rfl rfl (by decide +kernel) ⟨Nat.le_of_ble_eq_true rfl, Nat.le_of_ble_eq_true rfl⟩) (ec_preV hK hN hV hth (cC_0 _ _ _ _) rfl) rfl rfl hl.1 rfl (lv_room (Nat.le_of_ble_eq_true rfl)) dL_supplierDoes_78 ⟨Nat.le_of_ble_eq_true rfl, Nat.le_of_ble_eq_true rfl⟩) hV hS hA (fun r u H locs hp hV hS => ?_)
  obtain ⟨rfl, eu9⟩ := hp
  rw [eu9] at hV
  exact er_zret hx hb hr hlocks hV hS dL_supplierDoes_81 (by decide) ⟨rfl, rfl⟩

def z_L_sd_grant_ok (A : ew_R) (ln : Nat) (d : Nat) (ar : Int32) (g : Nat) (n : Nat) (w : Nat) (M : Int32) : ew_R :=
  z_L_grant_ok A ln d g n w M
set_option maxHeartbeats 4000000 in
set_option maxRecDepth 100000 in
theorem c_L_sd_grant_ok (l : Launch) (D : va_G) (T : Nat → ClassId) (t0 : Nat × Nat) (X : Nat → Nat → Nat) (L : List Nat) (tg : Nat → Nat × Nat) (sz : Nat) (A : ew_R) (ln : Nat) (d : Nat) (th : Nat) (hth : ew_in X L tg 0 0 th) (lo : Nat) (hlo : ew_in X L tg 2 ln lo) (dl : Nat) (hdl : ew_in X L tg 4 d dl) (ar : Int32) (g : Nat) (n : Nat) (w : Nat) (M : Int32) (e17_0 : ew_in X L tg 17 d (X 17 d)) (e15_1 : ew_in X L tg 15 d (X 15 d)) (e16_2 : ew_in X L tg 16 d (X 16 d)) (e7_3 : ew_in X L tg 7 0 (X 7 0)) (e12_4 : ew_in X L tg 12 0 (X 12 0)) (hd : d < 192) (hn : n < 512) (hLS : lsC 16 20 t0 X L tg A d g n) (hw : w ≤ 64) (qw : A 7 0 1 = nI w) (hcl : clC X L tg A) (hnl : ∀ b ∈ L, (19, 512 * d + n) ≠ tg b) (hnew : ∀ b ∈ L, (20, 64 * d + g + 1) ≠ tg b) (hM : (A 17 d 1) + (A 2 ln 4) = M) (hst : A 17 d 0 = 6) (hgr : A 4 d 5 < 3) : Met l yL_supplierDoes wsL_supplierDoes ({ frames := 11, cells := 2, slots := 1004, locals := 350 }) (em_Pc D vwCl (tysA T) (cfC T) t0 X L tg A sz [.ref th, .ref lo, .ref dl, .int 11, .int ar]) (em_Qi D vwCl (cfC T) L sz (fun r u => r = 1 ∧ em_S (nw_15 d g n) X L tg u.1 u.2.1 u.2.2.1 ∧ u.2.2.2 = z_L_sd_grant_ok A ln d ar g n w M)) 2 1004 (ew_A L sz) := by
  refine em_met (by decide) rfl (Nat.le_of_ble_eq_true rfl) ?_
  intro p e s m below meth c ls hx hb hr hts hown hlocks hml hnm hV hK hN hZ hS hA hl hsz
  subst hsz
  have hl : lv_has ls 5 [(0, .ref th), (1, .ref lo), (2, .ref dl), (3, .int 11), (4, .int ar)] := hl
  refine lv_iload_n hx hb dL_supplierDoes_0 rfl (lv_at hl 3 rfl) ?_
  refine lv_tableIn (tgt := 82) hx hb dL_supplierDoes_1 (by decide) (by decide) rfl rfl ?_
  refine lv_aload_n hx hb dL_supplierDoes_82 rfl (lv_at hl 0 rfl) ?_
  refine lv_aload_n hx hb dL_supplierDoes_83 rfl (lv_at hl 1 rfl) ?_
  refine lv_aload_n hx hb dL_supplierDoes_84 rfl (lv_at hl 2 rfl) ?_
  refine em_calli (va_runV (As := [.ref lo, .ref dl]) (rest := []) ⟨hx, hb, hml, hown, hts⟩ (c_L_grant_ok l D T t0 X L tg _ A ln d th hth lo hlo dl hdl g n w M e17_0 e15_1 e16_2 e7_3 e12_4 hd hn hLS hw qw hcl hnl hnew hM hst hgr) (cwV 2 hts gL_317 rfl rfl rfl (by decide +kernel) ⟨Nat.le_of_ble_eq_true rfl, Nat.le_of_ble_eq_true rfl⟩) (em_preV hK hN hV hZ hS hA hth (cC_0 _ _ _ _) rfl) rfl rfl hl.1 rfl (lv_room (Nat.le_of_ble_eq_true rfl)) dL_supplierDoes_85 ⟨Nat.le_of_ble_eq_true rfl, Nat.le_of_ble_eq_true rfl⟩) hV hS hA (fun r X1 L1 tg1 u H locs hp hV hS => ?_)
  obtain ⟨rfl, hS9, eA9⟩ := hp
  rw [show z_L_sd_grant_ok A ln d ar g n w M = z_L_grant_ok A ln d g n w M from rfl]
  exact em_zret hx hb hr hlocks hV hS dL_supplierDoes_88 (by decide) ⟨rfl, hS9, eA9⟩

set_option maxHeartbeats 4000000 in
set_option maxRecDepth 100000 in
theorem c_L_sd_grant_no (l : Launch) (D : va_G) (T : Nat → ClassId) (X : Nat → Nat → Nat) (L : List Nat) (tg : Nat → Nat × Nat) (sz : Nat) (A : ew_R) (ln : Nat) (d : Nat) (th : Nat) (hth : ew_in X L tg 0 0 th) (lo : Nat) (hlo : ew_in X L tg 2 ln lo) (dl : Nat) (hdl : ew_in X L tg 4 d dl) (ar : Int32) (e17_0 : ew_in X L tg 17 d (X 17 d)) (hst : ¬ A 17 d 0 = 6) : Met l yL_supplierDoes wsL_supplierDoes ({ frames := 11, cells := 0, slots := 0, locals := 250 }) (ec_Pc D vwCl (tysA T) (cfC T) X L tg A sz [.ref th, .ref lo, .ref dl, .int 11, .int ar]) (er_Qi D vwCl (cfC T) X L tg sz (fun r u => r = 0 ∧ u = A)) 0 0 (ew_A L sz) := by
  refine ec_met (by decide) rfl (Nat.le_of_ble_eq_true rfl) ?_
  intro p e s m below meth c ls hx hb hr hts hown hlocks hml hV hK hN hS hA hl hsz
  subst hsz
  have hl : lv_has ls 5 [(0, .ref th), (1, .ref lo), (2, .ref dl), (3, .int 11), (4, .int ar)] := hl
  refine lv_iload_n hx hb dL_supplierDoes_0 rfl (lv_at hl 3 rfl) ?_
  refine lv_tableIn (tgt := 82) hx hb dL_supplierDoes_1 (by decide) (by decide) rfl rfl ?_
  refine lv_aload_n hx hb dL_supplierDoes_82 rfl (lv_at hl 0 rfl) ?_
  refine lv_aload_n hx hb dL_supplierDoes_83 rfl (lv_at hl 1 rfl) ?_
  refine lv_aload_n hx hb dL_supplierDoes_84 rfl (lv_at hl 2 rfl) ?_
  refine er_calli (va_runV (As := [.ref lo, .ref dl]) (rest := []) ⟨hx, hb, hml, hown, hts⟩ (c_L_grant_no l D T X L tg _ A ln d th hth lo hlo dl hdl e17_0 hst) (cwV 2 hts gL_317 rfl rfl rfl (by decide +kernel) ⟨Nat.le_of_ble_eq_true rfl, Nat.le_of_ble_eq_true rfl⟩) (ec_preV hK hN hV hth (cC_0 _ _ _ _) rfl) rfl rfl hl.1 rfl (lv_room (Nat.le_of_ble_eq_true rfl)) dL_supplierDoes_85 ⟨Nat.le_of_ble_eq_true rfl, Nat.le_of_ble_eq_true rfl⟩) hV hS hA (fun r u H locs hp hV hS => ?_)
  obtain ⟨rfl, eu9⟩ := hp
  rw [eu9] at hV
  exact er_zret hx hb hr hlocks hV hS dL_supplierDoes_88 (by decide) ⟨rfl, rfl⟩

set_option maxHeartbeats 4000000 in
set_option maxRecDepth 100000 in
theorem c_L_sd_grant_no3 (l : Launch) (D : va_G) (T : Nat → ClassId) (X : Nat → Nat → Nat) (L : List Nat) (tg : Nat → Nat × Nat) (sz : Nat) (A : ew_R) (ln : Nat) (d : Nat) (th : Nat) (hth : ew_in X L tg 0 0 th) (lo : Nat) (hlo : ew_in X L tg 2 ln lo) (dl : Nat) (hdl : ew_in X L tg 4 d dl) (ar : Int32) (e17_0 : ew_in X L tg 17 d (X 17 d)) (hst : A 17 d 0 = 6) (hgr : ¬ A 4 d 5 < 3) : Met l yL_supplierDoes wsL_supplierDoes ({ frames := 11, cells := 0, slots := 0, locals := 250 }) (ec_Pc D vwCl (tysA T) (cfC T) X L tg A sz [.ref th, .ref lo, .ref dl, .int 11, .int ar]) (er_Qi D vwCl (cfC T) X L tg sz (fun r u => r = 0 ∧ u = A)) 0 0 (ew_A L sz) := by
  refine ec_met (by decide) rfl (Nat.le_of_ble_eq_true rfl) ?_
  intro p e s m below meth c ls hx hb hr hts hown hlocks hml hV hK hN hS hA hl hsz
  subst hsz
  have hl : lv_has ls 5 [(0, .ref th), (1, .ref lo), (2, .ref dl), (3, .int 11), (4, .int ar)] := hl
  refine lv_iload_n hx hb dL_supplierDoes_0 rfl (lv_at hl 3 rfl) ?_
  refine lv_tableIn (tgt := 82) hx hb dL_supplierDoes_1 (by decide) (by decide) rfl rfl ?_
  refine lv_aload_n hx hb dL_supplierDoes_82 rfl (lv_at hl 0 rfl) ?_
  refine lv_aload_n hx hb dL_supplierDoes_83 rfl (lv_at hl 1 rfl) ?_
  refine lv_aload_n hx hb dL_supplierDoes_84 rfl (lv_at hl 2 rfl) ?_
  refine er_calli (va_runV (As := [.ref lo, .ref dl]) (rest := []) ⟨hx, hb, hml, hown, hts⟩ (c_L_grant_no3 l D T X L tg _ A ln d th hth lo hlo dl hdl e17_0 hst hgr) (cwV 2 hts gL_317 rfl rfl rfl (by decide +kernel) ⟨Nat.le_of_ble_eq_true rfl, Nat.le_of_ble_eq_true rfl⟩) (ec_preV hK hN hV hth (cC_0 _ _ _ _) rfl) rfl rfl hl.1 rfl (lv_room (Nat.le_of_ble_eq_true rfl)) dL_supplierDoes_85 ⟨Nat.le_of_ble_eq_true rfl, Nat.le_of_ble_eq_true rfl⟩) hV hS hA (fun r u H locs hp hV hS => ?_)
  obtain ⟨rfl, eu9⟩ := hp
  rw [eu9] at hV
  exact er_zret hx hb hr hlocks hV hS dL_supplierDoes_88 (by decide) ⟨rfl, rfl⟩

def z_L_sd_deny_y (A : ew_R) (ln : Nat) (d : Nat) (ar : Int32) (g : Nat) (n : Nat) (w : Nat) : ew_R :=
  z_L_deny_y A d g n w
set_option maxHeartbeats 4000000 in
set_option maxRecDepth 100000 in
theorem c_L_sd_deny_y (l : Launch) (D : va_G) (T : Nat → ClassId) (t0 : Nat × Nat) (X : Nat → Nat → Nat) (L : List Nat) (tg : Nat → Nat × Nat) (sz : Nat) (A : ew_R) (ln : Nat) (d : Nat) (th : Nat) (hth : ew_in X L tg 0 0 th) (lo : Nat) (hlo : ew_in X L tg 2 ln lo) (dl : Nat) (hdl : ew_in X L tg 4 d dl) (ar : Int32) (g : Nat) (n : Nat) (w : Nat) (e17_0 : ew_in X L tg 17 d (X 17 d)) (e15_1 : ew_in X L tg 15 d (X 15 d)) (e16_2 : ew_in X L tg 16 d (X 16 d)) (e7_3 : ew_in X L tg 7 0 (X 7 0)) (e12_4 : ew_in X L tg 12 0 (X 12 0)) (hd : d < 192) (hn : n < 512) (hLS : lsC 16 20 t0 X L tg A d g n) (hw : w ≤ 64) (qw : A 7 0 1 = nI w) (hcl : clC X L tg A) (hnl : ∀ b ∈ L, (19, 512 * d + n) ≠ tg b) (hnew : ∀ b ∈ L, (20, 64 * d + g + 1) ≠ tg b) (hst : A 17 d 0 = 6) : Met l yL_supplierDoes wsL_supplierDoes ({ frames := 11, cells := 2, slots := 1004, locals := 350 }) (em_Pc D vwCl (tysA T) (cfC T) t0 X L tg A sz [.ref th, .ref lo, .ref dl, .int 12, .int ar]) (em_Qi D vwCl (cfC T) L sz (fun r u => r = 1 ∧ em_S (nw_15 d g n) X L tg u.1 u.2.1 u.2.2.1 ∧ u.2.2.2 = z_L_sd_deny_y A ln d ar g n w)) 2 1004 (ew_A L sz) := by
  refine em_met (by decide) rfl (Nat.le_of_ble_eq_true rfl) ?_
  intro p e s m below meth c ls hx hb hr hts hown hlocks hml hnm hV hK hN hZ hS hA hl hsz
  subst hsz
  have hl : lv_has ls 5 [(0, .ref th), (1, .ref lo), (2, .ref dl), (3, .int 12), (4, .int ar)] := hl
  refine lv_iload_n hx hb dL_supplierDoes_0 rfl (lv_at hl 3 rfl) ?_
  refine lv_tableIn (tgt := 89) hx hb dL_supplierDoes_1 (by decide) (by decide) rfl rfl ?_
  refine lv_aload_n hx hb dL_supplierDoes_89 rfl (lv_at hl 0 rfl) ?_
  refine lv_aload_n hx hb dL_supplierDoes_90 rfl (lv_at hl 2 rfl) ?_
  refine em_calli (va_runV (As := [.ref dl]) (rest := []) ⟨hx, hb, hml, hown, hts⟩ (c_L_deny_y l D T t0 X L tg _ A d th hth dl hdl g n w e17_0 e15_1 e16_2 e7_3 e12_4 hd hn hLS hw qw hcl hnl hnew hst) (cwV 1 hts gL_320 rfl rfl rfl (by decide +kernel) ⟨Nat.le_of_ble_eq_true rfl, Nat.le_of_ble_eq_true rfl⟩) (em_preV hK hN hV hZ hS hA hth (cC_0 _ _ _ _) rfl) rfl rfl hl.1 rfl (lv_room (Nat.le_of_ble_eq_true rfl)) dL_supplierDoes_91 ⟨Nat.le_of_ble_eq_true rfl, Nat.le_of_ble_eq_true rfl⟩) hV hS hA (fun r X1 L1 tg1 u H locs hp hV hS => ?_)
  obtain ⟨rfl, hS9, eA9⟩ := hp
  rw [show z_L_sd_deny_y A ln d ar g n w = z_L_deny_y A d g n w from rfl]
  exact em_zret hx hb hr hlocks hV hS dL_supplierDoes_94 (by decide) ⟨rfl, hS9, eA9⟩

set_option maxHeartbeats 4000000 in
set_option maxRecDepth 100000 in
theorem c_L_sd_deny_no (l : Launch) (D : va_G) (T : Nat → ClassId) (X : Nat → Nat → Nat) (L : List Nat) (tg : Nat → Nat × Nat) (sz : Nat) (A : ew_R) (ln : Nat) (d : Nat) (th : Nat) (hth : ew_in X L tg 0 0 th) (lo : Nat) (hlo : ew_in X L tg 2 ln lo) (dl : Nat) (hdl : ew_in X L tg 4 d dl) (ar : Int32) (e17_0 : ew_in X L tg 17 d (X 17 d)) (hst : ¬ A 17 d 0 = 6) : Met l yL_supplierDoes wsL_supplierDoes ({ frames := 11, cells := 0, slots := 0, locals := 250 }) (ec_Pc D vwCl (tysA T) (cfC T) X L tg A sz [.ref th, .ref lo, .ref dl, .int 12, .int ar]) (er_Qi D vwCl (cfC T) X L tg sz (fun r u => r = 0 ∧ u = A)) 0 0 (ew_A L sz) := by
  refine ec_met (by decide) rfl (Nat.le_of_ble_eq_true rfl) ?_
  intro p e s m below meth c ls hx hb hr hts hown hlocks hml hV hK hN hS hA hl hsz
  subst hsz
  have hl : lv_has ls 5 [(0, .ref th), (1, .ref lo), (2, .ref dl), (3, .int 12), (4, .int ar)] := hl
  refine lv_iload_n hx hb dL_supplierDoes_0 rfl (lv_at hl 3 rfl) ?_
  refine lv_tableIn (tgt := 89) hx hb dL_supplierDoes_1 (by decide) (by decide) rfl rfl ?_
  refine lv_aload_n hx hb dL_supplierDoes_89 rfl (lv_at hl 0 rfl) ?_
  refine lv_aload_n hx hb dL_supplierDoes_90 rfl (lv_at hl 2 rfl) ?_
  refine er_calli (va_runV (As := [.ref dl]) (rest := []) ⟨hx, hb, hml, hown, hts⟩ (c_L_deny_no l D T X L tg _ A d th hth dl hdl e17_0 hst) (cwV 1 hts gL_320 rfl rfl rfl (by decide +kernel) ⟨Nat.le_of_ble_eq_true rfl, Nat.le_of_ble_eq_true rfl⟩) (ec_preV hK hN hV hth (cC_0 _ _ _ _) rfl) rfl rfl hl.1 rfl (lv_room (Nat.le_of_ble_eq_true rfl)) dL_supplierDoes_91 ⟨Nat.le_of_ble_eq_true rfl, Nat.le_of_ble_eq_true rfl⟩) hV hS hA (fun r u H locs hp hV hS => ?_)
  obtain ⟨rfl, eu9⟩ := hp
  rw [eu9] at hV
  exact er_zret hx hb hr hlocks hV hS dL_supplierDoes_94 (by decide) ⟨rfl, rfl⟩

def z_L_sd_recall_5 (A : ew_R) (ln : Nat) (d : Nat) (ar : Int32) (g : Nat) (n : Nat) (w : Nat) (M : Int32) : ew_R :=
  z_L_recall_5 A d g n w M
set_option maxHeartbeats 4000000 in
set_option maxRecDepth 100000 in
theorem c_L_sd_recall_5 (l : Launch) (D : va_G) (T : Nat → ClassId) (t0 : Nat × Nat) (X : Nat → Nat → Nat) (L : List Nat) (tg : Nat → Nat × Nat) (sz : Nat) (A : ew_R) (ln : Nat) (d : Nat) (th : Nat) (hth : ew_in X L tg 0 0 th) (lo : Nat) (hlo : ew_in X L tg 2 ln lo) (dl : Nat) (hdl : ew_in X L tg 4 d dl) (ar : Int32) (g : Nat) (n : Nat) (w : Nat) (M : Int32) (e17_0 : ew_in X L tg 17 d (X 17 d)) (e15_1 : ew_in X L tg 15 d (X 15 d)) (e16_2 : ew_in X L tg 16 d (X 16 d)) (e7_3 : ew_in X L tg 7 0 (X 7 0)) (e12_4 : ew_in X L tg 12 0 (X 12 0)) (hd : d < 192) (hn : n < 512) (hLS : lsC 16 20 t0 X L tg A d g n) (hw : w ≤ 64) (qw : A 7 0 1 = nI w) (hcl : clC X L tg A) (hnl : ∀ b ∈ L, (19, 512 * d + n) ≠ tg b) (hnew : ∀ b ∈ L, (20, 64 * d + g + 1) ≠ tg b) (hM : (if (A 0 0 7) + 7 < A 17 d 1 then (A 0 0 7) + 7 else A 17 d 1) = M) (hst : A 17 d 0 = 5) : Met l yL_supplierDoes wsL_supplierDoes ({ frames := 11, cells := 2, slots := 1004, locals := 350 }) (em_Pc D vwCl (tysA T) (cfC T) t0 X L tg A sz [.ref th, .ref lo, .ref dl, .int 13, .int ar]) (em_Qi D vwCl (cfC T) L sz (fun r u => r = 1 ∧ em_S (nw_15 d g n) X L tg u.1 u.2.1 u.2.2.1 ∧ u.2.2.2 = z_L_sd_recall_5 A ln d ar g n w M)) 2 1004 (ew_A L sz) := by
  refine em_met (by decide) rfl (Nat.le_of_ble_eq_true rfl) ?_
  intro p e s m below meth c ls hx hb hr hts hown hlocks hml hnm hV hK hN hZ hS hA hl hsz
  subst hsz
  have hl : lv_has ls 5 [(0, .ref th), (1, .ref lo), (2, .ref dl), (3, .int 13), (4, .int ar)] := hl
  refine lv_iload_n hx hb dL_supplierDoes_0 rfl (lv_at hl 3 rfl) ?_
  refine lv_tableIn (tgt := 95) hx hb dL_supplierDoes_1 (by decide) (by decide) rfl rfl ?_
  refine lv_aload_n hx hb dL_supplierDoes_95 rfl (lv_at hl 0 rfl) ?_
  refine lv_aload_n hx hb dL_supplierDoes_96 rfl (lv_at hl 2 rfl) ?_
  refine em_calli (va_runV (As := [.ref dl]) (rest := []) ⟨hx, hb, hml, hown, hts⟩ (c_L_recall_5 l D T t0 X L tg _ A d th hth dl hdl g n w M e17_0 e15_1 e16_2 e7_3 e12_4 hd hn hLS hw qw hcl hnl hnew hM hst) (cwV 1 hts gL_323 rfl rfl rfl (by decide +kernel) ⟨Nat.le_of_ble_eq_true rfl, Nat.le_of_ble_eq_true rfl⟩) (em_preV hK hN hV hZ hS hA hth (cC_0 _ _ _ _) rfl) rfl rfl hl.1 rfl (lv_room (Nat.le_of_ble_eq_true rfl)) dL_supplierDoes_97 ⟨Nat.le_of_ble_eq_true rfl, Nat.le_of_ble_eq_true rfl⟩) hV hS hA (fun r X1 L1 tg1 u H locs hp hV hS => ?_)
  obtain ⟨rfl, hS9, eA9⟩ := hp
  rw [show z_L_sd_recall_5 A ln d ar g n w M = z_L_recall_5 A d g n w M from rfl]
  exact em_zret hx hb hr hlocks hV hS dL_supplierDoes_100 (by decide) ⟨rfl, hS9, eA9⟩

def z_L_sd_recall_6 (A : ew_R) (ln : Nat) (d : Nat) (ar : Int32) (g : Nat) (n : Nat) (w : Nat) (M : Int32) : ew_R :=
  z_L_recall_6 A d g n w M
set_option maxHeartbeats 4000000 in
set_option maxRecDepth 100000 in
theorem c_L_sd_recall_6 (l : Launch) (D : va_G) (T : Nat → ClassId) (t0 : Nat × Nat) (X : Nat → Nat → Nat) (L : List Nat) (tg : Nat → Nat × Nat) (sz : Nat) (A : ew_R) (ln : Nat) (d : Nat) (th : Nat) (hth : ew_in X L tg 0 0 th) (lo : Nat) (hlo : ew_in X L tg 2 ln lo) (dl : Nat) (hdl : ew_in X L tg 4 d dl) (ar : Int32) (g : Nat) (n : Nat) (w : Nat) (M : Int32) (e17_0 : ew_in X L tg 17 d (X 17 d)) (e15_1 : ew_in X L tg 15 d (X 15 d)) (e16_2 : ew_in X L tg 16 d (X 16 d)) (e7_3 : ew_in X L tg 7 0 (X 7 0)) (e12_4 : ew_in X L tg 12 0 (X 12 0)) (hd : d < 192) (hn : n < 512) (hLS : lsC 16 20 t0 X L tg A d g n) (hw : w ≤ 64) (qw : A 7 0 1 = nI w) (hcl : clC X L tg A) (hnl : ∀ b ∈ L, (19, 512 * d + n) ≠ tg b) (hnew : ∀ b ∈ L, (20, 64 * d + g + 1) ≠ tg b) (hM : (if (A 0 0 7) + 7 < A 17 d 1 then (A 0 0 7) + 7 else A 17 d 1) = M) (hst : A 17 d 0 = 6) : Met l yL_supplierDoes wsL_supplierDoes ({ frames := 11, cells := 2, slots := 1004, locals := 350 }) (em_Pc D vwCl (tysA T) (cfC T) t0 X L tg A sz [.ref th, .ref lo, .ref dl, .int 13, .int ar]) (em_Qi D vwCl (cfC T) L sz (fun r u => r = 1 ∧ em_S (nw_15 d g n) X L tg u.1 u.2.1 u.2.2.1 ∧ u.2.2.2 = z_L_sd_recall_6 A ln d ar g n w M)) 2 1004 (ew_A L sz) := by
  refine em_met (by decide) rfl (Nat.le_of_ble_eq_true rfl) ?_
  intro p e s m below meth c ls hx hb hr hts hown hlocks hml hnm hV hK hN hZ hS hA hl hsz
  subst hsz
  have hl : lv_has ls 5 [(0, .ref th), (1, .ref lo), (2, .ref dl), (3, .int 13), (4, .int ar)] := hl
  refine lv_iload_n hx hb dL_supplierDoes_0 rfl (lv_at hl 3 rfl) ?_
  refine lv_tableIn (tgt := 95) hx hb dL_supplierDoes_1 (by decide) (by decide) rfl rfl ?_
  refine lv_aload_n hx hb dL_supplierDoes_95 rfl (lv_at hl 0 rfl) ?_
  refine lv_aload_n hx hb dL_supplierDoes_96 rfl (lv_at hl 2 rfl) ?_
  refine em_calli (va_runV (As := [.ref dl]) (rest := []) ⟨hx, hb, hml, hown, hts⟩ (c_L_recall_6 l D T t0 X L tg _ A d th hth dl hdl g n w M e17_0 e15_1 e16_2 e7_3 e12_4 hd hn hLS hw qw hcl hnl hnew hM hst) (cwV 1 hts gL_323 rfl rfl rfl (by decide +kernel) ⟨Nat.le_of_ble_eq_true rfl, Nat.le_of_ble_eq_true rfl⟩) (em_preV hK hN hV hZ hS hA hth (cC_0 _ _ _ _) rfl) rfl rfl hl.1 rfl (lv_room (Nat.le_of_ble_eq_true rfl)) dL_supplierDoes_97 ⟨Nat.le_of_ble_eq_true rfl, Nat.le_of_ble_eq_true rfl⟩) hV hS hA (fun r X1 L1 tg1 u H locs hp hV hS => ?_)
  obtain ⟨rfl, hS9, eA9⟩ := hp
  rw [show z_L_sd_recall_6 A ln d ar g n w M = z_L_recall_6 A d g n w M from rfl]
  exact em_zret hx hb hr hlocks hV hS dL_supplierDoes_100 (by decide) ⟨rfl, hS9, eA9⟩

set_option maxHeartbeats 4000000 in
set_option maxRecDepth 100000 in
theorem c_L_sd_recall_no (l : Launch) (D : va_G) (T : Nat → ClassId) (X : Nat → Nat → Nat) (L : List Nat) (tg : Nat → Nat × Nat) (sz : Nat) (A : ew_R) (ln : Nat) (d : Nat) (th : Nat) (hth : ew_in X L tg 0 0 th) (lo : Nat) (hlo : ew_in X L tg 2 ln lo) (dl : Nat) (hdl : ew_in X L tg 4 d dl) (ar : Int32) (e17_0 : ew_in X L tg 17 d (X 17 d)) (hst : ¬ A 17 d 0 = 5) (hst2 : ¬ A 17 d 0 = 6) : Met l yL_supplierDoes wsL_supplierDoes ({ frames := 11, cells := 0, slots := 0, locals := 250 }) (ec_Pc D vwCl (tysA T) (cfC T) X L tg A sz [.ref th, .ref lo, .ref dl, .int 13, .int ar]) (er_Qi D vwCl (cfC T) X L tg sz (fun r u => r = 0 ∧ u = A)) 0 0 (ew_A L sz) := by
  refine ec_met (by decide) rfl (Nat.le_of_ble_eq_true rfl) ?_
  intro p e s m below meth c ls hx hb hr hts hown hlocks hml hV hK hN hS hA hl hsz
  subst hsz
  have hl : lv_has ls 5 [(0, .ref th), (1, .ref lo), (2, .ref dl), (3, .int 13), (4, .int ar)] := hl
  refine lv_iload_n hx hb dL_supplierDoes_0 rfl (lv_at hl 3 rfl) ?_
  refine lv_tableIn (tgt := 95) hx hb dL_supplierDoes_1 (by decide) (by decide) rfl rfl ?_
  refine lv_aload_n hx hb dL_supplierDoes_95 rfl (lv_at hl 0 rfl) ?_
  refine lv_aload_n hx hb dL_supplierDoes_96 rfl (lv_at hl 2 rfl) ?_
  refine er_calli (va_runV (As := [.ref dl]) (rest := []) ⟨hx, hb, hml, hown, hts⟩ (c_L_recall_no l D T X L tg _ A d th hth dl hdl e17_0 hst hst2) (cwV 1 hts gL_323 rfl rfl rfl (by decide +kernel) ⟨Nat.le_of_ble_eq_true rfl, Nat.le_of_ble_eq_true rfl⟩) (ec_preV hK hN hV hth (cC_0 _ _ _ _) rfl) rfl rfl hl.1 rfl (lv_room (Nat.le_of_ble_eq_true rfl)) dL_supplierDoes_97 ⟨Nat.le_of_ble_eq_true rfl, Nat.le_of_ble_eq_true rfl⟩) hV hS hA (fun r u H locs hp hV hS => ?_)
  obtain ⟨rfl, eu9⟩ := hp
  rw [eu9] at hV
  exact er_zret hx hb hr hlocks hV hS dL_supplierDoes_100 (by decide) ⟨rfl, rfl⟩

def z_L_sd_checkIn_ok (A : ew_R) (ln : Nat) (d : Nat) (ar : Int32) (g : Nat) (n : Nat) (w : Nat) (cp : Nat) (b : Nat) (M : Int32) : ew_R :=
  z_L_checkIn_ok A d g n w cp b M
set_option maxHeartbeats 4000000 in
set_option maxRecDepth 100000 in
theorem c_L_sd_checkIn_ok (l : Launch) (D : va_G) (T : Nat → ClassId) (t0 : Nat × Nat) (X : Nat → Nat → Nat) (L : List Nat) (tg : Nat → Nat × Nat) (sz : Nat) (A : ew_R) (ln : Nat) (d : Nat) (th : Nat) (hth : ew_in X L tg 0 0 th) (lo : Nat) (hlo : ew_in X L tg 2 ln lo) (dl : Nat) (hdl : ew_in X L tg 4 d dl) (ar : Int32) (g : Nat) (n : Nat) (w : Nat) (cp : Nat) (b : Nat) (M : Int32) (e17_0 : ew_in X L tg 17 d (X 17 d)) (e15_1 : ew_in X L tg 15 d (X 15 d)) (e16_2 : ew_in X L tg 16 d (X 16 d)) (e7_3 : ew_in X L tg 7 0 (X 7 0)) (e12_4 : ew_in X L tg 12 0 (X 12 0)) (e1_5 : ew_in X L tg 1 cp (X 1 cp)) (e11_6 : ew_in X L tg 11 0 (X 11 0)) (hd : d < 192) (hn : n < 512) (hLS : lsC 16 20 t0 X L tg A d g n) (hw : w ≤ 64) (qw : A 7 0 1 = nI w) (hcl : clC X L tg A) (hnl : ∀ b ∈ L, (19, 512 * d + n) ≠ tg b) (hnew : ∀ b ∈ L, (20, 64 * d + g + 1) ≠ tg b) (hcp : cp < 32) (q4 : A 4 d 4 = nI cp) (hb6 : b < 6) (q0 : A 4 d 0 = nI b) (hM : (10 * (if 0 < (A 0 0 7) - (A 17 d 1) then (A 0 0 7) - (A 17 d 1) else 0)) + (A 17 d 2) = M) (hst : A 17 d 0 = 8) : Met l yL_supplierDoes wsL_supplierDoes ({ frames := 11, cells := 2, slots := 1004, locals := 350 }) (em_Pc D vwCl (tysA T) (cfC T) t0 X L tg A sz [.ref th, .ref lo, .ref dl, .int 14, .int ar]) (em_Qi D vwCl (cfC T) L sz (fun r u => r = 1 ∧ em_S (nw_15 d g n) X L tg u.1 u.2.1 u.2.2.1 ∧ u.2.2.2 = z_L_sd_checkIn_ok A ln d ar g n w cp b M)) 2 1004 (ew_A L sz) := by
  refine em_met (by decide) rfl (Nat.le_of_ble_eq_true rfl) ?_
  intro p e s m below meth c ls hx hb hr hts hown hlocks hml hnm hV hK hN hZ hS hA hl hsz
  subst hsz
  have hl : lv_has ls 5 [(0, .ref th), (1, .ref lo), (2, .ref dl), (3, .int 14), (4, .int ar)] := hl
  refine lv_iload_n hx hb dL_supplierDoes_0 rfl (lv_at hl 3 rfl) ?_
  refine lv_tableIn (tgt := 101) hx hb dL_supplierDoes_1 (by decide) (by decide) rfl rfl ?_
  refine lv_aload_n hx hb dL_supplierDoes_101 rfl (lv_at hl 0 rfl) ?_
  refine lv_aload_n hx hb dL_supplierDoes_102 rfl (lv_at hl 2 rfl) ?_
  refine em_calli (va_runV (As := [.ref dl]) (rest := []) ⟨hx, hb, hml, hown, hts⟩ (c_L_checkIn_ok l D T t0 X L tg _ A d th hth dl hdl g n w cp b M e17_0 e15_1 e16_2 e7_3 e12_4 e1_5 e11_6 hd hn hLS hw qw hcl hnl hnew hcp q4 hb6 q0 hM hst) (cwV 1 hts gL_326 rfl rfl rfl (by decide +kernel) ⟨Nat.le_of_ble_eq_true rfl, Nat.le_of_ble_eq_true rfl⟩) (em_preV hK hN hV hZ hS hA hth (cC_0 _ _ _ _) rfl) rfl rfl hl.1 rfl (lv_room (Nat.le_of_ble_eq_true rfl)) dL_supplierDoes_103 ⟨Nat.le_of_ble_eq_true rfl, Nat.le_of_ble_eq_true rfl⟩) hV hS hA (fun r X1 L1 tg1 u H locs hp hV hS => ?_)
  obtain ⟨rfl, hS9, eA9⟩ := hp
  rw [show z_L_sd_checkIn_ok A ln d ar g n w cp b M = z_L_checkIn_ok A d g n w cp b M from rfl]
  exact em_zret hx hb hr hlocks hV hS dL_supplierDoes_106 (by decide) ⟨rfl, hS9, eA9⟩

set_option maxHeartbeats 4000000 in
set_option maxRecDepth 100000 in
theorem c_L_sd_checkIn_no (l : Launch) (D : va_G) (T : Nat → ClassId) (X : Nat → Nat → Nat) (L : List Nat) (tg : Nat → Nat × Nat) (sz : Nat) (A : ew_R) (ln : Nat) (d : Nat) (th : Nat) (hth : ew_in X L tg 0 0 th) (lo : Nat) (hlo : ew_in X L tg 2 ln lo) (dl : Nat) (hdl : ew_in X L tg 4 d dl) (ar : Int32) (e17_0 : ew_in X L tg 17 d (X 17 d)) (hst : ¬ A 17 d 0 = 8) : Met l yL_supplierDoes wsL_supplierDoes ({ frames := 11, cells := 0, slots := 0, locals := 250 }) (ec_Pc D vwCl (tysA T) (cfC T) X L tg A sz [.ref th, .ref lo, .ref dl, .int 14, .int ar]) (er_Qi D vwCl (cfC T) X L tg sz (fun r u => r = 0 ∧ u = A)) 0 0 (ew_A L sz) := by
  refine ec_met (by decide) rfl (Nat.le_of_ble_eq_true rfl) ?_
  intro p e s m below meth c ls hx hb hr hts hown hlocks hml hV hK hN hS hA hl hsz
  subst hsz
  have hl : lv_has ls 5 [(0, .ref th), (1, .ref lo), (2, .ref dl), (3, .int 14), (4, .int ar)] := hl
  refine lv_iload_n hx hb dL_supplierDoes_0 rfl (lv_at hl 3 rfl) ?_
  refine lv_tableIn (tgt := 101) hx hb dL_supplierDoes_1 (by decide) (by decide) rfl rfl ?_
  refine lv_aload_n hx hb dL_supplierDoes_101 rfl (lv_at hl 0 rfl) ?_
  refine lv_aload_n hx hb dL_supplierDoes_102 rfl (lv_at hl 2 rfl) ?_
  refine er_calli (va_runV (As := [.ref dl]) (rest := []) ⟨hx, hb, hml, hown, hts⟩ (c_L_checkIn_no l D T X L tg _ A d th hth dl hdl e17_0 hst) (cwV 1 hts gL_326 rfl rfl rfl (by decide +kernel) ⟨Nat.le_of_ble_eq_true rfl, Nat.le_of_ble_eq_true rfl⟩) (ec_preV hK hN hV hth (cC_0 _ _ _ _) rfl) rfl rfl hl.1 rfl (lv_room (Nat.le_of_ble_eq_true rfl)) dL_supplierDoes_103 ⟨Nat.le_of_ble_eq_true rfl, Nat.le_of_ble_eq_true rfl⟩) hV hS hA (fun r u H locs hp hV hS => ?_)
  obtain ⟨rfl, eu9⟩ := hp
  rw [eu9] at hV
  exact er_zret hx hb hr hlocks hV hS dL_supplierDoes_106 (by decide) ⟨rfl, rfl⟩

def z_L_sd_promiseCopy_ok (A : ew_R) (ln : Nat) (d : Nat) (cp : Nat) (g : Nat) (n : Nat) (w : Nat) (nc : Nat) : ew_R :=
  z_L_promiseCopy_ok A ln d cp g n w
set_option maxHeartbeats 4000000 in
set_option maxRecDepth 100000 in
theorem c_L_sd_promiseCopy_ok (l : Launch) (D : va_G) (T : Nat → ClassId) (t0 : Nat × Nat) (X : Nat → Nat → Nat) (L : List Nat) (tg : Nat → Nat × Nat) (sz : Nat) (A : ew_R) (ln : Nat) (d : Nat) (th : Nat) (hth : ew_in X L tg 0 0 th) (lo : Nat) (hlo : ew_in X L tg 2 ln lo) (dl : Nat) (hdl : ew_in X L tg 4 d dl) (cp : Nat) (g : Nat) (n : Nat) (w : Nat) (nc : Nat) (e17_0 : ew_in X L tg 17 d (X 17 d)) (e15_1 : ew_in X L tg 15 d (X 15 d)) (e16_2 : ew_in X L tg 16 d (X 16 d)) (e7_3 : ew_in X L tg 7 0 (X 7 0)) (e12_4 : ew_in X L tg 12 0 (X 12 0)) (e1_5 : ew_in X L tg 1 cp (X 1 cp)) (e9_6 : ew_in X L tg 9 0 (X 9 0)) (hd : d < 192) (hn : n < 512) (hLS : lsC 16 20 t0 X L tg A d g n) (hw : w ≤ 64) (qw : A 7 0 1 = nI w) (hcl : clC X L tg A) (hnl : ∀ b ∈ L, (19, 512 * d + n) ≠ tg b) (hnew : ∀ b ∈ L, (20, 64 * d + g + 1) ≠ tg b) (hcp : cp < 32) (hst : A 17 d 0 = 1) (hcg : z_Copy_canGo A cp (A 4 d 0) (A 2 ln 2) = 1) (hnc : nc ≤ 32) (qnc : A 0 0 5 = nI nc) (hl1 : cp < nc) (qfc : ¬ A 9 0 cp = 0) : Met l yL_supplierDoes wsL_supplierDoes ({ frames := 11, cells := 2, slots := 1004, locals := 350 }) (em_Pc D vwCl (tysA T) (cfC T) t0 X L tg A sz [.ref th, .ref lo, .ref dl, .int 7, .int (nI cp)]) (em_Qi D vwCl (cfC T) L sz (fun r u => r = 1 ∧ em_S (nw_15 d g n) X L tg u.1 u.2.1 u.2.2.1 ∧ u.2.2.2 = z_L_sd_promiseCopy_ok A ln d cp g n w nc)) 2 1004 (ew_A L sz) := by
  refine em_met (by decide) rfl (Nat.le_of_ble_eq_true rfl) ?_
  intro p e s m below meth c ls hx hb hr hts hown hlocks hml hnm hV hK hN hZ hS hA hl hsz
  subst hsz
  have hl : lv_has ls 5 [(0, .ref th), (1, .ref lo), (2, .ref dl), (3, .int 7), (4, .int (nI cp))] := hl
  refine lv_iload_n hx hb dL_supplierDoes_0 rfl (lv_at hl 3 rfl) ?_
  refine lv_tableIn (tgt := 48) hx hb dL_supplierDoes_1 (by decide) (by decide) rfl rfl ?_
  refine lv_aload_n hx hb dL_supplierDoes_48 rfl (lv_at hl 0 rfl) ?_
  refine lv_aload_n hx hb dL_supplierDoes_49 rfl (lv_at hl 1 rfl) ?_
  refine lv_aload_n hx hb dL_supplierDoes_50 rfl (lv_at hl 2 rfl) ?_
  refine lv_aload_n hx hb dL_supplierDoes_51 rfl (lv_at hl 0 rfl) ?_
  refine lv_iload hx hb dL_supplierDoes_52 (lv_at hl 4 rfl) ?_
  refine er_callq (va_runV (As := [.int (nI cp)]) (rest := [.ref dl, .ref lo, .ref th]) ⟨hx, hb, hml, hown, hts⟩ (c_L_copyAt_ok l D T X L tg _ A th hth cp nc e9_6 e1_5 hnc qnc hl1 qfc) (cwV 1 hts gL_219 rfl rfl rfl (by decide +kernel) ⟨Nat.le_of_ble_eq_true rfl, Nat.le_of_ble_eq_true rfl⟩) (ec_preV hK hN hV hth (cC_0 _ _ _ _) rfl) rfl rfl hl.1 rfl (lv_room (Nat.le_of_ble_eq_true rfl)) dL_supplierDoes_54 ⟨Nat.le_of_ble_eq_true rfl, Nat.le_of_ble_eq_true rfl⟩) hV hS hA (fun r u H locs hp hV hS => ?_)
  obtain ⟨rfl, eu9⟩ := hp
  rw [eu9] at hV
  refine em_calli (va_runV (As := [.ref lo, .ref dl, .ref (X 1 cp)]) (rest := []) ⟨hx, hb, hml, hown, hts⟩ (c_L_promiseCopy_ok l D T t0 X L tg _ A ln d cp th hth lo hlo dl hdl (X 1 cp) e1_5 g n w e17_0 e15_1 e16_2 e7_3 e12_4 e1_5 hd hn hLS hw qw hcl hnl hnew hcp hst hcg) (cwV 3 hts gL_301 rfl rfl rfl (by decide +kernel) ⟨Nat.le_of_ble_eq_true rfl, Nat.le_of_ble_eq_true rfl⟩) (em_preV hK hN hV hZ hS hA hth (cC_0 _ _ _ _) rfl) rfl rfl hl.1 rfl (lv_room (Nat.le_of_ble_eq_true rfl)) dL_supplierDoes_57 ⟨Nat.le_of_ble_eq_true rfl, Nat.le_of_ble_eq_true rfl⟩) hV hS hA (fun r X1 L1 tg1 u H locs hp hV hS => ?_)
  obtain ⟨rfl, hS9, eA9⟩ := hp
  rw [show z_L_sd_promiseCopy_ok A ln d cp g n w nc = z_L_promiseCopy_ok A ln d cp g n w from rfl]
  exact em_zret hx hb hr hlocks hV hS dL_supplierDoes_60 (by decide) ⟨rfl, hS9, eA9⟩

set_option maxHeartbeats 4000000 in
set_option maxRecDepth 100000 in
theorem c_L_sd_promiseCopy_no (l : Launch) (D : va_G) (T : Nat → ClassId) (X : Nat → Nat → Nat) (L : List Nat) (tg : Nat → Nat × Nat) (sz : Nat) (A : ew_R) (ln : Nat) (d : Nat) (th : Nat) (hth : ew_in X L tg 0 0 th) (lo : Nat) (hlo : ew_in X L tg 2 ln lo) (dl : Nat) (hdl : ew_in X L tg 4 d dl) (cp : Nat) (nc : Nat) (e17_0 : ew_in X L tg 17 d (X 17 d)) (e1_1 : ew_in X L tg 1 cp (X 1 cp)) (e9_2 : ew_in X L tg 9 0 (X 9 0)) (hst : ¬ A 17 d 0 = 1) (hnc : nc ≤ 32) (qnc : A 0 0 5 = nI nc) (hl1 : cp < nc) (qfc : ¬ A 9 0 cp = 0) : Met l yL_supplierDoes wsL_supplierDoes ({ frames := 11, cells := 0, slots := 0, locals := 250 }) (ec_Pc D vwCl (tysA T) (cfC T) X L tg A sz [.ref th, .ref lo, .ref dl, .int 7, .int (nI cp)]) (er_Qi D vwCl (cfC T) X L tg sz (fun r u => r = 0 ∧ u = A)) 0 0 (ew_A L sz) := by
  refine ec_met (by decide) rfl (Nat.le_of_ble_eq_true rfl) ?_
  intro p e s m below meth c ls hx hb hr hts hown hlocks hml hV hK hN hS hA hl hsz
  subst hsz
  have hl : lv_has ls 5 [(0, .ref th), (1, .ref lo), (2, .ref dl), (3, .int 7), (4, .int (nI cp))] := hl
  refine lv_iload_n hx hb dL_supplierDoes_0 rfl (lv_at hl 3 rfl) ?_
  refine lv_tableIn (tgt := 48) hx hb dL_supplierDoes_1 (by decide) (by decide) rfl rfl ?_
  refine lv_aload_n hx hb dL_supplierDoes_48 rfl (lv_at hl 0 rfl) ?_
  refine lv_aload_n hx hb dL_supplierDoes_49 rfl (lv_at hl 1 rfl) ?_
  refine lv_aload_n hx hb dL_supplierDoes_50 rfl (lv_at hl 2 rfl) ?_
  refine lv_aload_n hx hb dL_supplierDoes_51 rfl (lv_at hl 0 rfl) ?_
  refine lv_iload hx hb dL_supplierDoes_52 (lv_at hl 4 rfl) ?_
  refine er_callq (va_runV (As := [.int (nI cp)]) (rest := [.ref dl, .ref lo, .ref th]) ⟨hx, hb, hml, hown, hts⟩ (c_L_copyAt_ok l D T X L tg _ A th hth cp nc e9_2 e1_1 hnc qnc hl1 qfc) (cwV 1 hts gL_219 rfl rfl rfl (by decide +kernel) ⟨Nat.le_of_ble_eq_true rfl, Nat.le_of_ble_eq_true rfl⟩) (ec_preV hK hN hV hth (cC_0 _ _ _ _) rfl) rfl rfl hl.1 rfl (lv_room (Nat.le_of_ble_eq_true rfl)) dL_supplierDoes_54 ⟨Nat.le_of_ble_eq_true rfl, Nat.le_of_ble_eq_true rfl⟩) hV hS hA (fun r u H locs hp hV hS => ?_)
  obtain ⟨rfl, eu9⟩ := hp
  rw [eu9] at hV
  refine er_calli (va_runV (As := [.ref lo, .ref dl, .ref (X 1 cp)]) (rest := []) ⟨hx, hb, hml, hown, hts⟩ (c_L_promiseCopy_no l D T X L tg _ A ln d cp th hth lo hlo dl hdl (X 1 cp) e1_1 e17_0 hst) (cwV 3 hts gL_301 rfl rfl rfl (by decide +kernel) ⟨Nat.le_of_ble_eq_true rfl, Nat.le_of_ble_eq_true rfl⟩) (ec_preV hK hN hV hth (cC_0 _ _ _ _) rfl) rfl rfl hl.1 rfl (lv_room (Nat.le_of_ble_eq_true rfl)) dL_supplierDoes_57 ⟨Nat.le_of_ble_eq_true rfl, Nat.le_of_ble_eq_true rfl⟩) hV hS hA (fun r u H locs hp hV hS => ?_)
  obtain ⟨rfl, eu9⟩ := hp
  rw [eu9] at hV
  exact er_zret hx hb hr hlocks hV hS dL_supplierDoes_60 (by decide) ⟨rfl, rfl⟩

set_option maxHeartbeats 4000000 in
set_option maxRecDepth 100000 in
theorem c_L_sd_promiseCopy_nog (l : Launch) (D : va_G) (T : Nat → ClassId) (X : Nat → Nat → Nat) (L : List Nat) (tg : Nat → Nat × Nat) (sz : Nat) (A : ew_R) (ln : Nat) (d : Nat) (th : Nat) (hth : ew_in X L tg 0 0 th) (lo : Nat) (hlo : ew_in X L tg 2 ln lo) (dl : Nat) (hdl : ew_in X L tg 4 d dl) (cp : Nat) (nc : Nat) (e17_0 : ew_in X L tg 17 d (X 17 d)) (e1_1 : ew_in X L tg 1 cp (X 1 cp)) (e9_2 : ew_in X L tg 9 0 (X 9 0)) (hst : A 17 d 0 = 1) (hcg : z_Copy_canGo A cp (A 4 d 0) (A 2 ln 2) = 0) (hnc : nc ≤ 32) (qnc : A 0 0 5 = nI nc) (hl1 : cp < nc) (qfc : ¬ A 9 0 cp = 0) : Met l yL_supplierDoes wsL_supplierDoes ({ frames := 11, cells := 0, slots := 0, locals := 250 }) (ec_Pc D vwCl (tysA T) (cfC T) X L tg A sz [.ref th, .ref lo, .ref dl, .int 7, .int (nI cp)]) (er_Qi D vwCl (cfC T) X L tg sz (fun r u => r = 0 ∧ u = A)) 0 0 (ew_A L sz) := by
  refine ec_met (by decide) rfl (Nat.le_of_ble_eq_true rfl) ?_
  intro p e s m below meth c ls hx hb hr hts hown hlocks hml hV hK hN hS hA hl hsz
  subst hsz
  have hl : lv_has ls 5 [(0, .ref th), (1, .ref lo), (2, .ref dl), (3, .int 7), (4, .int (nI cp))] := hl
  refine lv_iload_n hx hb dL_supplierDoes_0 rfl (lv_at hl 3 rfl) ?_
  refine lv_tableIn (tgt := 48) hx hb dL_supplierDoes_1 (by decide) (by decide) rfl rfl ?_
  refine lv_aload_n hx hb dL_supplierDoes_48 rfl (lv_at hl 0 rfl) ?_
  refine lv_aload_n hx hb dL_supplierDoes_49 rfl (lv_at hl 1 rfl) ?_
  refine lv_aload_n hx hb dL_supplierDoes_50 rfl (lv_at hl 2 rfl) ?_
  refine lv_aload_n hx hb dL_supplierDoes_51 rfl (lv_at hl 0 rfl) ?_
  refine lv_iload hx hb dL_supplierDoes_52 (lv_at hl 4 rfl) ?_
  refine er_callq (va_runV (As := [.int (nI cp)]) (rest := [.ref dl, .ref lo, .ref th]) ⟨hx, hb, hml, hown, hts⟩ (c_L_copyAt_ok l D T X L tg _ A th hth cp nc e9_2 e1_1 hnc qnc hl1 qfc) (cwV 1 hts gL_219 rfl rfl rfl (by decide +kernel) ⟨Nat.le_of_ble_eq_true rfl, Nat.le_of_ble_eq_true rfl⟩) (ec_preV hK hN hV hth (cC_0 _ _ _ _) rfl) rfl rfl hl.1 rfl (lv_room (Nat.le_of_ble_eq_true rfl)) dL_supplierDoes_54 ⟨Nat.le_of_ble_eq_true rfl, Nat.le_of_ble_eq_true rfl⟩) hV hS hA (fun r u H locs hp hV hS => ?_)
  obtain ⟨rfl, eu9⟩ := hp
  rw [eu9] at hV
  refine er_calli (va_runV (As := [.ref lo, .ref dl, .ref (X 1 cp)]) (rest := []) ⟨hx, hb, hml, hown, hts⟩ (c_L_promiseCopy_nog l D T X L tg _ A ln d cp th hth lo hlo dl hdl (X 1 cp) e1_1 e17_0 hst hcg) (cwV 3 hts gL_301 rfl rfl rfl (by decide +kernel) ⟨Nat.le_of_ble_eq_true rfl, Nat.le_of_ble_eq_true rfl⟩) (ec_preV hK hN hV hth (cC_0 _ _ _ _) rfl) rfl rfl hl.1 rfl (lv_room (Nat.le_of_ble_eq_true rfl)) dL_supplierDoes_57 ⟨Nat.le_of_ble_eq_true rfl, Nat.le_of_ble_eq_true rfl⟩) hV hS hA (fun r u H locs hp hV hS => ?_)
  obtain ⟨rfl, eu9⟩ := hp
  rw [eu9] at hV
  exact er_zret hx hb hr hlocks hV hS dL_supplierDoes_60 (by decide) ⟨rfl, rfl⟩

set_option maxHeartbeats 4000000 in
set_option maxRecDepth 100000 in
theorem c_L_sd_promiseCopy_non_neg (l : Launch) (D : va_G) (T : Nat → ClassId) (X : Nat → Nat → Nat) (L : List Nat) (tg : Nat → Nat × Nat) (sz : Nat) (A : ew_R) (ln : Nat) (d : Nat) (th : Nat) (hth : ew_in X L tg 0 0 th) (lo : Nat) (hlo : ew_in X L tg 2 ln lo) (dl : Nat) (hdl : ew_in X L tg 4 d dl) (ar : Int32) (e17_0 : ew_in X L tg 17 d (X 17 d)) (hst : A 17 d 0 = 1) (h0c : ar < 0) : Met l yL_supplierDoes wsL_supplierDoes ({ frames := 11, cells := 0, slots := 0, locals := 250 }) (ec_Pc D vwCl (tysA T) (cfC T) X L tg A sz [.ref th, .ref lo, .ref dl, .int 7, .int ar]) (er_Qi D vwCl (cfC T) X L tg sz (fun r u => r = 0 ∧ u = A)) 0 0 (ew_A L sz) := by
  refine ec_met (by decide) rfl (Nat.le_of_ble_eq_true rfl) ?_
  intro p e s m below meth c ls hx hb hr hts hown hlocks hml hV hK hN hS hA hl hsz
  subst hsz
  have hl : lv_has ls 5 [(0, .ref th), (1, .ref lo), (2, .ref dl), (3, .int 7), (4, .int ar)] := hl
  refine lv_iload_n hx hb dL_supplierDoes_0 rfl (lv_at hl 3 rfl) ?_
  refine lv_tableIn (tgt := 48) hx hb dL_supplierDoes_1 (by decide) (by decide) rfl rfl ?_
  refine lv_aload_n hx hb dL_supplierDoes_48 rfl (lv_at hl 0 rfl) ?_
  refine lv_aload_n hx hb dL_supplierDoes_49 rfl (lv_at hl 1 rfl) ?_
  refine lv_aload_n hx hb dL_supplierDoes_50 rfl (lv_at hl 2 rfl) ?_
  refine lv_aload_n hx hb dL_supplierDoes_51 rfl (lv_at hl 0 rfl) ?_
  refine lv_iload hx hb dL_supplierDoes_52 (lv_at hl 4 rfl) ?_
  refine er_callq (va_runV (As := [.int ar]) (rest := [.ref dl, .ref lo, .ref th]) ⟨hx, hb, hml, hown, hts⟩ (c_L_copyAt_neg l D T X L tg _ A th hth ar h0c) (cwV 1 hts gL_219 rfl rfl rfl (by decide +kernel) ⟨Nat.le_of_ble_eq_true rfl, Nat.le_of_ble_eq_true rfl⟩) (ec_preV hK hN hV hth (cC_0 _ _ _ _) rfl) rfl rfl hl.1 rfl (lv_room (Nat.le_of_ble_eq_true rfl)) dL_supplierDoes_54 ⟨Nat.le_of_ble_eq_true rfl, Nat.le_of_ble_eq_true rfl⟩) hV hS hA (fun r u H locs hp hV hS => ?_)
  obtain ⟨rfl, eu9⟩ := hp
  rw [eu9] at hV
  refine er_calli (va_runV (As := [.ref lo, .ref dl, .null]) (rest := []) ⟨hx, hb, hml, hown, hts⟩ (c_L_promiseCopy_non l D T X L tg _ A ln d th hth lo hlo dl hdl e17_0 hst) (cwV 3 hts gL_301 rfl rfl rfl (by decide +kernel) ⟨Nat.le_of_ble_eq_true rfl, Nat.le_of_ble_eq_true rfl⟩) (ec_preV hK hN hV hth (cC_0 _ _ _ _) rfl) rfl rfl hl.1 rfl (lv_room (Nat.le_of_ble_eq_true rfl)) dL_supplierDoes_57 ⟨Nat.le_of_ble_eq_true rfl, Nat.le_of_ble_eq_true rfl⟩) hV hS hA (fun r u H locs hp hV hS => ?_)
  obtain ⟨rfl, eu9⟩ := hp
  rw [eu9] at hV
  exact er_zret hx hb hr hlocks hV hS dL_supplierDoes_60 (by decide) ⟨rfl, rfl⟩

set_option maxHeartbeats 4000000 in
set_option maxRecDepth 100000 in
theorem c_L_sd_promiseCopy_non_big (l : Launch) (D : va_G) (T : Nat → ClassId) (X : Nat → Nat → Nat) (L : List Nat) (tg : Nat → Nat × Nat) (sz : Nat) (A : ew_R) (ln : Nat) (d : Nat) (th : Nat) (hth : ew_in X L tg 0 0 th) (lo : Nat) (hlo : ew_in X L tg 2 ln lo) (dl : Nat) (hdl : ew_in X L tg 4 d dl) (ar : Int32) (nc : Nat) (e17_0 : ew_in X L tg 17 d (X 17 d)) (hst : A 17 d 0 = 1) (qnc : A 0 0 5 = nI nc) (h0c : ¬ ar < 0) (h1c : nI nc ≤ ar) : Met l yL_supplierDoes wsL_supplierDoes ({ frames := 11, cells := 0, slots := 0, locals := 250 }) (ec_Pc D vwCl (tysA T) (cfC T) X L tg A sz [.ref th, .ref lo, .ref dl, .int 7, .int ar]) (er_Qi D vwCl (cfC T) X L tg sz (fun r u => r = 0 ∧ u = A)) 0 0 (ew_A L sz) := by
  refine ec_met (by decide) rfl (Nat.le_of_ble_eq_true rfl) ?_
  intro p e s m below meth c ls hx hb hr hts hown hlocks hml hV hK hN hS hA hl hsz
  subst hsz
  have hl : lv_has ls 5 [(0, .ref th), (1, .ref lo), (2, .ref dl), (3, .int 7), (4, .int ar)] := hl
  refine lv_iload_n hx hb dL_supplierDoes_0 rfl (lv_at hl 3 rfl) ?_
  refine lv_tableIn (tgt := 48) hx hb dL_supplierDoes_1 (by decide) (by decide) rfl rfl ?_
  refine lv_aload_n hx hb dL_supplierDoes_48 rfl (lv_at hl 0 rfl) ?_
  refine lv_aload_n hx hb dL_supplierDoes_49 rfl (lv_at hl 1 rfl) ?_
  refine lv_aload_n hx hb dL_supplierDoes_50 rfl (lv_at hl 2 rfl) ?_
  refine lv_aload_n hx hb dL_supplierDoes_51 rfl (lv_at hl 0 rfl) ?_
  refine lv_iload hx hb dL_supplierDoes_52 (lv_at hl 4 rfl) ?_
  refine er_callq (va_runV (As := [.int ar]) (rest := [.ref dl, .ref lo, .ref th]) ⟨hx, hb, hml, hown, hts⟩ (c_L_copyAt_big l D T X L tg _ A th hth ar nc qnc h0c h1c) (cwV 1 hts gL_219 rfl rfl rfl (by decide +kernel) ⟨Nat.le_of_ble_eq_true rfl, Nat.le_of_ble_eq_true rfl⟩) (ec_preV hK hN hV hth (cC_0 _ _ _ _) rfl) rfl rfl hl.1 rfl (lv_room (Nat.le_of_ble_eq_true rfl)) dL_supplierDoes_54 ⟨Nat.le_of_ble_eq_true rfl, Nat.le_of_ble_eq_true rfl⟩) hV hS hA (fun r u H locs hp hV hS => ?_)
  obtain ⟨rfl, eu9⟩ := hp
  rw [eu9] at hV
  refine er_calli (va_runV (As := [.ref lo, .ref dl, .null]) (rest := []) ⟨hx, hb, hml, hown, hts⟩ (c_L_promiseCopy_non l D T X L tg _ A ln d th hth lo hlo dl hdl e17_0 hst) (cwV 3 hts gL_301 rfl rfl rfl (by decide +kernel) ⟨Nat.le_of_ble_eq_true rfl, Nat.le_of_ble_eq_true rfl⟩) (ec_preV hK hN hV hth (cC_0 _ _ _ _) rfl) rfl rfl hl.1 rfl (lv_room (Nat.le_of_ble_eq_true rfl)) dL_supplierDoes_57 ⟨Nat.le_of_ble_eq_true rfl, Nat.le_of_ble_eq_true rfl⟩) hV hS hA (fun r u H locs hp hV hS => ?_)
  obtain ⟨rfl, eu9⟩ := hp
  rw [eu9] at hV
  exact er_zret hx hb hr hlocks hV hS dL_supplierDoes_60 (by decide) ⟨rfl, rfl⟩

set_option maxHeartbeats 4000000 in
set_option maxRecDepth 100000 in
theorem c_L_sd_promiseCopy_no1_neg (l : Launch) (D : va_G) (T : Nat → ClassId) (X : Nat → Nat → Nat) (L : List Nat) (tg : Nat → Nat × Nat) (sz : Nat) (A : ew_R) (ln : Nat) (d : Nat) (th : Nat) (hth : ew_in X L tg 0 0 th) (lo : Nat) (hlo : ew_in X L tg 2 ln lo) (dl : Nat) (hdl : ew_in X L tg 4 d dl) (ar : Int32) (e17_0 : ew_in X L tg 17 d (X 17 d)) (hst : ¬ A 17 d 0 = 1) (h0c : ar < 0) : Met l yL_supplierDoes wsL_supplierDoes ({ frames := 11, cells := 0, slots := 0, locals := 250 }) (ec_Pc D vwCl (tysA T) (cfC T) X L tg A sz [.ref th, .ref lo, .ref dl, .int 7, .int ar]) (er_Qi D vwCl (cfC T) X L tg sz (fun r u => r = 0 ∧ u = A)) 0 0 (ew_A L sz) := by
  refine ec_met (by decide) rfl (Nat.le_of_ble_eq_true rfl) ?_
  intro p e s m below meth c ls hx hb hr hts hown hlocks hml hV hK hN hS hA hl hsz
  subst hsz
  have hl : lv_has ls 5 [(0, .ref th), (1, .ref lo), (2, .ref dl), (3, .int 7), (4, .int ar)] := hl
  refine lv_iload_n hx hb dL_supplierDoes_0 rfl (lv_at hl 3 rfl) ?_
  refine lv_tableIn (tgt := 48) hx hb dL_supplierDoes_1 (by decide) (by decide) rfl rfl ?_
  refine lv_aload_n hx hb dL_supplierDoes_48 rfl (lv_at hl 0 rfl) ?_
  refine lv_aload_n hx hb dL_supplierDoes_49 rfl (lv_at hl 1 rfl) ?_
  refine lv_aload_n hx hb dL_supplierDoes_50 rfl (lv_at hl 2 rfl) ?_
  refine lv_aload_n hx hb dL_supplierDoes_51 rfl (lv_at hl 0 rfl) ?_
  refine lv_iload hx hb dL_supplierDoes_52 (lv_at hl 4 rfl) ?_
  refine er_callq (va_runV (As := [.int ar]) (rest := [.ref dl, .ref lo, .ref th]) ⟨hx, hb, hml, hown, hts⟩ (c_L_copyAt_neg l D T X L tg _ A th hth ar h0c) (cwV 1 hts gL_219 rfl rfl rfl (by decide +kernel) ⟨Nat.le_of_ble_eq_true rfl, Nat.le_of_ble_eq_true rfl⟩) (ec_preV hK hN hV hth (cC_0 _ _ _ _) rfl) rfl rfl hl.1 rfl (lv_room (Nat.le_of_ble_eq_true rfl)) dL_supplierDoes_54 ⟨Nat.le_of_ble_eq_true rfl, Nat.le_of_ble_eq_true rfl⟩) hV hS hA (fun r u H locs hp hV hS => ?_)
  obtain ⟨rfl, eu9⟩ := hp
  rw [eu9] at hV
  refine er_calli (va_runV (As := [.ref lo, .ref dl, .null]) (rest := []) ⟨hx, hb, hml, hown, hts⟩ (c_L_promiseCopy_no1 l D T X L tg _ A ln d th hth lo hlo dl hdl e17_0 hst) (cwV 3 hts gL_301 rfl rfl rfl (by decide +kernel) ⟨Nat.le_of_ble_eq_true rfl, Nat.le_of_ble_eq_true rfl⟩) (ec_preV hK hN hV hth (cC_0 _ _ _ _) rfl) rfl rfl hl.1 rfl (lv_room (Nat.le_of_ble_eq_true rfl)) dL_supplierDoes_57 ⟨Nat.le_of_ble_eq_true rfl, Nat.le_of_ble_eq_true rfl⟩) hV hS hA (fun r u H locs hp hV hS => ?_)
  obtain ⟨rfl, eu9⟩ := hp
  rw [eu9] at hV
  exact er_zret hx hb hr hlocks hV hS dL_supplierDoes_60 (by decide) ⟨rfl, rfl⟩

set_option maxHeartbeats 4000000 in
set_option maxRecDepth 100000 in
theorem c_L_sd_promiseCopy_no1_big (l : Launch) (D : va_G) (T : Nat → ClassId) (X : Nat → Nat → Nat) (L : List Nat) (tg : Nat → Nat × Nat) (sz : Nat) (A : ew_R) (ln : Nat) (d : Nat) (th : Nat) (hth : ew_in X L tg 0 0 th) (lo : Nat) (hlo : ew_in X L tg 2 ln lo) (dl : Nat) (hdl : ew_in X L tg 4 d dl) (ar : Int32) (nc : Nat) (e17_0 : ew_in X L tg 17 d (X 17 d)) (hst : ¬ A 17 d 0 = 1) (qnc : A 0 0 5 = nI nc) (h0c : ¬ ar < 0) (h1c : nI nc ≤ ar) : Met l yL_supplierDoes wsL_supplierDoes ({ frames := 11, cells := 0, slots := 0, locals := 250 }) (ec_Pc D vwCl (tysA T) (cfC T) X L tg A sz [.ref th, .ref lo, .ref dl, .int 7, .int ar]) (er_Qi D vwCl (cfC T) X L tg sz (fun r u => r = 0 ∧ u = A)) 0 0 (ew_A L sz) := by
  refine ec_met (by decide) rfl (Nat.le_of_ble_eq_true rfl) ?_
  intro p e s m below meth c ls hx hb hr hts hown hlocks hml hV hK hN hS hA hl hsz
  subst hsz
  have hl : lv_has ls 5 [(0, .ref th), (1, .ref lo), (2, .ref dl), (3, .int 7), (4, .int ar)] := hl
  refine lv_iload_n hx hb dL_supplierDoes_0 rfl (lv_at hl 3 rfl) ?_
  refine lv_tableIn (tgt := 48) hx hb dL_supplierDoes_1 (by decide) (by decide) rfl rfl ?_
  refine lv_aload_n hx hb dL_supplierDoes_48 rfl (lv_at hl 0 rfl) ?_
  refine lv_aload_n hx hb dL_supplierDoes_49 rfl (lv_at hl 1 rfl) ?_
  refine lv_aload_n hx hb dL_supplierDoes_50 rfl (lv_at hl 2 rfl) ?_
  refine lv_aload_n hx hb dL_supplierDoes_51 rfl (lv_at hl 0 rfl) ?_
  refine lv_iload hx hb dL_supplierDoes_52 (lv_at hl 4 rfl) ?_
  refine er_callq (va_runV (As := [.int ar]) (rest := [.ref dl, .ref lo, .ref th]) ⟨hx, hb, hml, hown, hts⟩ (c_L_copyAt_big l D T X L tg _ A th hth ar nc qnc h0c h1c) (cwV 1 hts gL_219 rfl rfl rfl (by decide +kernel) ⟨Nat.le_of_ble_eq_true rfl, Nat.le_of_ble_eq_true rfl⟩) (ec_preV hK hN hV hth (cC_0 _ _ _ _) rfl) rfl rfl hl.1 rfl (lv_room (Nat.le_of_ble_eq_true rfl)) dL_supplierDoes_54 ⟨Nat.le_of_ble_eq_true rfl, Nat.le_of_ble_eq_true rfl⟩) hV hS hA (fun r u H locs hp hV hS => ?_)
  obtain ⟨rfl, eu9⟩ := hp
  rw [eu9] at hV
  refine er_calli (va_runV (As := [.ref lo, .ref dl, .null]) (rest := []) ⟨hx, hb, hml, hown, hts⟩ (c_L_promiseCopy_no1 l D T X L tg _ A ln d th hth lo hlo dl hdl e17_0 hst) (cwV 3 hts gL_301 rfl rfl rfl (by decide +kernel) ⟨Nat.le_of_ble_eq_true rfl, Nat.le_of_ble_eq_true rfl⟩) (ec_preV hK hN hV hth (cC_0 _ _ _ _) rfl) rfl rfl hl.1 rfl (lv_room (Nat.le_of_ble_eq_true rfl)) dL_supplierDoes_57 ⟨Nat.le_of_ble_eq_true rfl, Nat.le_of_ble_eq_true rfl⟩) hV hS hA (fun r u H locs hp hV hS => ?_)
  obtain ⟨rfl, eu9⟩ := hp
  rw [eu9] at hV
  exact er_zret hx hb hr hlocks hV hS dL_supplierDoes_60 (by decide) ⟨rfl, rfl⟩
