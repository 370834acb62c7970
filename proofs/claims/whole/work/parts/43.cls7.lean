def z_L_accept (A : ew_R) (ln : Nat) (pd : Nat) (g : Nat) (n : Nat) (w : Nat) : Int32 × List (Nat × Nat) × ew_R :=
  if A 3 ln 0 = 1 then
    (1, nw_5 pd g n, z_L_requesterWrites A ln pd g n w 0 5 0)
  else
    (0, [], A)
set_option maxHeartbeats 4000000 in
set_option maxRecDepth 100000 in
theorem c_L_accept (l : Launch) (D : va_G) (T : Nat → ClassId) (t0 : Nat × Nat) (X : Nat → Nat → Nat) (L : List Nat) (tg : Nat → Nat × Nat) (sz : Nat) (A : ew_R) (ln : Nat) (th : Nat) (hth : ew_in X L tg 0 0 th) (lo : Nat) (hlo : ew_in X L tg 2 ln lo) (pd : Nat) (g : Nat) (n : Nat) (w : Nat) (e3_0 : ew_in X L tg 3 ln (X 3 ln)) (e4_1 : ew_in X L tg 4 pd (X 4 pd)) (e5_2 : ew_in X L tg 5 pd (X 5 pd)) (e8_3 : ew_in X L tg 8 pd (X 8 pd)) (e7_4 : ew_in X L tg 7 0 (X 7 0)) (e12_5 : ew_in X L tg 12 0 (X 12 0)) (hd : pd < 192) (hn : n < 512) (hLS : lsC 8 14 t0 X L tg A pd g n) (hw : w ≤ 64) (qw : A 7 0 1 = nI w) (hcl : clC X L tg A) (hnl : ∀ b ∈ L, (6, 512 * pd + n) ≠ tg b) (hnew : ∀ b ∈ L, (14, 64 * pd + g + 1) ≠ tg b) (q7 : A 2 ln 7 = nI pd) : Met l yL_accept wsL_accept ({ frames := 10, cells := 2, slots := 1004, locals := 320 }) (em_Pc D vwCl (tysA T) (cfC T) t0 X L tg A sz [.ref th, .ref lo]) (em_Qi D vwCl (cfC T) L sz (fun r u => r = (z_L_accept A ln pd g n w).1 ∧ em_S (z_L_accept A ln pd g n w).2.1 X L tg u.1 u.2.1 u.2.2.1 ∧ u.2.2.2 = (z_L_accept A ln pd g n w).2.2)) 2 1004 (ew_A L sz) := by
  refine em_met (by decide) rfl (Nat.le_of_ble_eq_true rfl) ?_
  intro p e s m below meth c ls hx hb hr hts hown hlocks hml hnm hV hK hN hZ hS hA hl hsz
  subst hsz
  have hl : lv_has ls 2 [(0, .ref th), (1, .ref lo)] := hl
  refine lv_aload_n hx hb dL_accept_0 rfl (lv_at hl 1 rfl) ?_
  refine ew_get (v := .ref (X 3 ln)) hx hb hts hown hK hV fL_107 hlo (cC_2 _ _ _ _) rfl dL_accept_1 ?_
  refine ew_get (v := .int (A 3 ln 0)) hx hb hts hown hK hV fL_111 e3_0 (cC_3 _ _ _ _) rfl dL_accept_4 ?_
  refine lv_iconst (v := 1) hx hb dL_accept_7 (by decide) ?_
  refine lv_icmp_eq (tgt := 13) hx hb dL_accept_8 rfl (fun h1 => ?_) (fun h1 => ?_)
  · refine lv_aload_n hx hb dL_accept_13 rfl (lv_at hl 0 rfl) ?_
    refine lv_aload_n hx hb dL_accept_14 rfl (lv_at hl 1 rfl) ?_
    refine lv_iconst (v := 0) hx hb dL_accept_15 (by decide) ?_
    refine lv_iconst (v := 5) hx hb dL_accept_16 (by decide) ?_
    refine lv_iconst (v := 0) hx hb dL_accept_17 (by decide) ?_
    refine em_calli (va_runV (As := [.ref lo, .int 0, .int 5, .int 0]) (rest := []) ⟨hx, hb, hml, hown, hts⟩ (c_L_requesterWrites l D T t0 X L tg _ A ln pd g n w th lo (X 3 ln) (X 4 pd) (X 5 pd) (X 8 pd) (X 7 0) (X 12 0) 0 5 0 hd hn hth e5_2 e8_3 e7_4 e12_5 hLS hw qw hcl hnl hnew hlo e3_0 e4_1 q7) (cwV 4 hts gL_81 rfl rfl rfl (by decide +kernel) ⟨Nat.le_of_ble_eq_true rfl, Nat.le_of_ble_eq_true rfl⟩) (em_preV hK hN hV hZ hS hA hth (cC_0 _ _ _ _) rfl) rfl rfl hl.1 rfl (lv_room (Nat.le_of_ble_eq_true rfl)) dL_accept_18 ⟨Nat.le_of_ble_eq_true rfl, Nat.le_of_ble_eq_true rfl⟩) hV hS hA (fun r X1 L1 tg1 u H locs hp hV hS => ?_)
    obtain ⟨rfl, hS9, eA9⟩ := hp
    rw [show z_L_accept A ln pd g n w = (1, nw_5 pd g n, z_L_requesterWrites A ln pd g n w 0 5 0) by unfold z_L_accept; simp only [if_pos h1]]
    exact em_zret hx hb hr hlocks hV hS dL_accept_21 (by decide) ⟨rfl, hS9, eA9⟩
  · refine lv_iconst (v := 0) hx hb dL_accept_11 (by decide) ?_
    rw [show z_L_accept A ln pd g n w = (0, [], A) by unfold z_L_accept; simp only [if_neg h1]]
    refine W.widen (k := 2) (n := 1004) (Nat.le_of_ble_eq_true rfl) (Nat.le_of_ble_eq_true rfl) ?_
    exact em_zret hx hb hr hlocks hV hS dL_accept_12 (by decide) ⟨rfl, em_S.nil, rfl⟩

def z_L_renew (A : ew_R) (ln : Nat) (pd : Nat) (g : Nat) (n : Nat) (w : Nat) : Int32 × List (Nat × Nat) × ew_R :=
  if A 3 ln 0 = 4 then
    (1, nw_5 pd g n, z_L_requesterWrites A ln pd g n w 5 9 0)
  else
    (0, [], A)
set_option maxHeartbeats 4000000 in
set_option maxRecDepth 100000 in
theorem c_L_renew (l : Launch) (D : va_G) (T : Nat → ClassId) (t0 : Nat × Nat) (X : Nat → Nat → Nat) (L : List Nat) (tg : Nat → Nat × Nat) (sz : Nat) (A : ew_R) (ln : Nat) (th : Nat) (hth : ew_in X L tg 0 0 th) (lo : Nat) (hlo : ew_in X L tg 2 ln lo) (pd : Nat) (g : Nat) (n : Nat) (w : Nat) (e3_0 : ew_in X L tg 3 ln (X 3 ln)) (e4_1 : ew_in X L tg 4 pd (X 4 pd)) (e5_2 : ew_in X L tg 5 pd (X 5 pd)) (e8_3 : ew_in X L tg 8 pd (X 8 pd)) (e7_4 : ew_in X L tg 7 0 (X 7 0)) (e12_5 : ew_in X L tg 12 0 (X 12 0)) (hd : pd < 192) (hn : n < 512) (hLS : lsC 8 14 t0 X L tg A pd g n) (hw : w ≤ 64) (qw : A 7 0 1 = nI w) (hcl : clC X L tg A) (hnl : ∀ b ∈ L, (6, 512 * pd + n) ≠ tg b) (hnew : ∀ b ∈ L, (14, 64 * pd + g + 1) ≠ tg b) (q7 : A 2 ln 7 = nI pd) : Met l yL_renew wsL_renew ({ frames := 10, cells := 2, slots := 1004, locals := 320 }) (em_Pc D vwCl (tysA T) (cfC T) t0 X L tg A sz [.ref th, .ref lo]) (em_Qi D vwCl (cfC T) L sz (fun r u => r = (z_L_renew A ln pd g n w).1 ∧ em_S (z_L_renew A ln pd g n w).2.1 X L tg u.1 u.2.1 u.2.2.1 ∧ u.2.2.2 = (z_L_renew A ln pd g n w).2.2)) 2 1004 (ew_A L sz) := by
  refine em_met (by decide) rfl (Nat.le_of_ble_eq_true rfl) ?_
  intro p e s m below meth c ls hx hb hr hts hown hlocks hml hnm hV hK hN hZ hS hA hl hsz
  subst hsz
  have hl : lv_has ls 2 [(0, .ref th), (1, .ref lo)] := hl
  refine lv_aload_n hx hb dL_renew_0 rfl (lv_at hl 1 rfl) ?_
  refine ew_get (v := .ref (X 3 ln)) hx hb hts hown hK hV fL_107 hlo (cC_2 _ _ _ _) rfl dL_renew_1 ?_
  refine ew_get (v := .int (A 3 ln 0)) hx hb hts hown hK hV fL_111 e3_0 (cC_3 _ _ _ _) rfl dL_renew_4 ?_
  refine lv_iconst (v := 4) hx hb dL_renew_7 (by decide) ?_
  refine lv_icmp_eq (tgt := 13) hx hb dL_renew_8 rfl (fun h1 => ?_) (fun h1 => ?_)
  · refine lv_aload_n hx hb dL_renew_13 rfl (lv_at hl 0 rfl) ?_
    refine lv_aload_n hx hb dL_renew_14 rfl (lv_at hl 1 rfl) ?_
    refine lv_iconst (v := 5) hx hb dL_renew_15 (by decide) ?_
    refine lv_bipush (v := 9) hx hb dL_renew_16 (by decide) ?_
    refine lv_iconst (v := 0) hx hb dL_renew_18 (by decide) ?_
    refine em_calli (va_runV (As := [.ref lo, .int 5, .int 9, .int 0]) (rest := []) ⟨hx, hb, hml, hown, hts⟩ (c_L_requesterWrites l D T t0 X L tg _ A ln pd g n w th lo (X 3 ln) (X 4 pd) (X 5 pd) (X 8 pd) (X 7 0) (X 12 0) 5 9 0 hd hn hth e5_2 e8_3 e7_4 e12_5 hLS hw qw hcl hnl hnew hlo e3_0 e4_1 q7) (cwV 4 hts gL_81 rfl rfl rfl (by decide +kernel) ⟨Nat.le_of_ble_eq_true rfl, Nat.le_of_ble_eq_true rfl⟩) (em_preV hK hN hV hZ hS hA hth (cC_0 _ _ _ _) rfl) rfl rfl hl.1 rfl (lv_room (Nat.le_of_ble_eq_true rfl)) dL_renew_19 ⟨Nat.le_of_ble_eq_true rfl, Nat.le_of_ble_eq_true rfl⟩) hV hS hA (fun r X1 L1 tg1 u H locs hp hV hS => ?_)
    obtain ⟨rfl, hS9, eA9⟩ := hp
    rw [show z_L_renew A ln pd g n w = (1, nw_5 pd g n, z_L_requesterWrites A ln pd g n w 5 9 0) by unfold z_L_renew; simp only [if_pos h1]]
    exact em_zret hx hb hr hlocks hV hS dL_renew_22 (by decide) ⟨rfl, hS9, eA9⟩
  · refine lv_iconst (v := 0) hx hb dL_renew_11 (by decide) ?_
    rw [show z_L_renew A ln pd g n w = (0, [], A) by unfold z_L_renew; simp only [if_neg h1]]
    refine W.widen (k := 2) (n := 1004) (Nat.le_of_ble_eq_true rfl) (Nat.le_of_ble_eq_true rfl) ?_
    exact em_zret hx hb hr hlocks hV hS dL_renew_12 (by decide) ⟨rfl, em_S.nil, rfl⟩

def z_L_cancel (A : ew_R) (ln : Nat) (pd : Nat) (g : Nat) (n : Nat) (w : Nat) : Int32 × List (Nat × Nat) × ew_R :=
  if A 3 ln 0 = 0 then
    (1, nw_5 pd g n, z_L_requesterWrites A ln pd g n w 10 15 0)
  else
    if A 3 ln 0 = 1 then
      (1, nw_5 pd g n, z_L_requesterWrites A ln pd g n w 10 15 0)
    else
      if A 3 ln 0 = 2 then
        (1, nw_5 pd g n, z_L_requesterWrites A ln pd g n w 10 15 0)
      else
        (0, [], A)
set_option maxHeartbeats 4000000 in
set_option maxRecDepth 100000 in
theorem c_L_cancel (l : Launch) (D : va_G) (T : Nat → ClassId) (t0 : Nat × Nat) (X : Nat → Nat → Nat) (L : List Nat) (tg : Nat → Nat × Nat) (sz : Nat) (A : ew_R) (ln : Nat) (th : Nat) (hth : ew_in X L tg 0 0 th) (lo : Nat) (hlo : ew_in X L tg 2 ln lo) (pd : Nat) (g : Nat) (n : Nat) (w : Nat) (e3_0 : ew_in X L tg 3 ln (X 3 ln)) (e4_1 : ew_in X L tg 4 pd (X 4 pd)) (e5_2 : ew_in X L tg 5 pd (X 5 pd)) (e8_3 : ew_in X L tg 8 pd (X 8 pd)) (e7_4 : ew_in X L tg 7 0 (X 7 0)) (e12_5 : ew_in X L tg 12 0 (X 12 0)) (hd : pd < 192) (hn : n < 512) (hLS : lsC 8 14 t0 X L tg A pd g n) (hw : w ≤ 64) (qw : A 7 0 1 = nI w) (hcl : clC X L tg A) (hnl : ∀ b ∈ L, (6, 512 * pd + n) ≠ tg b) (hnew : ∀ b ∈ L, (14, 64 * pd + g + 1) ≠ tg b) (q7 : A 2 ln 7 = nI pd) : Met l yL_cancel wsL_cancel ({ frames := 10, cells := 2, slots := 1004, locals := 320 }) (em_Pc D vwCl (tysA T) (cfC T) t0 X L tg A sz [.ref th, .ref lo]) (em_Qi D vwCl (cfC T) L sz (fun r u => r = (z_L_cancel A ln pd g n w).1 ∧ em_S (z_L_cancel A ln pd g n w).2.1 X L tg u.1 u.2.1 u.2.2.1 ∧ u.2.2.2 = (z_L_cancel A ln pd g n w).2.2)) 2 1004 (ew_A L sz) := by
  refine em_met (by decide) rfl (Nat.le_of_ble_eq_true rfl) ?_
  intro p e s m below meth c ls hx hb hr hts hown hlocks hml hnm hV hK hN hZ hS hA hl hsz
  subst hsz
  have hl : lv_has ls 3 [(0, .ref th), (1, .ref lo)] := hl
  refine lv_aload_n hx hb dL_cancel_0 rfl (lv_at hl 1 rfl) ?_
  refine ew_get (v := .ref (X 3 ln)) hx hb hts hown hK hV fL_107 hlo (cC_2 _ _ _ _) rfl dL_cancel_1 ?_
  refine ew_get (v := .int (A 3 ln 0)) hx hb hts hown hK hV fL_111 e3_0 (cC_3 _ _ _ _) rfl dL_cancel_4 ?_
  refine lv_istore_n (lv' := [(2, .int (A 3 ln 0)), (0, .ref th), (1, .ref lo)]) hx hb dL_cancel_7 rfl hl (by decide) rfl (fun ls hl => ?_)
  refine lv_iload_n hx hb dL_cancel_8 rfl (lv_at hl 0 rfl) ?_
  refine lv_if_eq (tgt := 24) hx hb dL_cancel_9 rfl (fun h1 => ?_) (fun h1 => ?_)
  · refine lv_aload_n hx hb dL_cancel_24 rfl (lv_at hl 1 rfl) ?_
    refine lv_aload_n hx hb dL_cancel_25 rfl (lv_at hl 2 rfl) ?_
    refine lv_bipush (v := 10) hx hb dL_cancel_26 (by decide) ?_
    refine lv_bipush (v := 15) hx hb dL_cancel_28 (by decide) ?_
    refine lv_iconst (v := 0) hx hb dL_cancel_30 (by decide) ?_
    refine em_calli (va_runV (As := [.ref lo, .int 10, .int 15, .int 0]) (rest := []) ⟨hx, hb, hml, hown, hts⟩ (c_L_requesterWrites l D T t0 X L tg _ A ln pd g n w th lo (X 3 ln) (X 4 pd) (X 5 pd) (X 8 pd) (X 7 0) (X 12 0) 10 15 0 hd hn hth e5_2 e8_3 e7_4 e12_5 hLS hw qw hcl hnl hnew hlo e3_0 e4_1 q7) (cwV 4 hts gL_81 rfl rfl rfl (by decide +kernel) ⟨Nat.le_of_ble_eq_true rfl, Nat.le_of_ble_eq_true rfl⟩) (em_preV hK hN hV hZ hS hA hth (cC_0 _ _ _ _) rfl) rfl rfl hl.1 rfl (lv_room (Nat.le_of_ble_eq_true rfl)) dL_cancel_31 ⟨Nat.le_of_ble_eq_true rfl, Nat.le_of_ble_eq_true rfl⟩) hV hS hA (fun r X1 L1 tg1 u H locs hp hV hS => ?_)
    obtain ⟨rfl, hS9, eA9⟩ := hp
    rw [show z_L_cancel A ln pd g n w = (1, nw_5 pd g n, z_L_requesterWrites A ln pd g n w 10 15 0) by unfold z_L_cancel; simp only [if_pos h1]]
    exact em_zret hx hb hr hlocks hV hS dL_cancel_34 (by decide) ⟨rfl, hS9, eA9⟩
  · refine lv_iload_n hx hb dL_cancel_12 rfl (lv_at hl 0 rfl) ?_
    refine lv_iconst (v := 1) hx hb dL_cancel_13 (by decide) ?_
    refine lv_icmp_eq (tgt := 24) hx hb dL_cancel_14 rfl (fun h2 => ?_) (fun h2 => ?_)
    · refine lv_aload_n hx hb dL_cancel_24 rfl (lv_at hl 1 rfl) ?_
      refine lv_aload_n hx hb dL_cancel_25 rfl (lv_at hl 2 rfl) ?_
      refine lv_bipush (v := 10) hx hb dL_cancel_26 (by decide) ?_
      refine lv_bipush (v := 15) hx hb dL_cancel_28 (by decide) ?_
      refine lv_iconst (v := 0) hx hb dL_cancel_30 (by decide) ?_
      refine em_calli (va_runV (As := [.ref lo, .int 10, .int 15, .int 0]) (rest := []) ⟨hx, hb, hml, hown, hts⟩ (c_L_requesterWrites l D T t0 X L tg _ A ln pd g n w th lo (X 3 ln) (X 4 pd) (X 5 pd) (X 8 pd) (X 7 0) (X 12 0) 10 15 0 hd hn hth e5_2 e8_3 e7_4 e12_5 hLS hw qw hcl hnl hnew hlo e3_0 e4_1 q7) (cwV 4 hts gL_81 rfl rfl rfl (by decide +kernel) ⟨Nat.le_of_ble_eq_true rfl, Nat.le_of_ble_eq_true rfl⟩) (em_preV hK hN hV hZ hS hA hth (cC_0 _ _ _ _) rfl) rfl rfl hl.1 rfl (lv_room (Nat.le_of_ble_eq_true rfl)) dL_cancel_31 ⟨Nat.le_of_ble_eq_true rfl, Nat.le_of_ble_eq_true rfl⟩) hV hS hA (fun r X1 L1 tg1 u H locs hp hV hS => ?_)
      obtain ⟨rfl, hS9, eA9⟩ := hp
      rw [show z_L_cancel A ln pd g n w = (1, nw_5 pd g n, z_L_requesterWrites A ln pd g n w 10 15 0) by unfold z_L_cancel; simp only [if_neg h1, if_pos h2]]
      exact em_zret hx hb hr hlocks hV hS dL_cancel_34 (by decide) ⟨rfl, hS9, eA9⟩
    · refine lv_iload_n hx hb dL_cancel_17 rfl (lv_at hl 0 rfl) ?_
      refine lv_iconst (v := 2) hx hb dL_cancel_18 (by decide) ?_
      refine lv_icmp_eq (tgt := 24) hx hb dL_cancel_19 rfl (fun h3 => ?_) (fun h3 => ?_)
      · refine lv_aload_n hx hb dL_cancel_24 rfl (lv_at hl 1 rfl) ?_
        refine lv_aload_n hx hb dL_cancel_25 rfl (lv_at hl 2 rfl) ?_
        refine lv_bipush (v := 10) hx hb dL_cancel_26 (by decide) ?_
        refine lv_bipush (v := 15) hx hb dL_cancel_28 (by decide) ?_
        refine lv_iconst (v := 0) hx hb dL_cancel_30 (by decide) ?_
        refine em_calli (va_runV (As := [.ref lo, .int 10, .int 15, .int 0]) (rest := []) ⟨hx, hb, hml, hown, hts⟩ (c_L_requesterWrites l D T t0 X L tg _ A ln pd g n w th lo (X 3 ln) (X 4 pd) (X 5 pd) (X 8 pd) (X 7 0) (X 12 0) 10 15 0 hd hn hth e5_2 e8_3 e7_4 e12_5 hLS hw qw hcl hnl hnew hlo e3_0 e4_1 q7) (cwV 4 hts gL_81 rfl rfl rfl (by decide +kernel) ⟨Nat.le_of_ble_eq_true rfl, Nat.le_of_ble_eq_true rfl⟩) (em_preV hK hN hV hZ hS hA hth (cC_0 _ _ _ _) rfl) rfl rfl hl.1 rfl (lv_room (Nat.le_of_ble_eq_true rfl)) dL_cancel_31 ⟨Nat.le_of_ble_eq_true rfl, Nat.le_of_ble_eq_true rfl⟩) hV hS hA (fun r X1 L1 tg1 u H locs hp hV hS => ?_)
        obtain ⟨rfl, hS9, eA9⟩ := hp
        rw [show z_L_cancel A ln pd g n w = (1, nw_5 pd g n, z_L_requesterWrites A ln pd g n w 10 15 0) by unfold z_L_cancel; simp only [if_neg h1, if_neg h2, if_pos h3]]
        exact em_zret hx hb hr hlocks hV hS dL_cancel_34 (by decide) ⟨rfl, hS9, eA9⟩
      · refine lv_iconst (v := 0) hx hb dL_cancel_22 (by decide) ?_
        rw [show z_L_cancel A ln pd g n w = (0, [], A) by unfold z_L_cancel; simp only [if_neg h1, if_neg h2, if_neg h3]]
        refine W.widen (k := 2) (n := 1004) (Nat.le_of_ble_eq_true rfl) (Nat.le_of_ble_eq_true rfl) ?_
        exact em_zret hx hb hr hlocks hV hS dL_cancel_23 (by decide) ⟨rfl, em_S.nil, rfl⟩

def z_L_refuse (A : ew_R) (d : Nat) (g : Nat) (n : Nat) (w : Nat) : Int32 × List (Nat × Nat) × ew_R :=
  if A 17 d 0 = 1 then
    (1, nw_15 d g n, z_L_supplierWrites A d g n w 10 4 0)
  else
    (0, [], A)
set_option maxHeartbeats 4000000 in
set_option maxRecDepth 100000 in
theorem c_L_refuse (l : Launch) (D : va_G) (T : Nat → ClassId) (t0 : Nat × Nat) (X : Nat → Nat → Nat) (L : List Nat) (tg : Nat → Nat × Nat) (sz : Nat) (A : ew_R) (d : Nat) (th : Nat) (hth : ew_in X L tg 0 0 th) (dl : Nat) (hdl : ew_in X L tg 4 d dl) (g : Nat) (n : Nat) (w : Nat) (e17_0 : ew_in X L tg 17 d (X 17 d)) (e15_1 : ew_in X L tg 15 d (X 15 d)) (e16_2 : ew_in X L tg 16 d (X 16 d)) (e7_3 : ew_in X L tg 7 0 (X 7 0)) (e12_4 : ew_in X L tg 12 0 (X 12 0)) (hd : d < 192) (hn : n < 512) (hLS : lsC 16 20 t0 X L tg A d g n) (hw : w ≤ 64) (qw : A 7 0 1 = nI w) (hcl : clC X L tg A) (hnl : ∀ b ∈ L, (19, 512 * d + n) ≠ tg b) (hnew : ∀ b ∈ L, (20, 64 * d + g + 1) ≠ tg b) : Met l yL_refuse wsL_refuse ({ frames := 10, cells := 2, slots := 1004, locals := 320 }) (em_Pc D vwCl (tysA T) (cfC T) t0 X L tg A sz [.ref th, .ref dl]) (em_Qi D vwCl (cfC T) L sz (fun r u => r = (z_L_refuse A d g n w).1 ∧ em_S (z_L_refuse A d g n w).2.1 X L tg u.1 u.2.1 u.2.2.1 ∧ u.2.2.2 = (z_L_refuse A d g n w).2.2)) 2 1004 (ew_A L sz) := by
  refine em_met (by decide) rfl (Nat.le_of_ble_eq_true rfl) ?_
  intro p e s m below meth c ls hx hb hr hts hown hlocks hml hnm hV hK hN hZ hS hA hl hsz
  subst hsz
  have hl : lv_has ls 2 [(0, .ref th), (1, .ref dl)] := hl
  refine lv_aload_n hx hb dL_refuse_0 rfl (lv_at hl 1 rfl) ?_
  refine ew_get (v := .ref (X 17 d)) hx hb hts hown hK hV fL_128 hdl (cC_4 _ _ _ _) rfl dL_refuse_1 ?_
  refine ew_get (v := .int (A 17 d 0)) hx hb hts hown hK hV fL_111 e17_0 (cC_17 _ _ _ _) rfl dL_refuse_4 ?_
  refine lv_iconst (v := 1) hx hb dL_refuse_7 (by decide) ?_
  refine lv_icmp_eq (tgt := 13) hx hb dL_refuse_8 rfl (fun h1 => ?_) (fun h1 => ?_)
  · refine lv_aload_n hx hb dL_refuse_13 rfl (lv_at hl 0 rfl) ?_
    refine lv_aload_n hx hb dL_refuse_14 rfl (lv_at hl 1 rfl) ?_
    refine lv_bipush (v := 10) hx hb dL_refuse_15 (by decide) ?_
    refine lv_iconst (v := 4) hx hb dL_refuse_17 (by decide) ?_
    refine lv_iconst (v := 0) hx hb dL_refuse_18 (by decide) ?_
    refine em_calli (va_runV (As := [.ref dl, .int 10, .int 4, .int 0]) (rest := []) ⟨hx, hb, hml, hown, hts⟩ (c_L_supplierWrites l D T t0 X L tg _ A d g n w th dl (X 17 d) (X 15 d) (X 16 d) (X 7 0) (X 12 0) 10 4 0 hd hn hth e15_1 e16_2 e7_3 e12_4 hLS hw qw hcl hnl hnew e17_0 hdl) (cwV 4 hts gL_337 rfl rfl rfl (by decide +kernel) ⟨Nat.le_of_ble_eq_true rfl, Nat.le_of_ble_eq_true rfl⟩) (em_preV hK hN hV hZ hS hA hth (cC_0 _ _ _ _) rfl) rfl rfl hl.1 rfl (lv_room (Nat.le_of_ble_eq_true rfl)) dL_refuse_19 ⟨Nat.le_of_ble_eq_true rfl, Nat.le_of_ble_eq_true rfl⟩) hV hS hA (fun r X1 L1 tg1 u H locs hp hV hS => ?_)
    obtain ⟨rfl, hS9, eA9⟩ := hp
    rw [show z_L_refuse A d g n w = (1, nw_15 d g n, z_L_supplierWrites A d g n w 10 4 0) by unfold z_L_refuse; simp only [if_pos h1]]
    exact em_zret hx hb hr hlocks hV hS dL_refuse_22 (by decide) ⟨rfl, hS9, eA9⟩
  · refine lv_iconst (v := 0) hx hb dL_refuse_11 (by decide) ?_
    rw [show z_L_refuse A d g n w = (0, [], A) by unfold z_L_refuse; simp only [if_neg h1]]
    refine W.widen (k := 2) (n := 1004) (Nat.le_of_ble_eq_true rfl) (Nat.le_of_ble_eq_true rfl) ?_
    exact em_zret hx hb hr hlocks hV hS dL_refuse_12 (by decide) ⟨rfl, em_S.nil, rfl⟩

def z_L_deny (A : ew_R) (d : Nat) (g : Nat) (n : Nat) (w : Nat) : Int32 × List (Nat × Nat) × ew_R :=
  if A 17 d 0 = 6 then
    (1, nw_15 d g n, z_L_supplierWrites A d g n w 5 10 0)
  else
    (0, [], A)
set_option maxHeartbeats 4000000 in
set_option maxRecDepth 100000 in
theorem c_L_deny (l : Launch) (D : va_G) (T : Nat → ClassId) (t0 : Nat × Nat) (X : Nat → Nat → Nat) (L : List Nat) (tg : Nat → Nat × Nat) (sz : Nat) (A : ew_R) (d : Nat) (th : Nat) (hth : ew_in X L tg 0 0 th) (dl : Nat) (hdl : ew_in X L tg 4 d dl) (g : Nat) (n : Nat) (w : Nat) (e17_0 : ew_in X L tg 17 d (X 17 d)) (e15_1 : ew_in X L tg 15 d (X 15 d)) (e16_2 : ew_in X L tg 16 d (X 16 d)) (e7_3 : ew_in X L tg 7 0 (X 7 0)) (e12_4 : ew_in X L tg 12 0 (X 12 0)) (hd : d < 192) (hn : n < 512) (hLS : lsC 16 20 t0 X L tg A d g n) (hw : w ≤ 64) (qw : A 7 0 1 = nI w) (hcl : clC X L tg A) (hnl : ∀ b ∈ L, (19, 512 * d + n) ≠ tg b) (hnew : ∀ b ∈ L, (20, 64 * d + g + 1) ≠ tg b) : Met l yL_deny wsL_deny ({ frames := 10, cells := 2, slots := 1004, locals := 320 }) (em_Pc D vwCl (tysA T) (cfC T) t0 X L tg A sz [.ref th, .ref dl]) (em_Qi D vwCl (cfC T) L sz (fun r u => r = (z_L_deny A d g n w).1 ∧ em_S (z_L_deny A d g n w).2.1 X L tg u.1 u.2.1 u.2.2.1 ∧ u.2.2.2 = (z_L_deny A d g n w).2.2)) 2 1004 (ew_A L sz) := by
  refine em_met (by decide) rfl (Nat.le_of_ble_eq_true rfl) ?_
  intro p e s m below meth c ls hx hb hr hts hown hlocks hml hnm hV hK hN hZ hS hA hl hsz
  subst hsz
  have hl : lv_has ls 2 [(0, .ref th), (1, .ref dl)] := hl
  refine lv_aload_n hx hb dL_deny_0 rfl (lv_at hl 1 rfl) ?_
  refine ew_get (v := .ref (X 17 d)) hx hb hts hown hK hV fL_128 hdl (cC_4 _ _ _ _) rfl dL_deny_1 ?_
  refine ew_get (v := .int (A 17 d 0)) hx hb hts hown hK hV fL_111 e17_0 (cC_17 _ _ _ _) rfl dL_deny_4 ?_
  refine lv_bipush (v := 6) hx hb dL_deny_7 (by decide) ?_
  refine lv_icmp_eq (tgt := 14) hx hb dL_deny_9 rfl (fun h1 => ?_) (fun h1 => ?_)
  · refine lv_aload_n hx hb dL_deny_14 rfl (lv_at hl 0 rfl) ?_
    refine lv_aload_n hx hb dL_deny_15 rfl (lv_at hl 1 rfl) ?_
    refine lv_iconst (v := 5) hx hb dL_deny_16 (by decide) ?_
    refine lv_bipush (v := 10) hx hb dL_deny_17 (by decide) ?_
    refine lv_iconst (v := 0) hx hb dL_deny_19 (by decide) ?_
    refine em_calli (va_runV (As := [.ref dl, .int 5, .int 10, .int 0]) (rest := []) ⟨hx, hb, hml, hown, hts⟩ (c_L_supplierWrites l D T t0 X L tg _ A d g n w th dl (X 17 d) (X 15 d) (X 16 d) (X 7 0) (X 12 0) 5 10 0 hd hn hth e15_1 e16_2 e7_3 e12_4 hLS hw qw hcl hnl hnew e17_0 hdl) (cwV 4 hts gL_337 rfl rfl rfl (by decide +kernel) ⟨Nat.le_of_ble_eq_true rfl, Nat.le_of_ble_eq_true rfl⟩) (em_preV hK hN hV hZ hS hA hth (cC_0 _ _ _ _) rfl) rfl rfl hl.1 rfl (lv_room (Nat.le_of_ble_eq_true rfl)) dL_deny_20 ⟨Nat.le_of_ble_eq_true rfl, Nat.le_of_ble_eq_true rfl⟩) hV hS hA (fun r X1 L1 tg1 u H locs hp hV hS => ?_)
    obtain ⟨rfl, hS9, eA9⟩ := hp
    rw [show z_L_deny A d g n w = (1, nw_15 d g n, z_L_supplierWrites A d g n w 5 10 0) by unfold z_L_deny; simp only [if_pos h1]]
    exact em_zret hx hb hr hlocks hV hS dL_deny_23 (by decide) ⟨rfl, hS9, eA9⟩
  · refine lv_iconst (v := 0) hx hb dL_deny_12 (by decide) ?_
    rw [show z_L_deny A d g n w = (0, [], A) by unfold z_L_deny; simp only [if_neg h1]]
    refine W.widen (k := 2) (n := 1004) (Nat.le_of_ble_eq_true rfl) (Nat.le_of_ble_eq_true rfl) ?_
    exact em_zret hx hb hr hlocks hV hS dL_deny_13 (by decide) ⟨rfl, em_S.nil, rfl⟩

def z_L_offer (A : ew_R) (d : Nat) (pr : Int32) (g : Nat) (n : Nat) (w : Nat) : Int32 × List (Nat × Nat) × ew_R :=
  if A 17 d 2 = 0 then
    if A 17 d 0 = 1 then
      if pr < 1 then
        (0, [], A)
      else
        if pr ≤ 1000 then
          (1, nw_15 d g n, z_L_supplierWrites (up3 A 17 d 2 pr) d g n w 2 3 pr)
        else
          (0, [], A)
    else
      (0, [], A)
  else
    if A 17 d 0 = 1 then
      (0, [], A)
    else
      (0, [], A)
set_option maxHeartbeats 4000000 in
set_option maxRecDepth 100000 in
theorem c_L_offer (l : Launch) (D : va_G) (T : Nat → ClassId) (t0 : Nat × Nat) (X : Nat → Nat → Nat) (L : List Nat) (tg : Nat → Nat × Nat) (sz : Nat) (A : ew_R) (d : Nat) (th : Nat) (hth : ew_in X L tg 0 0 th) (dl : Nat) (hdl : ew_in X L tg 4 d dl) (pr : Int32) (g : Nat) (n : Nat) (w : Nat) (e17_0 : ew_in X L tg 17 d (X 17 d)) (e15_1 : ew_in X L tg 15 d (X 15 d)) (e16_2 : ew_in X L tg 16 d (X 16 d)) (e7_3 : ew_in X L tg 7 0 (X 7 0)) (e12_4 : ew_in X L tg 12 0 (X 12 0)) (hd : d < 192) (hn : n < 512) (hLS : lsC 16 20 t0 X L tg A d g n) (hw : w ≤ 64) (qw : A 7 0 1 = nI w) (hcl : clC X L tg A) (hnl : ∀ b ∈ L, (19, 512 * d + n) ≠ tg b) (hnew : ∀ b ∈ L, (20, 64 * d + g + 1) ≠ tg b) : Met l yL_offer wsL_offer ({ frames := 10, cells := 2, slots := 1004, locals := 320 }) (em_Pc D vwCl (tysA T) (cfC T) t0 X L tg A sz [.ref th, .ref dl, .int pr]) (em_Qi D vwCl (cfC T) L sz (fun r u => r = (z_L_offer A d pr g n w).1 ∧ em_S (z_L_offer A d pr g n w).2.1 X L tg u.1 u.2.1 u.2.2.1 ∧ u.2.2.2 = (z_L_offer A d pr g n w).2.2)) 2 1004 (ew_A L sz) := by
  refine em_met (by decide) rfl (Nat.le_of_ble_eq_true rfl) ?_
  intro p e s m below meth c ls hx hb hr hts hown hlocks hml hnm hV hK hN hZ hS hA hl hsz
  subst hsz
  have hl : lv_has ls 4 [(0, .ref th), (1, .ref dl), (2, .int pr)] := hl
  refine lv_aload_n hx hb dL_offer_0 rfl (lv_at hl 1 rfl) ?_
  refine ew_get (v := .ref (X 17 d)) hx hb hts hown hK hV fL_128 hdl (cC_4 _ _ _ _) rfl dL_offer_1 ?_
  refine ew_get (v := .int (A 17 d 2)) hx hb hts hown hK hV fL_243 e17_0 (cC_17 _ _ _ _) rfl dL_offer_4 ?_
  refine lv_if_eq (tgt := 14) hx hb dL_offer_7 rfl (fun h1 => ?_) (fun h1 => ?_)
  · refine lv_iconst (v := 0) hx hb dL_offer_14 (by decide) ?_
    refine lv_istore_n (lv' := [(3, .int 0), (0, .ref th), (1, .ref dl), (2, .int pr)]) hx hb dL_offer_15 rfl hl (by decide) rfl (fun ls hl => ?_)
    refine lv_aload_n hx hb dL_offer_16 rfl (lv_at hl 2 rfl) ?_
    refine ew_get (v := .ref (X 17 d)) hx hb hts hown hK hV fL_128 hdl (cC_4 _ _ _ _) rfl dL_offer_17 ?_
    refine ew_get (v := .int (A 17 d 0)) hx hb hts hown hK hV fL_111 e17_0 (cC_17 _ _ _ _) rfl dL_offer_20 ?_
    refine lv_iconst (v := 1) hx hb dL_offer_23 (by decide) ?_
    refine lv_icmp_ne (tgt := 43) hx hb dL_offer_24 rfl (fun h2 => ?_) (fun h2 => ?_)
    · refine lv_iconst (v := 0) hx hb dL_offer_43 (by decide) ?_
      rw [show z_L_offer A d pr g n w = (0, [], A) by unfold z_L_offer; simp only [if_pos h1, if_neg h2]]
      refine W.widen (k := 2) (n := 1004) (Nat.le_of_ble_eq_true rfl) (Nat.le_of_ble_eq_true rfl) ?_
      exact em_zret hx hb hr hlocks hV hS dL_offer_44 (by decide) ⟨rfl, em_S.nil, rfl⟩
    · refine lv_iload_n hx hb dL_offer_27 rfl (lv_at hl 0 rfl) ?_
      refine lv_if_ne (tgt := 43) hx hb dL_offer_28 rfl (fun h9 => absurd (by decide) h9) (fun _ => ?_)
      refine lv_iload_n hx hb dL_offer_31 rfl (lv_at hl 3 rfl) ?_
      refine lv_iconst (v := 1) hx hb dL_offer_32 (by decide) ?_
      refine lv_icmp_lt (tgt := 43) hx hb dL_offer_33 rfl (fun h3 => ?_) (fun h3 => ?_)
      · refine lv_iconst (v := 0) hx hb dL_offer_43 (by decide) ?_
        rw [show z_L_offer A d pr g n w = (0, [], A) by unfold z_L_offer; simp only [if_pos h1, if_pos h2, if_pos h3]]
        refine W.widen (k := 2) (n := 1004) (Nat.le_of_ble_eq_true rfl) (Nat.le_of_ble_eq_true rfl) ?_
        exact em_zret hx hb hr hlocks hV hS dL_offer_44 (by decide) ⟨rfl, em_S.nil, rfl⟩
      · refine lv_iload_n hx hb dL_offer_36 rfl (lv_at hl 3 rfl) ?_
        refine lv_sipush (v := 1000) hx hb dL_offer_37 (by decide) ?_
        refine lv_icmp_le (tgt := 45) hx hb dL_offer_40 rfl (fun h4 => ?_) (fun h4 => ?_)
        · refine lv_aload_n hx hb dL_offer_45 rfl (lv_at hl 2 rfl) ?_
          refine ew_get (v := .ref (X 17 d)) hx hb hts hown hK hV fL_128 hdl (cC_4 _ _ _ _) rfl dL_offer_46 ?_
          refine lv_iload_n hx hb dL_offer_49 rfl (lv_at hl 3 rfl) ?_
          refine ew_put (ty := .int) hx hb hts hown hK hV hS fL_243 gPage e17_0 (cC_17 _ _ _ _) 2 _ (pC_17_2 _ _ _ _ _) rfl (by decide +kernel) rfl rfl (Nat.le_of_ble_eq_true rfl) dL_offer_50 (fun H locs hV hS => ?_)
          refine lv_aload_n hx hb dL_offer_53 rfl (lv_at hl 1 rfl) ?_
          refine lv_aload_n hx hb dL_offer_54 rfl (lv_at hl 2 rfl) ?_
          refine lv_iconst (v := 2) hx hb dL_offer_55 (by decide) ?_
          refine lv_iconst (v := 3) hx hb dL_offer_56 (by decide) ?_
          refine lv_iload_n hx hb dL_offer_57 rfl (lv_at hl 3 rfl) ?_
          refine em_calli (va_runV (As := [.ref dl, .int 2, .int 3, .int pr]) (rest := []) ⟨hx, hb, hml, hown, hts⟩ (c_L_supplierWrites l D T t0 X L tg _ (up3 A 17 d 2 pr) d g n w th dl (X 17 d) (X 15 d) (X 16 d) (X 7 0) (X 12 0) 2 3 pr hd hn hth e15_1 e16_2 e7_3 e12_4 (lsC_up hLS (by decide) (by decide)) hw (by simpa [up3, va_up] using qw) (clC_up hcl (fun _ _ h => h)) hnl hnew e17_0 hdl) (cwV 4 hts gL_337 rfl rfl rfl (by decide +kernel) ⟨Nat.le_of_ble_eq_true rfl, Nat.le_of_ble_eq_true rfl⟩) (em_preV hK hN hV hZ hS hA hth (cC_0 _ _ _ _) rfl) rfl rfl hl.1 rfl (lv_room (Nat.le_of_ble_eq_true rfl)) dL_offer_58 ⟨Nat.le_of_ble_eq_true rfl, Nat.le_of_ble_eq_true rfl⟩) hV hS hA (fun r X1 L1 tg1 u H locs hp hV hS => ?_)
          obtain ⟨rfl, hS9, eA9⟩ := hp
          rw [show z_L_offer A d pr g n w = (1, nw_15 d g n, z_L_supplierWrites (up3 A 17 d 2 pr) d g n w 2 3 pr) by unfold z_L_offer; simp only [if_pos h1, if_pos h2, if_neg h3, if_pos h4]]
          exact em_zret hx hb hr hlocks hV hS dL_offer_61 (by decide) ⟨rfl, hS9, eA9⟩
        · refine lv_iconst (v := 0) hx hb dL_offer_43 (by decide) ?_
          rw [show z_L_offer A d pr g n w = (0, [], A) by unfold z_L_offer; simp only [if_pos h1, if_pos h2, if_neg h3, if_neg h4]]
          refine W.widen (k := 2) (n := 1004) (Nat.le_of_ble_eq_true rfl) (Nat.le_of_ble_eq_true rfl) ?_
          exact em_zret hx hb hr hlocks hV hS dL_offer_44 (by decide) ⟨rfl, em_S.nil, rfl⟩
  · refine lv_iconst (v := 1) hx hb dL_offer_10 (by decide) ?_
    refine lv_goto (tgt := 15) hx hb dL_offer_11 rfl ?_
    refine lv_istore_n (lv' := [(3, .int 1), (0, .ref th), (1, .ref dl), (2, .int pr)]) hx hb dL_offer_15 rfl hl (by decide) rfl (fun ls hl => ?_)
    refine lv_aload_n hx hb dL_offer_16 rfl (lv_at hl 2 rfl) ?_
    refine ew_get (v := .ref (X 17 d)) hx hb hts hown hK hV fL_128 hdl (cC_4 _ _ _ _) rfl dL_offer_17 ?_
    refine ew_get (v := .int (A 17 d 0)) hx hb hts hown hK hV fL_111 e17_0 (cC_17 _ _ _ _) rfl dL_offer_20 ?_
    refine lv_iconst (v := 1) hx hb dL_offer_23 (by decide) ?_
    refine lv_icmp_ne (tgt := 43) hx hb dL_offer_24 rfl (fun h5 => ?_) (fun h5 => ?_)
    · refine lv_iconst (v := 0) hx hb dL_offer_43 (by decide) ?_
      rw [show z_L_offer A d pr g n w = (0, [], A) by unfold z_L_offer; simp only [if_neg h1, if_neg h5]]
      refine W.widen (k := 2) (n := 1004) (Nat.le_of_ble_eq_true rfl) (Nat.le_of_ble_eq_true rfl) ?_
      exact em_zret hx hb hr hlocks hV hS dL_offer_44 (by decide) ⟨rfl, em_S.nil, rfl⟩
    · refine lv_iload_n hx hb dL_offer_27 rfl (lv_at hl 0 rfl) ?_
      refine lv_if_ne (tgt := 43) hx hb dL_offer_28 rfl (fun _ => ?_) (fun h9 => absurd h9 (by decide))
      refine lv_iconst (v := 0) hx hb dL_offer_43 (by decide) ?_
      rw [show z_L_offer A d pr g n w = (0, [], A) by unfold z_L_offer; simp only [if_neg h1, if_pos h5]]
      refine W.widen (k := 2) (n := 1004) (Nat.le_of_ble_eq_true rfl) (Nat.le_of_ble_eq_true rfl) ?_
      exact em_zret hx hb hr hlocks hV hS dL_offer_44 (by decide) ⟨rfl, em_S.nil, rfl⟩
