def z_L_act_accept_y (A : ew_R) (rq : Nat) (ln : Nat) (ar : Int32) (pd : Nat) (g : Nat) (n : Nat) (w : Nat) (nl : Nat) : ew_R :=
  z_L_rd_accept_y A ln pd g n w
set_option maxHeartbeats 4000000 in
set_option maxRecDepth 100000 in
theorem c_L_act_accept_y (l : Launch) (D : va_G) (T : Nat → ClassId) (t0 : Nat × Nat) (X : Nat → Nat → Nat) (L : List Nat) (tg : Nat → Nat × Nat) (sz : Nat) (A : ew_R) (th : Nat) (hth : ew_in X L tg 0 0 th) (rq : Nat) (ln : Nat) (ar : Int32) (pd : Nat) (g : Nat) (n : Nat) (w : Nat) (nl : Nat) (e3_0 : ew_in X L tg 3 ln (X 3 ln)) (e4_1 : ew_in X L tg 4 pd (X 4 pd)) (e5_2 : ew_in X L tg 5 pd (X 5 pd)) (e8_3 : ew_in X L tg 8 pd (X 8 pd)) (e7_4 : ew_in X L tg 7 0 (X 7 0)) (e12_5 : ew_in X L tg 12 0 (X 12 0)) (e2_6 : ew_in X L tg 2 ln (X 2 ln)) (e10_7 : ew_in X L tg 10 0 (X 10 0)) (hd : pd < 192) (hn : n < 512) (hLS : lsC 8 14 t0 X L tg A pd g n) (hw : w ≤ 64) (qw : A 7 0 1 = nI w) (hcl : clC X L tg A) (hnl : ∀ b ∈ L, (6, 512 * pd + n) ≠ tg b) (hnew : ∀ b ∈ L, (14, 64 * pd + g + 1) ≠ tg b) (q7 : A 2 ln 7 = nI pd) (hst : A 3 ln 0 = 1) (hrq : rq < 6) (q1 : A 2 ln 1 = nI rq) (hnl2 : nl ≤ 32) (qnl : A 0 0 6 = nI nl) (hl9 : ln < nl) (qfl : ¬ A 10 0 ln = 0) : Met l yL_act wsL_act ({ frames := 12, cells := 2, slots := 1004, locals := 380 }) (em_Pc D vwCl (tysA T) (cfC T) t0 X L tg A sz [.ref th, .int (nI rq), .int (nI ln), .int 0, .int ar]) (em_Qi D vwCl (cfC T) L sz (fun r u => r = z_L_act_accept_y A rq ln ar pd g n w nl 3 ln 0 ∧ em_S (nw_5 pd g n) X L tg u.1 u.2.1 u.2.2.1 ∧ u.2.2.2 = z_L_act_accept_y A rq ln ar pd g n w nl)) 2 1004 (ew_A L sz) := by
  refine em_met (by decide) rfl (Nat.le_of_ble_eq_true rfl) ?_
  intro p e s m below meth c ls hx hb hr hts hown hlocks hml hnm hV hK hN hZ hS hA hl hsz
  subst hsz
  have hl : lv_has ls 7 [(0, .ref th), (1, .int (nI rq)), (2, .int (nI ln)), (3, .int 0), (4, .int ar)] := hl
  refine lv_aload_n hx hb dL_act_0 rfl (lv_at hl 0 rfl) ?_
  refine lv_iload_n hx hb dL_act_1 rfl (lv_at hl 2 rfl) ?_
  refine er_callq (va_runV (As := [.int (nI ln)]) (rest := []) ⟨hx, hb, hml, hown, hts⟩ (c_L_loanAt_ok l D T X L tg _ A th hth ln nl e10_7 e2_6 hnl2 qnl hl9 qfl) (cwV 1 hts gL_88 rfl rfl rfl (by decide +kernel) ⟨Nat.le_of_ble_eq_true rfl, Nat.le_of_ble_eq_true rfl⟩) (ec_preV hK hN hV hth (cC_0 _ _ _ _) rfl) rfl rfl hl.1 rfl (lv_room (Nat.le_of_ble_eq_true rfl)) dL_act_2 ⟨Nat.le_of_ble_eq_true rfl, Nat.le_of_ble_eq_true rfl⟩) hV hS hA (fun r u H locs hp hV hS => ?_)
  obtain ⟨rfl, eu9⟩ := hp
  rw [eu9] at hV
  refine lv_astore (lv' := [(5, .ref (X 2 ln)), (0, .ref th), (1, .int (nI rq)), (2, .int (nI ln)), (3, .int 0), (4, .int ar)]) hx hb dL_act_5 hl (by decide) rfl (fun ls hl => ?_)
  refine lv_aload hx hb dL_act_7 (lv_at hl 0 rfl) ?_
  refine lv_ifnull hx hb dL_act_9 ?_
  refine lv_iload_n hx hb dL_act_12 rfl (lv_at hl 4 rfl) ?_
  refine lv_if_lt (tgt := 22) hx hb dL_act_13 rfl (fun h9 => absurd h9 (by decide)) (fun _ => ?_)
  refine lv_iload_n hx hb dL_act_16 rfl (lv_at hl 4 rfl) ?_
  refine lv_bipush (v := 14) hx hb dL_act_17 (by decide) ?_
  refine lv_icmp_le (tgt := 32) hx hb dL_act_19 rfl (fun _ => ?_) (fun h9 => absurd (by decide) h9)
  refine lv_iload_n hx hb dL_act_32 rfl (lv_at hl 4 rfl) ?_
  refine lv_bipush (v := 6) hx hb dL_act_33 (by decide) ?_
  refine lv_icmp_gt (tgt := 86) hx hb dL_act_35 rfl (fun h9 => absurd h9 (by decide)) (fun _ => ?_)
  refine lv_iload_n hx hb dL_act_38 rfl (lv_at hl 2 rfl) ?_
  refine lv_aload hx hb dL_act_39 (lv_at hl 0 rfl) ?_
  refine ew_get (v := .int (A 2 ln 1)) hx hb hts hown hK hV fL_96 e2_6 (cC_2 _ _ _ _) rfl dL_act_41 ?_
  refine lv_toe (y := nI rq) q1 ?_
  refine lv_icmp_eq (tgt := 57) hx hb dL_act_44 rfl (fun _ => ?_) (fun h9 => absurd ((nI_eq (a := rq) (b := rq) (by omega) (by omega)).mpr rfl) h9)
  refine lv_aload_n hx hb dL_act_57 rfl (lv_at hl 1 rfl) ?_
  refine lv_aload hx hb dL_act_58 (lv_at hl 0 rfl) ?_
  refine lv_iload_n hx hb dL_act_60 rfl (lv_at hl 4 rfl) ?_
  refine em_calli (va_runV (As := [.ref (X 2 ln), .int 0]) (rest := []) ⟨hx, hb, hml, hown, hts⟩ (c_L_rd_accept_y l D T t0 X L tg _ A ln th hth (X 2 ln) e2_6 pd g n w e3_0 e4_1 e5_2 e8_3 e7_4 e12_5 hd hn hLS hw qw hcl hnl hnew q7 hst) (cwV 2 hts gL_101 rfl rfl rfl (by decide +kernel) ⟨Nat.le_of_ble_eq_true rfl, Nat.le_of_ble_eq_true rfl⟩) (em_preV hK hN hV hZ hS hA hth (cC_0 _ _ _ _) rfl) rfl rfl hl.1 rfl (lv_room (Nat.le_of_ble_eq_true rfl)) dL_act_61 ⟨Nat.le_of_ble_eq_true rfl, Nat.le_of_ble_eq_true rfl⟩) hV hS hA (fun r X1 L1 tg1 u H locs hp hV hS => ?_)
  obtain ⟨rfl, hS9, eA9⟩ := hp
  refine lv_if_ne (tgt := 77) hx hb dL_act_64 rfl (fun _ => ?_) (fun h9 => absurd h9 (by decide))
  have hS9 : em_S (nw_5 pd g n) X L tg X1 L1 tg1 := hS9
  refine lv_aload hx hb dL_act_77 (lv_at hl 0 rfl) ?_
  refine ew_get (v := .ref (X1 3 ln)) hx hb hts hown hK hV fL_107 (hS9.ad e2_6) (cC_2 _ _ _ _) rfl dL_act_79 ?_
  refine ew_get (v := .int (u 3 ln 0)) hx hb hts hown hK hV fL_111 (hS9.ad e3_0).self (cC_3 _ _ _ _) rfl dL_act_82 ?_
  have eA9 : u = z_L_act_accept_y A rq ln ar pd g n w nl := eA9
  exact em_iret hx hb hr hlocks hV hS dL_act_85 ⟨by rw [eA9], hS9, eA9⟩

def z_L_act_cancel_y0 (A : ew_R) (rq : Nat) (ln : Nat) (ar : Int32) (pd : Nat) (g : Nat) (n : Nat) (w : Nat) (nl : Nat) : ew_R :=
  z_L_rd_cancel_y0 A ln pd g n w
set_option maxHeartbeats 4000000 in
set_option maxRecDepth 100000 in
theorem c_L_act_cancel_y0 (l : Launch) (D : va_G) (T : Nat → ClassId) (t0 : Nat × Nat) (X : Nat → Nat → Nat) (L : List Nat) (tg : Nat → Nat × Nat) (sz : Nat) (A : ew_R) (th : Nat) (hth : ew_in X L tg 0 0 th) (rq : Nat) (ln : Nat) (ar : Int32) (pd : Nat) (g : Nat) (n : Nat) (w : Nat) (nl : Nat) (e3_0 : ew_in X L tg 3 ln (X 3 ln)) (e4_1 : ew_in X L tg 4 pd (X 4 pd)) (e5_2 : ew_in X L tg 5 pd (X 5 pd)) (e8_3 : ew_in X L tg 8 pd (X 8 pd)) (e7_4 : ew_in X L tg 7 0 (X 7 0)) (e12_5 : ew_in X L tg 12 0 (X 12 0)) (e2_6 : ew_in X L tg 2 ln (X 2 ln)) (e10_7 : ew_in X L tg 10 0 (X 10 0)) (hd : pd < 192) (hn : n < 512) (hLS : lsC 8 14 t0 X L tg A pd g n) (hw : w ≤ 64) (qw : A 7 0 1 = nI w) (hcl : clC X L tg A) (hnl : ∀ b ∈ L, (6, 512 * pd + n) ≠ tg b) (hnew : ∀ b ∈ L, (14, 64 * pd + g + 1) ≠ tg b) (q7 : A 2 ln 7 = nI pd) (hst : A 3 ln 0 = 0) (hrq : rq < 6) (q1 : A 2 ln 1 = nI rq) (hnl2 : nl ≤ 32) (qnl : A 0 0 6 = nI nl) (hl9 : ln < nl) (qfl : ¬ A 10 0 ln = 0) : Met l yL_act wsL_act ({ frames := 12, cells := 2, slots := 1004, locals := 380 }) (em_Pc D vwCl (tysA T) (cfC T) t0 X L tg A sz [.ref th, .int (nI rq), .int (nI ln), .int 2, .int ar]) (em_Qi D vwCl (cfC T) L sz (fun r u => r = z_L_act_cancel_y0 A rq ln ar pd g n w nl 3 ln 0 ∧ em_S (nw_5 pd g n) X L tg u.1 u.2.1 u.2.2.1 ∧ u.2.2.2 = z_L_act_cancel_y0 A rq ln ar pd g n w nl)) 2 1004 (ew_A L sz) := by
  refine em_met (by decide) rfl (Nat.le_of_ble_eq_true rfl) ?_
  intro p e s m below meth c ls hx hb hr hts hown hlocks hml hnm hV hK hN hZ hS hA hl hsz
  subst hsz
  have hl : lv_has ls 7 [(0, .ref th), (1, .int (nI rq)), (2, .int (nI ln)), (3, .int 2), (4, .int ar)] := hl
  refine lv_aload_n hx hb dL_act_0 rfl (lv_at hl 0 rfl) ?_
  refine lv_iload_n hx hb dL_act_1 rfl (lv_at hl 2 rfl) ?_
  refine er_callq (va_runV (As := [.int (nI ln)]) (rest := []) ⟨hx, hb, hml, hown, hts⟩ (c_L_loanAt_ok l D T X L tg _ A th hth ln nl e10_7 e2_6 hnl2 qnl hl9 qfl) (cwV 1 hts gL_88 rfl rfl rfl (by decide +kernel) ⟨Nat.le_of_ble_eq_true rfl, Nat.le_of_ble_eq_true rfl⟩) (ec_preV hK hN hV hth (cC_0 _ _ _ _) rfl) rfl rfl hl.1 rfl (lv_room (Nat.le_of_ble_eq_true rfl)) dL_act_2 ⟨Nat.le_of_ble_eq_true rfl, Nat.le_of_ble_eq_true rfl⟩) hV hS hA (fun r u H locs hp hV hS => ?_)
  obtain ⟨rfl, eu9⟩ := hp
  rw [eu9] at hV
  refine lv_astore (lv' := [(5, .ref (X 2 ln)), (0, .ref th), (1, .int (nI rq)), (2, .int (nI ln)), (3, .int 2), (4, .int ar)]) hx hb dL_act_5 hl (by decide) rfl (fun ls hl => ?_)
  refine lv_aload hx hb dL_act_7 (lv_at hl 0 rfl) ?_
  refine lv_ifnull hx hb dL_act_9 ?_
  refine lv_iload_n hx hb dL_act_12 rfl (lv_at hl 4 rfl) ?_
  refine lv_if_lt (tgt := 22) hx hb dL_act_13 rfl (fun h9 => absurd h9 (by decide)) (fun _ => ?_)
  refine lv_iload_n hx hb dL_act_16 rfl (lv_at hl 4 rfl) ?_
  refine lv_bipush (v := 14) hx hb dL_act_17 (by decide) ?_
  refine lv_icmp_le (tgt := 32) hx hb dL_act_19 rfl (fun _ => ?_) (fun h9 => absurd (by decide) h9)
  refine lv_iload_n hx hb dL_act_32 rfl (lv_at hl 4 rfl) ?_
  refine lv_bipush (v := 6) hx hb dL_act_33 (by decide) ?_
  refine lv_icmp_gt (tgt := 86) hx hb dL_act_35 rfl (fun h9 => absurd h9 (by decide)) (fun _ => ?_)
  refine lv_iload_n hx hb dL_act_38 rfl (lv_at hl 2 rfl) ?_
  refine lv_aload hx hb dL_act_39 (lv_at hl 0 rfl) ?_
  refine ew_get (v := .int (A 2 ln 1)) hx hb hts hown hK hV fL_96 e2_6 (cC_2 _ _ _ _) rfl dL_act_41 ?_
  refine lv_toe (y := nI rq) q1 ?_
  refine lv_icmp_eq (tgt := 57) hx hb dL_act_44 rfl (fun _ => ?_) (fun h9 => absurd ((nI_eq (a := rq) (b := rq) (by omega) (by omega)).mpr rfl) h9)
  refine lv_aload_n hx hb dL_act_57 rfl (lv_at hl 1 rfl) ?_
  refine lv_aload hx hb dL_act_58 (lv_at hl 0 rfl) ?_
  refine lv_iload_n hx hb dL_act_60 rfl (lv_at hl 4 rfl) ?_
  refine em_calli (va_runV (As := [.ref (X 2 ln), .int 2]) (rest := []) ⟨hx, hb, hml, hown, hts⟩ (c_L_rd_cancel_y0 l D T t0 X L tg _ A ln th hth (X 2 ln) e2_6 pd g n w e3_0 e4_1 e5_2 e8_3 e7_4 e12_5 hd hn hLS hw qw hcl hnl hnew q7 hst) (cwV 2 hts gL_101 rfl rfl rfl (by decide +kernel) ⟨Nat.le_of_ble_eq_true rfl, Nat.le_of_ble_eq_true rfl⟩) (em_preV hK hN hV hZ hS hA hth (cC_0 _ _ _ _) rfl) rfl rfl hl.1 rfl (lv_room (Nat.le_of_ble_eq_true rfl)) dL_act_61 ⟨Nat.le_of_ble_eq_true rfl, Nat.le_of_ble_eq_true rfl⟩) hV hS hA (fun r X1 L1 tg1 u H locs hp hV hS => ?_)
  obtain ⟨rfl, hS9, eA9⟩ := hp
  refine lv_if_ne (tgt := 77) hx hb dL_act_64 rfl (fun _ => ?_) (fun h9 => absurd h9 (by decide))
  have hS9 : em_S (nw_5 pd g n) X L tg X1 L1 tg1 := hS9
  refine lv_aload hx hb dL_act_77 (lv_at hl 0 rfl) ?_
  refine ew_get (v := .ref (X1 3 ln)) hx hb hts hown hK hV fL_107 (hS9.ad e2_6) (cC_2 _ _ _ _) rfl dL_act_79 ?_
  refine ew_get (v := .int (u 3 ln 0)) hx hb hts hown hK hV fL_111 (hS9.ad e3_0).self (cC_3 _ _ _ _) rfl dL_act_82 ?_
  have eA9 : u = z_L_act_cancel_y0 A rq ln ar pd g n w nl := eA9
  exact em_iret hx hb hr hlocks hV hS dL_act_85 ⟨by rw [eA9], hS9, eA9⟩

def z_L_act_cancel_y1 (A : ew_R) (rq : Nat) (ln : Nat) (ar : Int32) (pd : Nat) (g : Nat) (n : Nat) (w : Nat) (nl : Nat) : ew_R :=
  z_L_rd_cancel_y1 A ln pd g n w
set_option maxHeartbeats 4000000 in
set_option maxRecDepth 100000 in
theorem c_L_act_cancel_y1 (l : Launch) (D : va_G) (T : Nat → ClassId) (t0 : Nat × Nat) (X : Nat → Nat → Nat) (L : List Nat) (tg : Nat → Nat × Nat) (sz : Nat) (A : ew_R) (th : Nat) (hth : ew_in X L tg 0 0 th) (rq : Nat) (ln : Nat) (ar : Int32) (pd : Nat) (g : Nat) (n : Nat) (w : Nat) (nl : Nat) (e3_0 : ew_in X L tg 3 ln (X 3 ln)) (e4_1 : ew_in X L tg 4 pd (X 4 pd)) (e5_2 : ew_in X L tg 5 pd (X 5 pd)) (e8_3 : ew_in X L tg 8 pd (X 8 pd)) (e7_4 : ew_in X L tg 7 0 (X 7 0)) (e12_5 : ew_in X L tg 12 0 (X 12 0)) (e2_6 : ew_in X L tg 2 ln (X 2 ln)) (e10_7 : ew_in X L tg 10 0 (X 10 0)) (hd : pd < 192) (hn : n < 512) (hLS : lsC 8 14 t0 X L tg A pd g n) (hw : w ≤ 64) (qw : A 7 0 1 = nI w) (hcl : clC X L tg A) (hnl : ∀ b ∈ L, (6, 512 * pd + n) ≠ tg b) (hnew : ∀ b ∈ L, (14, 64 * pd + g + 1) ≠ tg b) (q7 : A 2 ln 7 = nI pd) (hst : A 3 ln 0 = 1) (hrq : rq < 6) (q1 : A 2 ln 1 = nI rq) (hnl2 : nl ≤ 32) (qnl : A 0 0 6 = nI nl) (hl9 : ln < nl) (qfl : ¬ A 10 0 ln = 0) : Met l yL_act wsL_act ({ frames := 12, cells := 2, slots := 1004, locals := 380 }) (em_Pc D vwCl (tysA T) (cfC T) t0 X L tg A sz [.ref th, .int (nI rq), .int (nI ln), .int 2, .int ar]) (em_Qi D vwCl (cfC T) L sz (fun r u => r = z_L_act_cancel_y1 A rq ln ar pd g n w nl 3 ln 0 ∧ em_S (nw_5 pd g n) X L tg u.1 u.2.1 u.2.2.1 ∧ u.2.2.2 = z_L_act_cancel_y1 A rq ln ar pd g n w nl)) 2 1004 (ew_A L sz) := by
  refine em_met (by decide) rfl (Nat.le_of_ble_eq_true rfl) ?_
  intro p e s m below meth c ls hx hb hr hts hown hlocks hml hnm hV hK hN hZ hS hA hl hsz
  subst hsz
  have hl : lv_has ls 7 [(0, .ref th), (1, .int (nI rq)), (2, .int (nI ln)), (3, .int 2), (4, .int ar)] := hl
  refine lv_aload_n hx hb dL_act_0 rfl (lv_at hl 0 rfl) ?_
  refine lv_iload_n hx hb dL_act_1 rfl (lv_at hl 2 rfl) ?_
  refine er_callq (va_runV (As := [.int (nI ln)]) (rest := []) ⟨hx, hb, hml, hown, hts⟩ (c_L_loanAt_ok l D T X L tg _ A th hth ln nl e10_7 e2_6 hnl2 qnl hl9 qfl) (cwV 1 hts gL_88 rfl rfl rfl (by decide +kernel) ⟨Nat.le_of_ble_eq_true rfl, Nat.le_of_ble_eq_true rfl⟩) (ec_preV hK hN hV hth (cC_0 _ _ _ _) rfl) rfl rfl hl.1 rfl (lv_room (Nat.le_of_ble_eq_true rfl)) dL_act_2 ⟨Nat.le_of_ble_eq_true rfl, Nat.le_of_ble_eq_true rfl⟩) hV hS hA (fun r u H locs hp hV hS => ?_)
  obtain ⟨rfl, eu9⟩ := hp
  rw [eu9] at hV
  refine lv_astore (lv' := [(5, .ref (X 2 ln)), (0, .ref th), (1, .int (nI rq)), (2, .int (nI ln)), (3, .int 2), (4, .int ar)]) hx hb dL_act_5 hl (by decide) rfl (fun ls hl => ?_)
  refine lv_aload hx hb dL_act_7 (lv_at hl 0 rfl) ?_
  refine lv_ifnull hx hb dL_act_9 ?_
  refine lv_iload_n hx hb dL_act_12 rfl (lv_at hl 4 rfl) ?_
  refine lv_if_lt (tgt := 22) hx hb dL_act_13 rfl (fun h9 => absurd h9 (by decide)) (fun _ => ?_)
  refine lv_iload_n hx hb dL_act_16 rfl (lv_at hl 4 rfl) ?_
  refine lv_bipush (v := 14) hx hb dL_act_17 (by decide) ?_
  refine lv_icmp_le (tgt := 32) hx hb dL_act_19 rfl (fun _ => ?_) (fun h9 => absurd (by decide) h9)
  refine lv_iload_n hx hb dL_act_32 rfl (lv_at hl 4 rfl) ?_
  refine lv_bipush (v := 6) hx hb dL_act_33 (by decide) ?_
  refine lv_icmp_gt (tgt := 86) hx hb dL_act_35 rfl (fun h9 => absurd h9 (by decide)) (fun _ => ?_)
  refine lv_iload_n hx hb dL_act_38 rfl (lv_at hl 2 rfl) ?_
  refine lv_aload hx hb dL_act_39 (lv_at hl 0 rfl) ?_
  refine ew_get (v := .int (A 2 ln 1)) hx hb hts hown hK hV fL_96 e2_6 (cC_2 _ _ _ _) rfl dL_act_41 ?_
  refine lv_toe (y := nI rq) q1 ?_
  refine lv_icmp_eq (tgt := 57) hx hb dL_act_44 rfl (fun _ => ?_) (fun h9 => absurd ((nI_eq (a := rq) (b := rq) (by omega) (by omega)).mpr rfl) h9)
  refine lv_aload_n hx hb dL_act_57 rfl (lv_at hl 1 rfl) ?_
  refine lv_aload hx hb dL_act_58 (lv_at hl 0 rfl) ?_
  refine lv_iload_n hx hb dL_act_60 rfl (lv_at hl 4 rfl) ?_
  refine em_calli (va_runV (As := [.ref (X 2 ln), .int 2]) (rest := []) ⟨hx, hb, hml, hown, hts⟩ (c_L_rd_cancel_y1 l D T t0 X L tg _ A ln th hth (X 2 ln) e2_6 pd g n w e3_0 e4_1 e5_2 e8_3 e7_4 e12_5 hd hn hLS hw qw hcl hnl hnew q7 hst) (cwV 2 hts gL_101 rfl rfl rfl (by decide +kernel) ⟨Nat.le_of_ble_eq_true rfl, Nat.le_of_ble_eq_true rfl⟩) (em_preV hK hN hV hZ hS hA hth (cC_0 _ _ _ _) rfl) rfl rfl hl.1 rfl (lv_room (Nat.le_of_ble_eq_true rfl)) dL_act_61 ⟨Nat.le_of_ble_eq_true rfl, Nat.le_of_ble_eq_true rfl⟩) hV hS hA (fun r X1 L1 tg1 u H locs hp hV hS => ?_)
  obtain ⟨rfl, hS9, eA9⟩ := hp
  refine lv_if_ne (tgt := 77) hx hb dL_act_64 rfl (fun _ => ?_) (fun h9 => absurd h9 (by decide))
  have hS9 : em_S (nw_5 pd g n) X L tg X1 L1 tg1 := hS9
  refine lv_aload hx hb dL_act_77 (lv_at hl 0 rfl) ?_
  refine ew_get (v := .ref (X1 3 ln)) hx hb hts hown hK hV fL_107 (hS9.ad e2_6) (cC_2 _ _ _ _) rfl dL_act_79 ?_
  refine ew_get (v := .int (u 3 ln 0)) hx hb hts hown hK hV fL_111 (hS9.ad e3_0).self (cC_3 _ _ _ _) rfl dL_act_82 ?_
  have eA9 : u = z_L_act_cancel_y1 A rq ln ar pd g n w nl := eA9
  exact em_iret hx hb hr hlocks hV hS dL_act_85 ⟨by rw [eA9], hS9, eA9⟩

def z_L_act_cancel_y2 (A : ew_R) (rq : Nat) (ln : Nat) (ar : Int32) (pd : Nat) (g : Nat) (n : Nat) (w : Nat) (nl : Nat) : ew_R :=
  z_L_rd_cancel_y2 A ln pd g n w
set_option maxHeartbeats 4000000 in
set_option maxRecDepth 100000 in
theorem c_L_act_cancel_y2 (l : Launch) (D : va_G) (T : Nat → ClassId) (t0 : Nat × Nat) (X : Nat → Nat → Nat) (L : List Nat) (tg : Nat → Nat × Nat) (sz : Nat) (A : ew_R) (th : Nat) (hth : ew_in X L tg 0 0 th) (rq : Nat) (ln : Nat) (ar : Int32) (pd : Nat) (g : Nat) (n : Nat) (w : Nat) (nl : Nat) (e3_0 : ew_in X L tg 3 ln (X 3 ln)) (e4_1 : ew_in X L tg 4 pd (X 4 pd)) (e5_2 : ew_in X L tg 5 pd (X 5 pd)) (e8_3 : ew_in X L tg 8 pd (X 8 pd)) (e7_4 : ew_in X L tg 7 0 (X 7 0)) (e12_5 : ew_in X L tg 12 0 (X 12 0)) (e2_6 : ew_in X L tg 2 ln (X 2 ln)) (e10_7 : ew_in X L tg 10 0 (X 10 0)) (hd : pd < 192) (hn : n < 512) (hLS : lsC 8 14 t0 X L tg A pd g n) (hw : w ≤ 64) (qw : A 7 0 1 = nI w) (hcl : clC X L tg A) (hnl : ∀ b ∈ L, (6, 512 * pd + n) ≠ tg b) (hnew : ∀ b ∈ L, (14, 64 * pd + g + 1) ≠ tg b) (q7 : A 2 ln 7 = nI pd) (hst : A 3 ln 0 = 2) (hrq : rq < 6) (q1 : A 2 ln 1 = nI rq) (hnl2 : nl ≤ 32) (qnl : A 0 0 6 = nI nl) (hl9 : ln < nl) (qfl : ¬ A 10 0 ln = 0) : Met l yL_act wsL_act ({ frames := 12, cells := 2, slots := 1004, locals := 380 }) (em_Pc D vwCl (tysA T) (cfC T) t0 X L tg A sz [.ref th, .int (nI rq), .int (nI ln), .int 2, .int ar]) (em_Qi D vwCl (cfC T) L sz (fun r u => r = z_L_act_cancel_y2 A rq ln ar pd g n w nl 3 ln 0 ∧ em_S (nw_5 pd g n) X L tg u.1 u.2.1 u.2.2.1 ∧ u.2.2.2 = z_L_act_cancel_y2 A rq ln ar pd g n w nl)) 2 1004 (ew_A L sz) := by
  refine em_met (by decide) rfl (Nat.le_of_ble_eq_true rfl) ?_
  intro p e s m below meth c ls hx hb hr hts hown hlocks hml hnm hV hK hN hZ hS hA hl hsz
  subst hsz
  have hl : lv_has ls 7 [(0, .ref th), (1, .int (nI rq)), (2, .int (nI ln)), (3, .int 2), (4, .int ar)] := hl
  refine lv_aload_n hx hb dL_act_0 rfl (lv_at hl 0 rfl) ?_
  refine lv_iload_n hx hb dL_act_1 rfl (lv_at hl 2 rfl) ?_
  refine er_callq (va_runV (As := [.int (nI ln)]) (rest := []) ⟨hx, hb, hml, hown, hts⟩ (c_L_loanAt_ok l D T X L tg _ A th hth ln nl e10_7 e2_6 hnl2 qnl hl9 qfl) (cwV 1 hts gL_88 rfl rfl rfl (by decide +kernel) ⟨Nat.le_of_ble_eq_true rfl, Nat.le_of_ble_eq_true rfl⟩) (ec_preV hK hN hV hth (cC_0 _ _ _ _) rfl) rfl rfl hl.1 rfl (lv_room (Nat.le_of_ble_eq_true rfl)) dL_act_2 ⟨Nat.le_of_ble_eq_true rfl, Nat.le_of_ble_eq_true rfl⟩) hV hS hA (fun r u H locs hp hV hS => ?_)
  obtain ⟨rfl, eu9⟩ := hp
  rw [eu9] at hV
  refine lv_astore (lv' := [(5, .ref (X 2 ln)), (0, .ref th), (1, .int (nI rq)), (2, .int (nI ln)), (3, .int 2), (4, .int ar)]) hx hb dL_act_5 hl (by decide) rfl (fun ls hl => ?_)
  refine lv_aload hx hb dL_act_7 (lv_at hl 0 rfl) ?_
  refine lv_ifnull hx hb dL_act_9 ?_
  refine lv_iload_n hx hb dL_act_12 rfl (lv_at hl 4 rfl) ?_
  refine lv_if_lt (tgt := 22) hx hb dL_act_13 rfl (fun h9 => absurd h9 (by decide)) (fun _ => ?_)
  refine lv_iload_n hx hb dL_act_16 rfl (lv_at hl 4 rfl) ?_
  refine lv_bipush (v := 14) hx hb dL_act_17 (by decide) ?_
  refine lv_icmp_le (tgt := 32) hx hb dL_act_19 rfl (fun _ => ?_) (fun h9 => absurd (by decide) h9)
  refine lv_iload_n hx hb dL_act_32 rfl (lv_at hl 4 rfl) ?_
  refine lv_bipush (v := 6) hx hb dL_act_33 (by decide) ?_
  refine lv_icmp_gt (tgt := 86) hx hb dL_act_35 rfl (fun h9 => absurd h9 (by decide)) (fun _ => ?_)
  refine lv_iload_n hx hb dL_act_38 rfl (lv_at hl 2 rfl) ?_
  refine lv_aload hx hb dL_act_39 (lv_at hl 0 rfl) ?_
  refine ew_get (v := .int (A 2 ln 1)) hx hb hts hown hK hV fL_96 e2_6 (cC_2 _ _ _ _) rfl dL_act_41 ?_
  refine lv_toe (y := nI rq) q1 ?_
  refine lv_icmp_eq (tgt := 57) hx hb dL_act_44 rfl (fun _ => ?_) (fun h9 => absurd ((nI_eq (a := rq) (b := rq) (by omega) (by omega)).mpr rfl) h9)
  refine lv_aload_n hx hb dL_act_57 rfl (lv_at hl 1 rfl) ?_
  refine lv_aload hx hb dL_act_58 (lv_at hl 0 rfl) ?_
  refine lv_iload_n hx hb dL_act_60 rfl (lv_at hl 4 rfl) ?_
  refine em_calli (va_runV (As := [.ref (X 2 ln), .int 2]) (rest := []) ⟨hx, hb, hml, hown, hts⟩ (c_L_rd_cancel_y2 l D T t0 X L tg _ A ln th hth (X 2 ln) e2_6 pd g n w e3_0 e4_1 e5_2 e8_3 e7_4 e12_5 hd hn hLS hw qw hcl hnl hnew q7 hst) (cwV 2 hts gL_101 rfl rfl rfl (by decide +kernel) ⟨Nat.le_of_ble_eq_true rfl, Nat.le_of_ble_eq_true rfl⟩) (em_preV hK hN hV hZ hS hA hth (cC_0 _ _ _ _) rfl) rfl rfl hl.1 rfl (lv_room (Nat.le_of_ble_eq_true rfl)) dL_act_61 ⟨Nat.le_of_ble_eq_true rfl, Nat.le_of_ble_eq_true rfl⟩) hV hS hA (fun r X1 L1 tg1 u H locs hp hV hS => ?_)
  obtain ⟨rfl, hS9, eA9⟩ := hp
  refine lv_if_ne (tgt := 77) hx hb dL_act_64 rfl (fun _ => ?_) (fun h9 => absurd h9 (by decide))
  have hS9 : em_S (nw_5 pd g n) X L tg X1 L1 tg1 := hS9
  refine lv_aload hx hb dL_act_77 (lv_at hl 0 rfl) ?_
  refine ew_get (v := .ref (X1 3 ln)) hx hb hts hown hK hV fL_107 (hS9.ad e2_6) (cC_2 _ _ _ _) rfl dL_act_79 ?_
  refine ew_get (v := .int (u 3 ln 0)) hx hb hts hown hK hV fL_111 (hS9.ad e3_0).self (cC_3 _ _ _ _) rfl dL_act_82 ?_
  have eA9 : u = z_L_act_cancel_y2 A rq ln ar pd g n w nl := eA9
  exact em_iret hx hb hr hlocks hV hS dL_act_85 ⟨by rw [eA9], hS9, eA9⟩

def z_L_act_receive_y (A : ew_R) (rq : Nat) (ln : Nat) (ar : Int32) (pd : Nat) (g : Nat) (n : Nat) (w : Nat) (cp : Nat) (nl : Nat) : ew_R :=
  z_L_rd_receive_y A ln pd g n w cp
set_option maxHeartbeats 4000000 in
set_option maxRecDepth 100000 in
theorem c_L_act_receive_y (l : Launch) (D : va_G) (T : Nat → ClassId) (t0 : Nat × Nat) (X : Nat → Nat → Nat) (L : List Nat) (tg : Nat → Nat × Nat) (sz : Nat) (A : ew_R) (th : Nat) (hth : ew_in X L tg 0 0 th) (rq : Nat) (ln : Nat) (ar : Int32) (pd : Nat) (g : Nat) (n : Nat) (w : Nat) (cp : Nat) (nl : Nat) (e3_0 : ew_in X L tg 3 ln (X 3 ln)) (e4_1 : ew_in X L tg 4 pd (X 4 pd)) (e5_2 : ew_in X L tg 5 pd (X 5 pd)) (e8_3 : ew_in X L tg 8 pd (X 8 pd)) (e7_4 : ew_in X L tg 7 0 (X 7 0)) (e12_5 : ew_in X L tg 12 0 (X 12 0)) (e1_6 : ew_in X L tg 1 cp (X 1 cp)) (e2_7 : ew_in X L tg 2 ln (X 2 ln)) (e10_8 : ew_in X L tg 10 0 (X 10 0)) (hd : pd < 192) (hn : n < 512) (hLS : lsC 8 14 t0 X L tg A pd g n) (hw : w ≤ 64) (qw : A 7 0 1 = nI w) (hcl : clC X L tg A) (hnl : ∀ b ∈ L, (6, 512 * pd + n) ≠ tg b) (hnew : ∀ b ∈ L, (14, 64 * pd + g + 1) ≠ tg b) (q7 : A 2 ln 7 = nI pd) (hcp : cp < 32) (q4 : A 4 pd 4 = nI cp) (hst : A 3 ln 0 = 3) (hrq : rq < 6) (q1 : A 2 ln 1 = nI rq) (hnl2 : nl ≤ 32) (qnl : A 0 0 6 = nI nl) (hl9 : ln < nl) (qfl : ¬ A 10 0 ln = 0) : Met l yL_act wsL_act ({ frames := 12, cells := 2, slots := 1004, locals := 380 }) (em_Pc D vwCl (tysA T) (cfC T) t0 X L tg A sz [.ref th, .int (nI rq), .int (nI ln), .int 3, .int ar]) (em_Qi D vwCl (cfC T) L sz (fun r u => r = z_L_act_receive_y A rq ln ar pd g n w cp nl 3 ln 0 ∧ em_S (nw_5 pd g n) X L tg u.1 u.2.1 u.2.2.1 ∧ u.2.2.2 = z_L_act_receive_y A rq ln ar pd g n w cp nl)) 2 1004 (ew_A L sz) := by
  refine em_met (by decide) rfl (Nat.le_of_ble_eq_true rfl) ?_
  intro p e s m below meth c ls hx hb hr hts hown hlocks hml hnm hV hK hN hZ hS hA hl hsz
  subst hsz
  have hl : lv_has ls 7 [(0, .ref th), (1, .int (nI rq)), (2, .int (nI ln)), (3, .int 3), (4, .int ar)] := hl
  refine lv_aload_n hx hb dL_act_0 rfl (lv_at hl 0 rfl) ?_
  refine lv_iload_n hx hb dL_act_1 rfl (lv_at hl 2 rfl) ?_
  refine er_callq (va_runV (As := [.int (nI ln)]) (rest := []) ⟨hx, hb, hml, hown, hts⟩ (c_L_loanAt_ok l D T X L tg _ A th hth ln nl e10_8 e2_7 hnl2 qnl hl9 qfl) (cwV 1 hts gL_88 rfl rfl rfl (by decide +kernel) ⟨Nat.le_of_ble_eq_true rfl, Nat.le_of_ble_eq_true rfl⟩) (ec_preV hK hN hV hth (cC_0 _ _ _ _) rfl) rfl rfl hl.1 rfl (lv_room (Nat.le_of_ble_eq_true rfl)) dL_act_2 ⟨Nat.le_of_ble_eq_true rfl, Nat.le_of_ble_eq_true rfl⟩) hV hS hA (fun r u H locs hp hV hS => ?_)
  obtain ⟨rfl, eu9⟩ := hp
  rw [eu9] at hV
  refine lv_astore (lv' := [(5, .ref (X 2 ln)), (0, .ref th), (1, .int (nI rq)), (2, .int (nI ln)), (3, .int 3), (4, .int ar)]) hx hb dL_act_5 hl (by decide) rfl (fun ls hl => ?_)
  refine lv_aload hx hb dL_act_7 (lv_at hl 0 rfl) ?_
  refine lv_ifnull hx hb dL_act_9 ?_
  refine lv_iload_n hx hb dL_act_12 rfl (lv_at hl 4 rfl) ?_
  refine lv_if_lt (tgt := 22) hx hb dL_act_13 rfl (fun h9 => absurd h9 (by decide)) (fun _ => ?_)
  refine lv_iload_n hx hb dL_act_16 rfl (lv_at hl 4 rfl) ?_
  refine lv_bipush (v := 14) hx hb dL_act_17 (by decide) ?_
  refine lv_icmp_le (tgt := 32) hx hb dL_act_19 rfl (fun _ => ?_) (fun h9 => absurd (by decide) h9)
  refine lv_iload_n hx hb dL_act_32 rfl (lv_at hl 4 rfl) ?_
  refine lv_bipush (v := 6) hx hb dL_act_33 (by decide) ?_
  refine lv_icmp_gt (tgt := 86) hx hb dL_act_35 rfl (fun h9 => absurd h9 (by decide)) (fun _ => ?_)
  refine lv_iload_n hx hb dL_act_38 rfl (lv_at hl 2 rfl) ?_
  refine lv_aload hx hb dL_act_39 (lv_at hl 0 rfl) ?_
  refine ew_get (v := .int (A 2 ln 1)) hx hb hts hown hK hV fL_96 e2_7 (cC_2 _ _ _ _) rfl dL_act_41 ?_
  refine lv_toe (y := nI rq) q1 ?_
  refine lv_icmp_eq (tgt := 57) hx hb dL_act_44 rfl (fun _ => ?_) (fun h9 => absurd ((nI_eq (a := rq) (b := rq) (by omega) (by omega)).mpr rfl) h9)
  refine lv_aload_n hx hb dL_act_57 rfl (lv_at hl 1 rfl) ?_
  refine lv_aload hx hb dL_act_58 (lv_at hl 0 rfl) ?_
  refine lv_iload_n hx hb dL_act_60 rfl (lv_at hl 4 rfl) ?_
  refine em_calli (va_runV (As := [.ref (X 2 ln), .int 3]) (rest := []) ⟨hx, hb, hml, hown, hts⟩ (c_L_rd_receive_y l D T t0 X L tg _ A ln th hth (X 2 ln) e2_7 pd g n w cp e3_0 e4_1 e5_2 e8_3 e7_4 e12_5 e1_6 hd hn hLS hw qw hcl hnl hnew q7 hcp q4 hst) (cwV 2 hts gL_101 rfl rfl rfl (by decide +kernel) ⟨Nat.le_of_ble_eq_true rfl, Nat.le_of_ble_eq_true rfl⟩) (em_preV hK hN hV hZ hS hA hth (cC_0 _ _ _ _) rfl) rfl rfl hl.1 rfl (lv_room (Nat.le_of_ble_eq_true rfl)) dL_act_61 ⟨Nat.le_of_ble_eq_true rfl, Nat.le_of_ble_eq_true rfl⟩) hV hS hA (fun r X1 L1 tg1 u H locs hp hV hS => ?_)
  obtain ⟨rfl, hS9, eA9⟩ := hp
  refine lv_if_ne (tgt := 77) hx hb dL_act_64 rfl (fun _ => ?_) (fun h9 => absurd h9 (by decide))
  have hS9 : em_S (nw_5 pd g n) X L tg X1 L1 tg1 := hS9
  refine lv_aload hx hb dL_act_77 (lv_at hl 0 rfl) ?_
  refine ew_get (v := .ref (X1 3 ln)) hx hb hts hown hK hV fL_107 (hS9.ad e2_7) (cC_2 _ _ _ _) rfl dL_act_79 ?_
  refine ew_get (v := .int (u 3 ln 0)) hx hb hts hown hK hV fL_111 (hS9.ad e3_0).self (cC_3 _ _ _ _) rfl dL_act_82 ?_
  have eA9 : u = z_L_act_receive_y A rq ln ar pd g n w cp nl := eA9
  exact em_iret hx hb hr hlocks hV hS dL_act_85 ⟨by rw [eA9], hS9, eA9⟩

def z_L_act_renew_y (A : ew_R) (rq : Nat) (ln : Nat) (ar : Int32) (pd : Nat) (g : Nat) (n : Nat) (w : Nat) (nl : Nat) : ew_R :=
  z_L_rd_renew_y A ln pd g n w
set_option maxHeartbeats 4000000 in
set_option maxRecDepth 100000 in
theorem c_L_act_renew_y (l : Launch) (D : va_G) (T : Nat → ClassId) (t0 : Nat × Nat) (X : Nat → Nat → Nat) (L : List Nat) (tg : Nat → Nat × Nat) (sz : Nat) (A : ew_R) (th : Nat) (hth : ew_in X L tg 0 0 th) (rq : Nat) (ln : Nat) (ar : Int32) (pd : Nat) (g : Nat) (n : Nat) (w : Nat) (nl : Nat) (e3_0 : ew_in X L tg 3 ln (X 3 ln)) (e4_1 : ew_in X L tg 4 pd (X 4 pd)) (e5_2 : ew_in X L tg 5 pd (X 5 pd)) (e8_3 : ew_in X L tg 8 pd (X 8 pd)) (e7_4 : ew_in X L tg 7 0 (X 7 0)) (e12_5 : ew_in X L tg 12 0 (X 12 0)) (e2_6 : ew_in X L tg 2 ln (X 2 ln)) (e10_7 : ew_in X L tg 10 0 (X 10 0)) (hd : pd < 192) (hn : n < 512) (hLS : lsC 8 14 t0 X L tg A pd g n) (hw : w ≤ 64) (qw : A 7 0 1 = nI w) (hcl : clC X L tg A) (hnl : ∀ b ∈ L, (6, 512 * pd + n) ≠ tg b) (hnew : ∀ b ∈ L, (14, 64 * pd + g + 1) ≠ tg b) (q7 : A 2 ln 7 = nI pd) (hst : A 3 ln 0 = 4) (hrq : rq < 6) (q1 : A 2 ln 1 = nI rq) (hnl2 : nl ≤ 32) (qnl : A 0 0 6 = nI nl) (hl9 : ln < nl) (qfl : ¬ A 10 0 ln = 0) : Met l yL_act wsL_act ({ frames := 12, cells := 2, slots := 1004, locals := 380 }) (em_Pc D vwCl (tysA T) (cfC T) t0 X L tg A sz [.ref th, .int (nI rq), .int (nI ln), .int 4, .int ar]) (em_Qi D vwCl (cfC T) L sz (fun r u => r = z_L_act_renew_y A rq ln ar pd g n w nl 3 ln 0 ∧ em_S (nw_5 pd g n) X L tg u.1 u.2.1 u.2.2.1 ∧ u.2.2.2 = z_L_act_renew_y A rq ln ar pd g n w nl)) 2 1004 (ew_A L sz) := by
  refine em_met (by decide) rfl (Nat.le_of_ble_eq_true rfl) ?_
  intro p e s m below meth c ls hx hb hr hts hown hlocks hml hnm hV hK hN hZ hS hA hl hsz
  subst hsz
  have hl : lv_has ls 7 [(0, .ref th), (1, .int (nI rq)), (2, .int (nI ln)), (3, .int 4), (4, .int ar)] := hl
  refine lv_aload_n hx hb dL_act_0 rfl (lv_at hl 0 rfl) ?_
  refine lv_iload_n hx hb dL_act_1 rfl (lv_at hl 2 rfl) ?_
  refine er_callq (va_runV (As := [.int (nI ln)]) (rest := []) ⟨hx, hb, hml, hown, hts⟩ (c_L_loanAt_ok l D T X L tg _ A th hth ln nl e10_7 e2_6 hnl2 qnl hl9 qfl) (cwV 1 hts gL_88 rfl rfl rfl (by decide +kernel) ⟨Nat.le_of_ble_eq_true rfl, Nat.le_of_ble_eq_true rfl⟩) (ec_preV hK hN hV hth (cC_0 _ _ _ _) rfl) rfl rfl hl.1 rfl (lv_room (Nat.le_of_ble_eq_true rfl)) dL_act_2 ⟨Nat.le_of_ble_eq_true rfl, Nat.le_of_ble_eq_true rfl⟩) hV hS hA (fun r u H locs hp hV hS => ?_)
  obtain ⟨rfl, eu9⟩ := hp
  rw [eu9] at hV
  refine lv_astore (lv' := [(5, .ref (X 2 ln)), (0, .ref th), (1, .int (nI rq)), (2, .int (nI ln)), (3, .int 4), (4, .int ar)]) hx hb dL_act_5 hl (by decide) rfl (fun ls hl => ?_)
  refine lv_aload hx hb dL_act_7 (lv_at hl 0 rfl) ?_
  refine lv_ifnull hx hb dL_act_9 ?_
  refine lv_iload_n hx hb dL_act_12 rfl (lv_at hl 4 rfl) ?_
  refine lv_if_lt (tgt := 22) hx hb dL_act_13 rfl (fun h9 => absurd h9 (by decide)) (fun _ => ?_)
  refine lv_iload_n hx hb dL_act_16 rfl (lv_at hl 4 rfl) ?_
  refine lv_bipush (v := 14) hx hb dL_act_17 (by decide) ?_
  refine lv_icmp_le (tgt := 32) hx hb dL_act_19 rfl (fun _ => ?_) (fun h9 => absurd (by decide) h9)
  refine lv_iload_n hx hb dL_act_32 rfl (lv_at hl 4 rfl) ?_
  refine lv_bipush (v := 6) hx hb dL_act_33 (by decide) ?_
  refine lv_icmp_gt (tgt := 86) hx hb dL_act_35 rfl (fun h9 => absurd h9 (by decide)) (fun _ => ?_)
  refine lv_iload_n hx hb dL_act_38 rfl (lv_at hl 2 rfl) ?_
  refine lv_aload hx hb dL_act_39 (lv_at hl 0 rfl) ?_
  refine ew_get (v := .int (A 2 ln 1)) hx hb hts hown hK hV fL_96 e2_6 (cC_2 _ _ _ _) rfl dL_act_41 ?_
  refine lv_toe (y := nI rq) q1 ?_
  refine lv_icmp_eq (tgt := 57) hx hb dL_act_44 rfl (fun _ => ?_) (fun h9 => absurd ((nI_eq (a := rq) (b := rq) (by omega) (by omega)).mpr rfl) h9)
  refine lv_aload_n hx hb dL_act_57 rfl (lv_at hl 1 rfl) ?_
  refine lv_aload hx hb dL_act_58 (lv_at hl 0 rfl) ?_
  refine lv_iload_n hx hb dL_act_60 rfl (lv_at hl 4 rfl) ?_
  refine em_calli (va_runV (As := [.ref (X 2 ln), .int 4]) (rest := []) ⟨hx, hb, hml, hown, hts⟩ (c_L_rd_renew_y l D T t0 X L tg _ A ln th hth (X 2 ln) e2_6 pd g n w e3_0 e4_1 e5_2 e8_3 e7_4 e12_5 hd hn hLS hw qw hcl hnl hnew q7 hst) (cwV 2 hts gL_101 rfl rfl rfl (by decide +kernel) ⟨Nat.le_of_ble_eq_true rfl, Nat.le_of_ble_eq_true rfl⟩) (em_preV hK hN hV hZ hS hA hth (cC_0 _ _ _ _) rfl) rfl rfl hl.1 rfl (lv_room (Nat.le_of_ble_eq_true rfl)) dL_act_61 ⟨Nat.le_of_ble_eq_true rfl, Nat.le_of_ble_eq_true rfl⟩) hV hS hA (fun r X1 L1 tg1 u H locs hp hV hS => ?_)
  obtain ⟨rfl, hS9, eA9⟩ := hp
  refine lv_if_ne (tgt := 77) hx hb dL_act_64 rfl (fun _ => ?_) (fun h9 => absurd h9 (by decide))
  have hS9 : em_S (nw_5 pd g n) X L tg X1 L1 tg1 := hS9
  refine lv_aload hx hb dL_act_77 (lv_at hl 0 rfl) ?_
  refine ew_get (v := .ref (X1 3 ln)) hx hb hts hown hK hV fL_107 (hS9.ad e2_6) (cC_2 _ _ _ _) rfl dL_act_79 ?_
  refine ew_get (v := .int (u 3 ln 0)) hx hb hts hown hK hV fL_111 (hS9.ad e3_0).self (cC_3 _ _ _ _) rfl dL_act_82 ?_
  have eA9 : u = z_L_act_renew_y A rq ln ar pd g n w nl := eA9
  exact em_iret hx hb hr hlocks hV hS dL_act_85 ⟨by rw [eA9], hS9, eA9⟩

def z_L_act_giveBack_y (A : ew_R) (rq : Nat) (ln : Nat) (ar : Int32) (pd : Nat) (g : Nat) (n : Nat) (w : Nat) (cp : Nat) (nl : Nat) : ew_R :=
  z_L_rd_giveBack_y A ln pd g n w cp
set_option maxHeartbeats 4000000 in
set_option maxRecDepth 100000 in
theorem c_L_act_giveBack_y (l : Launch) (D : va_G) (T : Nat → ClassId) (t0 : Nat × Nat) (X : Nat → Nat → Nat) (L : List Nat) (tg : Nat → Nat × Nat) (sz : Nat) (A : ew_R) (th : Nat) (hth : ew_in X L tg 0 0 th) (rq : Nat) (ln : Nat) (ar : Int32) (pd : Nat) (g : Nat) (n : Nat) (w : Nat) (cp : Nat) (nl : Nat) (e3_0 : ew_in X L tg 3 ln (X 3 ln)) (e4_1 : ew_in X L tg 4 pd (X 4 pd)) (e5_2 : ew_in X L tg 5 pd (X 5 pd)) (e8_3 : ew_in X L tg 8 pd (X 8 pd)) (e7_4 : ew_in X L tg 7 0 (X 7 0)) (e12_5 : ew_in X L tg 12 0 (X 12 0)) (e1_6 : ew_in X L tg 1 cp (X 1 cp)) (e2_7 : ew_in X L tg 2 ln (X 2 ln)) (e10_8 : ew_in X L tg 10 0 (X 10 0)) (hd : pd < 192) (hn : n < 512) (hLS : lsC 8 14 t0 X L tg A pd g n) (hw : w ≤ 64) (qw : A 7 0 1 = nI w) (hcl : clC X L tg A) (hnl : ∀ b ∈ L, (6, 512 * pd + n) ≠ tg b) (hnew : ∀ b ∈ L, (14, 64 * pd + g + 1) ≠ tg b) (q7 : A 2 ln 7 = nI pd) (hcp : cp < 32) (q4 : A 4 pd 4 = nI cp) (hst : z_Asker_hasCopy (A 3 ln 0) = 1) (hrq : rq < 6) (q1 : A 2 ln 1 = nI rq) (hnl2 : nl ≤ 32) (qnl : A 0 0 6 = nI nl) (hl9 : ln < nl) (qfl : ¬ A 10 0 ln = 0) : Met l yL_act wsL_act ({ frames := 12, cells := 2, slots := 1004, locals := 380 }) (em_Pc D vwCl (tysA T) (cfC T) t0 X L tg A sz [.ref th, .int (nI rq), .int (nI ln), .int 5, .int ar]) (em_Qi D vwCl (cfC T) L sz (fun r u => r = z_L_act_giveBack_y A rq ln ar pd g n w cp nl 3 ln 0 ∧ em_S (nw_5 pd g n) X L tg u.1 u.2.1 u.2.2.1 ∧ u.2.2.2 = z_L_act_giveBack_y A rq ln ar pd g n w cp nl)) 2 1004 (ew_A L sz) := by
  refine em_met (by decide) rfl (Nat.le_of_ble_eq_true rfl) ?_
  intro p e s m below meth c ls hx hb hr hts hown hlocks hml hnm hV hK hN hZ hS hA hl hsz
  subst hsz
  have hl : lv_has ls 7 [(0, .ref th), (1, .int (nI rq)), (2, .int (nI ln)), (3, .int 5), (4, .int ar)] := hl
  refine lv_aload_n hx hb dL_act_0 rfl (lv_at hl 0 rfl) ?_
  refine lv_iload_n hx hb dL_act_1 rfl (lv_at hl 2 rfl) ?_
  refine er_callq (va_runV (As := [.int (nI ln)]) (rest := []) ⟨hx, hb, hml, hown, hts⟩ (c_L_loanAt_ok l D T X L tg _ A th hth ln nl e10_8 e2_7 hnl2 qnl hl9 qfl) (cwV 1 hts gL_88 rfl rfl rfl (by decide +kernel) ⟨Nat.le_of_ble_eq_true rfl, Nat.le_of_ble_eq_true rfl⟩) (ec_preV hK hN hV hth (cC_0 _ _ _ _) rfl) rfl rfl hl.1 rfl (lv_room (Nat.le_of_ble_eq_true rfl)) dL_act_2 ⟨Nat.le_of_ble_eq_true rfl, Nat.le_of_ble_eq_true rfl⟩) hV hS hA (fun r u H locs hp hV hS => ?_)
  obtain ⟨rfl, eu9⟩ := hp
  rw [eu9] at hV
  refine lv_astore (lv' := [(5, .ref (X 2 ln)), (0, .ref th), (1, .int (nI rq)), (2, .int (nI ln)), (3, .int 5), (4, .int ar)]) hx hb dL_act_5 hl (by decide) rfl (fun ls hl => ?_)
  refine lv_aload hx hb dL_act_7 (lv_at hl 0 rfl) ?_
  refine lv_ifnull hx hb dL_act_9 ?_
  refine lv_iload_n hx hb dL_act_12 rfl (lv_at hl 4 rfl) ?_
  refine lv_if_lt (tgt := 22) hx hb dL_act_13 rfl (fun h9 => absurd h9 (by decide)) (fun _ => ?_)
  refine lv_iload_n hx hb dL_act_16 rfl (lv_at hl 4 rfl) ?_
  refine lv_bipush (v := 14) hx hb dL_act_17 (by decide) ?_
  refine lv_icmp_le (tgt := 32) hx hb dL_act_19 rfl (fun _ => ?_) (fun h9 => absurd (by decide) h9)
  refine lv_iload_n hx hb dL_act_32 rfl (lv_at hl 4 rfl) ?_
  refine lv_bipush (v := 6) hx hb dL_act_33 (by decide) ?_
  refine lv_icmp_gt (tgt := 86) hx hb dL_act_35 rfl (fun h9 => absurd h9 (by decide)) (fun _ => ?_)
  refine lv_iload_n hx hb dL_act_38 rfl (lv_at hl 2 rfl) ?_
  refine lv_aload hx hb dL_act_39 (lv_at hl 0 rfl) ?_
  refine ew_get (v := .int (A 2 ln 1)) hx hb hts hown hK hV fL_96 e2_7 (cC_2 _ _ _ _) rfl dL_act_41 ?_
  refine lv_toe (y := nI rq) q1 ?_
  refine lv_icmp_eq (tgt := 57) hx hb dL_act_44 rfl (fun _ => ?_) (fun h9 => absurd ((nI_eq (a := rq) (b := rq) (by omega) (by omega)).mpr rfl) h9)
  refine lv_aload_n hx hb dL_act_57 rfl (lv_at hl 1 rfl) ?_
  refine lv_aload hx hb dL_act_58 (lv_at hl 0 rfl) ?_
  refine lv_iload_n hx hb dL_act_60 rfl (lv_at hl 4 rfl) ?_
  refine em_calli (va_runV (As := [.ref (X 2 ln), .int 5]) (rest := []) ⟨hx, hb, hml, hown, hts⟩ (c_L_rd_giveBack_y l D T t0 X L tg _ A ln th hth (X 2 ln) e2_7 pd g n w cp e3_0 e4_1 e5_2 e8_3 e7_4 e12_5 e1_6 hd hn hLS hw qw hcl hnl hnew q7 hcp q4 hst) (cwV 2 hts gL_101 rfl rfl rfl (by decide +kernel) ⟨Nat.le_of_ble_eq_true rfl, Nat.le_of_ble_eq_true rfl⟩) (em_preV hK hN hV hZ hS hA hth (cC_0 _ _ _ _) rfl) rfl rfl hl.1 rfl (lv_room (Nat.le_of_ble_eq_true rfl)) dL_act_61 ⟨Nat.le_of_ble_eq_true rfl, Nat.le_of_ble_eq_true rfl⟩) hV hS hA (fun r X1 L1 tg1 u H locs hp hV hS => ?_)
  obtain ⟨rfl, hS9, eA9⟩ := hp
  refine lv_if_ne (tgt := 77) hx hb dL_act_64 rfl (fun _ => ?_) (fun h9 => absurd h9 (by decide))
  have hS9 : em_S (nw_5 pd g n) X L tg X1 L1 tg1 := hS9
  refine lv_aload hx hb dL_act_77 (lv_at hl 0 rfl) ?_
  refine ew_get (v := .ref (X1 3 ln)) hx hb hts hown hK hV fL_107 (hS9.ad e2_7) (cC_2 _ _ _ _) rfl dL_act_79 ?_
  refine ew_get (v := .int (u 3 ln 0)) hx hb hts hown hK hV fL_111 (hS9.ad e3_0).self (cC_3 _ _ _ _) rfl dL_act_82 ?_
  have eA9 : u = z_L_act_giveBack_y A rq ln ar pd g n w cp nl := eA9
  exact em_iret hx hb hr hlocks hV hS dL_act_85 ⟨by rw [eA9], hS9, eA9⟩

def z_L_act_lose_ok (A : ew_R) (rq : Nat) (ln : Nat) (ar : Int32) (pd : Nat) (g : Nat) (n : Nat) (w : Nat) (cp : Nat) (nl : Nat) : ew_R :=
  z_L_rd_lose_ok A ln pd g n w cp rq
set_option maxHeartbeats 4000000 in
set_option maxRecDepth 100000 in
theorem c_L_act_lose_ok (l : Launch) (D : va_G) (T : Nat → ClassId) (t0 : Nat × Nat) (X : Nat → Nat → Nat) (L : List Nat) (tg : Nat → Nat × Nat) (sz : Nat) (A : ew_R) (th : Nat) (hth : ew_in X L tg 0 0 th) (rq : Nat) (ln : Nat) (ar : Int32) (pd : Nat) (g : Nat) (n : Nat) (w : Nat) (cp : Nat) (nl : Nat) (e3_0 : ew_in X L tg 3 ln (X 3 ln)) (e4_1 : ew_in X L tg 4 pd (X 4 pd)) (e5_2 : ew_in X L tg 5 pd (X 5 pd)) (e8_3 : ew_in X L tg 8 pd (X 8 pd)) (e7_4 : ew_in X L tg 7 0 (X 7 0)) (e12_5 : ew_in X L tg 12 0 (X 12 0)) (e1_6 : ew_in X L tg 1 cp (X 1 cp)) (e11_7 : ew_in X L tg 11 0 (X 11 0)) (e2_8 : ew_in X L tg 2 ln (X 2 ln)) (e10_9 : ew_in X L tg 10 0 (X 10 0)) (hd : pd < 192) (hn : n < 512) (hLS : lsC 8 14 t0 X L tg A pd g n) (hw : w ≤ 64) (qw : A 7 0 1 = nI w) (hcl : clC X L tg A) (hnl : ∀ b ∈ L, (6, 512 * pd + n) ≠ tg b) (hnew : ∀ b ∈ L, (14, 64 * pd + g + 1) ≠ tg b) (q7 : A 2 ln 7 = nI pd) (hcp : cp < 32) (q4 : A 4 pd 4 = nI cp) (hst : z_Asker_hasCopy (A 3 ln 0) = 1) (hrq : rq < 6) (q1 : A 2 ln 1 = nI rq) (hnl2 : nl ≤ 32) (qnl : A 0 0 6 = nI nl) (hl9 : ln < nl) (qfl : ¬ A 10 0 ln = 0) : Met l yL_act wsL_act ({ frames := 12, cells := 2, slots := 1004, locals := 380 }) (em_Pc D vwCl (tysA T) (cfC T) t0 X L tg A sz [.ref th, .int (nI rq), .int (nI ln), .int 6, .int ar]) (em_Qi D vwCl (cfC T) L sz (fun r u => r = z_L_act_lose_ok A rq ln ar pd g n w cp nl 3 ln 0 ∧ em_S (nw_5 pd g n) X L tg u.1 u.2.1 u.2.2.1 ∧ u.2.2.2 = z_L_act_lose_ok A rq ln ar pd g n w cp nl)) 2 1004 (ew_A L sz) := by
  refine em_met (by decide) rfl (Nat.le_of_ble_eq_true rfl) ?_
  intro p e s m below meth c ls hx hb hr hts hown hlocks hml hnm hV hK hN hZ hS hA hl hsz
  subst hsz
  have hl : lv_has ls 7 [(0, .ref th), (1, .int (nI rq)), (2, .int (nI ln)), (3, .int 6), (4, .int ar)] := hl
  refine lv_aload_n hx hb dL_act_0 rfl (lv_at hl 0 rfl) ?_
  refine lv_iload_n hx hb dL_act_1 rfl (lv_at hl 2 rfl) ?_
  refine er_callq (va_runV (As := [.int (nI ln)]) (rest := []) ⟨hx, hb, hml, hown, hts⟩ (c_L_loanAt_ok l D T X L tg _ A th hth ln nl e10_9 e2_8 hnl2 qnl hl9 qfl) (cwV 1 hts gL_88 rfl rfl rfl (by decide +kernel) ⟨Nat.le_of_ble_eq_true rfl, Nat.le_of_ble_eq_true rfl⟩) (ec_preV hK hN hV hth (cC_0 _ _ _ _) rfl) rfl rfl hl.1 rfl (lv_room (Nat.le_of_ble_eq_true rfl)) dL_act_2 ⟨Nat.le_of_ble_eq_true rfl, Nat.le_of_ble_eq_true rfl⟩) hV hS hA (fun r u H locs hp hV hS => ?_)
  obtain ⟨rfl, eu9⟩ := hp
  rw [eu9] at hV
  refine lv_astore (lv' := [(5, .ref (X 2 ln)), (0, .ref th), (1, .int (nI rq)), (2, .int (nI ln)), (3, .int 6), (4, .int ar)]) hx hb dL_act_5 hl (by decide) rfl (fun ls hl => ?_)
  refine lv_aload hx hb dL_act_7 (lv_at hl 0 rfl) ?_
  refine lv_ifnull hx hb dL_act_9 ?_
  refine lv_iload_n hx hb dL_act_12 rfl (lv_at hl 4 rfl) ?_
  refine lv_if_lt (tgt := 22) hx hb dL_act_13 rfl (fun h9 => absurd h9 (by decide)) (fun _ => ?_)
  refine lv_iload_n hx hb dL_act_16 rfl (lv_at hl 4 rfl) ?_
  refine lv_bipush (v := 14) hx hb dL_act_17 (by decide) ?_
  refine lv_icmp_le (tgt := 32) hx hb dL_act_19 rfl (fun _ => ?_) (fun h9 => absurd (by decide) h9)
  refine lv_iload_n hx hb dL_act_32 rfl (lv_at hl 4 rfl) ?_
  refine lv_bipush (v := 6) hx hb dL_act_33 (by decide) ?_
  refine lv_icmp_gt (tgt := 86) hx hb dL_act_35 rfl (fun h9 => absurd h9 (by decide)) (fun _ => ?_)
  refine lv_iload_n hx hb dL_act_38 rfl (lv_at hl 2 rfl) ?_
  refine lv_aload hx hb dL_act_39 (lv_at hl 0 rfl) ?_
  refine ew_get (v := .int (A 2 ln 1)) hx hb hts hown hK hV fL_96 e2_8 (cC_2 _ _ _ _) rfl dL_act_41 ?_
  refine lv_toe (y := nI rq) q1 ?_
  refine lv_icmp_eq (tgt := 57) hx hb dL_act_44 rfl (fun _ => ?_) (fun h9 => absurd ((nI_eq (a := rq) (b := rq) (by omega) (by omega)).mpr rfl) h9)
  refine lv_aload_n hx hb dL_act_57 rfl (lv_at hl 1 rfl) ?_
  refine lv_aload hx hb dL_act_58 (lv_at hl 0 rfl) ?_
  refine lv_iload_n hx hb dL_act_60 rfl (lv_at hl 4 rfl) ?_
  refine em_calli (va_runV (As := [.ref (X 2 ln), .int 6]) (rest := []) ⟨hx, hb, hml, hown, hts⟩ (c_L_rd_lose_ok l D T t0 X L tg _ A ln th hth (X 2 ln) e2_8 pd g n w cp rq e3_0 e4_1 e5_2 e8_3 e7_4 e12_5 e1_6 e11_7 hd hn hLS hw qw hcl hnl hnew q7 hcp q4 hrq q1 hst) (cwV 2 hts gL_101 rfl rfl rfl (by decide +kernel) ⟨Nat.le_of_ble_eq_true rfl, Nat.le_of_ble_eq_true rfl⟩) (em_preV hK hN hV hZ hS hA hth (cC_0 _ _ _ _) rfl) rfl rfl hl.1 rfl (lv_room (Nat.le_of_ble_eq_true rfl)) dL_act_61 ⟨Nat.le_of_ble_eq_true rfl, Nat.le_of_ble_eq_true rfl⟩) hV hS hA (fun r X1 L1 tg1 u H locs hp hV hS => ?_)
  obtain ⟨rfl, hS9, eA9⟩ := hp
  refine lv_if_ne (tgt := 77) hx hb dL_act_64 rfl (fun _ => ?_) (fun h9 => absurd h9 (by decide))
  have hS9 : em_S (nw_5 pd g n) X L tg X1 L1 tg1 := hS9
  refine lv_aload hx hb dL_act_77 (lv_at hl 0 rfl) ?_
  refine ew_get (v := .ref (X1 3 ln)) hx hb hts hown hK hV fL_107 (hS9.ad e2_8) (cC_2 _ _ _ _) rfl dL_act_79 ?_
  refine ew_get (v := .int (u 3 ln 0)) hx hb hts hown hK hV fL_111 (hS9.ad e3_0).self (cC_3 _ _ _ _) rfl dL_act_82 ?_
  have eA9 : u = z_L_act_lose_ok A rq ln ar pd g n w cp nl := eA9
  exact em_iret hx hb hr hlocks hV hS dL_act_85 ⟨by rw [eA9], hS9, eA9⟩

def z_L_act_offer_y (A : ew_R) (b : Nat) (ln : Nat) (pr : Int32) (g : Nat) (n : Nat) (w : Nat) (nl : Nat) : ew_R :=
  z_L_sd_offer_y A ln (6 * ln + b) pr g n w
set_option maxHeartbeats 4000000 in
set_option maxRecDepth 100000 in
theorem c_L_act_offer_y (l : Launch) (D : va_G) (T : Nat → ClassId) (t0 : Nat × Nat) (X : Nat → Nat → Nat) (L : List Nat) (tg : Nat → Nat × Nat) (sz : Nat) (A : ew_R) (th : Nat) (hth : ew_in X L tg 0 0 th) (b : Nat) (ln : Nat) (pr : Int32) (g : Nat) (n : Nat) (w : Nat) (nl : Nat) (e17_0 : ew_in X L tg 17 (6 * ln + b) (X 17 (6 * ln + b))) (e15_1 : ew_in X L tg 15 (6 * ln + b) (X 15 (6 * ln + b))) (e16_2 : ew_in X L tg 16 (6 * ln + b) (X 16 (6 * ln + b))) (e7_3 : ew_in X L tg 7 0 (X 7 0)) (e12_4 : ew_in X L tg 12 0 (X 12 0)) (e2_5 : ew_in X L tg 2 ln (X 2 ln)) (e10_6 : ew_in X L tg 10 0 (X 10 0)) (e13_7 : ew_in X L tg 13 ln (X 13 ln)) (e4_8 : ew_in X L tg 4 (6 * ln + b) (X 4 (6 * ln + b))) (hd : (6 * ln + b) < 192) (hn : n < 512) (hLS : lsC 16 20 t0 X L tg A (6 * ln + b) g n) (hw : w ≤ 64) (qw : A 7 0 1 = nI w) (hcl : clC X L tg A) (hnl : ∀ a9 ∈ L, (19, 512 * (6 * ln + b) + n) ≠ tg a9) (hnew : ∀ a9 ∈ L, (20, 64 * (6 * ln + b) + g + 1) ≠ tg a9) (hp0 : A 17 (6 * ln + b) 2 = 0) (hst : A 17 (6 * ln + b) 0 = 1) (hp1 : ¬ pr < 1) (hp2 : pr ≤ 1000) (hb6 : b < 6) (qfd : ¬ A 13 ln b = 0) (hnl2 : nl ≤ 32) (qnl : A 0 0 6 = nI nl) (hl9 : ln < nl) (qfl : ¬ A 10 0 ln = 0) : Met l yL_act wsL_act ({ frames := 12, cells := 2, slots := 1004, locals := 380 }) (em_Pc D vwCl (tysA T) (cfC T) t0 X L tg A sz [.ref th, .int (nI b), .int (nI ln), .int 8, .int pr]) (em_Qi D vwCl (cfC T) L sz (fun r u => r = z_L_act_offer_y A b ln pr g n w nl 17 (6 * ln + b) 0 ∧ em_S (nw_15 (6 * ln + b) g n) X L tg u.1 u.2.1 u.2.2.1 ∧ u.2.2.2 = z_L_act_offer_y A b ln pr g n w nl)) 2 1004 (ew_A L sz) := by
  refine em_met (by decide) rfl (Nat.le_of_ble_eq_true rfl) ?_
  intro p e s m below meth c ls hx hb hr hts hown hlocks hml hnm hV hK hN hZ hS hA hl hsz
  subst hsz
  have hl : lv_has ls 7 [(0, .ref th), (1, .int (nI b)), (2, .int (nI ln)), (3, .int 8), (4, .int pr)] := hl
  refine lv_aload_n hx hb dL_act_0 rfl (lv_at hl 0 rfl) ?_
  refine lv_iload_n hx hb dL_act_1 rfl (lv_at hl 2 rfl) ?_
  refine er_callq (va_runV (As := [.int (nI ln)]) (rest := []) ⟨hx, hb, hml, hown, hts⟩ (c_L_loanAt_ok l D T X L tg _ A th hth ln nl e10_6 e2_5 hnl2 qnl hl9 qfl) (cwV 1 hts gL_88 rfl rfl rfl (by decide +kernel) ⟨Nat.le_of_ble_eq_true rfl, Nat.le_of_ble_eq_true rfl⟩) (ec_preV hK hN hV hth (cC_0 _ _ _ _) rfl) rfl rfl hl.1 rfl (lv_room (Nat.le_of_ble_eq_true rfl)) dL_act_2 ⟨Nat.le_of_ble_eq_true rfl, Nat.le_of_ble_eq_true rfl⟩) hV hS hA (fun r u H locs hp hV hS => ?_)
  obtain ⟨rfl, eu9⟩ := hp
  rw [eu9] at hV
  refine lv_astore (lv' := [(5, .ref (X 2 ln)), (0, .ref th), (1, .int (nI b)), (2, .int (nI ln)), (3, .int 8), (4, .int pr)]) hx hb dL_act_5 hl (by decide) rfl (fun ls hl => ?_)
  refine lv_aload hx hb dL_act_7 (lv_at hl 0 rfl) ?_
  refine lv_ifnull hx hb dL_act_9 ?_
  refine lv_iload_n hx hb dL_act_12 rfl (lv_at hl 4 rfl) ?_
  refine lv_if_lt (tgt := 22) hx hb dL_act_13 rfl (fun h9 => absurd h9 (by decide)) (fun _ => ?_)
  refine lv_iload_n hx hb dL_act_16 rfl (lv_at hl 4 rfl) ?_
  refine lv_bipush (v := 14) hx hb dL_act_17 (by decide) ?_
  refine lv_icmp_le (tgt := 32) hx hb dL_act_19 rfl (fun _ => ?_) (fun h9 => absurd (by decide) h9)
  refine lv_iload_n hx hb dL_act_32 rfl (lv_at hl 4 rfl) ?_
  refine lv_bipush (v := 6) hx hb dL_act_33 (by decide) ?_
  refine lv_icmp_gt (tgt := 86) hx hb dL_act_35 rfl (fun _ => ?_) (fun h9 => absurd (by decide) h9)
  refine lv_aload hx hb dL_act_86 (lv_at hl 0 rfl) ?_
  refine lv_iload_n hx hb dL_act_88 rfl (lv_at hl 2 rfl) ?_
  refine er_callq (va_runV (As := [.int (nI b)]) (rest := []) ⟨hx, hb, hml, hown, hts⟩ (c_Loan_dealWith_ok l D T X L tg _ A ln (X 2 ln) e2_5 b e13_7 e4_8 hb6 qfd) (cwV 1 hts gL_116 rfl rfl rfl (by decide +kernel) ⟨Nat.le_of_ble_eq_true rfl, Nat.le_of_ble_eq_true rfl⟩) (ec_preV hK hN hV e2_5 (cC_2 _ _ _ _) rfl) rfl rfl hl.1 rfl (lv_room (Nat.le_of_ble_eq_true rfl)) dL_act_89 ⟨Nat.le_of_ble_eq_true rfl, Nat.le_of_ble_eq_true rfl⟩) hV hS hA (fun r u H locs hp hV hS => ?_)
  obtain ⟨rfl, eu9⟩ := hp
  rw [eu9] at hV
  refine lv_astore (lv' := [(6, .ref (X 4 (6 * ln + b))), (5, .ref (X 2 ln)), (0, .ref th), (1, .int (nI b)), (2, .int (nI ln)), (3, .int 8), (4, .int pr)]) hx hb dL_act_92 hl (by decide) rfl (fun ls hl => ?_)
  refine lv_aload hx hb dL_act_94 (lv_at hl 0 rfl) ?_
  refine lv_ifnonnull (tgt := 109) hx hb dL_act_96 rfl ?_
  refine lv_aload_n hx hb dL_act_109 rfl (lv_at hl 2 rfl) ?_
  refine lv_aload hx hb dL_act_110 (lv_at hl 1 rfl) ?_
  refine lv_aload hx hb dL_act_112 (lv_at hl 0 rfl) ?_
  refine lv_iload_n hx hb dL_act_114 rfl (lv_at hl 5 rfl) ?_
  refine lv_iload hx hb dL_act_115 (lv_at hl 6 rfl) ?_
  refine em_calli (va_runV (As := [.ref (X 2 ln), .ref (X 4 (6 * ln + b)), .int 8, .int pr]) (rest := []) ⟨hx, hb, hml, hown, hts⟩ (c_L_sd_offer_y l D T t0 X L tg _ A ln (6 * ln + b) th hth (X 2 ln) e2_5 (X 4 (6 * ln + b)) e4_8 pr g n w e17_0 e15_1 e16_2 e7_3 e12_4 hd hn hLS hw qw hcl hnl hnew hp0 hst hp1 hp2) (cwV 4 hts gL_122 rfl rfl rfl (by decide +kernel) ⟨Nat.le_of_ble_eq_true rfl, Nat.le_of_ble_eq_true rfl⟩) (em_preV hK hN hV hZ hS hA hth (cC_0 _ _ _ _) rfl) rfl rfl hl.1 rfl (lv_room (Nat.le_of_ble_eq_true rfl)) dL_act_117 ⟨Nat.le_of_ble_eq_true rfl, Nat.le_of_ble_eq_true rfl⟩) hV hS hA (fun r X1 L1 tg1 u H locs hp hV hS => ?_)
  obtain ⟨rfl, hS9, eA9⟩ := hp
  refine lv_if_ne (tgt := 133) hx hb dL_act_120 rfl (fun _ => ?_) (fun h9 => absurd h9 (by decide))
  have hS9 : em_S (nw_15 (6 * ln + b) g n) X L tg X1 L1 tg1 := hS9
  refine lv_aload hx hb dL_act_133 (lv_at hl 0 rfl) ?_
  refine ew_get (v := .ref (X1 17 (6 * ln + b))) hx hb hts hown hK hV fL_128 (hS9.ad e4_8) (cC_4 _ _ _ _) rfl dL_act_135 ?_
  refine ew_get (v := .int (u 17 (6 * ln + b) 0)) hx hb hts hown hK hV fL_111 (hS9.ad e17_0).self (cC_17 _ _ _ _) rfl dL_act_138 ?_
  have eA9 : u = z_L_act_offer_y A b ln pr g n w nl := eA9
  exact em_iret hx hb hr hlocks hV hS dL_act_141 ⟨by rw [eA9], hS9, eA9⟩

def z_L_act_refuse_y (A : ew_R) (b : Nat) (ln : Nat) (ar : Int32) (g : Nat) (n : Nat) (w : Nat) (nl : Nat) : ew_R :=
  z_L_sd_refuse_y A ln (6 * ln + b) ar g n w
set_option maxHeartbeats 4000000 in
set_option maxRecDepth 100000 in
theorem c_L_act_refuse_y (l : Launch) (D : va_G) (T : Nat → ClassId) (t0 : Nat × Nat) (X : Nat → Nat → Nat) (L : List Nat) (tg : Nat → Nat × Nat) (sz : Nat) (A : ew_R) (th : Nat) (hth : ew_in X L tg 0 0 th) (b : Nat) (ln : Nat) (ar : Int32) (g : Nat) (n : Nat) (w : Nat) (nl : Nat) (e17_0 : ew_in X L tg 17 (6 * ln + b) (X 17 (6 * ln + b))) (e15_1 : ew_in X L tg 15 (6 * ln + b) (X 15 (6 * ln + b))) (e16_2 : ew_in X L tg 16 (6 * ln + b) (X 16 (6 * ln + b))) (e7_3 : ew_in X L tg 7 0 (X 7 0)) (e12_4 : ew_in X L tg 12 0 (X 12 0)) (e2_5 : ew_in X L tg 2 ln (X 2 ln)) (e10_6 : ew_in X L tg 10 0 (X 10 0)) (e13_7 : ew_in X L tg 13 ln (X 13 ln)) (e4_8 : ew_in X L tg 4 (6 * ln + b) (X 4 (6 * ln + b))) (hd : (6 * ln + b) < 192) (hn : n < 512) (hLS : lsC 16 20 t0 X L tg A (6 * ln + b) g n) (hw : w ≤ 64) (qw : A 7 0 1 = nI w) (hcl : clC X L tg A) (hnl : ∀ a9 ∈ L, (19, 512 * (6 * ln + b) + n) ≠ tg a9) (hnew : ∀ a9 ∈ L, (20, 64 * (6 * ln + b) + g + 1) ≠ tg a9) (hst : A 17 (6 * ln + b) 0 = 1) (hb6 : b < 6) (qfd : ¬ A 13 ln b = 0) (hnl2 : nl ≤ 32) (qnl : A 0 0 6 = nI nl) (hl9 : ln < nl) (qfl : ¬ A 10 0 ln = 0) : Met l yL_act wsL_act ({ frames := 12, cells := 2, slots := 1004, locals := 380 }) (em_Pc D vwCl (tysA T) (cfC T) t0 X L tg A sz [.ref th, .int (nI b), .int (nI ln), .int 9, .int ar]) (em_Qi D vwCl (cfC T) L sz (fun r u => r = z_L_act_refuse_y A b ln ar g n w nl 17 (6 * ln + b) 0 ∧ em_S (nw_15 (6 * ln + b) g n) X L tg u.1 u.2.1 u.2.2.1 ∧ u.2.2.2 = z_L_act_refuse_y A b ln ar g n w nl)) 2 1004 (ew_A L sz) := by
  refine em_met (by decide) rfl (Nat.le_of_ble_eq_true rfl) ?_
  intro p e s m below meth c ls hx hb hr hts hown hlocks hml hnm hV hK hN hZ hS hA hl hsz
  subst hsz
  have hl : lv_has ls 7 [(0, .ref th), (1, .int (nI b)), (2, .int (nI ln)), (3, .int 9), (4, .int ar)] := hl
  refine lv_aload_n hx hb dL_act_0 rfl (lv_at hl 0 rfl) ?_
  refine lv_iload_n hx hb dL_act_1 rfl (lv_at hl 2 rfl) ?_
  refine er_callq (va_runV (As := [.int (nI ln)]) (rest := []) ⟨hx, hb, hml, hown, hts⟩ (c_L_loanAt_ok l D T X L tg _ A th hth ln nl e10_6 e2_5 hnl2 qnl hl9 qfl) (cwV 1 hts gL_88 rfl rfl rfl (by decide +kernel) ⟨Nat.le_of_ble_eq_true rfl, Nat.le_of_ble_eq_true rfl⟩) (ec_preV hK hN hV hth (cC_0 _ _ _ _) rfl) rfl rfl hl.1 rfl (lv_room (Nat.le_of_ble_eq_true rfl)) dL_act_2 ⟨Nat.le_of_ble_eq_true rfl, Nat.le_of_ble_eq_true rfl⟩) hV hS hA (fun r u H locs hp hV hS => ?_)
  obtain ⟨rfl, eu9⟩ := hp
  rw [eu9] at hV
  refine lv_astore (lv' := [(5, .ref (X 2 ln)), (0, .ref th), (1, .int (nI b)), (2, .int (nI ln)), (3, .int 9), (4, .int ar)]) hx hb dL_act_5 hl (by decide) rfl (fun ls hl => ?_)
  refine lv_aload hx hb dL_act_7 (lv_at hl 0 rfl) ?_
  refine lv_ifnull hx hb dL_act_9 ?_
  refine lv_iload_n hx hb dL_act_12 rfl (lv_at hl 4 rfl) ?_
  refine lv_if_lt (tgt := 22) hx hb dL_act_13 rfl (fun h9 => absurd h9 (by decide)) (fun _ => ?_)
  refine lv_iload_n hx hb dL_act_16 rfl (lv_at hl 4 rfl) ?_
  refine lv_bipush (v := 14) hx hb dL_act_17 (by decide) ?_
  refine lv_icmp_le (tgt := 32) hx hb dL_act_19 rfl (fun _ => ?_) (fun h9 => absurd (by decide) h9)
  refine lv_iload_n hx hb dL_act_32 rfl (lv_at hl 4 rfl) ?_
  refine lv_bipush (v := 6) hx hb dL_act_33 (by decide) ?_
  refine lv_icmp_gt (tgt := 86) hx hb dL_act_35 rfl (fun _ => ?_) (fun h9 => absurd (by decide) h9)
  refine lv_aload hx hb dL_act_86 (lv_at hl 0 rfl) ?_
  refine lv_iload_n hx hb dL_act_88 rfl (lv_at hl 2 rfl) ?_
  refine er_callq (va_runV (As := [.int (nI b)]) (rest := []) ⟨hx, hb, hml, hown, hts⟩ (c_Loan_dealWith_ok l D T X L tg _ A ln (X 2 ln) e2_5 b e13_7 e4_8 hb6 qfd) (cwV 1 hts gL_116 rfl rfl rfl (by decide +kernel) ⟨Nat.le_of_ble_eq_true rfl, Nat.le_of_ble_eq_true rfl⟩) (ec_preV hK hN hV e2_5 (cC_2 _ _ _ _) rfl) rfl rfl hl.1 rfl (lv_room (Nat.le_of_ble_eq_true rfl)) dL_act_89 ⟨Nat.le_of_ble_eq_true rfl, Nat.le_of_ble_eq_true rfl⟩) hV hS hA (fun r u H locs hp hV hS => ?_)
  obtain ⟨rfl, eu9⟩ := hp
  rw [eu9] at hV
  refine lv_astore (lv' := [(6, .ref (X 4 (6 * ln + b))), (5, .ref (X 2 ln)), (0, .ref th), (1, .int (nI b)), (2, .int (nI ln)), (3, .int 9), (4, .int ar)]) hx hb dL_act_92 hl (by decide) rfl (fun ls hl => ?_)
  refine lv_aload hx hb dL_act_94 (lv_at hl 0 rfl) ?_
  refine lv_ifnonnull (tgt := 109) hx hb dL_act_96 rfl ?_
  refine lv_aload_n hx hb dL_act_109 rfl (lv_at hl 2 rfl) ?_
  refine lv_aload hx hb dL_act_110 (lv_at hl 1 rfl) ?_
  refine lv_aload hx hb dL_act_112 (lv_at hl 0 rfl) ?_
  refine lv_iload_n hx hb dL_act_114 rfl (lv_at hl 5 rfl) ?_
  refine lv_iload hx hb dL_act_115 (lv_at hl 6 rfl) ?_
  refine em_calli (va_runV (As := [.ref (X 2 ln), .ref (X 4 (6 * ln + b)), .int 9, .int ar]) (rest := []) ⟨hx, hb, hml, hown, hts⟩ (c_L_sd_refuse_y l D T t0 X L tg _ A ln (6 * ln + b) th hth (X 2 ln) e2_5 (X 4 (6 * ln + b)) e4_8 ar g n w e17_0 e15_1 e16_2 e7_3 e12_4 hd hn hLS hw qw hcl hnl hnew hst) (cwV 4 hts gL_122 rfl rfl rfl (by decide +kernel) ⟨Nat.le_of_ble_eq_true rfl, Nat.le_of_ble_eq_true rfl⟩) (em_preV hK hN hV hZ hS hA hth (cC_0 _ _ _ _) rfl) rfl rfl hl.1 rfl (lv_room (Nat.le_of_ble_eq_true rfl)) dL_act_117 ⟨Nat.le_of_ble_eq_true rfl, Nat.le_of_ble_eq_true rfl⟩) hV hS hA (fun r X1 L1 tg1 u H locs hp hV hS => ?_)
  obtain ⟨rfl, hS9, eA9⟩ := hp
  refine lv_if_ne (tgt := 133) hx hb dL_act_120 rfl (fun _ => ?_) (fun h9 => absurd h9 (by decide))
  have hS9 : em_S (nw_15 (6 * ln + b) g n) X L tg X1 L1 tg1 := hS9
  refine lv_aload hx hb dL_act_133 (lv_at hl 0 rfl) ?_
  refine ew_get (v := .ref (X1 17 (6 * ln + b))) hx hb hts hown hK hV fL_128 (hS9.ad e4_8) (cC_4 _ _ _ _) rfl dL_act_135 ?_
  refine ew_get (v := .int (u 17 (6 * ln + b) 0)) hx hb hts hown hK hV fL_111 (hS9.ad e17_0).self (cC_17 _ _ _ _) rfl dL_act_138 ?_
  have eA9 : u = z_L_act_refuse_y A b ln ar g n w nl := eA9
  exact em_iret hx hb hr hlocks hV hS dL_act_141 ⟨by rw [eA9], hS9, eA9⟩

def z_L_act_ship_ok (A : ew_R) (b : Nat) (ln : Nat) (ar : Int32) (g : Nat) (n : Nat) (w : Nat) (cp : Nat) (M : Int32) (nl : Nat) : ew_R :=
  z_L_sd_ship_ok A ln (6 * ln + b) ar g n w cp M
set_option maxHeartbeats 4000000 in
set_option maxRecDepth 100000 in
theorem c_L_act_ship_ok (l : Launch) (D : va_G) (T : Nat → ClassId) (t0 : Nat × Nat) (X : Nat → Nat → Nat) (L : List Nat) (tg : Nat → Nat × Nat) (sz : Nat) (A : ew_R) (th : Nat) (hth : ew_in X L tg 0 0 th) (b : Nat) (ln : Nat) (ar : Int32) (g : Nat) (n : Nat) (w : Nat) (cp : Nat) (M : Int32) (nl : Nat) (e17_0 : ew_in X L tg 17 (6 * ln + b) (X 17 (6 * ln + b))) (e15_1 : ew_in X L tg 15 (6 * ln + b) (X 15 (6 * ln + b))) (e16_2 : ew_in X L tg 16 (6 * ln + b) (X 16 (6 * ln + b))) (e7_3 : ew_in X L tg 7 0 (X 7 0)) (e12_4 : ew_in X L tg 12 0 (X 12 0)) (e1_5 : ew_in X L tg 1 cp (X 1 cp)) (e2_6 : ew_in X L tg 2 ln (X 2 ln)) (e10_7 : ew_in X L tg 10 0 (X 10 0)) (e13_8 : ew_in X L tg 13 ln (X 13 ln)) (e4_9 : ew_in X L tg 4 (6 * ln + b) (X 4 (6 * ln + b))) (hd : (6 * ln + b) < 192) (hn : n < 512) (hLS : lsC 16 20 t0 X L tg A (6 * ln + b) g n) (hw : w ≤ 64) (qw : A 7 0 1 = nI w) (hcl : clC X L tg A) (hnl : ∀ a9 ∈ L, (19, 512 * (6 * ln + b) + n) ≠ tg a9) (hnew : ∀ a9 ∈ L, (20, 64 * (6 * ln + b) + g + 1) ≠ tg a9) (hcp : cp < 32) (q4 : A 4 (6 * ln + b) 4 = nI cp) (hM : (A 0 0 7) + (A 2 ln 4) = M) (hst : A 17 (6 * ln + b) 0 = 3) (hb6 : b < 6) (qfd : ¬ A 13 ln b = 0) (hnl2 : nl ≤ 32) (qnl : A 0 0 6 = nI nl) (hl9 : ln < nl) (qfl : ¬ A 10 0 ln = 0) : Met l yL_act wsL_act ({ frames := 12, cells := 2, slots := 1004, locals := 380 }) (em_Pc D vwCl (tysA T) (cfC T) t0 X L tg A sz [.ref th, .int (nI b), .int (nI ln), .int 10, .int ar]) (em_Qi D vwCl (cfC T) L sz (fun r u => r = z_L_act_ship_ok A b ln ar g n w cp M nl 17 (6 * ln + b) 0 ∧ em_S (nw_15 (6 * ln + b) g n) X L tg u.1 u.2.1 u.2.2.1 ∧ u.2.2.2 = z_L_act_ship_ok A b ln ar g n w cp M nl)) 2 1004 (ew_A L sz) := by
  refine em_met (by decide) rfl (Nat.le_of_ble_eq_true rfl) ?_
  intro p e s m below meth c ls hx hb hr hts hown hlocks hml hnm hV hK hN hZ hS hA hl hsz
  subst hsz
  have hl : lv_has ls 7 [(0, .ref th), (1, .int (nI b)), (2, .int (nI ln)), (3, .int 10), (4, .int ar)] := hl
  refine lv_aload_n hx hb dL_act_0 rfl (lv_at hl 0 rfl) ?_
  refine lv_iload_n hx hb dL_act_1 rfl (lv_at hl 2 rfl) ?_
  refine er_callq (va_runV (As := [.int (nI ln)]) (rest := []) ⟨hx, hb, hml, hown, hts⟩ (c_L_loanAt_ok l D T X L tg _ A th hth ln nl e10_7 e2_6 hnl2 qnl hl9 qfl) (cwV 1 hts gL_88 rfl rfl rfl (by decide +kernel) ⟨Nat.le_of_ble_eq_true rfl, Nat.le_of_ble_eq_true rfl⟩) (ec_preV hK hN hV hth (cC_0 _ _ _ _) rfl) rfl rfl hl.1 rfl (lv_room (Nat.le_of_ble_eq_true rfl)) dL_act_2 ⟨Nat.le_of_ble_eq_true rfl, Nat.le_of_ble_eq_true rfl⟩) hV hS hA (fun r u H locs hp hV hS => ?_)
  obtain ⟨rfl, eu9⟩ := hp
  rw [eu9] at hV
  refine lv_astore (lv' := [(5, .ref (X 2 ln)), (0, .ref th), (1, .int (nI b)), (2, .int (nI ln)), (3, .int 10), (4, .int ar)]) hx hb dL_act_5 hl (by decide) rfl (fun ls hl => ?_)
  refine lv_aload hx hb dL_act_7 (lv_at hl 0 rfl) ?_
  refine lv_ifnull hx hb dL_act_9 ?_
  refine lv_iload_n hx hb dL_act_12 rfl (lv_at hl 4 rfl) ?_
  refine lv_if_lt (tgt := 22) hx hb dL_act_13 rfl (fun h9 => absurd h9 (by decide)) (fun _ => ?_)
  refine lv_iload_n hx hb dL_act_16 rfl (lv_at hl 4 rfl) ?_
  refine lv_bipush (v := 14) hx hb dL_act_17 (by decide) ?_
  refine lv_icmp_le (tgt := 32) hx hb dL_act_19 rfl (fun _ => ?_) (fun h9 => absurd (by decide) h9)
  refine lv_iload_n hx hb dL_act_32 rfl (lv_at hl 4 rfl) ?_
  refine lv_bipush (v := 6) hx hb dL_act_33 (by decide) ?_
  refine lv_icmp_gt (tgt := 86) hx hb dL_act_35 rfl (fun _ => ?_) (fun h9 => absurd (by decide) h9)
  refine lv_aload hx hb dL_act_86 (lv_at hl 0 rfl) ?_
  refine lv_iload_n hx hb dL_act_88 rfl (lv_at hl 2 rfl) ?_
  refine er_callq (va_runV (As := [.int (nI b)]) (rest := []) ⟨hx, hb, hml, hown, hts⟩ (c_Loan_dealWith_ok l D T X L tg _ A ln (X 2 ln) e2_6 b e13_8 e4_9 hb6 qfd) (cwV 1 hts gL_116 rfl rfl rfl (by decide +kernel) ⟨Nat.le_of_ble_eq_true rfl, Nat.le_of_ble_eq_true rfl⟩) (ec_preV hK hN hV e2_6 (cC_2 _ _ _ _) rfl) rfl rfl hl.1 rfl (lv_room (Nat.le_of_ble_eq_true rfl)) dL_act_89 ⟨Nat.le_of_ble_eq_true rfl, Nat.le_of_ble_eq_true rfl⟩) hV hS hA (fun r u H locs hp hV hS => ?_)
  obtain ⟨rfl, eu9⟩ := hp
  rw [eu9] at hV
  refine lv_astore (lv' := [(6, .ref (X 4 (6 * ln + b))), (5, .ref (X 2 ln)), (0, .ref th), (1, .int (nI b)), (2, .int (nI ln)), (3, .int 10), (4, .int ar)]) hx hb dL_act_92 hl (by decide) rfl (fun ls hl => ?_)
  refine lv_aload hx hb dL_act_94 (lv_at hl 0 rfl) ?_
  refine lv_ifnonnull (tgt := 109) hx hb dL_act_96 rfl ?_
  refine lv_aload_n hx hb dL_act_109 rfl (lv_at hl 2 rfl) ?_
  refine lv_aload hx hb dL_act_110 (lv_at hl 1 rfl) ?_
  refine lv_aload hx hb dL_act_112 (lv_at hl 0 rfl) ?_
  refine lv_iload_n hx hb dL_act_114 rfl (lv_at hl 5 rfl) ?_
  refine lv_iload hx hb dL_act_115 (lv_at hl 6 rfl) ?_
  refine em_calli (va_runV (As := [.ref (X 2 ln), .ref (X 4 (6 * ln + b)), .int 10, .int ar]) (rest := []) ⟨hx, hb, hml, hown, hts⟩ (c_L_sd_ship_ok l D T t0 X L tg _ A ln (6 * ln + b) th hth (X 2 ln) e2_6 (X 4 (6 * ln + b)) e4_9 ar g n w cp M e17_0 e15_1 e16_2 e7_3 e12_4 e1_5 hd hn hLS hw qw hcl hnl hnew hcp q4 hM hst) (cwV 4 hts gL_122 rfl rfl rfl (by decide +kernel) ⟨Nat.le_of_ble_eq_true rfl, Nat.le_of_ble_eq_true rfl⟩) (em_preV hK hN hV hZ hS hA hth (cC_0 _ _ _ _) rfl) rfl rfl hl.1 rfl (lv_room (Nat.le_of_ble_eq_true rfl)) dL_act_117 ⟨Nat.le_of_ble_eq_true rfl, Nat.le_of_ble_eq_true rfl⟩) hV hS hA (fun r X1 L1 tg1 u H locs hp hV hS => ?_)
  obtain ⟨rfl, hS9, eA9⟩ := hp
  refine lv_if_ne (tgt := 133) hx hb dL_act_120 rfl (fun _ => ?_) (fun h9 => absurd h9 (by decide))
  have hS9 : em_S (nw_15 (6 * ln + b) g n) X L tg X1 L1 tg1 := hS9
  refine lv_aload hx hb dL_act_133 (lv_at hl 0 rfl) ?_
  refine ew_get (v := .ref (X1 17 (6 * ln + b))) hx hb hts hown hK hV fL_128 (hS9.ad e4_9) (cC_4 _ _ _ _) rfl dL_act_135 ?_
  refine ew_get (v := .int (u 17 (6 * ln + b) 0)) hx hb hts hown hK hV fL_111 (hS9.ad e17_0).self (cC_17 _ _ _ _) rfl dL_act_138 ?_
  have eA9 : u = z_L_act_ship_ok A b ln ar g n w cp M nl := eA9
  exact em_iret hx hb hr hlocks hV hS dL_act_141 ⟨by rw [eA9], hS9, eA9⟩

def z_L_act_grant_ok (A : ew_R) (b : Nat) (ln : Nat) (ar : Int32) (g : Nat) (n : Nat) (w : Nat) (M : Int32) (nl : Nat) : ew_R :=
  z_L_sd_grant_ok A ln (6 * ln + b) ar g n w M
set_option maxHeartbeats 4000000 in
set_option maxRecDepth 100000 in
theorem c_L_act_grant_ok (l : Launch) (D : va_G) (T : Nat → ClassId) (t0 : Nat × Nat) (X : Nat → Nat → Nat) (L : List Nat) (tg : Nat → Nat × Nat) (sz : Nat) (A : ew_R) (th : Nat) (hth : ew_in X L tg 0 0 th) (b : Nat) (ln : Nat) (ar : Int32) (g : Nat) (n : Nat) (w : Nat) (M : Int32) (nl : Nat) (e17_0 : ew_in X L tg 17 (6 * ln + b) (X 17 (6 * ln + b))) (e15_1 : ew_in X L tg 15 (6 * ln + b) (X 15 (6 * ln + b))) (e16_2 : ew_in X L tg 16 (6 * ln + b) (X 16 (6 * ln + b))) (e7_3 : ew_in X L tg 7 0 (X 7 0)) (e12_4 : ew_in X L tg 12 0 (X 12 0)) (e2_5 : ew_in X L tg 2 ln (X 2 ln)) (e10_6 : ew_in X L tg 10 0 (X 10 0)) (e13_7 : ew_in X L tg 13 ln (X 13 ln)) (e4_8 : ew_in X L tg 4 (6 * ln + b) (X 4 (6 * ln + b))) (hd : (6 * ln + b) < 192) (hn : n < 512) (hLS : lsC 16 20 t0 X L tg A (6 * ln + b) g n) (hw : w ≤ 64) (qw : A 7 0 1 = nI w) (hcl : clC X L tg A) (hnl : ∀ a9 ∈ L, (19, 512 * (6 * ln + b) + n) ≠ tg a9) (hnew : ∀ a9 ∈ L, (20, 64 * (6 * ln + b) + g + 1) ≠ tg a9) (hM : (A 17 (6 * ln + b) 1) + (A 2 ln 4) = M) (hst : A 17 (6 * ln + b) 0 = 6) (hgr : A 4 (6 * ln + b) 5 < 3) (hb6 : b < 6) (qfd : ¬ A 13 ln b = 0) (hnl2 : nl ≤ 32) (qnl : A 0 0 6 = nI nl) (hl9 : ln < nl) (qfl : ¬ A 10 0 ln = 0) : Met l yL_act wsL_act ({ frames := 12, cells := 2, slots := 1004, locals := 380 }) (em_Pc D vwCl (tysA T) (cfC T) t0 X L tg A sz [.ref th, .int (nI b), .int (nI ln), .int 11, .int ar]) (em_Qi D vwCl (cfC T) L sz (fun r u => r = z_L_act_grant_ok A b ln ar g n w M nl 17 (6 * ln + b) 0 ∧ em_S (nw_15 (6 * ln + b) g n) X L tg u.1 u.2.1 u.2.2.1 ∧ u.2.2.2 = z_L_act_grant_ok A b ln ar g n w M nl)) 2 1004 (ew_A L sz) := by
  refine em_met (by decide) rfl (Nat.le_of_ble_eq_true rfl) ?_
  intro p e s m below meth c ls hx hb hr hts hown hlocks hml hnm hV hK hN hZ hS hA hl hsz
  subst hsz
  have hl : lv_has ls 7 [(0, .ref th), (1, .int (nI b)), (2, .int (nI ln)), (3, .int 11), (4, .int ar)] := hl
  refine lv_aload_n hx hb dL_act_0 rfl (lv_at hl 0 rfl) ?_
  refine lv_iload_n hx hb dL_act_1 rfl (lv_at hl 2 rfl) ?_
  refine er_callq (va_runV (As := [.int (nI ln)]) (rest := []) ⟨hx, hb, hml, hown, hts⟩ (c_L_loanAt_ok l D T X L tg _ A th hth ln nl e10_6 e2_5 hnl2 qnl hl9 qfl) (cwV 1 hts gL_88 rfl rfl rfl (by decide +kernel) ⟨Nat.le_of_ble_eq_true rfl, Nat.le_of_ble_eq_true rfl⟩) (ec_preV hK hN hV hth (cC_0 _ _ _ _) rfl) rfl rfl hl.1 rfl (lv_room (Nat.le_of_ble_eq_true rfl)) dL_act_2 ⟨Nat.le_of_ble_eq_true rfl, Nat.le_of_ble_eq_true rfl⟩) hV hS hA (fun r u H locs hp hV hS => ?_)
  obtain ⟨rfl, eu9⟩ := hp
  rw [eu9] at hV
  refine lv_astore (lv' := [(5, .ref (X 2 ln)), (0, .ref th), (1, .int (nI b)), (2, .int (nI ln)), (3, .int 11), (4, .int ar)]) hx hb dL_act_5 hl (by decide) rfl (fun ls hl => ?_)
  refine lv_aload hx hb dL_act_7 (lv_at hl 0 rfl) ?_
  refine lv_ifnull hx hb dL_act_9 ?_
  refine lv_iload_n hx hb dL_act_12 rfl (lv_at hl 4 rfl) ?_
  refine lv_if_lt (tgt := 22) hx hb dL_act_13 rfl (fun h9 => absurd h9 (by decide)) (fun _ => ?_)
  refine lv_iload_n hx hb dL_act_16 rfl (lv_at hl 4 rfl) ?_
  refine lv_bipush (v := 14) hx hb dL_act_17 (by decide) ?_
  refine lv_icmp_le (tgt := 32) hx hb dL_act_19 rfl (fun _ => ?_) (fun h9 => absurd (by decide) h9)
  refine lv_iload_n hx hb dL_act_32 rfl (lv_at hl 4 rfl) ?_
  refine lv_bipush (v := 6) hx hb dL_act_33 (by decide) ?_
  refine lv_icmp_gt (tgt := 86) hx hb dL_act_35 rfl (fun _ => ?_) (fun h9 => absurd (by decide) h9)
  refine lv_aload hx hb dL_act_86 (lv_at hl 0 rfl) ?_
  refine lv_iload_n hx hb dL_act_88 rfl (lv_at hl 2 rfl) ?_
  refine er_callq (va_runV (As := [.int (nI b)]) (rest := []) ⟨hx, hb, hml, hown, hts⟩ (c_Loan_dealWith_ok l D T X L tg _ A ln (X 2 ln) e2_5 b e13_7 e4_8 hb6 qfd) (cwV 1 hts gL_116 rfl rfl rfl (by decide +kernel) ⟨Nat.le_of_ble_eq_true rfl, Nat.le_of_ble_eq_true rfl⟩) (ec_preV hK hN hV e2_5 (cC_2 _ _ _ _) rfl) rfl rfl hl.1 rfl (lv_room (Nat.le_of_ble_eq_true rfl)) dL_act_89 ⟨Nat.le_of_ble_eq_true rfl, Nat.le_of_ble_eq_true rfl⟩) hV hS hA (fun r u H locs hp hV hS => ?_)
  obtain ⟨rfl, eu9⟩ := hp
  rw [eu9] at hV
  refine lv_astore (lv' := [(6, .ref (X 4 (6 * ln + b))), (5, .ref (X 2 ln)), (0, .ref th), (1, .int (nI b)), (2, .int (nI ln)), (3, .int 11), (4, .int ar)]) hx hb dL_act_92 hl (by decide) rfl (fun ls hl => ?_)
  refine lv_aload hx hb dL_act_94 (lv_at hl 0 rfl) ?_
  refine lv_ifnonnull (tgt := 109) hx hb dL_act_96 rfl ?_
  refine lv_aload_n hx hb dL_act_109 rfl (lv_at hl 2 rfl) ?_
  refine lv_aload hx hb dL_act_110 (lv_at hl 1 rfl) ?_
  refine lv_aload hx hb dL_act_112 (lv_at hl 0 rfl) ?_
  refine lv_iload_n hx hb dL_act_114 rfl (lv_at hl 5 rfl) ?_
  refine lv_iload hx hb dL_act_115 (lv_at hl 6 rfl) ?_
  refine em_calli (va_runV (As := [.ref (X 2 ln), .ref (X 4 (6 * ln + b)), .int 11, .int ar]) (rest := []) ⟨hx, hb, hml, hown, hts⟩ (c_L_sd_grant_ok l D T t0 X L tg _ A ln (6 * ln + b) th hth (X 2 ln) e2_5 (X 4 (6 * ln + b)) e4_8 ar g n w M e17_0 e15_1 e16_2 e7_3 e12_4 hd hn hLS hw qw hcl hnl hnew hM hst hgr) (cwV 4 hts gL_122 rfl rfl rfl (by decide +kernel) ⟨Nat.le_of_ble_eq_true rfl, Nat.le_of_ble_eq_true rfl⟩) (em_preV hK hN hV hZ hS hA hth (cC_0 _ _ _ _) rfl) rfl rfl hl.1 rfl (lv_room (Nat.le_of_ble_eq_true rfl)) dL_act_117 ⟨Nat.le_of_ble_eq_true rfl, Nat.le_of_ble_eq_true rfl⟩) hV hS hA (fun r X1 L1 tg1 u H locs hp hV hS => ?_)
  obtain ⟨rfl, hS9, eA9⟩ := hp
  refine lv_if_ne (tgt := 133) hx hb dL_act_120 rfl (fun _ => ?_) (fun h9 => absurd h9 (by decide))
  have hS9 : em_S (nw_15 (6 * ln + b) g n) X L tg X1 L1 tg1 := hS9
  refine lv_aload hx hb dL_act_133 (lv_at hl 0 rfl) ?_
  refine ew_get (v := .ref (X1 17 (6 * ln + b))) hx hb hts hown hK hV fL_128 (hS9.ad e4_8) (cC_4 _ _ _ _) rfl dL_act_135 ?_
  refine ew_get (v := .int (u 17 (6 * ln + b) 0)) hx hb hts hown hK hV fL_111 (hS9.ad e17_0).self (cC_17 _ _ _ _) rfl dL_act_138 ?_
  have eA9 : u = z_L_act_grant_ok A b ln ar g n w M nl := eA9
  exact em_iret hx hb hr hlocks hV hS dL_act_141 ⟨by rw [eA9], hS9, eA9⟩

def z_L_act_deny_y (A : ew_R) (b : Nat) (ln : Nat) (ar : Int32) (g : Nat) (n : Nat) (w : Nat) (nl : Nat) : ew_R :=
  z_L_sd_deny_y A ln (6 * ln + b) ar g n w
set_option maxHeartbeats 4000000 in
set_option maxRecDepth 100000 in
theorem c_L_act_deny_y (l : Launch) (D : va_G) (T : Nat → ClassId) (t0 : Nat × Nat) (X : Nat → Nat → Nat) (L : List Nat) (tg : Nat → Nat × Nat) (sz : Nat) (A : ew_R) (th : Nat) (hth : ew_in X L tg 0 0 th) (b : Nat) (ln : Nat) (ar : Int32) (g : Nat) (n : Nat) (w : Nat) (nl : Nat) (e17_0 : ew_in X L tg 17 (6 * ln + b) (X 17 (6 * ln + b))) (e15_1 : ew_in X L tg 15 (6 * ln + b) (X 15 (6 * ln + b))) (e16_2 : ew_in X L tg 16 (6 * ln + b) (X 16 (6 * ln + b))) (e7_3 : ew_in X L tg 7 0 (X 7 0)) (e12_4 : ew_in X L tg 12 0 (X 12 0)) (e2_5 : ew_in X L tg 2 ln (X 2 ln)) (e10_6 : ew_in X L tg 10 0 (X 10 0)) (e13_7 : ew_in X L tg 13 ln (X 13 ln)) (e4_8 : ew_in X L tg 4 (6 * ln + b) (X 4 (6 * ln + b))) (hd : (6 * ln + b) < 192) (hn : n < 512) (hLS : lsC 16 20 t0 X L tg A (6 * ln + b) g n) (hw : w ≤ 64) (qw : A 7 0 1 = nI w) (hcl : clC X L tg A) (hnl : ∀ a9 ∈ L, (19, 512 * (6 * ln + b) + n) ≠ tg a9) (hnew : ∀ a9 ∈ L, (20, 64 * (6 * ln + b) + g + 1) ≠ tg a9) (hst : A 17 (6 * ln + b) 0 = 6) (hb6 : b < 6) (qfd : ¬ A 13 ln b = 0) (hnl2 : nl ≤ 32) (qnl : A 0 0 6 = nI nl) (hl9 : ln < nl) (qfl : ¬ A 10 0 ln = 0) : Met l yL_act wsL_act ({ frames := 12, cells := 2, slots := 1004, locals := 380 }) (em_Pc D vwCl (tysA T) (cfC T) t0 X L tg A sz [.ref th, .int (nI b), .int (nI ln), .int 12, .int ar]) (em_Qi D vwCl (cfC T) L sz (fun r u => r = z_L_act_deny_y A b ln ar g n w nl 17 (6 * ln + b) 0 ∧ em_S (nw_15 (6 * ln + b) g n) X L tg u.1 u.2.1 u.2.2.1 ∧ u.2.2.2 = z_L_act_deny_y A b ln ar g n w nl)) 2 1004 (ew_A L sz) := by
  refine em_met (by decide) rfl (Nat.le_of_ble_eq_true rfl) ?_
  intro p e s m below meth c ls hx hb hr hts hown hlocks hml hnm hV hK hN hZ hS hA hl hsz
  subst hsz
  have hl : lv_has ls 7 [(0, .ref th), (1, .int (nI b)), (2, .int (nI ln)), (3, .int 12), (4, .int ar)] := hl
  refine lv_aload_n hx hb dL_act_0 rfl (lv_at hl 0 rfl) ?_
  refine lv_iload_n hx hb dL_act_1 rfl (lv_at hl 2 rfl) ?_
  refine er_callq (va_runV (As := [.int (nI ln)]) (rest := []) ⟨hx, hb, hml, hown, hts⟩ (c_L_loanAt_ok l D T X L tg _ A th hth ln nl e10_6 e2_5 hnl2 qnl hl9 qfl) (cwV 1 hts gL_88 rfl rfl rfl (by decide +kernel) ⟨Nat.le_of_ble_eq_true rfl, Nat.le_of_ble_eq_true rfl⟩) (ec_preV hK hN hV hth (cC_0 _ _ _ _) rfl) rfl rfl hl.1 rfl (lv_room (Nat.le_of_ble_eq_true rfl)) dL_act_2 ⟨Nat.le_of_ble_eq_true rfl, Nat.le_of_ble_eq_true rfl⟩) hV hS hA (fun r u H locs hp hV hS => ?_)
  obtain ⟨rfl, eu9⟩ := hp
  rw [eu9] at hV
  refine lv_astore (lv' := [(5, .ref (X 2 ln)), (0, .ref th), (1, .int (nI b)), (2, .int (nI ln)), (3, .int 12), (4, .int ar)]) hx hb dL_act_5 hl (by decide) rfl (fun ls hl => ?_)
  refine lv_aload hx hb dL_act_7 (lv_at hl 0 rfl) ?_
  refine lv_ifnull hx hb dL_act_9 ?_
  refine lv_iload_n hx hb dL_act_12 rfl (lv_at hl 4 rfl) ?_
  refine lv_if_lt (tgt := 22) hx hb dL_act_13 rfl (fun h9 => absurd h9 (by decide)) (fun _ => ?_)
  refine lv_iload_n hx hb dL_act_16 rfl (lv_at hl 4 rfl) ?_
  refine lv_bipush (v := 14) hx hb dL_act_17 (by decide) ?_
  refine lv_icmp_le (tgt := 32) hx hb dL_act_19 rfl (fun _ => ?_) (fun h9 => absurd (by decide) h9)
  refine lv_iload_n hx hb dL_act_32 rfl (lv_at hl 4 rfl) ?_
  refine lv_bipush (v := 6) hx hb dL_act_33 (by decide) ?_
  refine lv_icmp_gt (tgt := 86) hx hb dL_act_35 rfl (fun _ => ?_) (fun h9 => absurd (by decide) h9)
  refine lv_aload hx hb dL_act_86 (lv_at hl 0 rfl) ?_
  refine lv_iload_n hx hb dL_act_88 rfl (lv_at hl 2 rfl) ?_
  refine er_callq (va_runV (As := [.int (nI b)]) (rest := []) ⟨hx, hb, hml, hown, hts⟩ (c_Loan_dealWith_ok l D T X L tg _ A ln (X 2 ln) e2_5 b e13_7 e4_8 hb6 qfd) (cwV 1 hts gL_116 rfl rfl rfl (by decide +kernel) ⟨Nat.le_of_ble_eq_true rfl, Nat.le_of_ble_eq_true rfl⟩) (ec_preV hK hN hV e2_5 (cC_2 _ _ _ _) rfl) rfl rfl hl.1 rfl (lv_room (Nat.le_of_ble_eq_true rfl)) dL_act_89 ⟨Nat.le_of_ble_eq_true rfl, Nat.le_of_ble_eq_true rfl⟩) hV hS hA (fun r u H locs hp hV hS => ?_)
  obtain ⟨rfl, eu9⟩ := hp
  rw [eu9] at hV
  refine lv_astore (lv' := [(6, .ref (X 4 (6 * ln + b))), (5, .ref (X 2 ln)), (0, .ref th), (1, .int (nI b)), (2, .int (nI ln)), (3, .int 12), (4, .int ar)]) hx hb dL_act_92 hl (by decide) rfl (fun ls hl => ?_)
  refine lv_aload hx hb dL_act_94 (lv_at hl 0 rfl) ?_
  refine lv_ifnonnull (tgt := 109) hx hb dL_act_96 rfl ?_
  refine lv_aload_n hx hb dL_act_109 rfl (lv_at hl 2 rfl) ?_
  refine lv_aload hx hb dL_act_110 (lv_at hl 1 rfl) ?_
  refine lv_aload hx hb dL_act_112 (lv_at hl 0 rfl) ?_
  refine lv_iload_n hx hb dL_act_114 rfl (lv_at hl 5 rfl) ?_
  refine lv_iload hx hb dL_act_115 (lv_at hl 6 rfl) ?_
  refine em_calli (va_runV (As := [.ref (X 2 ln), .ref (X 4 (6 * ln + b)), .int 12, .int ar]) (rest := []) ⟨hx, hb, hml, hown, hts⟩ (c_L_sd_deny_y l D T t0 X L tg _ A ln (6 * ln + b) th hth (X 2 ln) e2_5 (X 4 (6 * ln + b)) e4_8 ar g n w e17_0 e15_1 e16_2 e7_3 e12_4 hd hn hLS hw qw hcl hnl hnew hst) (cwV 4 hts gL_122 rfl rfl rfl (by decide +kernel) ⟨Nat.le_of_ble_eq_true rfl, Nat.le_of_ble_eq_true rfl⟩) (em_preV hK hN hV hZ hS hA hth (cC_0 _ _ _ _) rfl) rfl rfl hl.1 rfl (lv_room (Nat.le_of_ble_eq_true rfl)) dL_act_117 ⟨Nat.le_of_ble_eq_true rfl, Nat.le_of_ble_eq_true rfl⟩) hV hS hA (fun r X1 L1 tg1 u H locs hp hV hS => ?_)
  obtain ⟨rfl, hS9, eA9⟩ := hp
  refine lv_if_ne (tgt := 133) hx hb dL_act_120 rfl (fun _ => ?_) (fun h9 => absurd h9 (by decide))
  have hS9 : em_S (nw_15 (6 * ln + b) g n) X L tg X1 L1 tg1 := hS9
  refine lv_aload hx hb dL_act_133 (lv_at hl 0 rfl) ?_
  refine ew_get (v := .ref (X1 17 (6 * ln + b))) hx hb hts hown hK hV fL_128 (hS9.ad e4_8) (cC_4 _ _ _ _) rfl dL_act_135 ?_
  refine ew_get (v := .int (u 17 (6 * ln + b) 0)) hx hb hts hown hK hV fL_111 (hS9.ad e17_0).self (cC_17 _ _ _ _) rfl dL_act_138 ?_
  have eA9 : u = z_L_act_deny_y A b ln ar g n w nl := eA9
  exact em_iret hx hb hr hlocks hV hS dL_act_141 ⟨by rw [eA9], hS9, eA9⟩

def z_L_act_recall_5 (A : ew_R) (b : Nat) (ln : Nat) (ar : Int32) (g : Nat) (n : Nat) (w : Nat) (M : Int32) (nl : Nat) : ew_R :=
  z_L_sd_recall_5 A ln (6 * ln + b) ar g n w M
set_option maxHeartbeats 4000000 in
set_option maxRecDepth 100000 in
theorem c_L_act_recall_5 (l : Launch) (D : va_G) (T : Nat → ClassId) (t0 : Nat × Nat) (X : Nat → Nat → Nat) (L : List Nat) (tg : Nat → Nat × Nat) (sz : Nat) (A : ew_R) (th : Nat) (hth : ew_in X L tg 0 0 th) (b : Nat) (ln : Nat) (ar : Int32) (g : Nat) (n : Nat) (w : Nat) (M : Int32) (nl : Nat) (e17_0 : ew_in X L tg 17 (6 * ln + b) (X 17 (6 * ln + b))) (e15_1 : ew_in X L tg 15 (6 * ln + b) (X 15 (6 * ln + b))) (e16_2 : ew_in X L tg 16 (6 * ln + b) (X 16 (6 * ln + b))) (e7_3 : ew_in X L tg 7 0 (X 7 0)) (e12_4 : ew_in X L tg 12 0 (X 12 0)) (e2_5 : ew_in X L tg 2 ln (X 2 ln)) (e10_6 : ew_in X L tg 10 0 (X 10 0)) (e13_7 : ew_in X L tg 13 ln (X 13 ln)) (e4_8 : ew_in X L tg 4 (6 * ln + b) (X 4 (6 * ln + b))) (hd : (6 * ln + b) < 192) (hn : n < 512) (hLS : lsC 16 20 t0 X L tg A (6 * ln + b) g n) (hw : w ≤ 64) (qw : A 7 0 1 = nI w) (hcl : clC X L tg A) (hnl : ∀ a9 ∈ L, (19, 512 * (6 * ln + b) + n) ≠ tg a9) (hnew : ∀ a9 ∈ L, (20, 64 * (6 * ln + b) + g + 1) ≠ tg a9) (hM : (if (A 0 0 7) + 7 < A 17 (6 * ln + b) 1 then (A 0 0 7) + 7 else A 17 (6 * ln + b) 1) = M) (hst : A 17 (6 * ln + b) 0 = 5) (hb6 : b < 6) (qfd : ¬ A 13 ln b = 0) (hnl2 : nl ≤ 32) (qnl : A 0 0 6 = nI nl) (hl9 : ln < nl) (qfl : ¬ A 10 0 ln = 0) : Met l yL_act wsL_act ({ frames := 12, cells := 2, slots := 1004, locals := 380 }) (em_Pc D vwCl (tysA T) (cfC T) t0 X L tg A sz [.ref th, .int (nI b), .int (nI ln), .int 13, .int ar]) (em_Qi D vwCl (cfC T) L sz (fun r u => r = z_L_act_recall_5 A b ln ar g n w M nl 17 (6 * ln + b) 0 ∧ em_S (nw_15 (6 * ln + b) g n) X L tg u.1 u.2.1 u.2.2.1 ∧ u.2.2.2 = z_L_act_recall_5 A b ln ar g n w M nl)) 2 1004 (ew_A L sz) := by
  refine em_met (by decide) rfl (Nat.le_of_ble_eq_true rfl) ?_
  intro p e s m below meth c ls hx hb hr hts hown hlocks hml hnm hV hK hN hZ hS hA hl hsz
  subst hsz
  have hl : lv_has ls 7 [(0, .ref th), (1, .int (nI b)), (2, .int (nI ln)), (3, .int 13), (4, .int ar)] := hl
  refine lv_aload_n hx hb dL_act_0 rfl (lv_at hl 0 rfl) ?_
  refine lv_iload_n hx hb dL_act_1 rfl (lv_at hl 2 rfl) ?_
  refine er_callq (va_runV (As := [.int (nI ln)]) (rest := []) ⟨hx, hb, hml, hown, hts⟩ (c_L_loanAt_ok l D T X L tg _ A th hth ln nl e10_6 e2_5 hnl2 qnl hl9 qfl) (cwV 1 hts gL_88 rfl rfl rfl (by decide +kernel) ⟨Nat.le_of_ble_eq_true rfl, Nat.le_of_ble_eq_true rfl⟩) (ec_preV hK hN hV hth (cC_0 _ _ _ _) rfl) rfl rfl hl.1 rfl (lv_room (Nat.le_of_ble_eq_true rfl)) dL_act_2 ⟨Nat.le_of_ble_eq_true rfl, Nat.le_of_ble_eq_true rfl⟩) hV hS hA (fun r u H locs hp hV hS => ?_)
  obtain ⟨rfl, eu9⟩ := hp
  rw [eu9] at hV
  refine lv_astore (lv' := [(5, .ref (X 2 ln)), (0, .ref th), (1, .int (nI b)), (2, .int (nI ln)), (3, .int 13), (4, .int ar)]) hx hb dL_act_5 hl (by decide) rfl (fun ls hl => ?_)
  refine lv_aload hx hb dL_act_7 (lv_at hl 0 rfl) ?_
  refine lv_ifnull hx hb dL_act_9 ?_
  refine lv_iload_n hx hb dL_act_12 rfl (lv_at hl 4 rfl) ?_
  refine lv_if_lt (tgt := 22) hx hb dL_act_13 rfl (fun h9 => absurd h9 (by decide)) (fun _ => ?_)
  refine lv_iload_n hx hb dL_act_16 rfl (lv_at hl 4 rfl) ?_
  refine lv_bipush (v := 14) hx hb dL_act_17 (by decide) ?_
  refine lv_icmp_le (tgt := 32) hx hb dL_act_19 rfl (fun _ => ?_) (fun h9 => absurd (by decide) h9)
  refine lv_iload_n hx hb dL_act_32 rfl (lv_at hl 4 rfl) ?_
  refine lv_bipush (v := 6) hx hb dL_act_33 (by decide) ?_
  refine lv_icmp_gt (tgt := 86) hx hb dL_act_35 rfl (fun _ => ?_) (fun h9 => absurd (by decide) h9)
  refine lv_aload hx hb dL_act_86 (lv_at hl 0 rfl) ?_
  refine lv_iload_n hx hb dL_act_88 rfl (lv_at hl 2 rfl) ?_
  refine er_callq (va_runV (As := [.int (nI b)]) (rest := []) ⟨hx, hb, hml, hown, hts⟩ (c_Loan_dealWith_ok l D T X L tg _ A ln (X 2 ln) e2_5 b e13_7 e4_8 hb6 qfd) (cwV 1 hts gL_116 rfl rfl rfl (by decide +kernel) ⟨Nat.le_of_ble_eq_true rfl, Nat.le_of_ble_eq_true rfl⟩) (ec_preV hK hN hV e2_5 (cC_2 _ _ _ _) rfl) rfl rfl hl.1 rfl (lv_room (Nat.le_of_ble_eq_true rfl)) dL_act_89 ⟨Nat.le_of_ble_eq_true rfl, Nat.le_of_ble_eq_true rfl⟩) hV hS hA (fun r u H locs hp hV hS => ?_)
  obtain ⟨rfl, eu9⟩ := hp
  rw [eu9] at hV
  refine lv_astore (lv' := [(6, .ref (X 4 (6 * ln + b))), (5, .ref (X 2 ln)), (0, .ref th), (1, .int (nI b)), (2, .int (nI ln)), (3, .int 13), (4, .int ar)]) hx hb dL_act_92 hl (by decide) rfl (fun ls hl => ?_)
  refine lv_aload hx hb dL_act_94 (lv_at hl 0 rfl) ?_
  refine lv_ifnonnull (tgt := 109) hx hb dL_act_96 rfl ?_
  refine lv_aload_n hx hb dL_act_109 rfl (lv_at hl 2 rfl) ?_
  refine lv_aload hx hb dL_act_110 (lv_at hl 1 rfl) ?_
  refine lv_aload hx hb dL_act_112 (lv_at hl 0 rfl) ?_
  refine lv_iload_n hx hb dL_act_114 rfl (lv_at hl 5 rfl) ?_
  refine lv_iload hx hb dL_act_115 (lv_at hl 6 rfl) ?_
  refine em_calli (va_runV (As := [.ref (X 2 ln), .ref (X 4 (6 * ln + b)), .int 13, .int ar]) (rest := []) ⟨hx, hb, hml, hown, hts⟩ (c_L_sd_recall_5 l D T t0 X L tg _ A ln (6 * ln + b) th hth (X 2 ln) e2_5 (X 4 (6 * ln + b)) e4_8 ar g n w M e17_0 e15_1 e16_2 e7_3 e12_4 hd hn hLS hw qw hcl hnl hnew hM hst) (cwV 4 hts gL_122 rfl rfl rfl (by decide +kernel) ⟨Nat.le_of_ble_eq_true rfl, Nat.le_of_ble_eq_true rfl⟩) (em_preV hK hN hV hZ hS hA hth (cC_0 _ _ _ _) rfl) rfl rfl hl.1 rfl (lv_room (Nat.le_of_ble_eq_true rfl)) dL_act_117 ⟨Nat.le_of_ble_eq_true rfl, Nat.le_of_ble_eq_true rfl⟩) hV hS hA (fun r X1 L1 tg1 u H locs hp hV hS => ?_)
  obtain ⟨rfl, hS9, eA9⟩ := hp
  refine lv_if_ne (tgt := 133) hx hb dL_act_120 rfl (fun _ => ?_) (fun h9 => absurd h9 (by decide))
  have hS9 : em_S (nw_15 (6 * ln + b) g n) X L tg X1 L1 tg1 := hS9
  refine lv_aload hx hb dL_act_133 (lv_at hl 0 rfl) ?_
  refine ew_get (v := .ref (X1 17 (6 * ln + b))) hx hb hts hown hK hV fL_128 (hS9.ad e4_8) (cC_4 _ _ _ _) rfl dL_act_135 ?_
  refine ew_get (v := .int (u 17 (6 * ln + b) 0)) hx hb hts hown hK hV fL_111 (hS9.ad e17_0).self (cC_17 _ _ _ _) rfl dL_act_138 ?_
  have eA9 : u = z_L_act_recall_5 A b ln ar g n w M nl := eA9
  exact em_iret hx hb hr hlocks hV hS dL_act_141 ⟨by rw [eA9], hS9, eA9⟩

def z_L_act_recall_6 (A : ew_R) (b : Nat) (ln : Nat) (ar : Int32) (g : Nat) (n : Nat) (w : Nat) (M : Int32) (nl : Nat) : ew_R :=
  z_L_sd_recall_6 A ln (6 * ln + b) ar g n w M
set_option maxHeartbeats 4000000 in
set_option maxRecDepth 100000 in
theorem c_L_act_recall_6 (l : Launch) (D : va_G) (T : Nat → ClassId) (t0 : Nat × Nat) (X : Nat → Nat → Nat) (L : List Nat) (tg : Nat → Nat × Nat) (sz : Nat) (A : ew_R) (th : Nat) (hth : ew_in X L tg 0 0 th) (b : Nat) (ln : Nat) (ar : Int32) (g : Nat) (n : Nat) (w : Nat) (M : Int32) (nl : Nat) (e17_0 : ew_in X L tg 17 (6 * ln + b) (X 17 (6 * ln + b))) (e15_1 : ew_in X L tg 15 (6 * ln + b) (X 15 (6 * ln + b))) (e16_2 : ew_in X L tg 16 (6 * ln + b) (X 16 (6 * ln + b))) (e7_3 : ew_in X L tg 7 0 (X 7 0)) (e12_4 : ew_in X L tg 12 0 (X 12 0)) (e2_5 : ew_in X L tg 2 ln (X 2 ln)) (e10_6 : ew_in X L tg 10 0 (X 10 0)) (e13_7 : ew_in X L tg 13 ln (X 13 ln)) (e4_8 : ew_in X L tg 4 (6 * ln + b) (X 4 (6 * ln + b))) (hd : (6 * ln + b) < 192) (hn : n < 512) (hLS : lsC 16 20 t0 X L tg A (6 * ln + b) g n) (hw : w ≤ 64) (qw : A 7 0 1 = nI w) (hcl : clC X L tg A) (hnl : ∀ a9 ∈ L, (19, 512 * (6 * ln + b) + n) ≠ tg a9) (hnew : ∀ a9 ∈ L, (20, 64 * (6 * ln + b) + g + 1) ≠ tg a9) (hM : (if (A 0 0 7) + 7 < A 17 (6 * ln + b) 1 then (A 0 0 7) + 7 else A 17 (6 * ln + b) 1) = M) (hst : A 17 (6 * ln + b) 0 = 6) (hb6 : b < 6) (qfd : ¬ A 13 ln b = 0) (hnl2 : nl ≤ 32) (qnl : A 0 0 6 = nI nl) (hl9 : ln < nl) (qfl : ¬ A 10 0 ln = 0) : Met l yL_act wsL_act ({ frames := 12, cells := 2, slots := 1004, locals := 380 }) (em_Pc D vwCl (tysA T) (cfC T) t0 X L tg A sz [.ref th, .int (nI b), .int (nI ln), .int 13, .int ar]) (em_Qi D vwCl (cfC T) L sz (fun r u => r = z_L_act_recall_6 A b ln ar g n w M nl 17 (6 * ln + b) 0 ∧ em_S (nw_15 (6 * ln + b) g n) X L tg u.1 u.2.1 u.2.2.1 ∧ u.2.2.2 = z_L_act_recall_6 A b ln ar g n w M nl)) 2 1004 (ew_A L sz) := by
  refine em_met (by decide) rfl (Nat.le_of_ble_eq_true rfl) ?_
  intro p e s m below meth c ls hx hb hr hts hown hlocks hml hnm hV hK hN hZ hS hA hl hsz
  subst hsz
  have hl : lv_has ls 7 [(0, .ref th), (1, .int (nI b)), (2, .int (nI ln)), (3, .int 13), (4, .int ar)] := hl
  refine lv_aload_n hx hb dL_act_0 rfl (lv_at hl 0 rfl) ?_
  refine lv_iload_n hx hb dL_act_1 rfl (lv_at hl 2 rfl) ?_
  refine er_callq (va_runV (As := [.int (nI ln)]) (rest := []) ⟨hx, hb, hml, hown, hts⟩ (c_L_loanAt_ok l D T X L tg _ A th hth ln nl e10_6 e2_5 hnl2 qnl hl9 qfl) (cwV 1 hts gL_88 rfl rfl rfl (by decide +kernel) ⟨Nat.le_of_ble_eq_true rfl, Nat.le_of_ble_eq_true rfl⟩) (ec_preV hK hN hV hth (cC_0 _ _ _ _) rfl) rfl rfl hl.1 rfl (lv_room (Nat.le_of_ble_eq_true rfl)) dL_act_2 ⟨Nat.le_of_ble_eq_true rfl, Nat.le_of_ble_eq_true rfl⟩) hV hS hA (fun r u H locs hp hV hS => ?_)
  obtain ⟨rfl, eu9⟩ := hp
  rw [eu9] at hV
  refine lv_astore (lv' := [(5, .ref (X 2 ln)), (0, .ref th), (1, .int (nI b)), (2, .int (nI ln)), (3, .int 13), (4, .int ar)]) hx hb dL_act_5 hl (by decide) rfl (fun ls hl => ?_)
  refine lv_aload hx hb dL_act_7 (lv_at hl 0 rfl) ?_
  refine lv_ifnull hx hb dL_act_9 ?_
  refine lv_iload_n hx hb dL_act_12 rfl (lv_at hl 4 rfl) ?_
  refine lv_if_lt (tgt := 22) hx hb dL_act_13 rfl (fun h9 => absurd h9 (by decide)) (fun _ => ?_)
  refine lv_iload_n hx hb dL_act_16 rfl (lv_at hl 4 rfl) ?_
  refine lv_bipush (v := 14) hx hb dL_act_17 (by decide) ?_
  refine lv_icmp_le (tgt := 32) hx hb dL_act_19 rfl (fun _ => ?_) (fun h9 => absurd (by decide) h9)
  refine lv_iload_n hx hb dL_act_32 rfl (lv_at hl 4 rfl) ?_
  refine lv_bipush (v := 6) hx hb dL_act_33 (by decide) ?_
  refine lv_icmp_gt (tgt := 86) hx hb dL_act_35 rfl (fun _ => ?_) (fun h9 => absurd (by decide) h9)
  refine lv_aload hx hb dL_act_86 (lv_at hl 0 rfl) ?_
  refine lv_iload_n hx hb dL_act_88 rfl (lv_at hl 2 rfl) ?_
  refine er_callq (va_runV (As := [.int (nI b)]) (rest := []) ⟨hx, hb, hml, hown, hts⟩ (c_Loan_dealWith_ok l D T X L tg _ A ln (X 2 ln) e2_5 b e13_7 e4_8 hb6 qfd) (cwV 1 hts gL_116 rfl rfl rfl (by decide +kernel) ⟨Nat.le_of_ble_eq_true rfl, Nat.le_of_ble_eq_true rfl⟩) (ec_preV hK hN hV e2_5 (cC_2 _ _ _ _) rfl) rfl rfl hl.1 rfl (lv_room (Nat.le_of_ble_eq_true rfl)) dL_act_89 ⟨Nat.le_of_ble_eq_true rfl, Nat.le_of_ble_eq_true rfl⟩) hV hS hA (fun r u H locs hp hV hS => ?_)
  obtain ⟨rfl, eu9⟩ := hp
  rw [eu9] at hV
  refine lv_astore (lv' := [(6, .ref (X 4 (6 * ln + b))), (5, .ref (X 2 ln)), (0, .ref th), (1, .int (nI b)), (2, .int (nI ln)), (3, .int 13), (4, .int ar)]) hx hb dL_act_92 hl (by decide) rfl (fun ls hl => ?_)
  refine lv_aload hx hb dL_act_94 (lv_at hl 0 rfl) ?_
  refine lv_ifnonnull (tgt := 109) hx hb dL_act_96 rfl ?_
  refine lv_aload_n hx hb dL_act_109 rfl (lv_at hl 2 rfl) ?_
  refine lv_aload hx hb dL_act_110 (lv_at hl 1 rfl) ?_
  refine lv_aload hx hb dL_act_112 (lv_at hl 0 rfl) ?_
  refine lv_iload_n hx hb dL_act_114 rfl (lv_at hl 5 rfl) ?_
  refine lv_iload hx hb dL_act_115 (lv_at hl 6 rfl) ?_
  refine em_calli (va_runV (As := [.ref (X 2 ln), .ref (X 4 (6 * ln + b)), .int 13, .int ar]) (rest := []) ⟨hx, hb, hml, hown, hts⟩ (c_L_sd_recall_6 l D T t0 X L tg _ A ln (6 * ln + b) th hth (X 2 ln) e2_5 (X 4 (6 * ln + b)) e4_8 ar g n w M e17_0 e15_1 e16_2 e7_3 e12_4 hd hn hLS hw qw hcl hnl hnew hM hst) (cwV 4 hts gL_122 rfl rfl rfl (by decide +kernel) ⟨Nat.le_of_ble_eq_true rfl, Nat.le_of_ble_eq_true rfl⟩) (em_preV hK hN hV hZ hS hA hth (cC_0 _ _ _ _) rfl) rfl rfl hl.1 rfl (lv_room (Nat.le_of_ble_eq_true rfl)) dL_act_117 ⟨Nat.le_of_ble_eq_true rfl, Nat.le_of_ble_eq_true rfl⟩) hV hS hA (fun r X1 L1 tg1 u H locs hp hV hS => ?_)
  obtain ⟨rfl, hS9, eA9⟩ := hp
  refine lv_if_ne (tgt := 133) hx hb dL_act_120 rfl (fun _ => ?_) (fun h9 => absurd h9 (by decide))
  have hS9 : em_S (nw_15 (6 * ln + b) g n) X L tg X1 L1 tg1 := hS9
  refine lv_aload hx hb dL_act_133 (lv_at hl 0 rfl) ?_
  refine ew_get (v := .ref (X1 17 (6 * ln + b))) hx hb hts hown hK hV fL_128 (hS9.ad e4_8) (cC_4 _ _ _ _) rfl dL_act_135 ?_
  refine ew_get (v := .int (u 17 (6 * ln + b) 0)) hx hb hts hown hK hV fL_111 (hS9.ad e17_0).self (cC_17 _ _ _ _) rfl dL_act_138 ?_
  have eA9 : u = z_L_act_recall_6 A b ln ar g n w M nl := eA9
  exact em_iret hx hb hr hlocks hV hS dL_act_141 ⟨by rw [eA9], hS9, eA9⟩

def z_L_act_checkIn_ok (A : ew_R) (b : Nat) (ln : Nat) (ar : Int32) (g : Nat) (n : Nat) (w : Nat) (cp : Nat) (M : Int32) (nl : Nat) : ew_R :=
  z_L_sd_checkIn_ok A ln (6 * ln + b) ar g n w cp b M
set_option maxHeartbeats 4000000 in
set_option maxRecDepth 100000 in
theorem c_L_act_checkIn_ok (l : Launch) (D : va_G) (T : Nat → ClassId) (t0 : Nat × Nat) (X : Nat → Nat → Nat) (L : List Nat) (tg : Nat → Nat × Nat) (sz : Nat) (A : ew_R) (th : Nat) (hth : ew_in X L tg 0 0 th) (b : Nat) (ln : Nat) (ar : Int32) (g : Nat) (n : Nat) (w : Nat) (cp : Nat) (M : Int32) (nl : Nat) (e17_0 : ew_in X L tg 17 (6 * ln + b) (X 17 (6 * ln + b))) (e15_1 : ew_in X L tg 15 (6 * ln + b) (X 15 (6 * ln + b))) (e16_2 : ew_in X L tg 16 (6 * ln + b) (X 16 (6 * ln + b))) (e7_3 : ew_in X L tg 7 0 (X 7 0)) (e12_4 : ew_in X L tg 12 0 (X 12 0)) (e1_5 : ew_in X L tg 1 cp (X 1 cp)) (e11_6 : ew_in X L tg 11 0 (X 11 0)) (e2_7 : ew_in X L tg 2 ln (X 2 ln)) (e10_8 : ew_in X L tg 10 0 (X 10 0)) (e13_9 : ew_in X L tg 13 ln (X 13 ln)) (e4_10 : ew_in X L tg 4 (6 * ln + b) (X 4 (6 * ln + b))) (hd : (6 * ln + b) < 192) (hn : n < 512) (hLS : lsC 16 20 t0 X L tg A (6 * ln + b) g n) (hw : w ≤ 64) (qw : A 7 0 1 = nI w) (hcl : clC X L tg A) (hnl : ∀ a9 ∈ L, (19, 512 * (6 * ln + b) + n) ≠ tg a9) (hnew : ∀ a9 ∈ L, (20, 64 * (6 * ln + b) + g + 1) ≠ tg a9) (hcp : cp < 32) (q4 : A 4 (6 * ln + b) 4 = nI cp) (q0 : A 4 (6 * ln + b) 0 = nI b) (hM : (10 * (if 0 < (A 0 0 7) - (A 17 (6 * ln + b) 1) then (A 0 0 7) - (A 17 (6 * ln + b) 1) else 0)) + (A 17 (6 * ln + b) 2) = M) (hst : A 17 (6 * ln + b) 0 = 8) (hb6 : b < 6) (qfd : ¬ A 13 ln b = 0) (hnl2 : nl ≤ 32) (qnl : A 0 0 6 = nI nl) (hl9 : ln < nl) (qfl : ¬ A 10 0 ln = 0) : Met l yL_act wsL_act ({ frames := 12, cells := 2, slots := 1004, locals := 380 }) (em_Pc D vwCl (tysA T) (cfC T) t0 X L tg A sz [.ref th, .int (nI b), .int (nI ln), .int 14, .int ar]) (em_Qi D vwCl (cfC T) L sz (fun r u => r = z_L_act_checkIn_ok A b ln ar g n w cp M nl 17 (6 * ln + b) 0 ∧ em_S (nw_15 (6 * ln + b) g n) X L tg u.1 u.2.1 u.2.2.1 ∧ u.2.2.2 = z_L_act_checkIn_ok A b ln ar g n w cp M nl)) 2 1004 (ew_A L sz) := by
  refine em_met (by decide) rfl (Nat.le_of_ble_eq_true rfl) ?_
  intro p e s m below meth c ls hx hb hr hts hown hlocks hml hnm hV hK hN hZ hS hA hl hsz
  subst hsz
  have hl : lv_has ls 7 [(0, .ref th), (1, .int (nI b)), (2, .int (nI ln)), (3, .int 14), (4, .int ar)] := hl
  refine lv_aload_n hx hb dL_act_0 rfl (lv_at hl 0 rfl) ?_
  refine lv_iload_n hx hb dL_act_1 rfl (lv_at hl 2 rfl) ?_
  refine er_callq (va_runV (As := [.int (nI ln)]) (rest := []) ⟨hx, hb, hml, hown, hts⟩ (c_L_loanAt_ok l D T X L tg _ A th hth ln nl e10_8 e2_7 hnl2 qnl hl9 qfl) (cwV 1 hts gL_88 rfl rfl rfl (by decide +kernel) ⟨Nat.le_of_ble_eq_true rfl, Nat.le_of_ble_eq_true rfl⟩) (ec_preV hK hN hV hth (cC_0 _ _ _ _) rfl) rfl rfl hl.1 rfl (lv_room (Nat.le_of_ble_eq_true rfl)) dL_act_2 ⟨Nat.le_of_ble_eq_true rfl, Nat.le_of_ble_eq_true rfl⟩) hV hS hA (fun r u H locs hp hV hS => ?_)
  obtain ⟨rfl, eu9⟩ := hp
  rw [eu9] at hV
  refine lv_astore (lv' := [(5, .ref (X 2 ln)), (0, .ref th), (1, .int (nI b)), (2, .int (nI ln)), (3, .int 14), (4, .int ar)]) hx hb dL_act_5 hl (by decide) rfl (fun ls hl => ?_)
  refine lv_aload hx hb dL_act_7 (lv_at hl 0 rfl) ?_
  refine lv_ifnull hx hb dL_act_9 ?_
  refine lv_iload_n hx hb dL_act_12 rfl (lv_at hl 4 rfl) ?_
  refine lv_if_lt (tgt := 22) hx hb dL_act_13 rfl (fun h9 => absurd h9 (by decide)) (fun _ => ?_)
  refine lv_iload_n hx hb dL_act_16 rfl (lv_at hl 4 rfl) ?_
  refine lv_bipush (v := 14) hx hb dL_act_17 (by decide) ?_
  refine lv_icmp_le (tgt := 32) hx hb dL_act_19 rfl (fun _ => ?_) (fun h9 => absurd (by decide) h9)
  refine lv_iload_n hx hb dL_act_32 rfl (lv_at hl 4 rfl) ?_
  refine lv_bipush (v := 6) hx hb dL_act_33 (by decide) ?_
  refine lv_icmp_gt (tgt := 86) hx hb dL_act_35 rfl (fun _ => ?_) (fun h9 => absurd (by decide) h9)
  refine lv_aload hx hb dL_act_86 (lv_at hl 0 rfl) ?_
  refine lv_iload_n hx hb dL_act_88 rfl (lv_at hl 2 rfl) ?_
  refine er_callq (va_runV (As := [.int (nI b)]) (rest := []) ⟨hx, hb, hml, hown, hts⟩ (c_Loan_dealWith_ok l D T X L tg _ A ln (X 2 ln) e2_7 b e13_9 e4_10 hb6 qfd) (cwV 1 hts gL_116 rfl rfl rfl (by decide +kernel) ⟨Nat.le_of_ble_eq_true rfl, Nat.le_of_ble_eq_true rfl⟩) (ec_preV hK hN hV e2_7 (cC_2 _ _ _ _) rfl) rfl rfl hl.1 rfl (lv_room (Nat.le_of_ble_eq_true rfl)) dL_act_89 ⟨Nat.le_of_ble_eq_true rfl, Nat.le_of_ble_eq_true rfl⟩) hV hS hA (fun r u H locs hp hV hS => ?_)
  obtain ⟨rfl, eu9⟩ := hp
  rw [eu9] at hV
  refine lv_astore (lv' := [(6, .ref (X 4 (6 * ln + b))), (5, .ref (X 2 ln)), (0, .ref th), (1, .int (nI b)), (2, .int (nI ln)), (3, .int 14), (4, .int ar)]) hx hb dL_act_92 hl (by decide) rfl (fun ls hl => ?_)
  refine lv_aload hx hb dL_act_94 (lv_at hl 0 rfl) ?_
  refine lv_ifnonnull (tgt := 109) hx hb dL_act_96 rfl ?_
  refine lv_aload_n hx hb dL_act_109 rfl (lv_at hl 2 rfl) ?_
  refine lv_aload hx hb dL_act_110 (lv_at hl 1 rfl) ?_
  refine lv_aload hx hb dL_act_112 (lv_at hl 0 rfl) ?_
  refine lv_iload_n hx hb dL_act_114 rfl (lv_at hl 5 rfl) ?_
  refine lv_iload hx hb dL_act_115 (lv_at hl 6 rfl) ?_
  refine em_calli (va_runV (As := [.ref (X 2 ln), .ref (X 4 (6 * ln + b)), .int 14, .int ar]) (rest := []) ⟨hx, hb, hml, hown, hts⟩ (c_L_sd_checkIn_ok l D T t0 X L tg _ A ln (6 * ln + b) th hth (X 2 ln) e2_7 (X 4 (6 * ln + b)) e4_10 ar g n w cp b M e17_0 e15_1 e16_2 e7_3 e12_4 e1_5 e11_6 hd hn hLS hw qw hcl hnl hnew hcp q4 hb6 q0 hM hst) (cwV 4 hts gL_122 rfl rfl rfl (by decide +kernel) ⟨Nat.le_of_ble_eq_true rfl, Nat.le_of_ble_eq_true rfl⟩) (em_preV hK hN hV hZ hS hA hth (cC_0 _ _ _ _) rfl) rfl rfl hl.1 rfl (lv_room (Nat.le_of_ble_eq_true rfl)) dL_act_117 ⟨Nat.le_of_ble_eq_true rfl, Nat.le_of_ble_eq_true rfl⟩) hV hS hA (fun r X1 L1 tg1 u H locs hp hV hS => ?_)
  obtain ⟨rfl, hS9, eA9⟩ := hp
  refine lv_if_ne (tgt := 133) hx hb dL_act_120 rfl (fun _ => ?_) (fun h9 => absurd h9 (by decide))
  have hS9 : em_S (nw_15 (6 * ln + b) g n) X L tg X1 L1 tg1 := hS9
  refine lv_aload hx hb dL_act_133 (lv_at hl 0 rfl) ?_
  refine ew_get (v := .ref (X1 17 (6 * ln + b))) hx hb hts hown hK hV fL_128 (hS9.ad e4_10) (cC_4 _ _ _ _) rfl dL_act_135 ?_
  refine ew_get (v := .int (u 17 (6 * ln + b) 0)) hx hb hts hown hK hV fL_111 (hS9.ad e17_0).self (cC_17 _ _ _ _) rfl dL_act_138 ?_
  have eA9 : u = z_L_act_checkIn_ok A b ln ar g n w cp M nl := eA9
  exact em_iret hx hb hr hlocks hV hS dL_act_141 ⟨by rw [eA9], hS9, eA9⟩

def z_L_act_promiseCopy_ok (A : ew_R) (b : Nat) (ln : Nat) (cp : Nat) (g : Nat) (n : Nat) (w : Nat) (nc : Nat) (nl : Nat) : ew_R :=
  z_L_sd_promiseCopy_ok A ln (6 * ln + b) cp g n w nc
set_option maxHeartbeats 4000000 in
set_option maxRecDepth 100000 in
theorem c_L_act_promiseCopy_ok (l : Launch) (D : va_G) (T : Nat → ClassId) (t0 : Nat × Nat) (X : Nat → Nat → Nat) (L : List Nat) (tg : Nat → Nat × Nat) (sz : Nat) (A : ew_R) (th : Nat) (hth : ew_in X L tg 0 0 th) (b : Nat) (ln : Nat) (cp : Nat) (g : Nat) (n : Nat) (w : Nat) (nc : Nat) (nl : Nat) (e17_0 : ew_in X L tg 17 (6 * ln + b) (X 17 (6 * ln + b))) (e15_1 : ew_in X L tg 15 (6 * ln + b) (X 15 (6 * ln + b))) (e16_2 : ew_in X L tg 16 (6 * ln + b) (X 16 (6 * ln + b))) (e7_3 : ew_in X L tg 7 0 (X 7 0)) (e12_4 : ew_in X L tg 12 0 (X 12 0)) (e1_5 : ew_in X L tg 1 cp (X 1 cp)) (e9_6 : ew_in X L tg 9 0 (X 9 0)) (e2_7 : ew_in X L tg 2 ln (X 2 ln)) (e10_8 : ew_in X L tg 10 0 (X 10 0)) (e13_9 : ew_in X L tg 13 ln (X 13 ln)) (e4_10 : ew_in X L tg 4 (6 * ln + b) (X 4 (6 * ln + b))) (hd : (6 * ln + b) < 192) (hn : n < 512) (hLS : lsC 16 20 t0 X L tg A (6 * ln + b) g n) (hw : w ≤ 64) (qw : A 7 0 1 = nI w) (hcl : clC X L tg A) (hnl : ∀ a9 ∈ L, (19, 512 * (6 * ln + b) + n) ≠ tg a9) (hnew : ∀ a9 ∈ L, (20, 64 * (6 * ln + b) + g + 1) ≠ tg a9) (hcp : cp < 32) (hst : A 17 (6 * ln + b) 0 = 1) (hcg : z_Copy_canGo A cp (A 4 (6 * ln + b) 0) (A 2 ln 2) = 1) (hnc : nc ≤ 32) (qnc : A 0 0 5 = nI nc) (hl1 : cp < nc) (qfc : ¬ A 9 0 cp = 0) (hb6 : b < 6) (qfd : ¬ A 13 ln b = 0) (hnl2 : nl ≤ 32) (qnl : A 0 0 6 = nI nl) (hl9 : ln < nl) (qfl : ¬ A 10 0 ln = 0) : Met l yL_act wsL_act ({ frames := 12, cells := 2, slots := 1004, locals := 380 }) (em_Pc D vwCl (tysA T) (cfC T) t0 X L tg A sz [.ref th, .int (nI b), .int (nI ln), .int 7, .int (nI cp)]) (em_Qi D vwCl (cfC T) L sz (fun r u => r = z_L_act_promiseCopy_ok A b ln cp g n w nc nl 17 (6 * ln + b) 0 ∧ em_S (nw_15 (6 * ln + b) g n) X L tg u.1 u.2.1 u.2.2.1 ∧ u.2.2.2 = z_L_act_promiseCopy_ok A b ln cp g n w nc nl)) 2 1004 (ew_A L sz) := by
  refine em_met (by decide) rfl (Nat.le_of_ble_eq_true rfl) ?_
  intro p e s m below meth c ls hx hb hr hts hown hlocks hml hnm hV hK hN hZ hS hA hl hsz
  subst hsz
  have hl : lv_has ls 7 [(0, .ref th), (1, .int (nI b)), (2, .int (nI ln)), (3, .int 7), (4, .int (nI cp))] := hl
  refine lv_aload_n hx hb dL_act_0 rfl (lv_at hl 0 rfl) ?_
  refine lv_iload_n hx hb dL_act_1 rfl (lv_at hl 2 rfl) ?_
  refine er_callq (va_runV (As := [.int (nI ln)]) (rest := []) ⟨hx, hb, hml, hown, hts⟩ (c_L_loanAt_ok l D T X L tg _ A th hth ln nl e10_8 e2_7 hnl2 qnl hl9 qfl) (cwV 1 hts gL_88 rfl rfl rfl (by decide +kernel) ⟨Nat.le_of_ble_eq_true rfl, Nat.le_of_ble_eq_true rfl⟩) (ec_preV hK hN hV hth (cC_0 _ _ _ _) rfl) rfl rfl hl.1 rfl (lv_room (Nat.le_of_ble_eq_true rfl)) dL_act_2 ⟨Nat.le_of_ble_eq_true rfl, Nat.le_of_ble_eq_true rfl⟩) hV hS hA (fun r u H locs hp hV hS => ?_)
  obtain ⟨rfl, eu9⟩ := hp
  rw [eu9] at hV
  refine lv_astore (lv' := [(5, .ref (X 2 ln)), (0, .ref th), (1, .int (nI b)), (2, .int (nI ln)), (3, .int 7), (4, .int (nI cp))]) hx hb dL_act_5 hl (by decide) rfl (fun ls hl => ?_)
  refine lv_aload hx hb dL_act_7 (lv_at hl 0 rfl) ?_
  refine lv_ifnull hx hb dL_act_9 ?_
  refine lv_iload_n hx hb dL_act_12 rfl (lv_at hl 4 rfl) ?_
  refine lv_if_lt (tgt := 22) hx hb dL_act_13 rfl (fun h9 => absurd h9 (by decide)) (fun _ => ?_)
  refine lv_iload_n hx hb dL_act_16 rfl (lv_at hl 4 rfl) ?_
  refine lv_bipush (v := 14) hx hb dL_act_17 (by decide) ?_
  refine lv_icmp_le (tgt := 32) hx hb dL_act_19 rfl (fun _ => ?_) (fun h9 => absurd (by decide) h9)
  refine lv_iload_n hx hb dL_act_32 rfl (lv_at hl 4 rfl) ?_
  refine lv_bipush (v := 6) hx hb dL_act_33 (by decide) ?_
  refine lv_icmp_gt (tgt := 86) hx hb dL_act_35 rfl (fun _ => ?_) (fun h9 => absurd (by decide) h9)
  refine lv_aload hx hb dL_act_86 (lv_at hl 0 rfl) ?_
  refine lv_iload_n hx hb dL_act_88 rfl (lv_at hl 2 rfl) ?_
  refine er_callq (va_runV (As := [.int (nI b)]) (rest := []) ⟨hx, hb, hml, hown, hts⟩ (c_Loan_dealWith_ok l D T X L tg _ A ln (X 2 ln) e2_7 b e13_9 e4_10 hb6 qfd) (cwV 1 hts gL_116 rfl rfl rfl (by decide +kernel) ⟨Nat.le_of_ble_eq_true rfl, Nat.le_of_ble_eq_true rfl⟩) (ec_preV hK hN hV e2_7 (cC_2 _ _ _ _) rfl) rfl rfl hl.1 rfl (lv_room (Nat.le_of_ble_eq_true rfl)) dL_act_89 ⟨Nat.le_of_ble_eq_true rfl, Nat.le_of_ble_eq_true rfl⟩) hV hS hA (fun r u H locs hp hV hS => ?_)
  obtain ⟨rfl, eu9⟩ := hp
  rw [eu9] at hV
  refine lv_astore (lv' := [(6, .ref (X 4 (6 * ln + b))), (5, .ref (X 2 ln)), (0, .ref th), (1, .int (nI b)), (2, .int (nI ln)), (3, .int 7), (4, .int (nI cp))]) hx hb dL_act_92 hl (by decide) rfl (fun ls hl => ?_)
  refine lv_aload hx hb dL_act_94 (lv_at hl 0 rfl) ?_
  refine lv_ifnonnull (tgt := 109) hx hb dL_act_96 rfl ?_
  refine lv_aload_n hx hb dL_act_109 rfl (lv_at hl 2 rfl) ?_
  refine lv_aload hx hb dL_act_110 (lv_at hl 1 rfl) ?_
  refine lv_aload hx hb dL_act_112 (lv_at hl 0 rfl) ?_
  refine lv_iload_n hx hb dL_act_114 rfl (lv_at hl 5 rfl) ?_
  refine lv_iload hx hb dL_act_115 (lv_at hl 6 rfl) ?_
  refine em_calli (va_runV (As := [.ref (X 2 ln), .ref (X 4 (6 * ln + b)), .int 7, .int (nI cp)]) (rest := []) ⟨hx, hb, hml, hown, hts⟩ (c_L_sd_promiseCopy_ok l D T t0 X L tg _ A ln (6 * ln + b) th hth (X 2 ln) e2_7 (X 4 (6 * ln + b)) e4_10 cp g n w nc e17_0 e15_1 e16_2 e7_3 e12_4 e1_5 e9_6 hd hn hLS hw qw hcl hnl hnew hcp hst hcg hnc qnc hl1 qfc) (cwV 4 hts gL_122 rfl rfl rfl (by decide +kernel) ⟨Nat.le_of_ble_eq_true rfl, Nat.le_of_ble_eq_true rfl⟩) (em_preV hK hN hV hZ hS hA hth (cC_0 _ _ _ _) rfl) rfl rfl hl.1 rfl (lv_room (Nat.le_of_ble_eq_true rfl)) dL_act_117 ⟨Nat.le_of_ble_eq_true rfl, Nat.le_of_ble_eq_true rfl⟩) hV hS hA (fun r X1 L1 tg1 u H locs hp hV hS => ?_)
  obtain ⟨rfl, hS9, eA9⟩ := hp
  refine lv_if_ne (tgt := 133) hx hb dL_act_120 rfl (fun _ => ?_) (fun h9 => absurd h9 (by decide))
  have hS9 : em_S (nw_15 (6 * ln + b) g n) X L tg X1 L1 tg1 := hS9
  refine lv_aload hx hb dL_act_133 (lv_at hl 0 rfl) ?_
  refine ew_get (v := .ref (X1 17 (6 * ln + b))) hx hb hts hown hK hV fL_128 (hS9.ad e4_10) (cC_4 _ _ _ _) rfl dL_act_135 ?_
  refine ew_get (v := .int (u 17 (6 * ln + b) 0)) hx hb hts hown hK hV fL_111 (hS9.ad e17_0).self (cC_17 _ _ _ _) rfl dL_act_138 ?_
  have eA9 : u = z_L_act_promiseCopy_ok A b ln cp g n w nc nl := eA9
  exact em_iret hx hb hr hlocks hV hS dL_act_141 ⟨by rw [eA9], hS9, eA9⟩
