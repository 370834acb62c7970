/-! resend where nothing is unknown to be taken: no letter is laid again but the bare one -/
set_option maxHeartbeats 4000000 in
set_option maxRecDepth 100000 in
theorem c_L_resend_q0 (l : Launch) (D : va_G) (T : Nat → ClassId) (X : Nat → Nat → Nat) (L : List Nat) (tg : Nat → Nat × Nat) (sz : Nat) (A : ew_R) (th : Nat) (hth : ew_in X L tg 0 0 th) (rq : Nat) (ln : Nat) (nl : Nat) (pd : Nat) (n : Nat) (ac : Nat) (w : Nat) (e10_0 : ew_in X L tg 10 0 (X 10 0)) (e2_1 : ew_in X L tg 2 ln (X 2 ln)) (e4_2 : ew_in X L tg 4 pd (X 4 pd)) (e5_3 : ew_in X L tg 5 pd (X 5 pd)) (e8_4 : ew_in X L tg 8 pd (X 8 pd)) (e7_6 : ew_in X L tg 7 0 (X 7 0)) (e12_7 : ew_in X L tg 12 0 (X 12 0)) (e18_8 : ew_in X L tg 18 0 (X 18 0)) (hn : nl ≤ 32) (qn : A 0 0 6 = nI nl) (hl1 : ln < nl) (qf : ¬ A 10 0 ln = 0) (hrq : rq < 6) (q1 : A 2 ln 1 = nI rq) (hp : pd < 192) (q7 : A 2 ln 7 = nI pd) (ss : A 8 pd 2 = nI n) (hn1 : n ≤ 1000) (qa : A 5 pd 5 = nI ac) (hac : ac = n) (hw : w ≤ 64) (qw : A 7 0 1 = nI w) : Met l yL_resend wsL_resend ({ frames := 3, cells := 0, slots := 0, locals := 64 }) (ec_Pc D vwCl (tysA T) (cfC T) X L tg A sz [.ref th, .int (nI rq), .int (nI ln)]) (er_Qi D vwCl (cfC T) X L tg sz (fun r u => r = (z_L_resend_q A rq ln nl pd 0 0 n ac w).1 ∧ u = (z_L_resend_q A rq ln nl pd 0 0 n ac w).2)) 0 0 (ew_A L sz) := by
  refine ec_met (by decide) rfl (Nat.le_of_ble_eq_true rfl) ?_
  intro p e s m below meth c ls hx hb hr hts hown hlocks hml hV hK hN hS hA hl hsz
  subst hsz
  have hl : lv_has ls 7 [(0, .ref th), (1, .int (nI rq)), (2, .int (nI ln))] := hl
  refine lv_aload_n hx hb dL_resend_0 rfl (lv_at hl 0 rfl) ?_
  refine lv_iload_n hx hb dL_resend_1 rfl (lv_at hl 2 rfl) ?_
  refine er_callq (va_runV (As := [.int (nI ln)]) (rest := []) ⟨hx, hb, hml, hown, hts⟩ (c_L_loanAt_ok l D T X L tg _ A th hth ln nl e10_0 e2_1 hn qn hl1 qf) (cwV 1 hts gL_88 rfl rfl rfl (by decide +kernel) ⟨Nat.le_of_ble_eq_true rfl, Nat.le_of_ble_eq_true rfl⟩) (ec_preV hK hN hV hth (cC_0 _ _ _ _) rfl) rfl rfl hl.1 rfl (lv_room (Nat.le_of_ble_eq_true rfl)) dL_resend_2 ⟨Nat.le_of_ble_eq_true rfl, Nat.le_of_ble_eq_true rfl⟩) hV hS hA (fun r u H locs hp hV hS => ?_)
  obtain ⟨rfl, eu9⟩ := hp
  rw [eu9] at hV
  refine lv_iload_n hx hb dL_resend_5 rfl (lv_at hl 1 rfl) ?_
  refine er_callq (va_runS (As := [.ref (X 2 ln), .int (nI rq)]) (rest := []) ⟨hx, hb, hml, hown, hts⟩ (c_L_sideOf_q l D T X L tg _ A ln (X 2 ln) e2_1 rq pd e4_2 e5_3 hrq q1 hp q7) (cwS 2 hts gL_134 rfl rfl rfl (by decide +kernel) ⟨Nat.le_of_ble_eq_true rfl, Nat.le_of_ble_eq_true rfl⟩) (ec_preS hK hN hV) rfl rfl hl.1 rfl (lv_room (Nat.le_of_ble_eq_true rfl)) dL_resend_6 ⟨Nat.le_of_ble_eq_true rfl, Nat.le_of_ble_eq_true rfl⟩) hV hS hA (fun r u H locs hp hV hS => ?_)
  obtain ⟨rfl, eu9⟩ := hp
  rw [eu9] at hV
  refine lv_astore_n (lv' := [(3, .ref (X 5 pd)), (0, .ref th), (1, .int (nI rq)), (2, .int (nI ln))]) hx hb dL_resend_9 rfl hl (by decide) rfl (fun ls hl => ?_)
  refine lv_aload_n hx hb dL_resend_10 rfl (lv_at hl 0 rfl) ?_
  refine lv_ifnonnull (tgt := 24) hx hb dL_resend_11 rfl ?_
  refine lv_aload_n hx hb dL_resend_24 rfl (lv_at hl 0 rfl) ?_
  refine ew_get (v := .int (A 5 pd 5)) hx hb hts hown hK hV fL_140 e5_3 (cC_5 _ _ _ _) rfl dL_resend_25 ?_
  refine lv_toe (y := nI ac) qa ?_
  refine lv_istore (lv' := [(4, .int (nI ac)), (3, .ref (X 5 pd)), (0, .ref th), (1, .int (nI rq)), (2, .int (nI ln))]) hx hb dL_resend_28 hl (by decide) rfl (fun ls hl => ?_)
  refine lv_aload_n hx hb dL_resend_30 rfl (lv_at hl 1 rfl) ?_
  refine ew_get (v := .ref (X 8 pd)) hx hb hts hown hK hV fL_145 e5_3 (cC_5 _ _ _ _) rfl dL_resend_31 ?_
  refine er_calli (va_runV (As := []) (rest := []) ⟨hx, hb, hml, hown, hts⟩ (c_AL_size_8 l D T X L tg _ A pd (X 8 pd) e8_4) (cwV 0 hts gL_149 rfl rfl rfl (by decide +kernel) ⟨Nat.le_of_ble_eq_true rfl, Nat.le_of_ble_eq_true rfl⟩) (ec_preV hK hN hV e8_4 (cC_8 _ _ _ _) rfl) rfl rfl hl.1 rfl (lv_room (Nat.le_of_ble_eq_true rfl)) dL_resend_34 ⟨Nat.le_of_ble_eq_true rfl, Nat.le_of_ble_eq_true rfl⟩) hV hS hA (fun r u H locs hp hV hS => ?_)
  obtain ⟨rfl, eu9⟩ := hp
  rw [eu9] at hV
  refine lv_toe (y := nI n) ss ?_
  refine lv_istore (lv' := [(5, .int (nI n)), (4, .int (nI ac)), (3, .ref (X 5 pd)), (0, .ref th), (1, .int (nI rq)), (2, .int (nI ln))]) hx hb dL_resend_37 hl (by decide) rfl (fun ls hl => ?_)
  refine lv_iload hx hb dL_resend_39 (lv_at hl 1 rfl) ?_
  refine lv_istore (lv' := [(6, .int (nI ac)), (5, .int (nI n)), (4, .int (nI ac)), (3, .ref (X 5 pd)), (0, .ref th), (1, .int (nI rq)), (2, .int (nI ln))]) hx hb dL_resend_41 hl (by decide) rfl (fun ls hl => ?_)
  have loop : ∀ (i : Nat), i + 0 = n - ac → ∀ (H : Heap) (locs : List Loc) (ls : Array Slot), ew_V D vwCl (cfC T) (ew_A L s.heap.size) X L tg (z_rs_5 A pd w ac i) [] H → va_S (ew_A L s.heap.size) s.heap H locs → lv_has ls 7 [(6, .int (nI (ac + i))), (5, .int (nI n)), (4, .int (nI ac)), (3, .ref (X 5 pd)), (0, .ref th), (1, .int (nI rq)), (2, .int (nI ln))] → W p l e ({ frames := 3, cells := 0, slots := 0, locals := 64 }) s m ([.ref th, .int (nI rq), .int (nI ln)] : List Value).toArray below meth c H locs 0 0 (MQ below (er_Qi D vwCl (cfC T) X L tg s.heap.size (fun r u => r = (z_L_resend_q A rq ln nl pd 0 0 n ac w).1 ∧ u = (z_L_resend_q A rq ln nl pd 0 0 n ac w).2)) ([.ref th, .int (nI rq), .int (nI ln)] : List Value).toArray s 0 0 (ew_A L s.heap.size)) (F0 m 43 ls []) := by
    intro i hn H locs ls hV hS hl
    refine lv_iload hx hb dL_resend_43 (lv_at hl 0 rfl) ?_
    refine lv_iload hx hb dL_resend_45 (lv_at hl 1 rfl) ?_
    refine lv_icmp_ge (tgt := 76) hx hb dL_resend_47 rfl (fun _ => ?_) (fun h9 => absurd ((nI_leI (a := n) (b := ac + i) (by omega) (by omega)).mpr (show n ≤ ac + i by omega)) h9)
    refine lv_aload_n hx hb dL_resend_76 rfl (lv_at hl 4 rfl) ?_
    refine ew_get (v := .ref (X 7 0)) hx hb hts hown hK hV fL_28 hth (cC_0 _ _ _ _) rfl dL_resend_77 ?_
    refine lv_aload_n hx hb dL_resend_80 rfl (lv_at hl 3 rfl) ?_
    refine lv_aload_n hx hb dL_resend_81 rfl (lv_at hl 4 rfl) ?_
    refine ew_get (v := .ref (X 18 0)) hx hb hts hown hK hV fL_39 hth (cC_0 _ _ _ _) rfl dL_resend_82 ?_
    refine er_callv (va_runV (As := [.ref (X 5 pd), .ref (X 18 0)]) (rest := []) ⟨hx, hb, hml, hown, hts⟩ (c_Row_add_5_18 l D T X L tg _ (z_rs_5 A pd w ac i) pd 0 (X 7 0) e7_6 (X 5 pd) e5_3 (X 18 0) e18_8 (min 64 (w + i)) e12_7 (Nat.min_le_left _ _) (z_rs_w_5 _ _ _ _ qw hw i)) (cwV 2 hts gL_159 rfl rfl rfl (by decide +kernel) ⟨Nat.le_of_ble_eq_true rfl, Nat.le_of_ble_eq_true rfl⟩) (ec_preV hK hN hV e7_6 (cC_7 _ _ _ _) rfl) rfl rfl hl.1 rfl (lv_room (Nat.le_of_ble_eq_true rfl)) dL_resend_85 ⟨Nat.le_of_ble_eq_true rfl, Nat.le_of_ble_eq_true rfl⟩) hV hS hA (fun u1 H locs eu1 hV hS => ?_)
    have eu1 : u1 = z_Row_add_5_18 (z_rs_5 A pd w ac i) pd 0 (min 64 (w + i)) := eu1
    refine lv_iload hx hb dL_resend_88 (lv_at hl 1 rfl) ?_
    refine lv_iload hx hb dL_resend_90 (lv_at hl 2 rfl) ?_
    refine lv_isub hx hb dL_resend_92 ?_
    refine lv_toe (y := nI (n - ac)) (pk_sub (a := n) (b := ac) (by omega)) ?_
    refine lv_iconst (v := 1) hx hb dL_resend_93 (by decide) ?_
    refine lv_iadd hx hb dL_resend_94 ?_
    refine lv_toe (y := nI ((n - ac) + 1)) (nI_add (n - ac) 1) ?_
    subst eu1
    exact er_iret hx hb hr hlocks hV hS dL_resend_95 ⟨Eq.symm (by unfold z_L_resend_q; rw [show n - ac = i by omega]), Eq.symm (by unfold z_L_resend_q; rw [show n - ac = i by omega])⟩
  exact loop 0 (by omega) _ _ ls hV hS hl
set_option maxHeartbeats 4000000 in
set_option maxRecDepth 100000 in
theorem c_L_resend_s0 (l : Launch) (D : va_G) (T : Nat → ClassId) (X : Nat → Nat → Nat) (L : List Nat) (tg : Nat → Nat × Nat) (sz : Nat) (A : ew_R) (th : Nat) (hth : ew_in X L tg 0 0 th) (b : Nat) (ln : Nat) (nl : Nat) (rq : Nat) (n : Nat) (ac : Nat) (w : Nat) (e10_0 : ew_in X L tg 10 0 (X 10 0)) (e2_1 : ew_in X L tg 2 ln (X 2 ln)) (e13_2 : ew_in X L tg 13 ln (X 13 ln)) (e4_3 : ew_in X L tg 4 (6 * ln + b) (X 4 (6 * ln + b))) (e15_4 : ew_in X L tg 15 (6 * ln + b) (X 15 (6 * ln + b))) (e16_5 : ew_in X L tg 16 (6 * ln + b) (X 16 (6 * ln + b))) (e7_7 : ew_in X L tg 7 0 (X 7 0)) (e12_8 : ew_in X L tg 12 0 (X 12 0)) (e18_9 : ew_in X L tg 18 0 (X 18 0)) (hn : nl ≤ 32) (qn : A 0 0 6 = nI nl) (hl1 : ln < nl) (qf : ¬ A 10 0 ln = 0) (hrq : rq < 6) (q1 : A 2 ln 1 = nI rq) (hb6 : b < 6) (hbr : ¬ b = rq) (qd : ¬ A 13 ln b = 0) (ss : A 16 (6 * ln + b) 2 = nI n) (hn1 : n ≤ 1000) (qa : A 15 (6 * ln + b) 5 = nI ac) (hac : ac = n) (hw : w ≤ 64) (qw : A 7 0 1 = nI w) : Met l yL_resend wsL_resend ({ frames := 3, cells := 0, slots := 0, locals := 64 }) (ec_Pc D vwCl (tysA T) (cfC T) X L tg A sz [.ref th, .int (nI b), .int (nI ln)]) (er_Qi D vwCl (cfC T) X L tg sz (fun r u => r = (z_L_resend_s A b ln nl rq 0 0 n ac w).1 ∧ u = (z_L_resend_s A b ln nl rq 0 0 n ac w).2)) 0 0 (ew_A L sz) := by
  refine ec_met (by decide) rfl (Nat.le_of_ble_eq_true rfl) ?_
  intro p e s m below meth c ls hx hb hr hts hown hlocks hml hV hK hN hS hA hl hsz
  subst hsz
  have hl : lv_has ls 7 [(0, .ref th), (1, .int (nI b)), (2, .int (nI ln))] := hl
  refine lv_aload_n hx hb dL_resend_0 rfl (lv_at hl 0 rfl) ?_
  refine lv_iload_n hx hb dL_resend_1 rfl (lv_at hl 2 rfl) ?_
  refine er_callq (va_runV (As := [.int (nI ln)]) (rest := []) ⟨hx, hb, hml, hown, hts⟩ (c_L_loanAt_ok l D T X L tg _ A th hth ln nl e10_0 e2_1 hn qn hl1 qf) (cwV 1 hts gL_88 rfl rfl rfl (by decide +kernel) ⟨Nat.le_of_ble_eq_true rfl, Nat.le_of_ble_eq_true rfl⟩) (ec_preV hK hN hV hth (cC_0 _ _ _ _) rfl) rfl rfl hl.1 rfl (lv_room (Nat.le_of_ble_eq_true rfl)) dL_resend_2 ⟨Nat.le_of_ble_eq_true rfl, Nat.le_of_ble_eq_true rfl⟩) hV hS hA (fun r u H locs hp hV hS => ?_)
  obtain ⟨rfl, eu9⟩ := hp
  rw [eu9] at hV
  refine lv_iload_n hx hb dL_resend_5 rfl (lv_at hl 1 rfl) ?_
  refine er_callq (va_runS (As := [.ref (X 2 ln), .int (nI b)]) (rest := []) ⟨hx, hb, hml, hown, hts⟩ (c_L_sideOf_s l D T X L tg _ A ln (X 2 ln) e2_1 b rq e13_2 e4_3 e15_4 hrq q1 hb6 hbr qd) (cwS 2 hts gL_134 rfl rfl rfl (by decide +kernel) ⟨Nat.le_of_ble_eq_true rfl, Nat.le_of_ble_eq_true rfl⟩) (ec_preS hK hN hV) rfl rfl hl.1 rfl (lv_room (Nat.le_of_ble_eq_true rfl)) dL_resend_6 ⟨Nat.le_of_ble_eq_true rfl, Nat.le_of_ble_eq_true rfl⟩) hV hS hA (fun r u H locs hp hV hS => ?_)
  obtain ⟨rfl, eu9⟩ := hp
  rw [eu9] at hV
  refine lv_astore_n (lv' := [(3, .ref (X 15 (6 * ln + b))), (0, .ref th), (1, .int (nI b)), (2, .int (nI ln))]) hx hb dL_resend_9 rfl hl (by decide) rfl (fun ls hl => ?_)
  refine lv_aload_n hx hb dL_resend_10 rfl (lv_at hl 0 rfl) ?_
  refine lv_ifnonnull (tgt := 24) hx hb dL_resend_11 rfl ?_
  refine lv_aload_n hx hb dL_resend_24 rfl (lv_at hl 0 rfl) ?_
  refine ew_get (v := .int (A 15 (6 * ln + b) 5)) hx hb hts hown hK hV fL_140 e15_4 (cC_15 _ _ _ _) rfl dL_resend_25 ?_
  refine lv_toe (y := nI ac) qa ?_
  refine lv_istore (lv' := [(4, .int (nI ac)), (3, .ref (X 15 (6 * ln + b))), (0, .ref th), (1, .int (nI b)), (2, .int (nI ln))]) hx hb dL_resend_28 hl (by decide) rfl (fun ls hl => ?_)
  refine lv_aload_n hx hb dL_resend_30 rfl (lv_at hl 1 rfl) ?_
  refine ew_get (v := .ref (X 16 (6 * ln + b))) hx hb hts hown hK hV fL_145 e15_4 (cC_15 _ _ _ _) rfl dL_resend_31 ?_
  refine er_calli (va_runV (As := []) (rest := []) ⟨hx, hb, hml, hown, hts⟩ (c_AL_size_16 l D T X L tg _ A (6 * ln + b) (X 16 (6 * ln + b)) e16_5) (cwV 0 hts gL_149 rfl rfl rfl (by decide +kernel) ⟨Nat.le_of_ble_eq_true rfl, Nat.le_of_ble_eq_true rfl⟩) (ec_preV hK hN hV e16_5 (cC_16 _ _ _ _) rfl) rfl rfl hl.1 rfl (lv_room (Nat.le_of_ble_eq_true rfl)) dL_resend_34 ⟨Nat.le_of_ble_eq_true rfl, Nat.le_of_ble_eq_true rfl⟩) hV hS hA (fun r u H locs hp hV hS => ?_)
  obtain ⟨rfl, eu9⟩ := hp
  rw [eu9] at hV
  refine lv_toe (y := nI n) ss ?_
  refine lv_istore (lv' := [(5, .int (nI n)), (4, .int (nI ac)), (3, .ref (X 15 (6 * ln + b))), (0, .ref th), (1, .int (nI b)), (2, .int (nI ln))]) hx hb dL_resend_37 hl (by decide) rfl (fun ls hl => ?_)
  refine lv_iload hx hb dL_resend_39 (lv_at hl 1 rfl) ?_
  refine lv_istore (lv' := [(6, .int (nI ac)), (5, .int (nI n)), (4, .int (nI ac)), (3, .ref (X 15 (6 * ln + b))), (0, .ref th), (1, .int (nI b)), (2, .int (nI ln))]) hx hb dL_resend_41 hl (by decide) rfl (fun ls hl => ?_)
  have loop : ∀ (i : Nat), i + 0 = n - ac → ∀ (H : Heap) (locs : List Loc) (ls : Array Slot), ew_V D vwCl (cfC T) (ew_A L s.heap.size) X L tg (z_rs_15 A (6 * ln + b) w ac i) [] H → va_S (ew_A L s.heap.size) s.heap H locs → lv_has ls 7 [(6, .int (nI (ac + i))), (5, .int (nI n)), (4, .int (nI ac)), (3, .ref (X 15 (6 * ln + b))), (0, .ref th), (1, .int (nI b)), (2, .int (nI ln))] → W p l e ({ frames := 3, cells := 0, slots := 0, locals := 64 }) s m ([.ref th, .int (nI b), .int (nI ln)] : List Value).toArray below meth c H locs 0 0 (MQ below (er_Qi D vwCl (cfC T) X L tg s.heap.size (fun r u => r = (z_L_resend_s A b ln nl rq 0 0 n ac w).1 ∧ u = (z_L_resend_s A b ln nl rq 0 0 n ac w).2)) ([.ref th, .int (nI b), .int (nI ln)] : List Value).toArray s 0 0 (ew_A L s.heap.size)) (F0 m 43 ls []) := by
    intro i hn H locs ls hV hS hl
    refine lv_iload hx hb dL_resend_43 (lv_at hl 0 rfl) ?_
    refine lv_iload hx hb dL_resend_45 (lv_at hl 1 rfl) ?_
    refine lv_icmp_ge (tgt := 76) hx hb dL_resend_47 rfl (fun _ => ?_) (fun h9 => absurd ((nI_leI (a := n) (b := ac + i) (by omega) (by omega)).mpr (show n ≤ ac + i by omega)) h9)
    refine lv_aload_n hx hb dL_resend_76 rfl (lv_at hl 4 rfl) ?_
    refine ew_get (v := .ref (X 7 0)) hx hb hts hown hK hV fL_28 hth (cC_0 _ _ _ _) rfl dL_resend_77 ?_
    refine lv_aload_n hx hb dL_resend_80 rfl (lv_at hl 3 rfl) ?_
    refine lv_aload_n hx hb dL_resend_81 rfl (lv_at hl 4 rfl) ?_
    refine ew_get (v := .ref (X 18 0)) hx hb hts hown hK hV fL_39 hth (cC_0 _ _ _ _) rfl dL_resend_82 ?_
    refine er_callv (va_runV (As := [.ref (X 15 (6 * ln + b)), .ref (X 18 0)]) (rest := []) ⟨hx, hb, hml, hown, hts⟩ (c_Row_add_15_18 l D T X L tg _ (z_rs_15 A (6 * ln + b) w ac i) (6 * ln + b) 0 (X 7 0) e7_7 (X 15 (6 * ln + b)) e15_4 (X 18 0) e18_9 (min 64 (w + i)) e12_8 (Nat.min_le_left _ _) (z_rs_w_15 _ _ _ _ qw hw i)) (cwV 2 hts gL_159 rfl rfl rfl (by decide +kernel) ⟨Nat.le_of_ble_eq_true rfl, Nat.le_of_ble_eq_true rfl⟩) (ec_preV hK hN hV e7_7 (cC_7 _ _ _ _) rfl) rfl rfl hl.1 rfl (lv_room (Nat.le_of_ble_eq_true rfl)) dL_resend_85 ⟨Nat.le_of_ble_eq_true rfl, Nat.le_of_ble_eq_true rfl⟩) hV hS hA (fun u1 H locs eu1 hV hS => ?_)
    have eu1 : u1 = z_Row_add_15_18 (z_rs_15 A (6 * ln + b) w ac i) (6 * ln + b) 0 (min 64 (w + i)) := eu1
    refine lv_iload hx hb dL_resend_88 (lv_at hl 1 rfl) ?_
    refine lv_iload hx hb dL_resend_90 (lv_at hl 2 rfl) ?_
    refine lv_isub hx hb dL_resend_92 ?_
    refine lv_toe (y := nI (n - ac)) (pk_sub (a := n) (b := ac) (by omega)) ?_
    refine lv_iconst (v := 1) hx hb dL_resend_93 (by decide) ?_
    refine lv_iadd hx hb dL_resend_94 ?_
    refine lv_toe (y := nI ((n - ac) + 1)) (nI_add (n - ac) 1) ?_
    subst eu1
    exact er_iret hx hb hr hlocks hV hS dL_resend_95 ⟨Eq.symm (by unfold z_L_resend_s; rw [show n - ac = i by omega]), Eq.symm (by unfold z_L_resend_s; rw [show n - ac = i by omega])⟩
  exact loop 0 (by omega) _ _ ls hV hS hl
