set_option maxHeartbeats 4000000 in
set_option maxRecDepth 100000 in
theorem c_L_act_decline_go (l : Launch) (D : va_G) (T : Nat → ClassId) (t0 : Nat × Nat) (X : Nat → Nat → Nat) (L : List Nat) (tg : Nat → Nat × Nat) (sz : Nat) (A : ew_R) (ln th st rq w : Nat) (hth : ew_in X L tg 0 0 th) (e3 : ew_in X L tg 3 ln (X 3 ln)) (e13 : ew_in X L tg 13 ln (X 13 ln)) (e4x : ∀ b, b < 6 → ¬ A 13 ln b = 0 → ew_in X L tg 4 (6 * ln + b) (X 4 (6 * ln + b))) (e7 : ew_in X L tg 7 0 (X 7 0)) (e12 : ew_in X L tg 12 0 (X 12 0)) (hln : ln < 32) (hst : st < 6) (hrq : rq < 6) (q3 : A 2 ln 3 = nI st) (q1 : A 2 ln 1 = nI rq) (hw : w ≤ 64) (qw : A 7 0 1 = nI w) (hcl : clC X L tg A) (pd g n : Nat) (q7 : A 2 ln 7 = nI pd) (hpd : pd < 192) (hn : n < 512) (e4 : ew_in X L tg 4 pd (X 4 pd)) (e5 : ew_in X L tg 5 pd (X 5 pd)) (e8 : ew_in X L tg 8 pd (X 8 pd)) (hLS : lsC 8 14 t0 X L tg A pd g n) (hnlp : ∀ b ∈ L, (6, 512 * pd + n) ≠ tg b) (hnap : ∀ b ∈ L, (14, 64 * pd + g + 1) ≠ tg b) (hs1 : A 3 ln 0 = 1) (x : Nat) (hx1 : 1 ≤ x) (hx5 : x < 6) (hsk : ∀ k, 1 ≤ k → k < x → (st + k) % 6 = rq ∨ ¬ A 13 ln ((st + k) % 6) = 0) (hne : ¬ (st + x) % 6 = rq) (hz : A 13 ln ((st + x) % 6) = 0) (h14 : X 14 (64 * (6 * ln + (st + x) % 6)) = t0.1) (h20 : X 20 (64 * (6 * ln + (st + x) % 6)) = t0.1) (hnew : ∀ b ∈ L, ∀ t ∈ nw_4 (6 * ln + (st + x) % 6), t ≠ tg b) (hnl : ∀ b ∈ L, (6, 512 * (6 * ln + (st + x) % 6)) ≠ tg b) (hna : ∀ b ∈ L, (14, 64 * (6 * ln + (st + x) % 6) + 1) ≠ tg b) (hpx : pd ≠ 6 * ln + (st + x) % 6) (nl : Nat) (e2_0 : ew_in X L tg 2 ln (X 2 ln)) (e10_1 : ew_in X L tg 10 0 (X 10 0)) (hnl2 : nl ≤ 32) (qnl : A 0 0 6 = nI nl) (hl9 : ln < nl) (qfl : ¬ A 10 0 ln = 0) (ar : Int32) : Met l yL_act wsL_act ({ frames := 13, cells := 10, slots := 2036, locals := 420 }) (em_Pc D vwCl (tysA T) (cfC T) t0 X L tg A sz [.ref th, .int (nI rq), .int (nI ln), .int 1, .int ar]) (em_Qi D vwCl (cfC T) L sz (fun r u => r = z_dec A ln pd g n ((st + x) % 6) w (nI rq) 3 ln 0 ∧ em_S (nw_5 pd g n ++ (nw_4 (6 * ln + (st + x) % 6) ++ nw_5 (6 * ln + (st + x) % 6) 0 0)) X L tg u.1 u.2.1 u.2.2.1 ∧ u.2.2.2 = z_dec A ln pd g n ((st + x) % 6) w (nI rq))) 10 2036 (ew_A L sz) := by
  refine em_met (by decide) rfl (Nat.le_of_ble_eq_true rfl) ?_
  intro p e s m below meth c ls hx hb hr hts hown hlocks hml hnm hV hK hN hZ hS hA hl hsz
  subst hsz
  have hl : lv_has ls 7 [(0, .ref th), (1, .int (nI rq)), (2, .int (nI ln)), (3, .int 1), (4, .int ar)] := hl
  refine lv_aload_n hx hb dL_act_0 rfl (lv_at hl 0 rfl) ?_
  refine lv_iload_n hx hb dL_act_1 rfl (lv_at hl 2 rfl) ?_
  refine er_callq (va_runV (As := [.int (nI ln)]) (rest := []) ⟨hx, hb, hml, hown, hts⟩ (c_L_loanAt_ok l D T X L tg _ A th hth ln nl e10_1 e2_0 hnl2 qnl hl9 qfl) (cwV 1 hts gL_88 rfl rfl rfl (by decide +kernel) ⟨Nat.le_of_ble_eq_true rfl, Nat.le_of_ble_eq_true rfl⟩) (ec_preV hK hN hV hth (cC_0 _ _ _ _) rfl) rfl rfl hl.1 rfl (lv_room (Nat.le_of_ble_eq_true rfl)) dL_act_2 ⟨Nat.le_of_ble_eq_true rfl, Nat.le_of_ble_eq_true rfl⟩) hV hS hA (fun r u H locs hp hV hS => ?_)
  obtain ⟨rfl, eu9⟩ := hp
  rw [eu9] at hV
  refine lv_astore (lv' := [(5, .ref (X 2 ln)), (0, .ref th), (1, .int (nI rq)), (2, .int (nI ln)), (3, .int 1), (4, .int ar)]) hx hb dL_act_5 hl (by decide) rfl (fun ls hl => ?_)
  refine lv_aload hx hb dL_act_7 (lv_at hl 0 rfl) ?_
  refine lv_ifnull hx hb dL_act_9 ?_
  refine lv_iload_n hx hb dL_act_12 rfl (lv_at hl 4 rfl) ?_
  refine lv_if_lt (tgt := 22) hx hb dL_act_13 rfl (fun h9 => absurd h9 (by decide)) (fun _ => ?_)
  refine lv_iload_n hx hb dL_act_16 rfl (lv_at hl 4 rfl) ?_
  refine lv_bipush (v := 14) hx hb dL_act_17 (by decide) ?_
  refine lv_icmp_le (tgt := 32) hx hb dL_act_19 rfl (fun _ => ?_) (fun h9 => absurd (by decide) h9)
  refine lv_iload_n hx hb dL_act_32 rfl (lv_at hl 4 rfl) ?_
  refine lv_bipush (v := 6) hx hb dL_act_33 (by decide) ?_
  refine lv_icmp_gt (tgt := 86) hx hb dL_act_35 rfl (fun h9 => absurd h9 (by decide)) (fun _ => ?_)
  refine lv_iload_n hx hb dL_act_38 rfl (lv_at hl 2 rfl) ?_
  refine lv_aload hx hb dL_act_39 (lv_at hl 0 rfl) ?_
  refine ew_get (v := .int (A 2 ln 1)) hx hb hts hown hK hV fL_96 e2_0 (cC_2 _ _ _ _) rfl dL_act_41 ?_
  refine lv_toe (y := nI rq) q1 ?_
  refine lv_icmp_eq (tgt := 57) hx hb dL_act_44 rfl (fun _ => ?_) (fun h9 => absurd ((nI_eq (a := rq) (b := rq) (by omega) (by omega)).mpr rfl) h9)
  refine lv_aload_n hx hb dL_act_57 rfl (lv_at hl 1 rfl) ?_
  refine lv_aload hx hb dL_act_58 (lv_at hl 0 rfl) ?_
  refine lv_iload_n hx hb dL_act_60 rfl (lv_at hl 4 rfl) ?_
  refine em_calli (va_runV (As := [.ref (X 2 ln), .int 1]) (rest := []) ⟨hx, hb, hml, hown, hts⟩ (c_L_rd_decline_go l D T t0 X L tg _ A ln th (X 2 ln) st rq w hth e2_0 e3 e13 e4x e7 e12 hln hst hrq q3 q1 hw qw hcl pd g n q7 hpd hn e4 e5 e8 hLS hnlp hnap hs1 x hx1 hx5 hsk hne hz h14 h20 hnew hnl hna hpx) (cwV 2 hts gL_101 rfl rfl rfl (by decide +kernel) ⟨Nat.le_of_ble_eq_true rfl, Nat.le_of_ble_eq_true rfl⟩) (em_preV hK hN hV hZ hS hA hth (cC_0 _ _ _ _) rfl) rfl rfl hl.1 rfl (lv_room (Nat.le_of_ble_eq_true rfl)) dL_act_61 ⟨Nat.le_of_ble_eq_true rfl, Nat.le_of_ble_eq_true rfl⟩) hV hS hA (fun r X1 L1 tg1 u H locs hp hV hS => ?_)
  obtain ⟨rfl, h1, eA⟩ := hp
  have h1 : em_S (nw_5 pd g n ++ (nw_4 (6 * ln + (st + x) % 6) ++ nw_5 (6 * ln + (st + x) % 6) 0 0)) X L tg X1 L1 tg1 := h1
  have eA : u = z_dec A ln pd g n ((st + x) % 6) w (nI rq) := eA
  refine lv_if_ne (tgt := 77) hx hb dL_act_64 rfl (fun _ => ?_) (fun h9 => absurd h9 (by decide))
  refine lv_aload hx hb dL_act_77 (lv_at hl 0 rfl) ?_
  refine ew_get (v := .ref (X1 3 ln)) hx hb hts hown hK hV fL_107 (h1.ad e2_0) (cC_2 _ _ _ _) rfl dL_act_79 ?_
  refine ew_get (v := .int (u 3 ln 0)) hx hb hts hown hK hV fL_111 (h1.ad e3).self (cC_3 _ _ _ _) rfl dL_act_82 ?_
  exact em_iret hx hb hr hlocks hV hS dL_act_85 ⟨by rw [eA], h1, eA⟩
set_option maxHeartbeats 4000000 in
set_option maxRecDepth 100000 in
theorem c_L_act_decline_end (l : Launch) (D : va_G) (T : Nat → ClassId) (t0 : Nat × Nat) (X : Nat → Nat → Nat) (L : List Nat) (tg : Nat → Nat × Nat) (sz : Nat) (A : ew_R) (ln th st rq w : Nat) (hth : ew_in X L tg 0 0 th) (e3 : ew_in X L tg 3 ln (X 3 ln)) (e13 : ew_in X L tg 13 ln (X 13 ln)) (e4x : ∀ b, b < 6 → ¬ A 13 ln b = 0 → ew_in X L tg 4 (6 * ln + b) (X 4 (6 * ln + b))) (e7 : ew_in X L tg 7 0 (X 7 0)) (e12 : ew_in X L tg 12 0 (X 12 0)) (hln : ln < 32) (hst : st < 6) (hrq : rq < 6) (q3 : A 2 ln 3 = nI st) (q1 : A 2 ln 1 = nI rq) (hw : w ≤ 64) (qw : A 7 0 1 = nI w) (hcl : clC X L tg A) (pd g n : Nat) (q7 : A 2 ln 7 = nI pd) (hpd : pd < 192) (hn : n < 512) (e4 : ew_in X L tg 4 pd (X 4 pd)) (e5 : ew_in X L tg 5 pd (X 5 pd)) (e8 : ew_in X L tg 8 pd (X 8 pd)) (hLS : lsC 8 14 t0 X L tg A pd g n) (hnlp : ∀ b ∈ L, (6, 512 * pd + n) ≠ tg b) (hnap : ∀ b ∈ L, (14, 64 * pd + g + 1) ≠ tg b) (hs1 : A 3 ln 0 = 1) (hsk : ∀ k, 1 ≤ k → k < 6 → (st + k) % 6 = rq ∨ ¬ A 13 ln ((st + k) % 6) = 0) (nl : Nat) (e2_0 : ew_in X L tg 2 ln (X 2 ln)) (e10_1 : ew_in X L tg 10 0 (X 10 0)) (hnl2 : nl ≤ 32) (qnl : A 0 0 6 = nI nl) (hl9 : ln < nl) (qfl : ¬ A 10 0 ln = 0) (ar : Int32) : Met l yL_act wsL_act ({ frames := 13, cells := 10, slots := 2036, locals := 420 }) (em_Pc D vwCl (tysA T) (cfC T) t0 X L tg A sz [.ref th, .int (nI rq), .int (nI ln), .int 1, .int ar]) (em_Qi D vwCl (cfC T) L sz (fun r u => r = z_decEnd A ln pd g n w 3 ln 0 ∧ em_S (nw_5 pd g n ++ []) X L tg u.1 u.2.1 u.2.2.1 ∧ u.2.2.2 = z_decEnd A ln pd g n w)) 10 2036 (ew_A L sz) := by
  refine em_met (by decide) rfl (Nat.le_of_ble_eq_true rfl) ?_
  intro p e s m below meth c ls hx hb hr hts hown hlocks hml hnm hV hK hN hZ hS hA hl hsz
  subst hsz
  have hl : lv_has ls 7 [(0, .ref th), (1, .int (nI rq)), (2, .int (nI ln)), (3, .int 1), (4, .int ar)] := hl
  refine lv_aload_n hx hb dL_act_0 rfl (lv_at hl 0 rfl) ?_
  refine lv_iload_n hx hb dL_act_1 rfl (lv_at hl 2 rfl) ?_
  refine er_callq (va_runV (As := [.int (nI ln)]) (rest := []) ⟨hx, hb, hml, hown, hts⟩ (c_L_loanAt_ok l D T X L tg _ A th hth ln nl e10_1 e2_0 hnl2 qnl hl9 qfl) (cwV 1 hts gL_88 rfl rfl rfl (by decide +kernel) ⟨Nat.le_of_ble_eq_true rfl, Nat.le_of_ble_eq_true rfl⟩) (ec_preV hK hN hV hth (cC_0 _ _ _ _) rfl) rfl rfl hl.1 rfl (lv_room (Nat.le_of_ble_eq_true rfl)) dL_act_2 ⟨Nat.le_of_ble_eq_true rfl, Nat.le_of_ble_eq_true rfl⟩) hV hS hA (fun r u H locs hp hV hS => ?_)
  obtain ⟨rfl, eu9⟩ := hp
  rw [eu9] at hV
  refine lv_astore (lv' := [(5, .ref (X 2 ln)), (0, .ref th), (1, .int (nI rq)), (2, .int (nI ln)), (3, .int 1), (4, .int ar)]) hx hb dL_act_5 hl (by decide) rfl (fun ls hl => ?_)
  refine lv_aload hx hb dL_act_7 (lv_at hl 0 rfl) ?_
  refine lv_ifnull hx hb dL_act_9 ?_
  refine lv_iload_n hx hb dL_act_12 rfl (lv_at hl 4 rfl) ?_
  refine lv_if_lt (tgt := 22) hx hb dL_act_13 rfl (fun h9 => absurd h9 (by decide)) (fun _ => ?_)
  refine lv_iload_n hx hb dL_act_16 rfl (lv_at hl 4 rfl) ?_
  refine lv_bipush (v := 14) hx hb dL_act_17 (by decide) ?_
  refine lv_icmp_le (tgt := 32) hx hb dL_act_19 rfl (fun _ => ?_) (fun h9 => absurd (by decide) h9)
  refine lv_iload_n hx hb dL_act_32 rfl (lv_at hl 4 rfl) ?_
  refine lv_bipush (v := 6) hx hb dL_act_33 (by decide) ?_
  refine lv_icmp_gt (tgt := 86) hx hb dL_act_35 rfl (fun h9 => absurd h9 (by decide)) (fun _ => ?_)
  refine lv_iload_n hx hb dL_act_38 rfl (lv_at hl 2 rfl) ?_
  refine lv_aload hx hb dL_act_39 (lv_at hl 0 rfl) ?_
  refine ew_get (v := .int (A 2 ln 1)) hx hb hts hown hK hV fL_96 e2_0 (cC_2 _ _ _ _) rfl dL_act_41 ?_
  refine lv_toe (y := nI rq) q1 ?_
  refine lv_icmp_eq (tgt := 57) hx hb dL_act_44 rfl (fun _ => ?_) (fun h9 => absurd ((nI_eq (a := rq) (b := rq) (by omega) (by omega)).mpr rfl) h9)
  refine lv_aload_n hx hb dL_act_57 rfl (lv_at hl 1 rfl) ?_
  refine lv_aload hx hb dL_act_58 (lv_at hl 0 rfl) ?_
  refine lv_iload_n hx hb dL_act_60 rfl (lv_at hl 4 rfl) ?_
  refine em_calli (va_runV (As := [.ref (X 2 ln), .int 1]) (rest := []) ⟨hx, hb, hml, hown, hts⟩ (c_L_rd_decline_end l D T t0 X L tg _ A ln th (X 2 ln) st rq w hth e2_0 e3 e13 e4x e7 e12 hln hst hrq q3 q1 hw qw hcl pd g n q7 hpd hn e4 e5 e8 hLS hnlp hnap hs1 hsk) (cwV 2 hts gL_101 rfl rfl rfl (by decide +kernel) ⟨Nat.le_of_ble_eq_true rfl, Nat.le_of_ble_eq_true rfl⟩) (em_preV hK hN hV hZ hS hA hth (cC_0 _ _ _ _) rfl) rfl rfl hl.1 rfl (lv_room (Nat.le_of_ble_eq_true rfl)) dL_act_61 ⟨Nat.le_of_ble_eq_true rfl, Nat.le_of_ble_eq_true rfl⟩) hV hS hA (fun r X1 L1 tg1 u H locs hp hV hS => ?_)
  obtain ⟨rfl, h1, eA⟩ := hp
  have h1 : em_S (nw_5 pd g n ++ []) X L tg X1 L1 tg1 := h1
  have eA : u = z_decEnd A ln pd g n w := eA
  refine lv_if_ne (tgt := 77) hx hb dL_act_64 rfl (fun _ => ?_) (fun h9 => absurd h9 (by decide))
  refine lv_aload hx hb dL_act_77 (lv_at hl 0 rfl) ?_
  refine ew_get (v := .ref (X1 3 ln)) hx hb hts hown hK hV fL_107 (h1.ad e2_0) (cC_2 _ _ _ _) rfl dL_act_79 ?_
  refine ew_get (v := .int (u 3 ln 0)) hx hb hts hown hK hV fL_111 (h1.ad e3).self (cC_3 _ _ _ _) rfl dL_act_82 ?_
  exact em_iret hx hb hr hlocks hV hS dL_act_85 ⟨by rw [eA], h1, eA⟩
