/-! The present one has refused; a decline as a step -/
set_option maxHeartbeats 4000000 in
set_option maxRecDepth 100000 in
theorem c_L_hears_go (l : Launch) (D : va_G) (T : Nat → ClassId) (t0 : Nat × Nat) (X : Nat → Nat → Nat) (L : List Nat) (tg : Nat → Nat × Nat) (sz : Nat) (A : ew_R) (ln th lo st rq w : Nat) (hth : ew_in X L tg 0 0 th) (hlo : ew_in X L tg 2 ln lo) (e3 : ew_in X L tg 3 ln (X 3 ln)) (e13 : ew_in X L tg 13 ln (X 13 ln)) (e4x : ∀ b, b < 6 → ¬ A 13 ln b = 0 → ew_in X L tg 4 (6 * ln + b) (X 4 (6 * ln + b))) (e7 : ew_in X L tg 7 0 (X 7 0)) (e12 : ew_in X L tg 12 0 (X 12 0)) (hln : ln < 32) (hst : st < 6) (hrq : rq < 6) (q3 : A 2 ln 3 = nI st) (q1 : A 2 ln 1 = nI rq) (hw : w ≤ 64) (qw : A 7 0 1 = nI w) (hcl : clC X L tg A) (t lt : Nat) (hlt : ew_in X L tg 19 t lt) (hs0 : A 3 ln 0 = 0) (hk4 : A 19 t 1 = 4) (x : Nat) (hx1 : 1 ≤ x) (hx5 : x < 6) (hsk : ∀ k, 1 ≤ k → k < x → (st + k) % 6 = rq ∨ ¬ A 13 ln ((st + k) % 6) = 0) (hne : ¬ (st + x) % 6 = rq) (hz : A 13 ln ((st + x) % 6) = 0) (h14 : X 14 (64 * (6 * ln + (st + x) % 6)) = t0.1) (h20 : X 20 (64 * (6 * ln + (st + x) % 6)) = t0.1) (hnew : ∀ b ∈ L, ∀ t ∈ nw_4 (6 * ln + (st + x) % 6), t ≠ tg b) (hnl : ∀ b ∈ L, (6, 512 * (6 * ln + (st + x) % 6)) ≠ tg b) (hna : ∀ b ∈ L, (14, 64 * (6 * ln + (st + x) % 6) + 1) ≠ tg b) : Met l yL_requesterHearsAnswer wsL_requesterHearsAnswer ({ frames := 11, cells := 8, slots := 1032, locals := 360 }) (em_Pc D vwCl (tysA T) (cfC T) t0 X L tg A sz [.ref th, .ref lo, .ref lt]) (em_Qv D vwCl (cfC T) L sz (fun u => em_S (nw_4 (6 * ln + (st + x) % 6) ++ nw_5 (6 * ln + (st + x) % 6) 0 0) X L tg u.1 u.2.1 u.2.2.1 ∧ u.2.2.2 = z_ask A ln ((st + x) % 6) w (nI rq))) 8 1032 (ew_A L sz) := by
  refine em_met (by decide) rfl (Nat.le_of_ble_eq_true rfl) ?_
  intro p e s m below meth c ls hx hb hr hts hown hlocks hml hnm hV hK hN hZ hS hA hl hsz
  subst hsz
  have hl : lv_has ls 4 [(0, .ref th), (1, .ref lo), (2, .ref lt)] := hl
  refine lv_aload_n hx hb dL_requesterHearsAnswer_0 rfl (lv_at hl 1 rfl) ?_
  refine ew_get (v := .ref (X 3 ln)) hx hb hts hown hK hV fL_107 hlo (cC_2 _ _ _ _) rfl dL_requesterHearsAnswer_1 ?_
  refine lv_astore_n (lv' := [(3, .ref (X 3 ln)), (0, .ref th), (1, .ref lo), (2, .ref lt)]) hx hb dL_requesterHearsAnswer_4 rfl hl (by decide) rfl (fun ls hl => ?_)
  refine lv_aload_n hx hb dL_requesterHearsAnswer_5 rfl (lv_at hl 0 rfl) ?_
  refine ew_get (v := .int (A 3 ln 0)) hx hb hts hown hK hV fL_111 e3 (cC_3 _ _ _ _) rfl dL_requesterHearsAnswer_6 ?_
  refine lv_bipush (v := 10) hx hb dL_requesterHearsAnswer_9 (by decide) ?_
  refine lv_icmp_ne (tgt := 40) hx hb dL_requesterHearsAnswer_11 rfl (fun _ => ?_) (fun h9 => absurd h9 (i3_ne2 hs0 (by decide)))
  refine lv_aload_n hx hb dL_requesterHearsAnswer_40 rfl (lv_at hl 0 rfl) ?_
  refine ew_get (v := .int (A 3 ln 0)) hx hb hts hown hK hV fL_111 e3 (cC_3 _ _ _ _) rfl dL_requesterHearsAnswer_41 ?_
  refine lv_if_ne (tgt := 101) hx hb dL_requesterHearsAnswer_44 rfl (fun h9 => absurd hs0 h9) (fun _ => ?_)
  refine lv_aload_n hx hb dL_requesterHearsAnswer_47 rfl (lv_at hl 3 rfl) ?_
  refine ew_get (v := .int (A 19 t 1)) hx hb hts hown hK hV fL_350 hlt (cC_19 _ _ _ _) rfl dL_requesterHearsAnswer_48 ?_
  refine lv_iconst (v := 2) hx hb dL_requesterHearsAnswer_51 (by decide) ?_
  refine lv_icmp_ne (tgt := 63) hx hb dL_requesterHearsAnswer_52 rfl (fun _ => ?_) (fun h9 => absurd h9 (i3_ne2 hk4 (by decide)))
  refine lv_aload_n hx hb dL_requesterHearsAnswer_63 rfl (lv_at hl 3 rfl) ?_
  refine ew_get (v := .int (A 19 t 1)) hx hb hts hown hK hV fL_350 hlt (cC_19 _ _ _ _) rfl dL_requesterHearsAnswer_64 ?_
  refine lv_iconst (v := 3) hx hb dL_requesterHearsAnswer_67 (by decide) ?_
  refine lv_icmp_ne (tgt := 87) hx hb dL_requesterHearsAnswer_68 rfl (fun _ => ?_) (fun h9 => absurd h9 (i3_ne2 hk4 (by decide)))
  refine lv_aload_n hx hb dL_requesterHearsAnswer_87 rfl (lv_at hl 3 rfl) ?_
  refine ew_get (v := .int (A 19 t 1)) hx hb hts hown hK hV fL_350 hlt (cC_19 _ _ _ _) rfl dL_requesterHearsAnswer_88 ?_
  refine lv_iconst (v := 4) hx hb dL_requesterHearsAnswer_91 (by decide) ?_
  refine lv_icmp_ne (tgt := 101) hx hb dL_requesterHearsAnswer_92 rfl (fun h9 => absurd hk4 h9) (fun _ => ?_)
  refine lv_aload_n hx hb dL_requesterHearsAnswer_95 rfl (lv_at hl 1 rfl) ?_
  refine lv_aload_n hx hb dL_requesterHearsAnswer_96 rfl (lv_at hl 2 rfl) ?_
  refine em_calli (va_runV (As := [.ref lo]) (rest := []) ⟨hx, hb, hml, hown, hts⟩ (c_L_askNext_go l D T t0 X L tg _ A ln th lo st rq w hth hlo e3 e13 e4x e7 e12 hln hst hrq q3 q1 hw qw hcl x hx1 hx5 hsk hne hz h14 h20 hnew hnl hna) (cwV 1 hts gL_283 rfl rfl rfl (by decide +kernel) ⟨Nat.le_of_ble_eq_true rfl, Nat.le_of_ble_eq_true rfl⟩) (em_preV hK hN hV hZ hS hA hth (cC_0 _ _ _ _) rfl) rfl rfl hl.1 rfl (lv_room (Nat.le_of_ble_eq_true rfl)) dL_requesterHearsAnswer_97 ⟨Nat.le_of_ble_eq_true rfl, Nat.le_of_ble_eq_true rfl⟩) hV hS hA (fun r X1 L1 tg1 u H locs hp hV hS => ?_)
  obtain ⟨rfl, h1, eA⟩ := hp
  refine lv_pop hx hb dL_requesterHearsAnswer_100 rfl ?_
  exact em_vret hx hb hr hlocks hV hS dL_requesterHearsAnswer_101 ⟨h1, eA⟩
set_option maxHeartbeats 4000000 in
set_option maxRecDepth 100000 in
theorem c_L_rt_go (l : Launch) (D : va_G) (T : Nat → ClassId) (t0 : Nat × Nat) (X : Nat → Nat → Nat) (L : List Nat) (tg : Nat → Nat × Nat) (sz : Nat) (A : ew_R) (ln th lo st rq w : Nat) (hth : ew_in X L tg 0 0 th) (hlo : ew_in X L tg 2 ln lo) (e3 : ew_in X L tg 3 ln (X 3 ln)) (e13 : ew_in X L tg 13 ln (X 13 ln)) (e4x : ∀ b, b < 6 → ¬ A 13 ln b = 0 → ew_in X L tg 4 (6 * ln + b) (X 4 (6 * ln + b))) (e7 : ew_in X L tg 7 0 (X 7 0)) (e12 : ew_in X L tg 12 0 (X 12 0)) (hln : ln < 32) (hst : st < 6) (hrq : rq < 6) (q3 : A 2 ln 3 = nI st) (q1 : A 2 ln 1 = nI rq) (hw : w ≤ 64) (qw : A 7 0 1 = nI w) (hcl : clC X L tg A) (d dl : Nat) (hdl : ew_in X L tg 4 d dl) (hd : d < 192) (q7 : A 2 ln 7 = nI d) (t lt : Nat) (hlt : ew_in X L tg 19 t lt) (hs0 : A 3 ln 0 = 0) (hk4 : A 19 t 1 = 4) (x : Nat) (hx1 : 1 ≤ x) (hx5 : x < 6) (hsk : ∀ k, 1 ≤ k → k < x → (st + k) % 6 = rq ∨ ¬ A 13 ln ((st + k) % 6) = 0) (hne : ¬ (st + x) % 6 = rq) (hz : A 13 ln ((st + x) % 6) = 0) (h14 : X 14 (64 * (6 * ln + (st + x) % 6)) = t0.1) (h20 : X 20 (64 * (6 * ln + (st + x) % 6)) = t0.1) (hnew : ∀ b ∈ L, ∀ t ∈ nw_4 (6 * ln + (st + x) % 6), t ≠ tg b) (hnl : ∀ b ∈ L, (6, 512 * (6 * ln + (st + x) % 6)) ≠ tg b) (hna : ∀ b ∈ L, (14, 64 * (6 * ln + (st + x) % 6) + 1) ≠ tg b) : Met l yL_requesterTakes wsL_requesterTakes ({ frames := 12, cells := 8, slots := 1032, locals := 390 }) (em_Pc D vwCl (tysA T) (cfC T) t0 X L tg A sz [.ref th, .ref lo, .ref dl, .ref lt]) (em_Qv D vwCl (cfC T) L sz (fun u => em_S (nw_4 (6 * ln + (st + x) % 6) ++ nw_5 (6 * ln + (st + x) % 6) 0 0) X L tg u.1 u.2.1 u.2.2.1 ∧ u.2.2.2 = z_ask A ln ((st + x) % 6) w (nI rq))) 8 1032 (ew_A L sz) := by
  refine em_met (by decide) rfl (Nat.le_of_ble_eq_true rfl) ?_
  intro p e s m below meth c ls hx hb hr hts hown hlocks hml hnm hV hK hN hZ hS hA hl hsz
  subst hsz
  have hl : lv_has ls 4 [(0, .ref th), (1, .ref lo), (2, .ref dl), (3, .ref lt)] := hl
  refine lv_aload_n hx hb dL_requesterTakes_0 rfl (lv_at hl 2 rfl) ?_
  refine lv_aload_n hx hb dL_requesterTakes_1 rfl (lv_at hl 1 rfl) ?_
  refine ew_get (v := .ref (X 4 d)) hx hb hts hown hK hV fL_212 hlo (cC_2 _ _ _ _) (ec_rd q7 (by omega)) dL_requesterTakes_2 ?_
  refine lv_acmp_eq (rx := some dl) (ry := some (X 4 d)) (tgt := 9) hx hb dL_requesterTakes_5 rfl (fun _ => ?_) (fun h9 => absurd (congrArg some hdl.1.symm) h9)
  refine lv_aload_n hx hb dL_requesterTakes_9 rfl (lv_at hl 3 rfl) ?_
  refine ew_get (v := .int (A 19 t 1)) hx hb hts hown hK hV fL_350 hlt (cC_19 _ _ _ _) rfl dL_requesterTakes_10 ?_
  refine lv_tableIn (tgt := 88) hx hb dL_requesterTakes_13 (by rw [hk4]; decide) (by rw [hk4]; decide) (by rw [hk4]; rfl) rfl ?_
  refine lv_aload_n hx hb dL_requesterTakes_88 rfl (lv_at hl 0 rfl) ?_
  refine lv_aload_n hx hb dL_requesterTakes_89 rfl (lv_at hl 1 rfl) ?_
  refine lv_aload_n hx hb dL_requesterTakes_90 rfl (lv_at hl 3 rfl) ?_
  refine em_callv (va_runV (As := [.ref lo, .ref lt]) (rest := []) ⟨hx, hb, hml, hown, hts⟩ (c_L_hears_go l D T t0 X L tg _ A ln th lo st rq w hth hlo e3 e13 e4x e7 e12 hln hst hrq q3 q1 hw qw hcl t lt hlt hs0 hk4 x hx1 hx5 hsk hne hz h14 h20 hnew hnl hna) (cwV 2 hts gL_370 rfl rfl rfl (by decide +kernel) ⟨Nat.le_of_ble_eq_true rfl, Nat.le_of_ble_eq_true rfl⟩) (em_preV hK hN hV hZ hS hA hth (cC_0 _ _ _ _) rfl) rfl rfl hl.1 rfl (lv_room (Nat.le_of_ble_eq_true rfl)) dL_requesterTakes_91 ⟨Nat.le_of_ble_eq_true rfl, Nat.le_of_ble_eq_true rfl⟩) hV hS hA (fun X1 L1 tg1 u H locs hp hV hS => ?_)
  obtain ⟨h1, eA⟩ := hp
  refine lv_goto (tgt := 120) hx hb dL_requesterTakes_94 rfl ?_
  exact em_vret hx hb hr hlocks hV hS dL_requesterTakes_120 ⟨h1, eA⟩
set_option maxHeartbeats 4000000 in
set_option maxRecDepth 100000 in
theorem c_L_rd_decline_go (l : Launch) (D : va_G) (T : Nat → ClassId) (t0 : Nat × Nat) (X : Nat → Nat → Nat) (L : List Nat) (tg : Nat → Nat × Nat) (sz : Nat) (A : ew_R) (ln th lo st rq w : Nat) (hth : ew_in X L tg 0 0 th) (hlo : ew_in X L tg 2 ln lo) (e3 : ew_in X L tg 3 ln (X 3 ln)) (e13 : ew_in X L tg 13 ln (X 13 ln)) (e4x : ∀ b, b < 6 → ¬ A 13 ln b = 0 → ew_in X L tg 4 (6 * ln + b) (X 4 (6 * ln + b))) (e7 : ew_in X L tg 7 0 (X 7 0)) (e12 : ew_in X L tg 12 0 (X 12 0)) (hln : ln < 32) (hst : st < 6) (hrq : rq < 6) (q3 : A 2 ln 3 = nI st) (q1 : A 2 ln 1 = nI rq) (hw : w ≤ 64) (qw : A 7 0 1 = nI w) (hcl : clC X L tg A) (pd g n : Nat) (q7 : A 2 ln 7 = nI pd) (hpd : pd < 192) (hn : n < 512) (e4 : ew_in X L tg 4 pd (X 4 pd)) (e5 : ew_in X L tg 5 pd (X 5 pd)) (e8 : ew_in X L tg 8 pd (X 8 pd)) (hLS : lsC 8 14 t0 X L tg A pd g n) (hnlp : ∀ b ∈ L, (6, 512 * pd + n) ≠ tg b) (hnap : ∀ b ∈ L, (14, 64 * pd + g + 1) ≠ tg b) (hs1 : A 3 ln 0 = 1) (x : Nat) (hx1 : 1 ≤ x) (hx5 : x < 6) (hsk : ∀ k, 1 ≤ k → k < x → (st + k) % 6 = rq ∨ ¬ A 13 ln ((st + k) % 6) = 0) (hne : ¬ (st + x) % 6 = rq) (hz : A 13 ln ((st + x) % 6) = 0) (h14 : X 14 (64 * (6 * ln + (st + x) % 6)) = t0.1) (h20 : X 20 (64 * (6 * ln + (st + x) % 6)) = t0.1) (hnew : ∀ b ∈ L, ∀ t ∈ nw_4 (6 * ln + (st + x) % 6), t ≠ tg b) (hnl : ∀ b ∈ L, (6, 512 * (6 * ln + (st + x) % 6)) ≠ tg b) (hna : ∀ b ∈ L, (14, 64 * (6 * ln + (st + x) % 6) + 1) ≠ tg b) (hpx : pd ≠ 6 * ln + (st + x) % 6) : Met l yL_requesterDoes wsL_requesterDoes ({ frames := 12, cells := 10, slots := 2036, locals := 390 }) (em_Pc D vwCl (tysA T) (cfC T) t0 X L tg A sz [.ref th, .ref lo, .int 1]) (em_Qi D vwCl (cfC T) L sz (fun r u => r = 1 ∧ em_S (nw_5 pd g n ++ (nw_4 (6 * ln + (st + x) % 6) ++ nw_5 (6 * ln + (st + x) % 6) 0 0)) X L tg u.1 u.2.1 u.2.2.1 ∧ u.2.2.2 = z_dec A ln pd g n ((st + x) % 6) w (nI rq))) 10 2036 (ew_A L sz) := by
  refine em_met (by decide) rfl (Nat.le_of_ble_eq_true rfl) ?_
  intro p e s m below meth c ls hx hb hr hts hown hlocks hml hnm hV hK hN hZ hS hA hl hsz
  subst hsz
  have hl : lv_has ls 3 [(0, .ref th), (1, .ref lo), (2, .int 1)] := hl
  refine lv_iload_n hx hb dL_requesterDoes_0 rfl (lv_at hl 2 rfl) ?_
  refine lv_tableIn (tgt := 50) hx hb dL_requesterDoes_1 (by decide) (by decide) rfl rfl ?_
  refine lv_aload_n hx hb dL_requesterDoes_50 rfl (lv_at hl 0 rfl) ?_
  refine lv_aload_n hx hb dL_requesterDoes_51 rfl (lv_at hl 1 rfl) ?_
  refine em_calli (va_runV (As := [.ref lo]) (rest := []) ⟨hx, hb, hml, hown, hts⟩ (c_L_decline_go l D T t0 X L tg _ A ln th lo st rq w hth hlo e3 e13 e4x e7 e12 hln hst hrq q3 q1 hw qw hcl pd g n q7 hpd hn e4 e5 e8 hLS hnlp hnap hs1 x hx1 hx5 hsk hne hz h14 h20 hnew hnl hna hpx) (cwV 1 hts gL_265 rfl rfl rfl (by decide +kernel) ⟨Nat.le_of_ble_eq_true rfl, Nat.le_of_ble_eq_true rfl⟩) (em_preV hK hN hV hZ hS hA hth (cC_0 _ _ _ _) rfl) rfl rfl hl.1 rfl (lv_room (Nat.le_of_ble_eq_true rfl)) dL_requesterDoes_52 ⟨Nat.le_of_ble_eq_true rfl, Nat.le_of_ble_eq_true rfl⟩) hV hS hA (fun r X1 L1 tg1 u H locs hp hV hS => ?_)
  obtain ⟨rfl, h1, eA⟩ := hp
  exact em_zret hx hb hr hlocks hV hS dL_requesterDoes_55 (by decide) ⟨rfl, h1, eA⟩
set_option maxHeartbeats 4000000 in
set_option maxRecDepth 100000 in
theorem c_L_hears_end (l : Launch) (D : va_G) (T : Nat → ClassId) (t0 : Nat × Nat) (X : Nat → Nat → Nat) (L : List Nat) (tg : Nat → Nat × Nat) (sz : Nat) (A : ew_R) (ln th lo st rq w : Nat) (hth : ew_in X L tg 0 0 th) (hlo : ew_in X L tg 2 ln lo) (e3 : ew_in X L tg 3 ln (X 3 ln)) (e13 : ew_in X L tg 13 ln (X 13 ln)) (e4x : ∀ b, b < 6 → ¬ A 13 ln b = 0 → ew_in X L tg 4 (6 * ln + b) (X 4 (6 * ln + b))) (e7 : ew_in X L tg 7 0 (X 7 0)) (e12 : ew_in X L tg 12 0 (X 12 0)) (hln : ln < 32) (hst : st < 6) (hrq : rq < 6) (q3 : A 2 ln 3 = nI st) (q1 : A 2 ln 1 = nI rq) (hw : w ≤ 64) (qw : A 7 0 1 = nI w) (hcl : clC X L tg A) (t lt : Nat) (hlt : ew_in X L tg 19 t lt) (hs0 : A 3 ln 0 = 0) (hk4 : A 19 t 1 = 4) (hsk : ∀ k, 1 ≤ k → k < 6 → (st + k) % 6 = rq ∨ ¬ A 13 ln ((st + k) % 6) = 0) : Met l yL_requesterHearsAnswer wsL_requesterHearsAnswer ({ frames := 11, cells := 8, slots := 1032, locals := 360 }) (em_Pc D vwCl (tysA T) (cfC T) t0 X L tg A sz [.ref th, .ref lo, .ref lt]) (em_Qv D vwCl (cfC T) L sz (fun u => em_S ([]) X L tg u.1 u.2.1 u.2.2.1 ∧ u.2.2.2 = z_askEnd A ln)) 8 1032 (ew_A L sz) := by
  refine em_met (by decide) rfl (Nat.le_of_ble_eq_true rfl) ?_
  intro p e s m below meth c ls hx hb hr hts hown hlocks hml hnm hV hK hN hZ hS hA hl hsz
  subst hsz
  have hl : lv_has ls 4 [(0, .ref th), (1, .ref lo), (2, .ref lt)] := hl
  refine lv_aload_n hx hb dL_requesterHearsAnswer_0 rfl (lv_at hl 1 rfl) ?_
  refine ew_get (v := .ref (X 3 ln)) hx hb hts hown hK hV fL_107 hlo (cC_2 _ _ _ _) rfl dL_requesterHearsAnswer_1 ?_
  refine lv_astore_n (lv' := [(3, .ref (X 3 ln)), (0, .ref th), (1, .ref lo), (2, .ref lt)]) hx hb dL_requesterHearsAnswer_4 rfl hl (by decide) rfl (fun ls hl => ?_)
  refine lv_aload_n hx hb dL_requesterHearsAnswer_5 rfl (lv_at hl 0 rfl) ?_
  refine ew_get (v := .int (A 3 ln 0)) hx hb hts hown hK hV fL_111 e3 (cC_3 _ _ _ _) rfl dL_requesterHearsAnswer_6 ?_
  refine lv_bipush (v := 10) hx hb dL_requesterHearsAnswer_9 (by decide) ?_
  refine lv_icmp_ne (tgt := 40) hx hb dL_requesterHearsAnswer_11 rfl (fun _ => ?_) (fun h9 => absurd h9 (i3_ne2 hs0 (by decide)))
  refine lv_aload_n hx hb dL_requesterHearsAnswer_40 rfl (lv_at hl 0 rfl) ?_
  refine ew_get (v := .int (A 3 ln 0)) hx hb hts hown hK hV fL_111 e3 (cC_3 _ _ _ _) rfl dL_requesterHearsAnswer_41 ?_
  refine lv_if_ne (tgt := 101) hx hb dL_requesterHearsAnswer_44 rfl (fun h9 => absurd hs0 h9) (fun _ => ?_)
  refine lv_aload_n hx hb dL_requesterHearsAnswer_47 rfl (lv_at hl 3 rfl) ?_
  refine ew_get (v := .int (A 19 t 1)) hx hb hts hown hK hV fL_350 hlt (cC_19 _ _ _ _) rfl dL_requesterHearsAnswer_48 ?_
  refine lv_iconst (v := 2) hx hb dL_requesterHearsAnswer_51 (by decide) ?_
  refine lv_icmp_ne (tgt := 63) hx hb dL_requesterHearsAnswer_52 rfl (fun _ => ?_) (fun h9 => absurd h9 (i3_ne2 hk4 (by decide)))
  refine lv_aload_n hx hb dL_requesterHearsAnswer_63 rfl (lv_at hl 3 rfl) ?_
  refine ew_get (v := .int (A 19 t 1)) hx hb hts hown hK hV fL_350 hlt (cC_19 _ _ _ _) rfl dL_requesterHearsAnswer_64 ?_
  refine lv_iconst (v := 3) hx hb dL_requesterHearsAnswer_67 (by decide) ?_
  refine lv_icmp_ne (tgt := 87) hx hb dL_requesterHearsAnswer_68 rfl (fun _ => ?_) (fun h9 => absurd h9 (i3_ne2 hk4 (by decide)))
  refine lv_aload_n hx hb dL_requesterHearsAnswer_87 rfl (lv_at hl 3 rfl) ?_
  refine ew_get (v := .int (A 19 t 1)) hx hb hts hown hK hV fL_350 hlt (cC_19 _ _ _ _) rfl dL_requesterHearsAnswer_88 ?_
  refine lv_iconst (v := 4) hx hb dL_requesterHearsAnswer_91 (by decide) ?_
  refine lv_icmp_ne (tgt := 101) hx hb dL_requesterHearsAnswer_92 rfl (fun h9 => absurd hk4 h9) (fun _ => ?_)
  refine lv_aload_n hx hb dL_requesterHearsAnswer_95 rfl (lv_at hl 1 rfl) ?_
  refine lv_aload_n hx hb dL_requesterHearsAnswer_96 rfl (lv_at hl 2 rfl) ?_
  refine em_calli (va_runV (As := [.ref lo]) (rest := []) ⟨hx, hb, hml, hown, hts⟩ (c_L_askNext_end l D T t0 X L tg _ A ln th lo st rq w hth hlo e3 e13 e4x e7 e12 hln hst hrq q3 q1 hw qw hcl hsk) (cwV 1 hts gL_283 rfl rfl rfl (by decide +kernel) ⟨Nat.le_of_ble_eq_true rfl, Nat.le_of_ble_eq_true rfl⟩) (em_preV hK hN hV hZ hS hA hth (cC_0 _ _ _ _) rfl) rfl rfl hl.1 rfl (lv_room (Nat.le_of_ble_eq_true rfl)) dL_requesterHearsAnswer_97 ⟨Nat.le_of_ble_eq_true rfl, Nat.le_of_ble_eq_true rfl⟩) hV hS hA (fun r X1 L1 tg1 u H locs hp hV hS => ?_)
  obtain ⟨rfl, h1, eA⟩ := hp
  refine lv_pop hx hb dL_requesterHearsAnswer_100 rfl ?_
  exact em_vret hx hb hr hlocks hV hS dL_requesterHearsAnswer_101 ⟨h1, eA⟩
set_option maxHeartbeats 4000000 in
set_option maxRecDepth 100000 in
theorem c_L_rt_end (l : Launch) (D : va_G) (T : Nat → ClassId) (t0 : Nat × Nat) (X : Nat → Nat → Nat) (L : List Nat) (tg : Nat → Nat × Nat) (sz : Nat) (A : ew_R) (ln th lo st rq w : Nat) (hth : ew_in X L tg 0 0 th) (hlo : ew_in X L tg 2 ln lo) (e3 : ew_in X L tg 3 ln (X 3 ln)) (e13 : ew_in X L tg 13 ln (X 13 ln)) (e4x : ∀ b, b < 6 → ¬ A 13 ln b = 0 → ew_in X L tg 4 (6 * ln + b) (X 4 (6 * ln + b))) (e7 : ew_in X L tg 7 0 (X 7 0)) (e12 : ew_in X L tg 12 0 (X 12 0)) (hln : ln < 32) (hst : st < 6) (hrq : rq < 6) (q3 : A 2 ln 3 = nI st) (q1 : A 2 ln 1 = nI rq) (hw : w ≤ 64) (qw : A 7 0 1 = nI w) (hcl : clC X L tg A) (d dl : Nat) (hdl : ew_in X L tg 4 d dl) (hd : d < 192) (q7 : A 2 ln 7 = nI d) (t lt : Nat) (hlt : ew_in X L tg 19 t lt) (hs0 : A 3 ln 0 = 0) (hk4 : A 19 t 1 = 4) (hsk : ∀ k, 1 ≤ k → k < 6 → (st + k) % 6 = rq ∨ ¬ A 13 ln ((st + k) % 6) = 0) : Met l yL_requesterTakes wsL_requesterTakes ({ frames := 12, cells := 8, slots := 1032, locals := 390 }) (em_Pc D vwCl (tysA T) (cfC T) t0 X L tg A sz [.ref th, .ref lo, .ref dl, .ref lt]) (em_Qv D vwCl (cfC T) L sz (fun u => em_S ([]) X L tg u.1 u.2.1 u.2.2.1 ∧ u.2.2.2 = z_askEnd A ln)) 8 1032 (ew_A L sz) := by
  refine em_met (by decide) rfl (Nat.le_of_ble_eq_true rfl) ?_
  intro p e s m below meth c ls hx hb hr hts hown hlocks hml hnm hV hK hN hZ hS hA hl hsz
  subst hsz
  have hl : lv_has ls 4 [(0, .ref th), (1, .ref lo), (2, .ref dl), (3, .ref lt)] := hl
  refine lv_aload_n hx hb dL_requesterTakes_0 rfl (lv_at hl 2 rfl) ?_
  refine lv_aload_n hx hb dL_requesterTakes_1 rfl (lv_at hl 1 rfl) ?_
  refine ew_get (v := .ref (X 4 d)) hx hb hts hown hK hV fL_212 hlo (cC_2 _ _ _ _) (ec_rd q7 (by omega)) dL_requesterTakes_2 ?_
  refine lv_acmp_eq (rx := some dl) (ry := some (X 4 d)) (tgt := 9) hx hb dL_requesterTakes_5 rfl (fun _ => ?_) (fun h9 => absurd (congrArg some hdl.1.symm) h9)
  refine lv_aload_n hx hb dL_requesterTakes_9 rfl (lv_at hl 3 rfl) ?_
  refine ew_get (v := .int (A 19 t 1)) hx hb hts hown hK hV fL_350 hlt (cC_19 _ _ _ _) rfl dL_requesterTakes_10 ?_
  refine lv_tableIn (tgt := 88) hx hb dL_requesterTakes_13 (by rw [hk4]; decide) (by rw [hk4]; decide) (by rw [hk4]; rfl) rfl ?_
  refine lv_aload_n hx hb dL_requesterTakes_88 rfl (lv_at hl 0 rfl) ?_
  refine lv_aload_n hx hb dL_requesterTakes_89 rfl (lv_at hl 1 rfl) ?_
  refine lv_aload_n hx hb dL_requesterTakes_90 rfl (lv_at hl 3 rfl) ?_
  refine em_callv (va_runV (As := [.ref lo, .ref lt]) (rest := []) ⟨hx, hb, hml, hown, hts⟩ (c_L_hears_end l D T t0 X L tg _ A ln th lo st rq w hth hlo e3 e13 e4x e7 e12 hln hst hrq q3 q1 hw qw hcl t lt hlt hs0 hk4 hsk) (cwV 2 hts gL_370 rfl rfl rfl (by decide +kernel) ⟨Nat.le_of_ble_eq_true rfl, Nat.le_of_ble_eq_true rfl⟩) (em_preV hK hN hV hZ hS hA hth (cC_0 _ _ _ _) rfl) rfl rfl hl.1 rfl (lv_room (Nat.le_of_ble_eq_true rfl)) dL_requesterTakes_91 ⟨Nat.le_of_ble_eq_true rfl, Nat.le_of_ble_eq_true rfl⟩) hV hS hA (fun X1 L1 tg1 u H locs hp hV hS => ?_)
  obtain ⟨h1, eA⟩ := hp
  refine lv_goto (tgt := 120) hx hb dL_requesterTakes_94 rfl ?_
  exact em_vret hx hb hr hlocks hV hS dL_requesterTakes_120 ⟨h1, eA⟩
set_option maxHeartbeats 4000000 in
set_option maxRecDepth 100000 in
theorem c_L_rd_decline_end (l : Launch) (D : va_G) (T : Nat → ClassId) (t0 : Nat × Nat) (X : Nat → Nat → Nat) (L : List Nat) (tg : Nat → Nat × Nat) (sz : Nat) (A : ew_R) (ln th lo st rq w : Nat) (hth : ew_in X L tg 0 0 th) (hlo : ew_in X L tg 2 ln lo) (e3 : ew_in X L tg 3 ln (X 3 ln)) (e13 : ew_in X L tg 13 ln (X 13 ln)) (e4x : ∀ b, b < 6 → ¬ A 13 ln b = 0 → ew_in X L tg 4 (6 * ln + b) (X 4 (6 * ln + b))) (e7 : ew_in X L tg 7 0 (X 7 0)) (e12 : ew_in X L tg 12 0 (X 12 0)) (hln : ln < 32) (hst : st < 6) (hrq : rq < 6) (q3 : A 2 ln 3 = nI st) (q1 : A 2 ln 1 = nI rq) (hw : w ≤ 64) (qw : A 7 0 1 = nI w) (hcl : clC X L tg A) (pd g n : Nat) (q7 : A 2 ln 7 = nI pd) (hpd : pd < 192) (hn : n < 512) (e4 : ew_in X L tg 4 pd (X 4 pd)) (e5 : ew_in X L tg 5 pd (X 5 pd)) (e8 : ew_in X L tg 8 pd (X 8 pd)) (hLS : lsC 8 14 t0 X L tg A pd g n) (hnlp : ∀ b ∈ L, (6, 512 * pd + n) ≠ tg b) (hnap : ∀ b ∈ L, (14, 64 * pd + g + 1) ≠ tg b) (hs1 : A 3 ln 0 = 1) (hsk : ∀ k, 1 ≤ k → k < 6 → (st + k) % 6 = rq ∨ ¬ A 13 ln ((st + k) % 6) = 0) : Met l yL_requesterDoes wsL_requesterDoes ({ frames := 12, cells := 10, slots := 2036, locals := 390 }) (em_Pc D vwCl (tysA T) (cfC T) t0 X L tg A sz [.ref th, .ref lo, .int 1]) (em_Qi D vwCl (cfC T) L sz (fun r u => r = 1 ∧ em_S (nw_5 pd g n ++ []) X L tg u.1 u.2.1 u.2.2.1 ∧ u.2.2.2 = z_decEnd A ln pd g n w)) 10 2036 (ew_A L sz) := by
  refine em_met (by decide) rfl (Nat.le_of_ble_eq_true rfl) ?_
  intro p e s m below meth c ls hx hb hr hts hown hlocks hml hnm hV hK hN hZ hS hA hl hsz
  subst hsz
  have hl : lv_has ls 3 [(0, .ref th), (1, .ref lo), (2, .int 1)] := hl
  refine lv_iload_n hx hb dL_requesterDoes_0 rfl (lv_at hl 2 rfl) ?_
  refine lv_tableIn (tgt := 50) hx hb dL_requesterDoes_1 (by decide) (by decide) rfl rfl ?_
  refine lv_aload_n hx hb dL_requesterDoes_50 rfl (lv_at hl 0 rfl) ?_
  refine lv_aload_n hx hb dL_requesterDoes_51 rfl (lv_at hl 1 rfl) ?_
  refine em_calli (va_runV (As := [.ref lo]) (rest := []) ⟨hx, hb, hml, hown, hts⟩ (c_L_decline_end l D T t0 X L tg _ A ln th lo st rq w hth hlo e3 e13 e4x e7 e12 hln hst hrq q3 q1 hw qw hcl pd g n q7 hpd hn e4 e5 e8 hLS hnlp hnap hs1 hsk) (cwV 1 hts gL_265 rfl rfl rfl (by decide +kernel) ⟨Nat.le_of_ble_eq_true rfl, Nat.le_of_ble_eq_true rfl⟩) (em_preV hK hN hV hZ hS hA hth (cC_0 _ _ _ _) rfl) rfl rfl hl.1 rfl (lv_room (Nat.le_of_ble_eq_true rfl)) dL_requesterDoes_52 ⟨Nat.le_of_ble_eq_true rfl, Nat.le_of_ble_eq_true rfl⟩) hV hS hA (fun r X1 L1 tg1 u H locs hp hV hS => ?_)
  obtain ⟨rfl, h1, eA⟩ := hp
  exact em_zret hx hb hr hlocks hV hS dL_requesterDoes_55 (by decide) ⟨rfl, h1, eA⟩
