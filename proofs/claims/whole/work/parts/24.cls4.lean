set_option maxHeartbeats 4000000 in
set_option maxRecDepth 100000 in
theorem c_L_sideOf_null (l : Launch) (D : va_G) (T : Nat → ClassId) (X : Nat → Nat → Nat) (L : List Nat) (tg : Nat → Nat × Nat) (sz : Nat) (A : ew_R) (b : Int32) : Met l yL_sideOf wsL_sideOf ({ frames := 2, cells := 0, slots := 0, locals := 41 }) (ec_Pc D vwCl (tysA T) (cfC T) X L tg A sz [.null, .int b]) (er_Qq D vwCl (cfC T) X L tg sz (fun r u => r = none ∧ u = A)) 0 0 (ew_A L sz) := by
  refine ec_met (by decide) rfl (Nat.le_of_ble_eq_true rfl) ?_
  intro p e s m below meth c ls hx hb hr hts hown hlocks hml hV hK hN hS hA hl hsz
  subst hsz
  have hl : lv_has ls 3 [(0, .null), (1, .int b)] := hl
  refine lv_aload_nN hx hb dL_sideOf_0 rfl (lv_at hl 0 rfl) ?_
  refine lv_ifnonnullN hx hb dL_sideOf_1 ?_
  refine lv_null hx hb dL_sideOf_4 ?_
  exact er_aret (r := none) hx hb hr hlocks hV hS dL_sideOf_5 rfl ⟨rfl, rfl⟩

set_option maxHeartbeats 4000000 in
set_option maxRecDepth 100000 in
theorem c_L_sideOf_q (l : Launch) (D : va_G) (T : Nat → ClassId) (X : Nat → Nat → Nat) (L : List Nat) (tg : Nat → Nat × Nat) (sz : Nat) (A : ew_R) (k : Nat) (lo : Nat) (hlo : ew_in X L tg 2 k lo) (rq : Nat) (pd : Nat) (e4_0 : ew_in X L tg 4 pd (X 4 pd)) (e5_1 : ew_in X L tg 5 pd (X 5 pd)) (hrq : rq < 6) (q1 : A 2 k 1 = nI rq) (hp : pd < 192) (q7 : A 2 k 7 = nI pd) : Met l yL_sideOf wsL_sideOf ({ frames := 2, cells := 0, slots := 0, locals := 41 }) (ec_Pc D vwCl (tysA T) (cfC T) X L tg A sz [.ref lo, .int (nI rq)]) (er_Qq D vwCl (cfC T) X L tg sz (fun r u => r = some (X 5 pd) ∧ u = A)) 0 0 (ew_A L sz) := by
  refine ec_met (by decide) rfl (Nat.le_of_ble_eq_true rfl) ?_
  intro p e s m below meth c ls hx hb hr hts hown hlocks hml hV hK hN hS hA hl hsz
  subst hsz
  have hl : lv_has ls 3 [(0, .ref lo), (1, .int (nI rq))] := hl
  refine lv_aload_n hx hb dL_sideOf_0 rfl (lv_at hl 0 rfl) ?_
  refine lv_ifnonnull (tgt := 6) hx hb dL_sideOf_1 rfl ?_
  refine lv_iload_n hx hb dL_sideOf_6 rfl (lv_at hl 1 rfl) ?_
  refine lv_aload_n hx hb dL_sideOf_7 rfl (lv_at hl 0 rfl) ?_
  refine ew_get (v := .int (A 2 k 1)) hx hb hts hown hK hV fL_96 hlo (cC_2 _ _ _ _) rfl dL_sideOf_8 ?_
  refine lv_toe (y := nI rq) q1 ?_
  refine lv_icmp_ne (tgt := 22) hx hb dL_sideOf_11 rfl (fun h9 => absurd ((nI_eq (a := rq) (b := rq) (by omega) (by omega)).mpr rfl) h9) (fun _ => ?_)
  refine lv_aload_n hx hb dL_sideOf_14 rfl (lv_at hl 0 rfl) ?_
  refine ew_get (v := .ref (X 4 pd)) hx hb hts hown hK hV fL_212 hlo (cC_2 _ _ _ _) (ec_rd q7 (by omega)) dL_sideOf_15 ?_
  refine ew_get (v := .ref (X 5 pd)) hx hb hts hown hK hV fL_169 e4_0 (cC_4 _ _ _ _) rfl dL_sideOf_18 ?_
  exact er_aret (r := some (X 5 pd)) hx hb hr hlocks hV hS dL_sideOf_21 rfl ⟨rfl, rfl⟩

set_option maxHeartbeats 4000000 in
set_option maxRecDepth 100000 in
theorem c_L_sideOf_s (l : Launch) (D : va_G) (T : Nat → ClassId) (X : Nat → Nat → Nat) (L : List Nat) (tg : Nat → Nat × Nat) (sz : Nat) (A : ew_R) (k : Nat) (lo : Nat) (hlo : ew_in X L tg 2 k lo) (b : Nat) (rq : Nat) (e13_0 : ew_in X L tg 13 k (X 13 k)) (e4_1 : ew_in X L tg 4 (6 * k + b) (X 4 (6 * k + b))) (e15_2 : ew_in X L tg 15 (6 * k + b) (X 15 (6 * k + b))) (hrq : rq < 6) (q1 : A 2 k 1 = nI rq) (hb6 : b < 6) (hbr : ¬ b = rq) (qf : ¬ A 13 k b = 0) : Met l yL_sideOf wsL_sideOf ({ frames := 2, cells := 0, slots := 0, locals := 41 }) (ec_Pc D vwCl (tysA T) (cfC T) X L tg A sz [.ref lo, .int (nI b)]) (er_Qq D vwCl (cfC T) X L tg sz (fun r u => r = some (X 15 (6 * k + b)) ∧ u = A)) 0 0 (ew_A L sz) := by
  refine ec_met (by decide) rfl (Nat.le_of_ble_eq_true rfl) ?_
  intro p e s m below meth c ls hx hb hr hts hown hlocks hml hV hK hN hS hA hl hsz
  subst hsz
  have hl : lv_has ls 3 [(0, .ref lo), (1, .int (nI b))] := hl
  refine lv_aload_n hx hb dL_sideOf_0 rfl (lv_at hl 0 rfl) ?_
  refine lv_ifnonnull (tgt := 6) hx hb dL_sideOf_1 rfl ?_
  refine lv_iload_n hx hb dL_sideOf_6 rfl (lv_at hl 1 rfl) ?_
  refine lv_aload_n hx hb dL_sideOf_7 rfl (lv_at hl 0 rfl) ?_
  refine ew_get (v := .int (A 2 k 1)) hx hb hts hown hK hV fL_96 hlo (cC_2 _ _ _ _) rfl dL_sideOf_8 ?_
  refine lv_toe (y := nI rq) q1 ?_
  refine lv_icmp_ne (tgt := 22) hx hb dL_sideOf_11 rfl (fun _ => ?_) (fun h9 => absurd h9 (fun z9 => hbr ((nI_eq (a := b) (b := rq) (by omega) (by omega)).mp z9)))
  refine lv_aload_n hx hb dL_sideOf_22 rfl (lv_at hl 0 rfl) ?_
  refine lv_iload_n hx hb dL_sideOf_23 rfl (lv_at hl 1 rfl) ?_
  refine er_callq (va_runV (As := [.int (nI b)]) (rest := []) ⟨hx, hb, hml, hown, hts⟩ (c_Loan_dealWith_ok l D T X L tg _ A k lo hlo b e13_0 e4_1 hb6 qf) (cwV 1 hts gL_116 rfl rfl rfl (by decide +kernel) ⟨Nat.le_of_ble_eq_true rfl, Nat.le_of_ble_eq_true rfl⟩) (ec_preV hK hN hV hlo (cC_2 _ _ _ _) rfl) rfl rfl hl.1 rfl (lv_room (Nat.le_of_ble_eq_true rfl)) dL_sideOf_24 ⟨Nat.le_of_ble_eq_true rfl, Nat.le_of_ble_eq_true rfl⟩) hV hS hA (fun r u H locs hp hV hS => ?_)
  obtain ⟨rfl, eu9⟩ := hp
  rw [eu9] at hV
  refine lv_astore_n (lv' := [(2, .ref (X 4 (6 * k + b))), (0, .ref lo), (1, .int (nI b))]) hx hb dL_sideOf_27 rfl hl (by decide) rfl (fun ls hl => ?_)
  refine lv_aload_n hx hb dL_sideOf_28 rfl (lv_at hl 0 rfl) ?_
  refine lv_ifnonnull (tgt := 36) hx hb dL_sideOf_29 rfl ?_
  refine lv_aload_n hx hb dL_sideOf_36 rfl (lv_at hl 0 rfl) ?_
  refine ew_get (v := .ref (X 15 (6 * k + b))) hx hb hts hown hK hV fL_173 e4_1 (cC_4 _ _ _ _) rfl dL_sideOf_37 ?_
  exact er_aret (r := some (X 15 (6 * k + b))) hx hb hr hlocks hV hS dL_sideOf_40 rfl ⟨rfl, rfl⟩

set_option maxHeartbeats 4000000 in
set_option maxRecDepth 100000 in
theorem c_L_sideOf_n (l : Launch) (D : va_G) (T : Nat → ClassId) (X : Nat → Nat → Nat) (L : List Nat) (tg : Nat → Nat × Nat) (sz : Nat) (A : ew_R) (k : Nat) (lo : Nat) (hlo : ew_in X L tg 2 k lo) (b : Nat) (rq : Nat) (e13_0 : ew_in X L tg 13 k (X 13 k)) (hrq : rq < 6) (q1 : A 2 k 1 = nI rq) (hb6 : b < 6) (hbr : ¬ b = rq) (qf : A 13 k b = 0) : Met l yL_sideOf wsL_sideOf ({ frames := 2, cells := 0, slots := 0, locals := 41 }) (ec_Pc D vwCl (tysA T) (cfC T) X L tg A sz [.ref lo, .int (nI b)]) (er_Qq D vwCl (cfC T) X L tg sz (fun r u => r = none ∧ u = A)) 0 0 (ew_A L sz) := by
  refine ec_met (by decide) rfl (Nat.le_of_ble_eq_true rfl) ?_
  intro p e s m below meth c ls hx hb hr hts hown hlocks hml hV hK hN hS hA hl hsz
  subst hsz
  have hl : lv_has ls 3 [(0, .ref lo), (1, .int (nI b))] := hl
  refine lv_aload_n hx hb dL_sideOf_0 rfl (lv_at hl 0 rfl) ?_
  refine lv_ifnonnull (tgt := 6) hx hb dL_sideOf_1 rfl ?_
  refine lv_iload_n hx hb dL_sideOf_6 rfl (lv_at hl 1 rfl) ?_
  refine lv_aload_n hx hb dL_sideOf_7 rfl (lv_at hl 0 rfl) ?_
  refine ew_get (v := .int (A 2 k 1)) hx hb hts hown hK hV fL_96 hlo (cC_2 _ _ _ _) rfl dL_sideOf_8 ?_
  refine lv_toe (y := nI rq) q1 ?_
  refine lv_icmp_ne (tgt := 22) hx hb dL_sideOf_11 rfl (fun _ => ?_) (fun h9 => absurd h9 (fun z9 => hbr ((nI_eq (a := b) (b := rq) (by omega) (by omega)).mp z9)))
  refine lv_aload_n hx hb dL_sideOf_22 rfl (lv_at hl 0 rfl) ?_
  refine lv_iload_n hx hb dL_sideOf_23 rfl (lv_at hl 1 rfl) ?_
  refine er_callq (va_runV (As := [.int (nI b)]) (rest := []) ⟨hx, hb, hml, hown, hts⟩ (c_Loan_dealWith_no l D T X L tg _ A k lo hlo b e13_0 hb6 qf) (cwV 1 hts gL_116 rfl rfl rfl (by decide +kernel) ⟨Nat.le_of_ble_eq_true rfl, Nat.le_of_ble_eq_true rfl⟩) (ec_preV hK hN hV hlo (cC_2 _ _ _ _) rfl) rfl rfl hl.1 rfl (lv_room (Nat.le_of_ble_eq_true rfl)) dL_sideOf_24 ⟨Nat.le_of_ble_eq_true rfl, Nat.le_of_ble_eq_true rfl⟩) hV hS hA (fun r u H locs hp hV hS => ?_)
  obtain ⟨rfl, eu9⟩ := hp
  rw [eu9] at hV
  refine lv_astore_nN (lv' := [(2, .null), (0, .ref lo), (1, .int (nI b))]) hx hb dL_sideOf_27 rfl hl (by decide) rfl (fun ls hl => ?_)
  refine lv_aload_nN hx hb dL_sideOf_28 rfl (lv_at hl 0 rfl) ?_
  refine lv_ifnonnullN hx hb dL_sideOf_29 ?_
  refine lv_null hx hb dL_sideOf_32 ?_
  refine lv_goto (tgt := 40) hx hb dL_sideOf_33 rfl ?_
  exact er_aret (r := none) hx hb hr hlocks hV hS dL_sideOf_40 rfl ⟨rfl, rfl⟩

set_option maxHeartbeats 4000000 in
set_option maxRecDepth 100000 in
theorem c_L_sideOf_bad (l : Launch) (D : va_G) (T : Nat → ClassId) (X : Nat → Nat → Nat) (L : List Nat) (tg : Nat → Nat × Nat) (sz : Nat) (A : ew_R) (k : Nat) (lo : Nat) (hlo : ew_in X L tg 2 k lo) (b : Int32) (rq : Nat) (hrq : rq < 6) (q1 : A 2 k 1 = nI rq) (hbr : ¬ b = nI rq) (hnb : z_L_isLibrary b = 0) : Met l yL_sideOf wsL_sideOf ({ frames := 2, cells := 0, slots := 0, locals := 41 }) (ec_Pc D vwCl (tysA T) (cfC T) X L tg A sz [.ref lo, .int b]) (er_Qq D vwCl (cfC T) X L tg sz (fun r u => r = none ∧ u = A)) 0 0 (ew_A L sz) := by
  refine ec_met (by decide) rfl (Nat.le_of_ble_eq_true rfl) ?_
  intro p e s m below meth c ls hx hb hr hts hown hlocks hml hV hK hN hS hA hl hsz
  subst hsz
  have hl : lv_has ls 3 [(0, .ref lo), (1, .int b)] := hl
  refine lv_aload_n hx hb dL_sideOf_0 rfl (lv_at hl 0 rfl) ?_
  refine lv_ifnonnull (tgt := 6) hx hb dL_sideOf_1 rfl ?_
  refine lv_iload_n hx hb dL_sideOf_6 rfl (lv_at hl 1 rfl) ?_
  refine lv_aload_n hx hb dL_sideOf_7 rfl (lv_at hl 0 rfl) ?_
  refine ew_get (v := .int (A 2 k 1)) hx hb hts hown hK hV fL_96 hlo (cC_2 _ _ _ _) rfl dL_sideOf_8 ?_
  refine lv_toe (y := nI rq) q1 ?_
  refine lv_icmp_ne (tgt := 22) hx hb dL_sideOf_11 rfl (fun _ => ?_) (fun h9 => absurd h9 hbr)
  refine lv_aload_n hx hb dL_sideOf_22 rfl (lv_at hl 0 rfl) ?_
  refine lv_iload_n hx hb dL_sideOf_23 rfl (lv_at hl 1 rfl) ?_
  refine er_callq (va_runV (As := [.int b]) (rest := []) ⟨hx, hb, hml, hown, hts⟩ (c_Loan_dealWith_bad l D T X L tg _ A k lo hlo b hnb) (cwV 1 hts gL_116 rfl rfl rfl (by decide +kernel) ⟨Nat.le_of_ble_eq_true rfl, Nat.le_of_ble_eq_true rfl⟩) (ec_preV hK hN hV hlo (cC_2 _ _ _ _) rfl) rfl rfl hl.1 rfl (lv_room (Nat.le_of_ble_eq_true rfl)) dL_sideOf_24 ⟨Nat.le_of_ble_eq_true rfl, Nat.le_of_ble_eq_true rfl⟩) hV hS hA (fun r u H locs hp hV hS => ?_)
  obtain ⟨rfl, eu9⟩ := hp
  rw [eu9] at hV
  refine lv_astore_nN (lv' := [(2, .null), (0, .ref lo), (1, .int b)]) hx hb dL_sideOf_27 rfl hl (by decide) rfl (fun ls hl => ?_)
  refine lv_aload_nN hx hb dL_sideOf_28 rfl (lv_at hl 0 rfl) ?_
  refine lv_ifnonnullN hx hb dL_sideOf_29 ?_
  refine lv_null hx hb dL_sideOf_32 ?_
  refine lv_goto (tgt := 40) hx hb dL_sideOf_33 rfl ?_
  exact er_aret (r := none) hx hb hr hlocks hV hS dL_sideOf_40 rfl ⟨rfl, rfl⟩

set_option maxHeartbeats 4000000 in
set_option maxRecDepth 100000 in
theorem c_L_waitsAt_t (l : Launch) (D : va_G) (T : Nat → ClassId) (X : Nat → Nat → Nat) (L : List Nat) (tg : Nat → Nat × Nat) (sz : Nat) (A : ew_R) (k : Nat) (b : Nat) (t : Nat) (lo : Nat) (hlo : ew_in X L tg 2 k lo) (hbr : ¬ A 2 k 2 = nI t) : Met l yL_waitsAt wsL_waitsAt ({ frames := 2, cells := 0, slots := 0, locals := 41 }) (ec_Pc D vwCl (tysA T) (cfC T) X L tg A sz [.int (nI b), .int (nI t), .ref lo]) (er_Qi D vwCl (cfC T) X L tg sz (fun r u => r = 0 ∧ u = A)) 0 0 (ew_A L sz) := by
  refine ec_met (by decide) rfl (Nat.le_of_ble_eq_true rfl) ?_
  intro p e s m below meth c ls hx hb hr hts hown hlocks hml hV hK hN hS hA hl hsz
  subst hsz
  have hl : lv_has ls 4 [(0, .int (nI b)), (1, .int (nI t)), (2, .ref lo)] := hl
  refine lv_aload_n hx hb dL_waitsAt_0 rfl (lv_at hl 2 rfl) ?_
  refine lv_ifnull hx hb dL_waitsAt_1 ?_
  refine lv_aload_n hx hb dL_waitsAt_4 rfl (lv_at hl 2 rfl) ?_
  refine ew_get (v := .int (A 2 k 2)) hx hb hts hown hK hV fL_237 hlo (cC_2 _ _ _ _) rfl dL_waitsAt_5 ?_
  refine lv_iload_n hx hb dL_waitsAt_8 rfl (lv_at hl 1 rfl) ?_
  refine lv_icmp_eq (tgt := 16) hx hb dL_waitsAt_9 rfl (fun h9 => absurd h9 hbr) (fun _ => ?_)
  refine lv_null hx hb dL_waitsAt_12 ?_
  refine lv_goto (tgt := 21) hx hb dL_waitsAt_13 rfl ?_
  refine lv_astore_nN (lv' := [(3, .null), (0, .int (nI b)), (1, .int (nI t)), (2, .ref lo)]) hx hb dL_waitsAt_21 rfl hl (by decide) rfl (fun ls hl => ?_)
  refine lv_aload_nN hx hb dL_waitsAt_22 rfl (lv_at hl 0 rfl) ?_
  refine lv_ifnullN (tgt := 41) hx hb dL_waitsAt_23 rfl ?_
  refine lv_iconst (v := 0) hx hb dL_waitsAt_41 (by decide) ?_
  exact er_zret hx hb hr hlocks hV hS dL_waitsAt_42 (by decide) ⟨rfl, rfl⟩

set_option maxHeartbeats 4000000 in
set_option maxRecDepth 100000 in
theorem c_L_waitsAt_n (l : Launch) (D : va_G) (T : Nat → ClassId) (X : Nat → Nat → Nat) (L : List Nat) (tg : Nat → Nat × Nat) (sz : Nat) (A : ew_R) (k : Nat) (b : Nat) (t : Nat) (lo : Nat) (hlo : ew_in X L tg 2 k lo) (e13_0 : ew_in X L tg 13 k (X 13 k)) (hbr : A 2 k 2 = nI t) (hb6 : b < 6) (qf : A 13 k b = 0) : Met l yL_waitsAt wsL_waitsAt ({ frames := 2, cells := 0, slots := 0, locals := 41 }) (ec_Pc D vwCl (tysA T) (cfC T) X L tg A sz [.int (nI b), .int (nI t), .ref lo]) (er_Qi D vwCl (cfC T) X L tg sz (fun r u => r = 0 ∧ u = A)) 0 0 (ew_A L sz) := by
  refine ec_met (by decide) rfl (Nat.le_of_ble_eq_true rfl) ?_
  intro p e s m below meth c ls hx hb hr hts hown hlocks hml hV hK hN hS hA hl hsz
  subst hsz
  have hl : lv_has ls 4 [(0, .int (nI b)), (1, .int (nI t)), (2, .ref lo)] := hl
  refine lv_aload_n hx hb dL_waitsAt_0 rfl (lv_at hl 2 rfl) ?_
  refine lv_ifnull hx hb dL_waitsAt_1 ?_
  refine lv_aload_n hx hb dL_waitsAt_4 rfl (lv_at hl 2 rfl) ?_
  refine ew_get (v := .int (A 2 k 2)) hx hb hts hown hK hV fL_237 hlo (cC_2 _ _ _ _) rfl dL_waitsAt_5 ?_
  refine lv_iload_n hx hb dL_waitsAt_8 rfl (lv_at hl 1 rfl) ?_
  refine lv_icmp_eq (tgt := 16) hx hb dL_waitsAt_9 rfl (fun _ => ?_) (fun h9 => absurd hbr h9)
  refine lv_aload_n hx hb dL_waitsAt_16 rfl (lv_at hl 2 rfl) ?_
  refine lv_iload_n hx hb dL_waitsAt_17 rfl (lv_at hl 0 rfl) ?_
  refine er_callq (va_runV (As := [.int (nI b)]) (rest := []) ⟨hx, hb, hml, hown, hts⟩ (c_Loan_dealWith_no l D T X L tg _ A k lo hlo b e13_0 hb6 qf) (cwV 1 hts gL_116 rfl rfl rfl (by decide +kernel) ⟨Nat.le_of_ble_eq_true rfl, Nat.le_of_ble_eq_true rfl⟩) (ec_preV hK hN hV hlo (cC_2 _ _ _ _) rfl) rfl rfl hl.1 rfl (lv_room (Nat.le_of_ble_eq_true rfl)) dL_waitsAt_18 ⟨Nat.le_of_ble_eq_true rfl, Nat.le_of_ble_eq_true rfl⟩) hV hS hA (fun r u H locs hp hV hS => ?_)
  obtain ⟨rfl, eu9⟩ := hp
  rw [eu9] at hV
  refine lv_astore_nN (lv' := [(3, .null), (0, .int (nI b)), (1, .int (nI t)), (2, .ref lo)]) hx hb dL_waitsAt_21 rfl hl (by decide) rfl (fun ls hl => ?_)
  refine lv_aload_nN hx hb dL_waitsAt_22 rfl (lv_at hl 0 rfl) ?_
  refine lv_ifnullN (tgt := 41) hx hb dL_waitsAt_23 rfl ?_
  refine lv_iconst (v := 0) hx hb dL_waitsAt_41 (by decide) ?_
  exact er_zret hx hb hr hlocks hV hS dL_waitsAt_42 (by decide) ⟨rfl, rfl⟩

def z_L_waitsAt_d (A : ew_R) (k : Nat) (b : Nat) (t : Nat) : Int32 :=
  if A 17 (6 * k + b) 0 = 1 then
    1
  else
    0
set_option maxHeartbeats 4000000 in
set_option maxRecDepth 100000 in
theorem c_L_waitsAt_d (l : Launch) (D : va_G) (T : Nat → ClassId) (X : Nat → Nat → Nat) (L : List Nat) (tg : Nat → Nat × Nat) (sz : Nat) (A : ew_R) (k : Nat) (b : Nat) (t : Nat) (lo : Nat) (hlo : ew_in X L tg 2 k lo) (e13_0 : ew_in X L tg 13 k (X 13 k)) (e4_1 : ew_in X L tg 4 (6 * k + b) (X 4 (6 * k + b))) (e17_2 : ew_in X L tg 17 (6 * k + b) (X 17 (6 * k + b))) (hbr : A 2 k 2 = nI t) (hb6 : b < 6) (qf : ¬ A 13 k b = 0) : Met l yL_waitsAt wsL_waitsAt ({ frames := 2, cells := 0, slots := 0, locals := 41 }) (ec_Pc D vwCl (tysA T) (cfC T) X L tg A sz [.int (nI b), .int (nI t), .ref lo]) (er_Qi D vwCl (cfC T) X L tg sz (fun r u => r = z_L_waitsAt_d A k b t ∧ u = A)) 0 0 (ew_A L sz) := by
  refine ec_met (by decide) rfl (Nat.le_of_ble_eq_true rfl) ?_
  intro p e s m below meth c ls hx hb hr hts hown hlocks hml hV hK hN hS hA hl hsz
  subst hsz
  have hl : lv_has ls 4 [(0, .int (nI b)), (1, .int (nI t)), (2, .ref lo)] := hl
  refine lv_aload_n hx hb dL_waitsAt_0 rfl (lv_at hl 2 rfl) ?_
  refine lv_ifnull hx hb dL_waitsAt_1 ?_
  refine lv_aload_n hx hb dL_waitsAt_4 rfl (lv_at hl 2 rfl) ?_
  refine ew_get (v := .int (A 2 k 2)) hx hb hts hown hK hV fL_237 hlo (cC_2 _ _ _ _) rfl dL_waitsAt_5 ?_
  refine lv_iload_n hx hb dL_waitsAt_8 rfl (lv_at hl 1 rfl) ?_
  refine lv_icmp_eq (tgt := 16) hx hb dL_waitsAt_9 rfl (fun _ => ?_) (fun h9 => absurd hbr h9)
  refine lv_aload_n hx hb dL_waitsAt_16 rfl (lv_at hl 2 rfl) ?_
  refine lv_iload_n hx hb dL_waitsAt_17 rfl (lv_at hl 0 rfl) ?_
  refine er_callq (va_runV (As := [.int (nI b)]) (rest := []) ⟨hx, hb, hml, hown, hts⟩ (c_Loan_dealWith_ok l D T X L tg _ A k lo hlo b e13_0 e4_1 hb6 qf) (cwV 1 hts gL_116 rfl rfl rfl (by decide +kernel) ⟨Nat.le_of_ble_eq_true rfl, Nat.le_of_ble_eq_true rfl⟩) (ec_preV hK hN hV hlo (cC_2 _ _ _ _) rfl) rfl rfl hl.1 rfl (lv_room (Nat.le_of_ble_eq_true rfl)) dL_waitsAt_18 ⟨Nat.le_of_ble_eq_true rfl, Nat.le_of_ble_eq_true rfl⟩) hV hS hA (fun r u H locs hp hV hS => ?_)
  obtain ⟨rfl, eu9⟩ := hp
  rw [eu9] at hV
  refine lv_astore_n (lv' := [(3, .ref (X 4 (6 * k + b))), (0, .int (nI b)), (1, .int (nI t)), (2, .ref lo)]) hx hb dL_waitsAt_21 rfl hl (by decide) rfl (fun ls hl => ?_)
  refine lv_aload_n hx hb dL_waitsAt_22 rfl (lv_at hl 0 rfl) ?_
  refine lv_ifnull hx hb dL_waitsAt_23 ?_
  refine lv_aload_n hx hb dL_waitsAt_26 rfl (lv_at hl 0 rfl) ?_
  refine ew_get (v := .ref (X 17 (6 * k + b))) hx hb hts hown hK hV fL_128 e4_1 (cC_4 _ _ _ _) rfl dL_waitsAt_27 ?_
  refine ew_get (v := .int (A 17 (6 * k + b) 0)) hx hb hts hown hK hV fL_111 e17_2 (cC_17 _ _ _ _) rfl dL_waitsAt_30 ?_
  refine lv_iconst (v := 1) hx hb dL_waitsAt_33 (by decide) ?_
  refine lv_icmp_ne (tgt := 41) hx hb dL_waitsAt_34 rfl (fun h1 => ?_) (fun h1 => ?_)
  · refine lv_iconst (v := 0) hx hb dL_waitsAt_41 (by decide) ?_
    exact er_zret hx hb hr hlocks hV hS dL_waitsAt_42 (by decide) ⟨Eq.symm (by unfold z_L_waitsAt_d; simp only [if_neg h1]), rfl⟩
  · refine lv_iconst (v := 1) hx hb dL_waitsAt_37 (by decide) ?_
    refine lv_goto (tgt := 42) hx hb dL_waitsAt_38 rfl ?_
    exact er_zret hx hb hr hlocks hV hS dL_waitsAt_42 (by decide) ⟨Eq.symm (by unfold z_L_waitsAt_d; simp only [if_pos h1]), rfl⟩

def z_L_requesterHearsOfDue (A : ew_R) (k : Nat) (t : Nat) : ew_R :=
  if A 19 t 1 = 7 then
    if A 3 k 0 = 2 then
      up3 (up3 A 3 k 0 3) 3 k 1 (A 19 t 2)
    else
      if A 3 k 0 = 10 then
        up3 (up3 A 3 k 0 3) 3 k 1 (A 19 t 2)
      else
        A
  else
    if A 19 t 1 = 10 then
      if A 3 k 0 = 5 then
        if A 19 t 2 = 0 then
          up3 (up3 A 3 k 0 4) 3 k 1 (A 3 k 1)
        else
          up3 (up3 A 3 k 0 4) 3 k 1 (A 19 t 2)
      else
        A
    else
      if A 19 t 1 = 11 then
        if A 3 k 0 = 4 then
          up3 (up3 A 3 k 0 6) 3 k 1 (A 19 t 2)
        else
          if A 3 k 0 = 5 then
            up3 (up3 A 3 k 0 6) 3 k 1 (A 19 t 2)
          else
            A
      else
        A
set_option maxHeartbeats 4000000 in
set_option maxRecDepth 100000 in
theorem c_L_requesterHearsOfDue (l : Launch) (D : va_G) (T : Nat → ClassId) (X : Nat → Nat → Nat) (L : List Nat) (tg : Nat → Nat × Nat) (sz : Nat) (A : ew_R) (k : Nat) (t : Nat) (pg : Nat) (hpg : ew_in X L tg 3 k pg) (lt : Nat) (hlt : ew_in X L tg 19 t lt) : Met l yL_requesterHearsOfDue wsL_requesterHearsOfDue ({ frames := 0, cells := 0, slots := 0, locals := 0 }) (ec_Pc D vwCl (tysA T) (cfC T) X L tg A sz [.ref pg, .ref lt]) (er_Qv D vwCl (cfC T) X L tg sz (fun u => u = z_L_requesterHearsOfDue A k t)) 0 0 (ew_A L sz) := by
  refine ec_met (by decide) rfl (Nat.le_of_ble_eq_true rfl) ?_
  intro p e s m below meth c ls hx hb hr hts hown hlocks hml hV hK hN hS hA hl hsz
  subst hsz
  have hl : lv_has ls 3 [(0, .ref pg), (1, .ref lt)] := hl
  refine lv_aload_n hx hb dL_requesterHearsOfDue_0 rfl (lv_at hl 0 rfl) ?_
  refine ew_get (v := .int (A 3 k 0)) hx hb hts hown hK hV fL_111 hpg (cC_3 _ _ _ _) rfl dL_requesterHearsOfDue_1 ?_
  refine lv_istore_n (lv' := [(2, .int (A 3 k 0)), (0, .ref pg), (1, .ref lt)]) hx hb dL_requesterHearsOfDue_4 rfl hl (by decide) rfl (fun ls hl => ?_)
  refine lv_aload_n hx hb dL_requesterHearsOfDue_5 rfl (lv_at hl 2 rfl) ?_
  refine ew_get (v := .int (A 19 t 1)) hx hb hts hown hK hV fL_350 hlt (cC_19 _ _ _ _) rfl dL_requesterHearsOfDue_6 ?_
  refine lv_bipush (v := 7) hx hb dL_requesterHearsOfDue_9 (by decide) ?_
  refine lv_icmp_ne (tgt := 41) hx hb dL_requesterHearsOfDue_11 rfl (fun h1 => ?_) (fun h1 => ?_)
  · refine lv_aload_n hx hb dL_requesterHearsOfDue_41 rfl (lv_at hl 2 rfl) ?_
    refine ew_get (v := .int (A 19 t 1)) hx hb hts hown hK hV fL_350 hlt (cC_19 _ _ _ _) rfl dL_requesterHearsOfDue_42 ?_
    refine lv_bipush (v := 10) hx hb dL_requesterHearsOfDue_45 (by decide) ?_
    refine lv_icmp_ne (tgt := 85) hx hb dL_requesterHearsOfDue_47 rfl (fun h2 => ?_) (fun h2 => ?_)
    · refine lv_aload_n hx hb dL_requesterHearsOfDue_85 rfl (lv_at hl 2 rfl) ?_
      refine ew_get (v := .int (A 19 t 1)) hx hb hts hown hK hV fL_350 hlt (cC_19 _ _ _ _) rfl dL_requesterHearsOfDue_86 ?_
      refine lv_bipush (v := 11) hx hb dL_requesterHearsOfDue_89 (by decide) ?_
      refine lv_icmp_ne (tgt := 118) hx hb dL_requesterHearsOfDue_91 rfl (fun h3 => ?_) (fun h3 => ?_)
      · exact er_vret hx hb hr hlocks hV hS dL_requesterHearsOfDue_118 (Eq.symm (by unfold z_L_requesterHearsOfDue; simp only [if_neg h1, if_neg h2, if_neg h3]))
      · refine lv_iload_n hx hb dL_requesterHearsOfDue_94 rfl (lv_at hl 0 rfl) ?_
        refine lv_iconst (v := 4) hx hb dL_requesterHearsOfDue_95 (by decide) ?_
        refine lv_icmp_eq (tgt := 104) hx hb dL_requesterHearsOfDue_96 rfl (fun h4 => ?_) (fun h4 => ?_)
        · refine lv_aload_n hx hb dL_requesterHearsOfDue_104 rfl (lv_at hl 1 rfl) ?_
          refine lv_bipush (v := 6) hx hb dL_requesterHearsOfDue_105 (by decide) ?_
          refine ew_put (ty := .int) hx hb hts hown hK hV hS fL_111 gPage hpg (cC_3 _ _ _ _) 0 _ (pC_3_0 _ _ _ _ _) rfl (by decide +kernel) rfl rfl (Nat.le_of_ble_eq_true rfl) dL_requesterHearsOfDue_107 (fun H locs hV hS => ?_)
          refine lv_aload_n hx hb dL_requesterHearsOfDue_110 rfl (lv_at hl 1 rfl) ?_
          refine lv_aload_n hx hb dL_requesterHearsOfDue_111 rfl (lv_at hl 2 rfl) ?_
          refine ew_get (v := .int (A 19 t 2)) hx hb hts hown hK hV fL_378 hlt (cC_19 _ _ _ _) rfl dL_requesterHearsOfDue_112 ?_
          refine ew_put (ty := .int) hx hb hts hown hK hV hS fL_240 gPage hpg (cC_3 _ _ _ _) 1 _ (pC_3_1 _ _ _ _ _) rfl (by decide +kernel) rfl rfl (Nat.le_of_ble_eq_true rfl) dL_requesterHearsOfDue_115 (fun H locs hV hS => ?_)
          exact er_vret hx hb hr hlocks hV hS dL_requesterHearsOfDue_118 (Eq.symm (by unfold z_L_requesterHearsOfDue; simp only [if_neg h1, if_neg h2, if_pos h3, if_pos h4]))
        · refine lv_iload_n hx hb dL_requesterHearsOfDue_99 rfl (lv_at hl 0 rfl) ?_
          refine lv_iconst (v := 5) hx hb dL_requesterHearsOfDue_100 (by decide) ?_
          refine lv_icmp_ne (tgt := 118) hx hb dL_requesterHearsOfDue_101 rfl (fun h5 => ?_) (fun h5 => ?_)
          · exact er_vret hx hb hr hlocks hV hS dL_requesterHearsOfDue_118 (Eq.symm (by unfold z_L_requesterHearsOfDue; simp only [if_neg h1, if_neg h2, if_pos h3, if_neg h4, if_neg h5]))
          · refine lv_aload_n hx hb dL_requesterHearsOfDue_104 rfl (lv_at hl 1 rfl) ?_
            refine lv_bipush (v := 6) hx hb dL_requesterHearsOfDue_105 (by decide) ?_
            refine ew_put (ty := .int) hx hb hts hown hK hV hS fL_111 gPage hpg (cC_3 _ _ _ _) 0 _ (pC_3_0 _ _ _ _ _) rfl (by decide +kernel) rfl rfl (Nat.le_of_ble_eq_true rfl) dL_requesterHearsOfDue_107 (fun H locs hV hS => ?_)
            refine lv_aload_n hx hb dL_requesterHearsOfDue_110 rfl (lv_at hl 1 rfl) ?_
            refine lv_aload_n hx hb dL_requesterHearsOfDue_111 rfl (lv_at hl 2 rfl) ?_
            refine ew_get (v := .int (A 19 t 2)) hx hb hts hown hK hV fL_378 hlt (cC_19 _ _ _ _) rfl dL_requesterHearsOfDue_112 ?_
            refine ew_put (ty := .int) hx hb hts hown hK hV hS fL_240 gPage hpg (cC_3 _ _ _ _) 1 _ (pC_3_1 _ _ _ _ _) rfl (by decide +kernel) rfl rfl (Nat.le_of_ble_eq_true rfl) dL_requesterHearsOfDue_115 (fun H locs hV hS => ?_)
            exact er_vret hx hb hr hlocks hV hS dL_requesterHearsOfDue_118 (Eq.symm (by unfold z_L_requesterHearsOfDue; simp only [if_neg h1, if_neg h2, if_pos h3, if_neg h4, if_pos h5]))
    · refine lv_iload_n hx hb dL_requesterHearsOfDue_50 rfl (lv_at hl 0 rfl) ?_
      refine lv_iconst (v := 5) hx hb dL_requesterHearsOfDue_51 (by decide) ?_
      refine lv_icmp_ne (tgt := 85) hx hb dL_requesterHearsOfDue_52 rfl (fun h6 => ?_) (fun h6 => ?_)
      · refine lv_aload_n hx hb dL_requesterHearsOfDue_85 rfl (lv_at hl 2 rfl) ?_
        refine ew_get (v := .int (A 19 t 1)) hx hb hts hown hK hV fL_350 hlt (cC_19 _ _ _ _) rfl dL_requesterHearsOfDue_86 ?_
        refine lv_bipush (v := 11) hx hb dL_requesterHearsOfDue_89 (by decide) ?_
        refine lv_icmp_ne (tgt := 118) hx hb dL_requesterHearsOfDue_91 rfl (fun _ => ?_) (fun h9 => absurd h9 (by rw [h2]; decide))
        exact er_vret hx hb hr hlocks hV hS dL_requesterHearsOfDue_118 (Eq.symm (by unfold z_L_requesterHearsOfDue; simp only [if_neg h1, if_pos h2, if_neg h6]))
      · refine lv_aload_n hx hb dL_requesterHearsOfDue_55 rfl (lv_at hl 1 rfl) ?_
        refine lv_iconst (v := 4) hx hb dL_requesterHearsOfDue_56 (by decide) ?_
        refine ew_put (ty := .int) hx hb hts hown hK hV hS fL_111 gPage hpg (cC_3 _ _ _ _) 0 _ (pC_3_0 _ _ _ _ _) rfl (by decide +kernel) rfl rfl (Nat.le_of_ble_eq_true rfl) dL_requesterHearsOfDue_57 (fun H locs hV hS => ?_)
        refine lv_aload_n hx hb dL_requesterHearsOfDue_60 rfl (lv_at hl 1 rfl) ?_
        refine lv_aload_n hx hb dL_requesterHearsOfDue_61 rfl (lv_at hl 2 rfl) ?_
        refine ew_get (v := .int (A 19 t 2)) hx hb hts hown hK hV fL_378 hlt (cC_19 _ _ _ _) rfl dL_requesterHearsOfDue_62 ?_
        refine lv_if_eq (tgt := 75) hx hb dL_requesterHearsOfDue_65 rfl (fun h7 => ?_) (fun h7 => ?_)
        · refine lv_aload_n hx hb dL_requesterHearsOfDue_75 rfl (lv_at hl 1 rfl) ?_
          refine ew_get (v := .int (A 3 k 1)) hx hb hts hown hK hV fL_240 hpg (cC_3 _ _ _ _) (by simp [up3, va_up, oC_3]) dL_requesterHearsOfDue_76 ?_
          refine ew_put (ty := .int) hx hb hts hown hK hV hS fL_240 gPage hpg (cC_3 _ _ _ _) 1 _ (pC_3_1 _ _ _ _ _) rfl (by decide +kernel) rfl rfl (Nat.le_of_ble_eq_true rfl) dL_requesterHearsOfDue_79 (fun H locs hV hS => ?_)
          refine lv_goto (tgt := 118) hx hb dL_requesterHearsOfDue_82 rfl ?_
          exact er_vret hx hb hr hlocks hV hS dL_requesterHearsOfDue_118 (Eq.symm (by unfold z_L_requesterHearsOfDue; simp only [if_neg h1, if_pos h2, if_pos h6, if_pos h7]))
        · refine lv_aload_n hx hb dL_requesterHearsOfDue_68 rfl (lv_at hl 2 rfl) ?_
          refine ew_get (v := .int (A 19 t 2)) hx hb hts hown hK hV fL_378 hlt (cC_19 _ _ _ _) rfl dL_requesterHearsOfDue_69 ?_
          refine lv_goto (tgt := 79) hx hb dL_requesterHearsOfDue_72 rfl ?_
          refine ew_put (ty := .int) hx hb hts hown hK hV hS fL_240 gPage hpg (cC_3 _ _ _ _) 1 _ (pC_3_1 _ _ _ _ _) rfl (by decide +kernel) rfl rfl (Nat.le_of_ble_eq_true rfl) dL_requesterHearsOfDue_79 (fun H locs hV hS => ?_)
          refine lv_goto (tgt := 118) hx hb dL_requesterHearsOfDue_82 rfl ?_
          exact er_vret hx hb hr hlocks hV hS dL_requesterHearsOfDue_118 (Eq.symm (by unfold z_L_requesterHearsOfDue; simp only [if_neg h1, if_pos h2, if_pos h6, if_neg h7]))
  · refine lv_iload_n hx hb dL_requesterHearsOfDue_14 rfl (lv_at hl 0 rfl) ?_
    refine lv_iconst (v := 2) hx hb dL_requesterHearsOfDue_15 (by decide) ?_
    refine lv_icmp_eq (tgt := 25) hx hb dL_requesterHearsOfDue_16 rfl (fun h8 => ?_) (fun h8 => ?_)
    · refine lv_aload_n hx hb dL_requesterHearsOfDue_25 rfl (lv_at hl 1 rfl) ?_
      refine lv_iconst (v := 3) hx hb dL_requesterHearsOfDue_26 (by decide) ?_
      refine ew_put (ty := .int) hx hb hts hown hK hV hS fL_111 gPage hpg (cC_3 _ _ _ _) 0 _ (pC_3_0 _ _ _ _ _) rfl (by decide +kernel) rfl rfl (Nat.le_of_ble_eq_true rfl) dL_requesterHearsOfDue_27 (fun H locs hV hS => ?_)
      refine lv_aload_n hx hb dL_requesterHearsOfDue_30 rfl (lv_at hl 1 rfl) ?_
      refine lv_aload_n hx hb dL_requesterHearsOfDue_31 rfl (lv_at hl 2 rfl) ?_
      refine ew_get (v := .int (A 19 t 2)) hx hb hts hown hK hV fL_378 hlt (cC_19 _ _ _ _) rfl dL_requesterHearsOfDue_32 ?_
      refine ew_put (ty := .int) hx hb hts hown hK hV hS fL_240 gPage hpg (cC_3 _ _ _ _) 1 _ (pC_3_1 _ _ _ _ _) rfl (by decide +kernel) rfl rfl (Nat.le_of_ble_eq_true rfl) dL_requesterHearsOfDue_35 (fun H locs hV hS => ?_)
      refine lv_goto (tgt := 118) hx hb dL_requesterHearsOfDue_38 rfl ?_
      exact er_vret hx hb hr hlocks hV hS dL_requesterHearsOfDue_118 (Eq.symm (by unfold z_L_requesterHearsOfDue; simp only [if_pos h1, if_pos h8]))
    · refine lv_iload_n hx hb dL_requesterHearsOfDue_19 rfl (lv_at hl 0 rfl) ?_
      refine lv_bipush (v := 10) hx hb dL_requesterHearsOfDue_20 (by decide) ?_
      refine lv_icmp_ne (tgt := 41) hx hb dL_requesterHearsOfDue_22 rfl (fun h9 => ?_) (fun h9 => ?_)
      · refine lv_aload_n hx hb dL_requesterHearsOfDue_41 rfl (lv_at hl 2 rfl) ?_
        refine ew_get (v := .int (A 19 t 1)) hx hb hts hown hK hV fL_350 hlt (cC_19 _ _ _ _) rfl dL_requesterHearsOfDue_42 ?_
        refine lv_bipush (v := 10) hx hb dL_requesterHearsOfDue_45 (by decide) ?_
        refine lv_icmp_ne (tgt := 85) hx hb dL_requesterHearsOfDue_47 rfl (fun _ => ?_) (fun h9 => absurd h9 (by rw [h1]; decide))
        refine lv_aload_n hx hb dL_requesterHearsOfDue_85 rfl (lv_at hl 2 rfl) ?_
        refine ew_get (v := .int (A 19 t 1)) hx hb hts hown hK hV fL_350 hlt (cC_19 _ _ _ _) rfl dL_requesterHearsOfDue_86 ?_
        refine lv_bipush (v := 11) hx hb dL_requesterHearsOfDue_89 (by decide) ?_
        refine lv_icmp_ne (tgt := 118) hx hb dL_requesterHearsOfDue_91 rfl (fun _ => ?_) (fun h9 => absurd h9 (by rw [h1]; decide))
        exact er_vret hx hb hr hlocks hV hS dL_requesterHearsOfDue_118 (Eq.symm (by unfold z_L_requesterHearsOfDue; simp only [if_pos h1, if_neg h8, if_neg h9]))
      · refine lv_aload_n hx hb dL_requesterHearsOfDue_25 rfl (lv_at hl 1 rfl) ?_
        refine lv_iconst (v := 3) hx hb dL_requesterHearsOfDue_26 (by decide) ?_
        refine ew_put (ty := .int) hx hb hts hown hK hV hS fL_111 gPage hpg (cC_3 _ _ _ _) 0 _ (pC_3_0 _ _ _ _ _) rfl (by decide +kernel) rfl rfl (Nat.le_of_ble_eq_true rfl) dL_requesterHearsOfDue_27 (fun H locs hV hS => ?_)
        refine lv_aload_n hx hb dL_requesterHearsOfDue_30 rfl (lv_at hl 1 rfl) ?_
        refine lv_aload_n hx hb dL_requesterHearsOfDue_31 rfl (lv_at hl 2 rfl) ?_
        refine ew_get (v := .int (A 19 t 2)) hx hb hts hown hK hV fL_378 hlt (cC_19 _ _ _ _) rfl dL_requesterHearsOfDue_32 ?_
        refine ew_put (ty := .int) hx hb hts hown hK hV hS fL_240 gPage hpg (cC_3 _ _ _ _) 1 _ (pC_3_1 _ _ _ _ _) rfl (by decide +kernel) rfl rfl (Nat.le_of_ble_eq_true rfl) dL_requesterHearsOfDue_35 (fun H locs hV hS => ?_)
        refine lv_goto (tgt := 118) hx hb dL_requesterHearsOfDue_38 rfl ?_
        exact er_vret hx hb hr hlocks hV hS dL_requesterHearsOfDue_118 (Eq.symm (by unfold z_L_requesterHearsOfDue; simp only [if_pos h1, if_neg h8, if_pos h9]))

def z_L_requesterIsCharged (A : ew_R) (k : Nat) (ch : Int32) (rq : Nat) : ew_R :=
  if A 3 k 0 = 7 then
    (z_L_addToBalance (up3 (up3 A 3 k 0 8) 3 k 3 ch) rq (-ch))
  else
    A
set_option maxHeartbeats 4000000 in
set_option maxRecDepth 100000 in
theorem c_L_requesterIsCharged (l : Launch) (D : va_G) (T : Nat → ClassId) (X : Nat → Nat → Nat) (L : List Nat) (tg : Nat → Nat × Nat) (sz : Nat) (A : ew_R) (k : Nat) (th : Nat) (hth : ew_in X L tg 0 0 th) (lo : Nat) (hlo : ew_in X L tg 2 k lo) (ch : Int32) (rq : Nat) (e3_0 : ew_in X L tg 3 k (X 3 k)) (e11_1 : ew_in X L tg 11 0 (X 11 0)) (hrq : rq < 6) (q1 : A 2 k 1 = nI rq) : Met l yL_requesterIsCharged wsL_requesterIsCharged ({ frames := 2, cells := 0, slots := 0, locals := 42 }) (ec_Pc D vwCl (tysA T) (cfC T) X L tg A sz [.ref th, .ref lo, .int ch]) (er_Qv D vwCl (cfC T) X L tg sz (fun u => u = z_L_requesterIsCharged A k ch rq)) 0 0 (ew_A L sz) := by
  refine ec_met (by decide) rfl (Nat.le_of_ble_eq_true rfl) ?_
  intro p e s m below meth c ls hx hb hr hts hown hlocks hml hV hK hN hS hA hl hsz
  subst hsz
  have hl : lv_has ls 3 [(0, .ref th), (1, .ref lo), (2, .int ch)] := hl
  refine lv_aload_n hx hb dL_requesterIsCharged_0 rfl (lv_at hl 1 rfl) ?_
  refine ew_get (v := .ref (X 3 k)) hx hb hts hown hK hV fL_107 hlo (cC_2 _ _ _ _) rfl dL_requesterIsCharged_1 ?_
  refine ew_get (v := .int (A 3 k 0)) hx hb hts hown hK hV fL_111 e3_0 (cC_3 _ _ _ _) rfl dL_requesterIsCharged_4 ?_
  refine lv_bipush (v := 7) hx hb dL_requesterIsCharged_7 (by decide) ?_
  refine lv_icmp_ne (tgt := 39) hx hb dL_requesterIsCharged_9 rfl (fun h1 => ?_) (fun h1 => ?_)
  · exact er_vret hx hb hr hlocks hV hS dL_requesterIsCharged_39 (Eq.symm (by unfold z_L_requesterIsCharged; simp only [if_neg h1]))
  · refine lv_aload_n hx hb dL_requesterIsCharged_12 rfl (lv_at hl 1 rfl) ?_
    refine ew_get (v := .ref (X 3 k)) hx hb hts hown hK hV fL_107 hlo (cC_2 _ _ _ _) rfl dL_requesterIsCharged_13 ?_
    refine lv_bipush (v := 8) hx hb dL_requesterIsCharged_16 (by decide) ?_
    refine ew_put (ty := .int) hx hb hts hown hK hV hS fL_111 gPage e3_0 (cC_3 _ _ _ _) 0 _ (pC_3_0 _ _ _ _ _) rfl (by decide +kernel) rfl rfl (Nat.le_of_ble_eq_true rfl) dL_requesterIsCharged_18 (fun H locs hV hS => ?_)
    refine lv_aload_n hx hb dL_requesterIsCharged_21 rfl (lv_at hl 1 rfl) ?_
    refine ew_get (v := .ref (X 3 k)) hx hb hts hown hK hV fL_107 hlo (cC_2 _ _ _ _) rfl dL_requesterIsCharged_22 ?_
    refine lv_iload_n hx hb dL_requesterIsCharged_25 rfl (lv_at hl 2 rfl) ?_
    refine ew_put (ty := .int) hx hb hts hown hK hV hS fL_246 gPage e3_0 (cC_3 _ _ _ _) 3 _ (pC_3_3 _ _ _ _ _) rfl (by decide +kernel) rfl rfl (Nat.le_of_ble_eq_true rfl) dL_requesterIsCharged_26 (fun H locs hV hS => ?_)
    refine lv_aload_n hx hb dL_requesterIsCharged_29 rfl (lv_at hl 0 rfl) ?_
    refine lv_aload_n hx hb dL_requesterIsCharged_30 rfl (lv_at hl 1 rfl) ?_
    refine ew_get (v := .int (A 2 k 1)) hx hb hts hown hK hV fL_96 hlo (cC_2 _ _ _ _) rfl dL_requesterIsCharged_31 ?_
    refine lv_toe (y := nI rq) q1 ?_
    refine lv_iload_n hx hb dL_requesterIsCharged_34 rfl (lv_at hl 2 rfl) ?_
    refine lv_ineg hx hb dL_requesterIsCharged_35 ?_
    refine er_callv (va_runV (As := [.int (nI rq), .int (-ch)]) (rest := []) ⟨hx, hb, hml, hown, hts⟩ (c_L_addToBalance l D T X L tg _ (up3 (up3 A 3 k 0 8) 3 k 3 ch) th hth rq (-ch) e11_1 hrq) (cwV 2 hts gL_298 rfl rfl rfl (by decide +kernel) ⟨Nat.le_of_ble_eq_true rfl, Nat.le_of_ble_eq_true rfl⟩) (ec_preV hK hN hV hth (cC_0 _ _ _ _) rfl) rfl rfl hl.1 rfl (lv_room (Nat.le_of_ble_eq_true rfl)) dL_requesterIsCharged_36 ⟨Nat.le_of_ble_eq_true rfl, Nat.le_of_ble_eq_true rfl⟩) hV hS hA (fun u2 H locs eu2 hV hS => ?_)
    have eu2 : u2 = z_L_addToBalance (up3 (up3 A 3 k 0 8) 3 k 3 ch) rq (-ch) := eu2
    subst eu2
    exact er_vret hx hb hr hlocks hV hS dL_requesterIsCharged_39 (Eq.symm (by unfold z_L_requesterIsCharged; simp only [if_pos h1]))

def z_L_pass (A : ew_R) (nn : Int32) : Int32 × ew_R :=
  if nn < 1 then
    (0, A)
  else
    if nn ≤ 1000 then
      (1, up3 A 0 0 7 ((A 0 0 7) + nn))
    else
      (0, A)
set_option maxHeartbeats 4000000 in
set_option maxRecDepth 100000 in
theorem c_L_pass (l : Launch) (D : va_G) (T : Nat → ClassId) (X : Nat → Nat → Nat) (L : List Nat) (tg : Nat → Nat × Nat) (sz : Nat) (A : ew_R) (th : Nat) (hth : ew_in X L tg 0 0 th) (nn : Int32) : Met l yL_pass wsL_pass ({ frames := 0, cells := 0, slots := 0, locals := 0 }) (ec_Pc D vwCl (tysA T) (cfC T) X L tg A sz [.ref th, .int nn]) (er_Qi D vwCl (cfC T) X L tg sz (fun r u => r = (z_L_pass A nn).1 ∧ u = (z_L_pass A nn).2)) 0 0 (ew_A L sz) := by
  refine ec_met (by decide) rfl (Nat.le_of_ble_eq_true rfl) ?_
  intro p e s m below meth c ls hx hb hr hts hown hlocks hml hV hK hN hS hA hl hsz
  subst hsz
  have hl : lv_has ls 2 [(0, .ref th), (1, .int nn)] := hl
  refine lv_iload_n hx hb dL_pass_0 rfl (lv_at hl 1 rfl) ?_
  refine lv_iconst (v := 1) hx hb dL_pass_1 (by decide) ?_
  refine lv_icmp_lt (tgt := 12) hx hb dL_pass_2 rfl (fun h1 => ?_) (fun h1 => ?_)
  · refine lv_iconst (v := 0) hx hb dL_pass_12 (by decide) ?_
    exact er_zret hx hb hr hlocks hV hS dL_pass_13 (by decide) ⟨Eq.symm (by unfold z_L_pass; simp only [if_pos h1]), Eq.symm (by unfold z_L_pass; simp only [if_pos h1])⟩
  · refine lv_iload_n hx hb dL_pass_5 rfl (lv_at hl 1 rfl) ?_
    refine lv_sipush (v := 1000) hx hb dL_pass_6 (by decide) ?_
    refine lv_icmp_le (tgt := 14) hx hb dL_pass_9 rfl (fun h2 => ?_) (fun h2 => ?_)
    · refine lv_aload_n hx hb dL_pass_14 rfl (lv_at hl 0 rfl) ?_
      refine lv_dup hx hb dL_pass_15 rfl ?_
      refine ew_get (v := .int (A 0 0 7)) hx hb hts hown hK hV fL_131 hth (cC_0 _ _ _ _) rfl dL_pass_16 ?_
      refine lv_iload_n hx hb dL_pass_19 rfl (lv_at hl 1 rfl) ?_
      refine lv_iadd hx hb dL_pass_20 ?_
      refine ew_put (ty := .int) hx hb hts hown hK hV hS fL_131 gL hth (cC_0 _ _ _ _) 7 _ (pC_0_7 _ _ _ _ _) rfl (by decide +kernel) rfl rfl (Nat.le_of_ble_eq_true rfl) dL_pass_21 (fun H locs hV hS => ?_)
      refine lv_iconst (v := 1) hx hb dL_pass_24 (by decide) ?_
      exact er_zret hx hb hr hlocks hV hS dL_pass_25 (by decide) ⟨Eq.symm (by unfold z_L_pass; simp only [if_neg h1, if_pos h2]), Eq.symm (by unfold z_L_pass; simp only [if_neg h1, if_pos h2])⟩
    · refine lv_iconst (v := 0) hx hb dL_pass_12 (by decide) ?_
      exact er_zret hx hb hr hlocks hV hS dL_pass_13 (by decide) ⟨Eq.symm (by unfold z_L_pass; simp only [if_neg h1, if_neg h2]), Eq.symm (by unfold z_L_pass; simp only [if_neg h1, if_neg h2])⟩

def z_L_letters (A : ew_R) : Int32 :=
  A 7 0 1
set_option maxHeartbeats 4000000 in
set_option maxRecDepth 100000 in
theorem c_L_letters (l : Launch) (D : va_G) (T : Nat → ClassId) (X : Nat → Nat → Nat) (L : List Nat) (tg : Nat → Nat × Nat) (sz : Nat) (A : ew_R) (th : Nat) (hth : ew_in X L tg 0 0 th) (e7_0 : ew_in X L tg 7 0 (X 7 0)) : Met l yL_letters wsL_letters ({ frames := 0, cells := 0, slots := 0, locals := 0 }) (ec_Pc D vwCl (tysA T) (cfC T) X L tg A sz [.ref th]) (er_Qi D vwCl (cfC T) X L tg sz (fun r u => r = z_L_letters A ∧ u = A)) 0 0 (ew_A L sz) := by
  refine ec_met (by decide) rfl (Nat.le_of_ble_eq_true rfl) ?_
  intro p e s m below meth c ls hx hb hr hts hown hlocks hml hV hK hN hS hA hl hsz
  subst hsz
  have hl : lv_has ls 1 [(0, .ref th)] := hl
  refine lv_aload_n hx hb dL_letters_0 rfl (lv_at hl 0 rfl) ?_
  refine ew_get (v := .ref (X 7 0)) hx hb hts hown hK hV fL_28 hth (cC_0 _ _ _ _) rfl dL_letters_1 ?_
  refine ew_get (v := .int (A 7 0 1)) hx hb hts hown hK hV fL_163 e7_0 (cC_7 _ _ _ _) rfl dL_letters_4 ?_
  exact er_iret hx hb hr hlocks hV hS dL_letters_7 ⟨Eq.symm (by unfold z_L_letters; rfl), rfl⟩

def z_L_letter_ok (A : ew_R) (i : Nat) (wh : Nat) (w : Nat) : Int32 :=
  z_Row_told_ok A i wh w
set_option maxHeartbeats 4000000 in
set_option maxRecDepth 100000 in
theorem c_L_letter_ok (l : Launch) (D : va_G) (T : Nat → ClassId) (X : Nat → Nat → Nat) (L : List Nat) (tg : Nat → Nat × Nat) (sz : Nat) (A : ew_R) (th : Nat) (hth : ew_in X L tg 0 0 th) (i : Nat) (wh : Nat) (w : Nat) (e7_0 : ew_in X L tg 7 0 (X 7 0)) (e12_1 : ew_in X L tg 12 0 (X 12 0)) (hw : w ≤ 64) (qw : A 7 0 1 = nI w) (hi : i < w) (hwh : wh < 7) : Met l yL_letter wsL_letter ({ frames := 1, cells := 0, slots := 0, locals := 23 }) (ec_Pc D vwCl (tysA T) (cfC T) X L tg A sz [.ref th, .int (nI i), .int (nI wh)]) (er_Qi D vwCl (cfC T) X L tg sz (fun r u => r = z_L_letter_ok A i wh w ∧ u = A)) 0 0 (ew_A L sz) := by
  refine ec_met (by decide) rfl (Nat.le_of_ble_eq_true rfl) ?_
  intro p e s m below meth c ls hx hb hr hts hown hlocks hml hV hK hN hS hA hl hsz
  subst hsz
  have hl : lv_has ls 3 [(0, .ref th), (1, .int (nI i)), (2, .int (nI wh))] := hl
  refine lv_aload_n hx hb dL_letter_0 rfl (lv_at hl 0 rfl) ?_
  refine ew_get (v := .ref (X 7 0)) hx hb hts hown hK hV fL_28 hth (cC_0 _ _ _ _) rfl dL_letter_1 ?_
  refine lv_iload_n hx hb dL_letter_4 rfl (lv_at hl 1 rfl) ?_
  refine lv_iload_n hx hb dL_letter_5 rfl (lv_at hl 2 rfl) ?_
  refine er_calli (va_runV (As := [.int (nI i), .int (nI wh)]) (rest := []) ⟨hx, hb, hml, hown, hts⟩ (c_Row_told_ok l D T X L tg _ A (X 7 0) e7_0 i wh w e12_1 hw qw hi hwh) (cwV 2 hts gL_165 rfl rfl rfl (by decide +kernel) ⟨Nat.le_of_ble_eq_true rfl, Nat.le_of_ble_eq_true rfl⟩) (ec_preV hK hN hV e7_0 (cC_7 _ _ _ _) rfl) rfl rfl hl.1 rfl (lv_room (Nat.le_of_ble_eq_true rfl)) dL_letter_6 ⟨Nat.le_of_ble_eq_true rfl, Nat.le_of_ble_eq_true rfl⟩) hV hS hA (fun r u H locs hp hV hS => ?_)
  obtain ⟨rfl, eu9⟩ := hp
  rw [eu9] at hV
  exact er_iret hx hb hr hlocks hV hS dL_letter_9 ⟨Eq.symm (by unfold z_L_letter_ok; rfl), rfl⟩

set_option maxHeartbeats 4000000 in
set_option maxRecDepth 100000 in
theorem c_L_letter_neg (l : Launch) (D : va_G) (T : Nat → ClassId) (X : Nat → Nat → Nat) (L : List Nat) (tg : Nat → Nat × Nat) (sz : Nat) (A : ew_R) (th : Nat) (hth : ew_in X L tg 0 0 th) (i : Int32) (wh : Int32) (e7_0 : ew_in X L tg 7 0 (X 7 0)) (hi : i < 0) : Met l yL_letter wsL_letter ({ frames := 1, cells := 0, slots := 0, locals := 23 }) (ec_Pc D vwCl (tysA T) (cfC T) X L tg A sz [.ref th, .int i, .int wh]) (er_Qi D vwCl (cfC T) X L tg sz (fun r u => r = (-1) ∧ u = A)) 0 0 (ew_A L sz) := by
  refine ec_met (by decide) rfl (Nat.le_of_ble_eq_true rfl) ?_
  intro p e s m below meth c ls hx hb hr hts hown hlocks hml hV hK hN hS hA hl hsz
  subst hsz
  have hl : lv_has ls 3 [(0, .ref th), (1, .int i), (2, .int wh)] := hl
  refine lv_aload_n hx hb dL_letter_0 rfl (lv_at hl 0 rfl) ?_
  refine ew_get (v := .ref (X 7 0)) hx hb hts hown hK hV fL_28 hth (cC_0 _ _ _ _) rfl dL_letter_1 ?_
  refine lv_iload_n hx hb dL_letter_4 rfl (lv_at hl 1 rfl) ?_
  refine lv_iload_n hx hb dL_letter_5 rfl (lv_at hl 2 rfl) ?_
  refine er_calli (va_runV (As := [.int i, .int wh]) (rest := []) ⟨hx, hb, hml, hown, hts⟩ (c_Row_told_neg l D T X L tg _ A (X 7 0) e7_0 i wh hi) (cwV 2 hts gL_165 rfl rfl rfl (by decide +kernel) ⟨Nat.le_of_ble_eq_true rfl, Nat.le_of_ble_eq_true rfl⟩) (ec_preV hK hN hV e7_0 (cC_7 _ _ _ _) rfl) rfl rfl hl.1 rfl (lv_room (Nat.le_of_ble_eq_true rfl)) dL_letter_6 ⟨Nat.le_of_ble_eq_true rfl, Nat.le_of_ble_eq_true rfl⟩) hV hS hA (fun r u H locs hp hV hS => ?_)
  obtain ⟨rfl, eu9⟩ := hp
  rw [eu9] at hV
  exact er_iret hx hb hr hlocks hV hS dL_letter_9 ⟨rfl, rfl⟩

set_option maxHeartbeats 4000000 in
set_option maxRecDepth 100000 in
theorem c_L_letter_big (l : Launch) (D : va_G) (T : Nat → ClassId) (X : Nat → Nat → Nat) (L : List Nat) (tg : Nat → Nat × Nat) (sz : Nat) (A : ew_R) (th : Nat) (hth : ew_in X L tg 0 0 th) (i : Int32) (wh : Int32) (w : Nat) (e7_0 : ew_in X L tg 7 0 (X 7 0)) (qw : A 7 0 1 = nI w) (hi : ¬ i < 0) (hi2 : nI w ≤ i) : Met l yL_letter wsL_letter ({ frames := 1, cells := 0, slots := 0, locals := 23 }) (ec_Pc D vwCl (tysA T) (cfC T) X L tg A sz [.ref th, .int i, .int wh]) (er_Qi D vwCl (cfC T) X L tg sz (fun r u => r = (-1) ∧ u = A)) 0 0 (ew_A L sz) := by
  refine ec_met (by decide) rfl (Nat.le_of_ble_eq_true rfl) ?_
  intro p e s m below meth c ls hx hb hr hts hown hlocks hml hV hK hN hS hA hl hsz
  subst hsz
  have hl : lv_has ls 3 [(0, .ref th), (1, .int i), (2, .int wh)] := hl
  refine lv_aload_n hx hb dL_letter_0 rfl (lv_at hl 0 rfl) ?_
  refine ew_get (v := .ref (X 7 0)) hx hb hts hown hK hV fL_28 hth (cC_0 _ _ _ _) rfl dL_letter_1 ?_
  refine lv_iload_n hx hb dL_letter_4 rfl (lv_at hl 1 rfl) ?_
  refine lv_iload_n hx hb dL_letter_5 rfl (lv_at hl 2 rfl) ?_
  refine er_calli (va_runV (As := [.int i, .int wh]) (rest := []) ⟨hx, hb, hml, hown, hts⟩ (c_Row_told_big l D T X L tg _ A (X 7 0) e7_0 i wh w qw hi hi2) (cwV 2 hts gL_165 rfl rfl rfl (by decide +kernel) ⟨Nat.le_of_ble_eq_true rfl, Nat.le_of_ble_eq_true rfl⟩) (ec_preV hK hN hV e7_0 (cC_7 _ _ _ _) rfl) rfl rfl hl.1 rfl (lv_room (Nat.le_of_ble_eq_true rfl)) dL_letter_6 ⟨Nat.le_of_ble_eq_true rfl, Nat.le_of_ble_eq_true rfl⟩) hV hS hA (fun r u H locs hp hV hS => ?_)
  obtain ⟨rfl, eu9⟩ := hp
  rw [eu9] at hV
  exact er_iret hx hb hr hlocks hV hS dL_letter_9 ⟨rfl, rfl⟩

set_option maxHeartbeats 4000000 in
set_option maxRecDepth 100000 in
theorem c_L_letter_wneg (l : Launch) (D : va_G) (T : Nat → ClassId) (X : Nat → Nat → Nat) (L : List Nat) (tg : Nat → Nat × Nat) (sz : Nat) (A : ew_R) (th : Nat) (hth : ew_in X L tg 0 0 th) (i : Nat) (wh : Int32) (w : Nat) (e7_0 : ew_in X L tg 7 0 (X 7 0)) (hw : w ≤ 64) (qw : A 7 0 1 = nI w) (hi : i < w) (hwh : wh < 0) : Met l yL_letter wsL_letter ({ frames := 1, cells := 0, slots := 0, locals := 23 }) (ec_Pc D vwCl (tysA T) (cfC T) X L tg A sz [.ref th, .int (nI i), .int wh]) (er_Qi D vwCl (cfC T) X L tg sz (fun r u => r = (-1) ∧ u = A)) 0 0 (ew_A L sz) := by
  refine ec_met (by decide) rfl (Nat.le_of_ble_eq_true rfl) ?_
  intro p e s m below meth c ls hx hb hr hts hown hlocks hml hV hK hN hS hA hl hsz
  subst hsz
  have hl : lv_has ls 3 [(0, .ref th), (1, .int (nI i)), (2, .int wh)] := hl
  refine lv_aload_n hx hb dL_letter_0 rfl (lv_at hl 0 rfl) ?_
  refine ew_get (v := .ref (X 7 0)) hx hb hts hown hK hV fL_28 hth (cC_0 _ _ _ _) rfl dL_letter_1 ?_
  refine lv_iload_n hx hb dL_letter_4 rfl (lv_at hl 1 rfl) ?_
  refine lv_iload_n hx hb dL_letter_5 rfl (lv_at hl 2 rfl) ?_
  refine er_calli (va_runV (As := [.int (nI i), .int wh]) (rest := []) ⟨hx, hb, hml, hown, hts⟩ (c_Row_told_wneg l D T X L tg _ A (X 7 0) e7_0 i wh w hw qw hi hwh) (cwV 2 hts gL_165 rfl rfl rfl (by decide +kernel) ⟨Nat.le_of_ble_eq_true rfl, Nat.le_of_ble_eq_true rfl⟩) (ec_preV hK hN hV e7_0 (cC_7 _ _ _ _) rfl) rfl rfl hl.1 rfl (lv_room (Nat.le_of_ble_eq_true rfl)) dL_letter_6 ⟨Nat.le_of_ble_eq_true rfl, Nat.le_of_ble_eq_true rfl⟩) hV hS hA (fun r u H locs hp hV hS => ?_)
  obtain ⟨rfl, eu9⟩ := hp
  rw [eu9] at hV
  exact er_iret hx hb hr hlocks hV hS dL_letter_9 ⟨rfl, rfl⟩

set_option maxHeartbeats 4000000 in
set_option maxRecDepth 100000 in
theorem c_L_letter_wbig (l : Launch) (D : va_G) (T : Nat → ClassId) (X : Nat → Nat → Nat) (L : List Nat) (tg : Nat → Nat × Nat) (sz : Nat) (A : ew_R) (th : Nat) (hth : ew_in X L tg 0 0 th) (i : Nat) (wh : Int32) (w : Nat) (e7_0 : ew_in X L tg 7 0 (X 7 0)) (hw : w ≤ 64) (qw : A 7 0 1 = nI w) (hi : i < w) (hwh : ¬ wh < 0) (hw7 : 7 ≤ wh) : Met l yL_letter wsL_letter ({ frames := 1, cells := 0, slots := 0, locals := 23 }) (ec_Pc D vwCl (tysA T) (cfC T) X L tg A sz [.ref th, .int (nI i), .int wh]) (er_Qi D vwCl (cfC T) X L tg sz (fun r u => r = (-1) ∧ u = A)) 0 0 (ew_A L sz) := by
  refine ec_met (by decide) rfl (Nat.le_of_ble_eq_true rfl) ?_
  intro p e s m below meth c ls hx hb hr hts hown hlocks hml hV hK hN hS hA hl hsz
  subst hsz
  have hl : lv_has ls 3 [(0, .ref th), (1, .int (nI i)), (2, .int wh)] := hl
  refine lv_aload_n hx hb dL_letter_0 rfl (lv_at hl 0 rfl) ?_
  refine ew_get (v := .ref (X 7 0)) hx hb hts hown hK hV fL_28 hth (cC_0 _ _ _ _) rfl dL_letter_1 ?_
  refine lv_iload_n hx hb dL_letter_4 rfl (lv_at hl 1 rfl) ?_
  refine lv_iload_n hx hb dL_letter_5 rfl (lv_at hl 2 rfl) ?_
  refine er_calli (va_runV (As := [.int (nI i), .int wh]) (rest := []) ⟨hx, hb, hml, hown, hts⟩ (c_Row_told_wbig l D T X L tg _ A (X 7 0) e7_0 i wh w hw qw hi hwh hw7) (cwV 2 hts gL_165 rfl rfl rfl (by decide +kernel) ⟨Nat.le_of_ble_eq_true rfl, Nat.le_of_ble_eq_true rfl⟩) (ec_preV hK hN hV e7_0 (cC_7 _ _ _ _) rfl) rfl rfl hl.1 rfl (lv_room (Nat.le_of_ble_eq_true rfl)) dL_letter_6 ⟨Nat.le_of_ble_eq_true rfl, Nat.le_of_ble_eq_true rfl⟩) hV hS hA (fun r u H locs hp hV hS => ?_)
  obtain ⟨rfl, eu9⟩ := hp
  rw [eu9] at hV
  exact er_iret hx hb hr hlocks hV hS dL_letter_9 ⟨rfl, rfl⟩

theorem z_remove_ok (A : ew_R) (i w : Nat) : narrow .boolean (.int (z_Row_remove_ok A i w).1) = .int (z_Row_remove_ok A i w).1 := by
  show narrow .boolean (.int 1) = .int 1
  decide
def z_L_drop_ok (A : ew_R) (i : Nat) (w : Nat) : Int32 × ew_R :=
  ((z_Row_remove_ok A i w).1, ((z_Row_remove_ok A i w).2))
set_option maxHeartbeats 4000000 in
set_option maxRecDepth 100000 in
theorem c_L_drop_ok (l : Launch) (D : va_G) (T : Nat → ClassId) (X : Nat → Nat → Nat) (L : List Nat) (tg : Nat → Nat × Nat) (sz : Nat) (A : ew_R) (th : Nat) (hth : ew_in X L tg 0 0 th) (i : Nat) (w : Nat) (e7_0 : ew_in X L tg 7 0 (X 7 0)) (e12_1 : ew_in X L tg 12 0 (X 12 0)) (hw : w ≤ 64) (qw : A 7 0 1 = nI w) (hi : i < w) : Met l yL_drop wsL_drop ({ frames := 2, cells := 0, slots := 0, locals := 47 }) (ec_Pc D vwCl (tysA T) (cfC T) X L tg A sz [.ref th, .int (nI i)]) (er_Qi D vwCl (cfC T) X L tg sz (fun r u => r = (z_L_drop_ok A i w).1 ∧ u = (z_L_drop_ok A i w).2)) 0 0 (ew_A L sz) := by
  refine ec_met (by decide) rfl (Nat.le_of_ble_eq_true rfl) ?_
  intro p e s m below meth c ls hx hb hr hts hown hlocks hml hV hK hN hS hA hl hsz
  subst hsz
  have hl : lv_has ls 2 [(0, .ref th), (1, .int (nI i))] := hl
  refine lv_aload_n hx hb dL_drop_0 rfl (lv_at hl 0 rfl) ?_
  refine ew_get (v := .ref (X 7 0)) hx hb hts hown hK hV fL_28 hth (cC_0 _ _ _ _) rfl dL_drop_1 ?_
  refine lv_iload_n hx hb dL_drop_4 rfl (lv_at hl 1 rfl) ?_
  refine er_calli (va_runV (As := [.int (nI i)]) (rest := []) ⟨hx, hb, hml, hown, hts⟩ (c_Row_remove_ok l D T X L tg _ A (X 7 0) e7_0 i w e12_1 hw qw hi) (cwV 1 hts gL_200 rfl rfl rfl (by decide +kernel) ⟨Nat.le_of_ble_eq_true rfl, Nat.le_of_ble_eq_true rfl⟩) (ec_preV hK hN hV e7_0 (cC_7 _ _ _ _) rfl) rfl rfl hl.1 rfl (lv_room (Nat.le_of_ble_eq_true rfl)) dL_drop_5 ⟨Nat.le_of_ble_eq_true rfl, Nat.le_of_ble_eq_true rfl⟩) hV hS hA (fun r u H locs hp hV hS => ?_)
  obtain ⟨rfl, eu1⟩ := hp
  have eu1 : u = (z_Row_remove_ok A i w).2 := eu1
  subst eu1
  exact er_zret hx hb hr hlocks hV hS dL_drop_8 (z_remove_ok _ _ _) ⟨Eq.symm (by unfold z_L_drop_ok; rfl), Eq.symm (by unfold z_L_drop_ok; rfl)⟩

set_option maxHeartbeats 4000000 in
set_option maxRecDepth 100000 in
theorem c_L_drop_neg (l : Launch) (D : va_G) (T : Nat → ClassId) (X : Nat → Nat → Nat) (L : List Nat) (tg : Nat → Nat × Nat) (sz : Nat) (A : ew_R) (th : Nat) (hth : ew_in X L tg 0 0 th) (i : Int32) (e7_0 : ew_in X L tg 7 0 (X 7 0)) (h0 : i < 0) : Met l yL_drop wsL_drop ({ frames := 2, cells := 0, slots := 0, locals := 47 }) (ec_Pc D vwCl (tysA T) (cfC T) X L tg A sz [.ref th, .int i]) (er_Qi D vwCl (cfC T) X L tg sz (fun r u => r = 0 ∧ u = A)) 0 0 (ew_A L sz) := by
  refine ec_met (by decide) rfl (Nat.le_of_ble_eq_true rfl) ?_
  intro p e s m below meth c ls hx hb hr hts hown hlocks hml hV hK hN hS hA hl hsz
  subst hsz
  have hl : lv_has ls 2 [(0, .ref th), (1, .int i)] := hl
  refine lv_aload_n hx hb dL_drop_0 rfl (lv_at hl 0 rfl) ?_
  refine ew_get (v := .ref (X 7 0)) hx hb hts hown hK hV fL_28 hth (cC_0 _ _ _ _) rfl dL_drop_1 ?_
  refine lv_iload_n hx hb dL_drop_4 rfl (lv_at hl 1 rfl) ?_
  refine er_calli (va_runV (As := [.int i]) (rest := []) ⟨hx, hb, hml, hown, hts⟩ (c_Row_remove_neg l D T X L tg _ A (X 7 0) e7_0 i h0) (cwV 1 hts gL_200 rfl rfl rfl (by decide +kernel) ⟨Nat.le_of_ble_eq_true rfl, Nat.le_of_ble_eq_true rfl⟩) (ec_preV hK hN hV e7_0 (cC_7 _ _ _ _) rfl) rfl rfl hl.1 rfl (lv_room (Nat.le_of_ble_eq_true rfl)) dL_drop_5 ⟨Nat.le_of_ble_eq_true rfl, Nat.le_of_ble_eq_true rfl⟩) hV hS hA (fun r u H locs hp hV hS => ?_)
  obtain ⟨rfl, eu9⟩ := hp
  rw [eu9] at hV
  exact er_zret hx hb hr hlocks hV hS dL_drop_8 (by decide) ⟨rfl, rfl⟩

set_option maxHeartbeats 4000000 in
set_option maxRecDepth 100000 in
theorem c_L_drop_big (l : Launch) (D : va_G) (T : Nat → ClassId) (X : Nat → Nat → Nat) (L : List Nat) (tg : Nat → Nat × Nat) (sz : Nat) (A : ew_R) (th : Nat) (hth : ew_in X L tg 0 0 th) (i : Int32) (w : Nat) (e7_0 : ew_in X L tg 7 0 (X 7 0)) (qw : A 7 0 1 = nI w) (h0 : ¬ i < 0) (h1 : nI w ≤ i) : Met l yL_drop wsL_drop ({ frames := 2, cells := 0, slots := 0, locals := 47 }) (ec_Pc D vwCl (tysA T) (cfC T) X L tg A sz [.ref th, .int i]) (er_Qi D vwCl (cfC T) X L tg sz (fun r u => r = 0 ∧ u = A)) 0 0 (ew_A L sz) := by
  refine ec_met (by decide) rfl (Nat.le_of_ble_eq_true rfl) ?_
  intro p e s m below meth c ls hx hb hr hts hown hlocks hml hV hK hN hS hA hl hsz
  subst hsz
  have hl : lv_has ls 2 [(0, .ref th), (1, .int i)] := hl
  refine lv_aload_n hx hb dL_drop_0 rfl (lv_at hl 0 rfl) ?_
  refine ew_get (v := .ref (X 7 0)) hx hb hts hown hK hV fL_28 hth (cC_0 _ _ _ _) rfl dL_drop_1 ?_
  refine lv_iload_n hx hb dL_drop_4 rfl (lv_at hl 1 rfl) ?_
  refine er_calli (va_runV (As := [.int i]) (rest := []) ⟨hx, hb, hml, hown, hts⟩ (c_Row_remove_big l D T X L tg _ A (X 7 0) e7_0 i w qw h0 h1) (cwV 1 hts gL_200 rfl rfl rfl (by decide +kernel) ⟨Nat.le_of_ble_eq_true rfl, Nat.le_of_ble_eq_true rfl⟩) (ec_preV hK hN hV e7_0 (cC_7 _ _ _ _) rfl) rfl rfl hl.1 rfl (lv_room (Nat.le_of_ble_eq_true rfl)) dL_drop_5 ⟨Nat.le_of_ble_eq_true rfl, Nat.le_of_ble_eq_true rfl⟩) hV hS hA (fun r u H locs hp hV hS => ?_)
  obtain ⟨rfl, eu9⟩ := hp
  rw [eu9] at hV
  exact er_zret hx hb hr hlocks hV hS dL_drop_8 (by decide) ⟨rfl, rfl⟩

def z_L_supplier_ok (A : ew_R) (ln : Nat) (nl : Nat) (pd : Nat) : Int32 :=
  A 4 pd 0
set_option maxHeartbeats 4000000 in
set_option maxRecDepth 100000 in
theorem c_L_supplier_ok (l : Launch) (D : va_G) (T : Nat → ClassId) (X : Nat → Nat → Nat) (L : List Nat) (tg : Nat → Nat × Nat) (sz : Nat) (A : ew_R) (th : Nat) (hth : ew_in X L tg 0 0 th) (ln : Nat) (nl : Nat) (pd : Nat) (e10_0 : ew_in X L tg 10 0 (X 10 0)) (e2_1 : ew_in X L tg 2 ln (X 2 ln)) (e4_2 : ew_in X L tg 4 pd (X 4 pd)) (hn : nl ≤ 32) (qn : A 0 0 6 = nI nl) (hl1 : ln < nl) (qf : ¬ A 10 0 ln = 0) (hp : pd < 192) (q7 : A 2 ln 7 = nI pd) : Met l yL_supplier wsL_supplier ({ frames := 1, cells := 0, slots := 0, locals := 21 }) (ec_Pc D vwCl (tysA T) (cfC T) X L tg A sz [.ref th, .int (nI ln)]) (er_Qi D vwCl (cfC T) X L tg sz (fun r u => r = z_L_supplier_ok A ln nl pd ∧ u = A)) 0 0 (ew_A L sz) := by
  refine ec_met (by decide) rfl (Nat.le_of_ble_eq_true rfl) ?_
  intro p e s m below meth c ls hx hb hr hts hown hlocks hml hV hK hN hS hA hl hsz
  subst hsz
  have hl : lv_has ls 3 [(0, .ref th), (1, .int (nI ln))] := hl
  refine lv_aload_n hx hb dL_supplier_0 rfl (lv_at hl 0 rfl) ?_
  refine lv_iload_n hx hb dL_supplier_1 rfl (lv_at hl 1 rfl) ?_
  refine er_callq (va_runV (As := [.int (nI ln)]) (rest := []) ⟨hx, hb, hml, hown, hts⟩ (c_L_loanAt_ok l D T X L tg _ A th hth ln nl e10_0 e2_1 hn qn hl1 qf) (cwV 1 hts gL_88 rfl rfl rfl (by decide +kernel) ⟨Nat.le_of_ble_eq_true rfl, Nat.le_of_ble_eq_true rfl⟩) (ec_preV hK hN hV hth (cC_0 _ _ _ _) rfl) rfl rfl hl.1 rfl (lv_room (Nat.le_of_ble_eq_true rfl)) dL_supplier_2 ⟨Nat.le_of_ble_eq_true rfl, Nat.le_of_ble_eq_true rfl⟩) hV hS hA (fun r u H locs hp hV hS => ?_)
  obtain ⟨rfl, eu9⟩ := hp
  rw [eu9] at hV
  refine lv_astore_n (lv' := [(2, .ref (X 2 ln)), (0, .ref th), (1, .int (nI ln))]) hx hb dL_supplier_5 rfl hl (by decide) rfl (fun ls hl => ?_)
  refine lv_aload_n hx hb dL_supplier_6 rfl (lv_at hl 0 rfl) ?_
  refine lv_ifnonnull (tgt := 14) hx hb dL_supplier_7 rfl ?_
  refine lv_aload_n hx hb dL_supplier_14 rfl (lv_at hl 0 rfl) ?_
  refine ew_get (v := .ref (X 4 pd)) hx hb hts hown hK hV fL_212 e2_1 (cC_2 _ _ _ _) (ec_rd q7 (by omega)) dL_supplier_15 ?_
  refine ew_get (v := .int (A 4 pd 0)) hx hb hts hown hK hV fL_216 e4_2 (cC_4 _ _ _ _) rfl dL_supplier_18 ?_
  exact er_iret hx hb hr hlocks hV hS dL_supplier_21 ⟨Eq.symm (by unfold z_L_supplier_ok; rfl), rfl⟩

set_option maxHeartbeats 4000000 in
set_option maxRecDepth 100000 in
theorem c_L_supplier_neg (l : Launch) (D : va_G) (T : Nat → ClassId) (X : Nat → Nat → Nat) (L : List Nat) (tg : Nat → Nat × Nat) (sz : Nat) (A : ew_R) (th : Nat) (hth : ew_in X L tg 0 0 th) (ln : Int32) (h0 : ln < 0) : Met l yL_supplier wsL_supplier ({ frames := 1, cells := 0, slots := 0, locals := 21 }) (ec_Pc D vwCl (tysA T) (cfC T) X L tg A sz [.ref th, .int ln]) (er_Qi D vwCl (cfC T) X L tg sz (fun r u => r = (-1) ∧ u = A)) 0 0 (ew_A L sz) := by
  refine ec_met (by decide) rfl (Nat.le_of_ble_eq_true rfl) ?_
  intro p e s m below meth c ls hx hb hr hts hown hlocks hml hV hK hN hS hA hl hsz
  subst hsz
  have hl : lv_has ls 3 [(0, .ref th), (1, .int ln)] := hl
  refine lv_aload_n hx hb dL_supplier_0 rfl (lv_at hl 0 rfl) ?_
  refine lv_iload_n hx hb dL_supplier_1 rfl (lv_at hl 1 rfl) ?_
  refine er_callq (va_runV (As := [.int ln]) (rest := []) ⟨hx, hb, hml, hown, hts⟩ (c_L_loanAt_neg l D T X L tg _ A th hth ln h0) (cwV 1 hts gL_88 rfl rfl rfl (by decide +kernel) ⟨Nat.le_of_ble_eq_true rfl, Nat.le_of_ble_eq_true rfl⟩) (ec_preV hK hN hV hth (cC_0 _ _ _ _) rfl) rfl rfl hl.1 rfl (lv_room (Nat.le_of_ble_eq_true rfl)) dL_supplier_2 ⟨Nat.le_of_ble_eq_true rfl, Nat.le_of_ble_eq_true rfl⟩) hV hS hA (fun r u H locs hp hV hS => ?_)
  obtain ⟨rfl, eu9⟩ := hp
  rw [eu9] at hV
  refine lv_astore_nN (lv' := [(2, .null), (0, .ref th), (1, .int ln)]) hx hb dL_supplier_5 rfl hl (by decide) rfl (fun ls hl => ?_)
  refine lv_aload_nN hx hb dL_supplier_6 rfl (lv_at hl 0 rfl) ?_
  refine lv_ifnonnullN hx hb dL_supplier_7 ?_
  refine lv_iconst (v := (-1)) hx hb dL_supplier_10 (by decide) ?_
  refine lv_goto (tgt := 21) hx hb dL_supplier_11 rfl ?_
  exact er_iret hx hb hr hlocks hV hS dL_supplier_21 ⟨rfl, rfl⟩

set_option maxHeartbeats 4000000 in
set_option maxRecDepth 100000 in
theorem c_L_supplier_big (l : Launch) (D : va_G) (T : Nat → ClassId) (X : Nat → Nat → Nat) (L : List Nat) (tg : Nat → Nat × Nat) (sz : Nat) (A : ew_R) (th : Nat) (hth : ew_in X L tg 0 0 th) (ln : Int32) (nl : Nat) (qn : A 0 0 6 = nI nl) (h0 : ¬ ln < 0) (h1 : nI nl ≤ ln) : Met l yL_supplier wsL_supplier ({ frames := 1, cells := 0, slots := 0, locals := 21 }) (ec_Pc D vwCl (tysA T) (cfC T) X L tg A sz [.ref th, .int ln]) (er_Qi D vwCl (cfC T) X L tg sz (fun r u => r = (-1) ∧ u = A)) 0 0 (ew_A L sz) := by
  refine ec_met (by decide) rfl (Nat.le_of_ble_eq_true rfl) ?_
  intro p e s m below meth c ls hx hb hr hts hown hlocks hml hV hK hN hS hA hl hsz
  subst hsz
  have hl : lv_has ls 3 [(0, .ref th), (1, .int ln)] := hl
  refine lv_aload_n hx hb dL_supplier_0 rfl (lv_at hl 0 rfl) ?_
  refine lv_iload_n hx hb dL_supplier_1 rfl (lv_at hl 1 rfl) ?_
  refine er_callq (va_runV (As := [.int ln]) (rest := []) ⟨hx, hb, hml, hown, hts⟩ (c_L_loanAt_big l D T X L tg _ A th hth ln nl qn h0 h1) (cwV 1 hts gL_88 rfl rfl rfl (by decide +kernel) ⟨Nat.le_of_ble_eq_true rfl, Nat.le_of_ble_eq_true rfl⟩) (ec_preV hK hN hV hth (cC_0 _ _ _ _) rfl) rfl rfl hl.1 rfl (lv_room (Nat.le_of_ble_eq_true rfl)) dL_supplier_2 ⟨Nat.le_of_ble_eq_true rfl, Nat.le_of_ble_eq_true rfl⟩) hV hS hA (fun r u H locs hp hV hS => ?_)
  obtain ⟨rfl, eu9⟩ := hp
  rw [eu9] at hV
  refine lv_astore_nN (lv' := [(2, .null), (0, .ref th), (1, .int ln)]) hx hb dL_supplier_5 rfl hl (by decide) rfl (fun ls hl => ?_)
  refine lv_aload_nN hx hb dL_supplier_6 rfl (lv_at hl 0 rfl) ?_
  refine lv_ifnonnullN hx hb dL_supplier_7 ?_
  refine lv_iconst (v := (-1)) hx hb dL_supplier_10 (by decide) ?_
  refine lv_goto (tgt := 21) hx hb dL_supplier_11 rfl ?_
  exact er_iret hx hb hr hlocks hV hS dL_supplier_21 ⟨rfl, rfl⟩

def z_L_holder_ok (A : ew_R) (ln : Nat) (nc : Nat) : Int32 :=
  A 1 ln 2
set_option maxHeartbeats 4000000 in
set_option maxRecDepth 100000 in
theorem c_L_holder_ok (l : Launch) (D : va_G) (T : Nat → ClassId) (X : Nat → Nat → Nat) (L : List Nat) (tg : Nat → Nat × Nat) (sz : Nat) (A : ew_R) (th : Nat) (hth : ew_in X L tg 0 0 th) (ln : Nat) (nc : Nat) (e9_0 : ew_in X L tg 9 0 (X 9 0)) (e1_1 : ew_in X L tg 1 ln (X 1 ln)) (hn : nc ≤ 32) (qn : A 0 0 5 = nI nc) (hl1 : ln < nc) (qf : ¬ A 9 0 ln = 0) : Met l yL_holder wsL_holder ({ frames := 1, cells := 0, slots := 0, locals := 21 }) (ec_Pc D vwCl (tysA T) (cfC T) X L tg A sz [.ref th, .int (nI ln)]) (er_Qi D vwCl (cfC T) X L tg sz (fun r u => r = z_L_holder_ok A ln nc ∧ u = A)) 0 0 (ew_A L sz) := by
  refine ec_met (by decide) rfl (Nat.le_of_ble_eq_true rfl) ?_
  intro p e s m below meth c ls hx hb hr hts hown hlocks hml hV hK hN hS hA hl hsz
  subst hsz
  have hl : lv_has ls 3 [(0, .ref th), (1, .int (nI ln))] := hl
  refine lv_aload_n hx hb dL_holder_0 rfl (lv_at hl 0 rfl) ?_
  refine lv_iload_n hx hb dL_holder_1 rfl (lv_at hl 1 rfl) ?_
  refine er_callq (va_runV (As := [.int (nI ln)]) (rest := []) ⟨hx, hb, hml, hown, hts⟩ (c_L_copyAt_ok l D T X L tg _ A th hth ln nc e9_0 e1_1 hn qn hl1 qf) (cwV 1 hts gL_219 rfl rfl rfl (by decide +kernel) ⟨Nat.le_of_ble_eq_true rfl, Nat.le_of_ble_eq_true rfl⟩) (ec_preV hK hN hV hth (cC_0 _ _ _ _) rfl) rfl rfl hl.1 rfl (lv_room (Nat.le_of_ble_eq_true rfl)) dL_holder_2 ⟨Nat.le_of_ble_eq_true rfl, Nat.le_of_ble_eq_true rfl⟩) hV hS hA (fun r u H locs hp hV hS => ?_)
  obtain ⟨rfl, eu9⟩ := hp
  rw [eu9] at hV
  refine lv_astore_n (lv' := [(2, .ref (X 1 ln)), (0, .ref th), (1, .int (nI ln))]) hx hb dL_holder_5 rfl hl (by decide) rfl (fun ls hl => ?_)
  refine lv_aload_n hx hb dL_holder_6 rfl (lv_at hl 0 rfl) ?_
  refine lv_ifnonnull (tgt := 14) hx hb dL_holder_7 rfl ?_
  refine lv_aload_n hx hb dL_holder_14 rfl (lv_at hl 0 rfl) ?_
  refine ew_get (v := .int (A 1 ln 2)) hx hb hts hown hK hV fL_223 e1_1 (cC_1 _ _ _ _) rfl dL_holder_15 ?_
  exact er_iret hx hb hr hlocks hV hS dL_holder_18 ⟨Eq.symm (by unfold z_L_holder_ok; rfl), rfl⟩

set_option maxHeartbeats 4000000 in
set_option maxRecDepth 100000 in
theorem c_L_holder_neg (l : Launch) (D : va_G) (T : Nat → ClassId) (X : Nat → Nat → Nat) (L : List Nat) (tg : Nat → Nat × Nat) (sz : Nat) (A : ew_R) (th : Nat) (hth : ew_in X L tg 0 0 th) (ln : Int32) (h0 : ln < 0) : Met l yL_holder wsL_holder ({ frames := 1, cells := 0, slots := 0, locals := 21 }) (ec_Pc D vwCl (tysA T) (cfC T) X L tg A sz [.ref th, .int ln]) (er_Qi D vwCl (cfC T) X L tg sz (fun r u => r = (-1) ∧ u = A)) 0 0 (ew_A L sz) := by
  refine ec_met (by decide) rfl (Nat.le_of_ble_eq_true rfl) ?_
  intro p e s m below meth c ls hx hb hr hts hown hlocks hml hV hK hN hS hA hl hsz
  subst hsz
  have hl : lv_has ls 3 [(0, .ref th), (1, .int ln)] := hl
  refine lv_aload_n hx hb dL_holder_0 rfl (lv_at hl 0 rfl) ?_
  refine lv_iload_n hx hb dL_holder_1 rfl (lv_at hl 1 rfl) ?_
  refine er_callq (va_runV (As := [.int ln]) (rest := []) ⟨hx, hb, hml, hown, hts⟩ (c_L_copyAt_neg l D T X L tg _ A th hth ln h0) (cwV 1 hts gL_219 rfl rfl rfl (by decide +kernel) ⟨Nat.le_of_ble_eq_true rfl, Nat.le_of_ble_eq_true rfl⟩) (ec_preV hK hN hV hth (cC_0 _ _ _ _) rfl) rfl rfl hl.1 rfl (lv_room (Nat.le_of_ble_eq_true rfl)) dL_holder_2 ⟨Nat.le_of_ble_eq_true rfl, Nat.le_of_ble_eq_true rfl⟩) hV hS hA (fun r u H locs hp hV hS => ?_)
  obtain ⟨rfl, eu9⟩ := hp
  rw [eu9] at hV
  refine lv_astore_nN (lv' := [(2, .null), (0, .ref th), (1, .int ln)]) hx hb dL_holder_5 rfl hl (by decide) rfl (fun ls hl => ?_)
  refine lv_aload_nN hx hb dL_holder_6 rfl (lv_at hl 0 rfl) ?_
  refine lv_ifnonnullN hx hb dL_holder_7 ?_
  refine lv_iconst (v := (-1)) hx hb dL_holder_10 (by decide) ?_
  refine lv_goto (tgt := 18) hx hb dL_holder_11 rfl ?_
  exact er_iret hx hb hr hlocks hV hS dL_holder_18 ⟨rfl, rfl⟩

set_option maxHeartbeats 4000000 in
set_option maxRecDepth 100000 in
theorem c_L_holder_big (l : Launch) (D : va_G) (T : Nat → ClassId) (X : Nat → Nat → Nat) (L : List Nat) (tg : Nat → Nat × Nat) (sz : Nat) (A : ew_R) (th : Nat) (hth : ew_in X L tg 0 0 th) (ln : Int32) (nc : Nat) (qn : A 0 0 5 = nI nc) (h0 : ¬ ln < 0) (h1 : nI nc ≤ ln) : Met l yL_holder wsL_holder ({ frames := 1, cells := 0, slots := 0, locals := 21 }) (ec_Pc D vwCl (tysA T) (cfC T) X L tg A sz [.ref th, .int ln]) (er_Qi D vwCl (cfC T) X L tg sz (fun r u => r = (-1) ∧ u = A)) 0 0 (ew_A L sz) := by
  refine ec_met (by decide) rfl (Nat.le_of_ble_eq_true rfl) ?_
  intro p e s m below meth c ls hx hb hr hts hown hlocks hml hV hK hN hS hA hl hsz
  subst hsz
  have hl : lv_has ls 3 [(0, .ref th), (1, .int ln)] := hl
  refine lv_aload_n hx hb dL_holder_0 rfl (lv_at hl 0 rfl) ?_
  refine lv_iload_n hx hb dL_holder_1 rfl (lv_at hl 1 rfl) ?_
  refine er_callq (va_runV (As := [.int ln]) (rest := []) ⟨hx, hb, hml, hown, hts⟩ (c_L_copyAt_big l D T X L tg _ A th hth ln nc qn h0 h1) (cwV 1 hts gL_219 rfl rfl rfl (by decide +kernel) ⟨Nat.le_of_ble_eq_true rfl, Nat.le_of_ble_eq_true rfl⟩) (ec_preV hK hN hV hth (cC_0 _ _ _ _) rfl) rfl rfl hl.1 rfl (lv_room (Nat.le_of_ble_eq_true rfl)) dL_holder_2 ⟨Nat.le_of_ble_eq_true rfl, Nat.le_of_ble_eq_true rfl⟩) hV hS hA (fun r u H locs hp hV hS => ?_)
  obtain ⟨rfl, eu9⟩ := hp
  rw [eu9] at hV
  refine lv_astore_nN (lv' := [(2, .null), (0, .ref th), (1, .int ln)]) hx hb dL_holder_5 rfl hl (by decide) rfl (fun ls hl => ?_)
  refine lv_aload_nN hx hb dL_holder_6 rfl (lv_at hl 0 rfl) ?_
  refine lv_ifnonnullN hx hb dL_holder_7 ?_
  refine lv_iconst (v := (-1)) hx hb dL_holder_10 (by decide) ?_
  refine lv_goto (tgt := 18) hx hb dL_holder_11 rfl ?_
  exact er_iret hx hb hr hlocks hV hS dL_holder_18 ⟨rfl, rfl⟩

def z_L_promised_ok (A : ew_R) (ln : Nat) (nc : Nat) : Int32 :=
  A 1 ln 3
set_option maxHeartbeats 4000000 in
set_option maxRecDepth 100000 in
theorem c_L_promised_ok (l : Launch) (D : va_G) (T : Nat → ClassId) (X : Nat → Nat → Nat) (L : List Nat) (tg : Nat → Nat × Nat) (sz : Nat) (A : ew_R) (th : Nat) (hth : ew_in X L tg 0 0 th) (ln : Nat) (nc : Nat) (e9_0 : ew_in X L tg 9 0 (X 9 0)) (e1_1 : ew_in X L tg 1 ln (X 1 ln)) (hn : nc ≤ 32) (qn : A 0 0 5 = nI nc) (hl1 : ln < nc) (qf : ¬ A 9 0 ln = 0) : Met l yL_promised wsL_promised ({ frames := 1, cells := 0, slots := 0, locals := 21 }) (ec_Pc D vwCl (tysA T) (cfC T) X L tg A sz [.ref th, .int (nI ln)]) (er_Qi D vwCl (cfC T) X L tg sz (fun r u => r = z_L_promised_ok A ln nc ∧ u = A)) 0 0 (ew_A L sz) := by
  refine ec_met (by decide) rfl (Nat.le_of_ble_eq_true rfl) ?_
  intro p e s m below meth c ls hx hb hr hts hown hlocks hml hV hK hN hS hA hl hsz
  subst hsz
  have hl : lv_has ls 3 [(0, .ref th), (1, .int (nI ln))] := hl
  refine lv_aload_n hx hb dL_promised_0 rfl (lv_at hl 0 rfl) ?_
  refine lv_iload_n hx hb dL_promised_1 rfl (lv_at hl 1 rfl) ?_
  refine er_callq (va_runV (As := [.int (nI ln)]) (rest := []) ⟨hx, hb, hml, hown, hts⟩ (c_L_copyAt_ok l D T X L tg _ A th hth ln nc e9_0 e1_1 hn qn hl1 qf) (cwV 1 hts gL_219 rfl rfl rfl (by decide +kernel) ⟨Nat.le_of_ble_eq_true rfl, Nat.le_of_ble_eq_true rfl⟩) (ec_preV hK hN hV hth (cC_0 _ _ _ _) rfl) rfl rfl hl.1 rfl (lv_room (Nat.le_of_ble_eq_true rfl)) dL_promised_2 ⟨Nat.le_of_ble_eq_true rfl, Nat.le_of_ble_eq_true rfl⟩) hV hS hA (fun r u H locs hp hV hS => ?_)
  obtain ⟨rfl, eu9⟩ := hp
  rw [eu9] at hV
  refine lv_astore_n (lv' := [(2, .ref (X 1 ln)), (0, .ref th), (1, .int (nI ln))]) hx hb dL_promised_5 rfl hl (by decide) rfl (fun ls hl => ?_)
  refine lv_aload_n hx hb dL_promised_6 rfl (lv_at hl 0 rfl) ?_
  refine lv_ifnonnull (tgt := 14) hx hb dL_promised_7 rfl ?_
  refine lv_aload_n hx hb dL_promised_14 rfl (lv_at hl 0 rfl) ?_
  refine ew_get (v := .int (A 1 ln 3)) hx hb hts hown hK hV fL_226 e1_1 (cC_1 _ _ _ _) rfl dL_promised_15 ?_
  exact er_iret hx hb hr hlocks hV hS dL_promised_18 ⟨Eq.symm (by unfold z_L_promised_ok; rfl), rfl⟩

set_option maxHeartbeats 4000000 in
set_option maxRecDepth 100000 in
theorem c_L_promised_neg (l : Launch) (D : va_G) (T : Nat → ClassId) (X : Nat → Nat → Nat) (L : List Nat) (tg : Nat → Nat × Nat) (sz : Nat) (A : ew_R) (th : Nat) (hth : ew_in X L tg 0 0 th) (ln : Int32) (h0 : ln < 0) : Met l yL_promised wsL_promised ({ frames := 1, cells := 0, slots := 0, locals := 21 }) (ec_Pc D vwCl (tysA T) (cfC T) X L tg A sz [.ref th, .int ln]) (er_Qi D vwCl (cfC T) X L tg sz (fun r u => r = (-1) ∧ u = A)) 0 0 (ew_A L sz) := by
  refine ec_met (by decide) rfl (Nat.le_of_ble_eq_true rfl) ?_
  intro p e s m below meth c ls hx hb hr hts hown hlocks hml hV hK hN hS hA hl hsz
  subst hsz
  have hl : lv_has ls 3 [(0, .ref th), (1, .int ln)] := hl
  refine lv_aload_n hx hb dL_promised_0 rfl (lv_at hl 0 rfl) ?_
  refine lv_iload_n hx hb dL_promised_1 rfl (lv_at hl 1 rfl) ?_
  refine er_callq (va_runV (As := [.int ln]) (rest := []) ⟨hx, hb, hml, hown, hts⟩ (c_L_copyAt_neg l D T X L tg _ A th hth ln h0) (cwV 1 hts gL_219 rfl rfl rfl (by decide +kernel) ⟨Nat.le_of_ble_eq_true rfl, Nat.le_of_ble_eq_true rfl⟩) (ec_preV hK hN hV hth (cC_0 _ _ _ _) rfl) rfl rfl hl.1 rfl (lv_room (Nat.le_of_ble_eq_true rfl)) dL_promised_2 ⟨Nat.le_of_ble_eq_true rfl, Nat.le_of_ble_eq_true rfl⟩) hV hS hA (fun r u H locs hp hV hS => ?_)
  obtain ⟨rfl, eu9⟩ := hp
  rw [eu9] at hV
  refine lv_astore_nN (lv' := [(2, .null), (0, .ref th), (1, .int ln)]) hx hb dL_promised_5 rfl hl (by decide) rfl (fun ls hl => ?_)
  refine lv_aload_nN hx hb dL_promised_6 rfl (lv_at hl 0 rfl) ?_
  refine lv_ifnonnullN hx hb dL_promised_7 ?_
  refine lv_iconst (v := (-1)) hx hb dL_promised_10 (by decide) ?_
  refine lv_goto (tgt := 18) hx hb dL_promised_11 rfl ?_
  exact er_iret hx hb hr hlocks hV hS dL_promised_18 ⟨rfl, rfl⟩

set_option maxHeartbeats 4000000 in
set_option maxRecDepth 100000 in
theorem c_L_promised_big (l : Launch) (D : va_G) (T : Nat → ClassId) (X : Nat → Nat → Nat) (L : List Nat) (tg : Nat → Nat × Nat) (sz : Nat) (A : ew_R) (th : Nat) (hth : ew_in X L tg 0 0 th) (ln : Int32) (nc : Nat) (qn : A 0 0 5 = nI nc) (h0 : ¬ ln < 0) (h1 : nI nc ≤ ln) : Met l yL_promised wsL_promised ({ frames := 1, cells := 0, slots := 0, locals := 21 }) (ec_Pc D vwCl (tysA T) (cfC T) X L tg A sz [.ref th, .int ln]) (er_Qi D vwCl (cfC T) X L tg sz (fun r u => r = (-1) ∧ u = A)) 0 0 (ew_A L sz) := by
  refine ec_met (by decide) rfl (Nat.le_of_ble_eq_true rfl) ?_
  intro p e s m below meth c ls hx hb hr hts hown hlocks hml hV hK hN hS hA hl hsz
  subst hsz
  have hl : lv_has ls 3 [(0, .ref th), (1, .int ln)] := hl
  refine lv_aload_n hx hb dL_promised_0 rfl (lv_at hl 0 rfl) ?_
  refine lv_iload_n hx hb dL_promised_1 rfl (lv_at hl 1 rfl) ?_
  refine er_callq (va_runV (As := [.int ln]) (rest := []) ⟨hx, hb, hml, hown, hts⟩ (c_L_copyAt_big l D T X L tg _ A th hth ln nc qn h0 h1) (cwV 1 hts gL_219 rfl rfl rfl (by decide +kernel) ⟨Nat.le_of_ble_eq_true rfl, Nat.le_of_ble_eq_true rfl⟩) (ec_preV hK hN hV hth (cC_0 _ _ _ _) rfl) rfl rfl hl.1 rfl (lv_room (Nat.le_of_ble_eq_true rfl)) dL_promised_2 ⟨Nat.le_of_ble_eq_true rfl, Nat.le_of_ble_eq_true rfl⟩) hV hS hA (fun r u H locs hp hV hS => ?_)
  obtain ⟨rfl, eu9⟩ := hp
  rw [eu9] at hV
  refine lv_astore_nN (lv' := [(2, .null), (0, .ref th), (1, .int ln)]) hx hb dL_promised_5 rfl hl (by decide) rfl (fun ls hl => ?_)
  refine lv_aload_nN hx hb dL_promised_6 rfl (lv_at hl 0 rfl) ?_
  refine lv_ifnonnullN hx hb dL_promised_7 ?_
  refine lv_iconst (v := (-1)) hx hb dL_promised_10 (by decide) ?_
  refine lv_goto (tgt := 18) hx hb dL_promised_11 rfl ?_
  exact er_iret hx hb hr hlocks hV hS dL_promised_18 ⟨rfl, rfl⟩

def z_L_balance_ok (A : ew_R) (b : Nat) : Int32 :=
  A 11 0 b
set_option maxHeartbeats 4000000 in
set_option maxRecDepth 100000 in
theorem c_L_balance_ok (l : Launch) (D : va_G) (T : Nat → ClassId) (X : Nat → Nat → Nat) (L : List Nat) (tg : Nat → Nat × Nat) (sz : Nat) (A : ew_R) (th : Nat) (hth : ew_in X L tg 0 0 th) (b : Nat) (e11_0 : ew_in X L tg 11 0 (X 11 0)) (hb6 : b < 6) : Met l yL_balance wsL_balance ({ frames := 1, cells := 0, slots := 0, locals := 20 }) (ec_Pc D vwCl (tysA T) (cfC T) X L tg A sz [.ref th, .int (nI b)]) (er_Qi D vwCl (cfC T) X L tg sz (fun r u => r = z_L_balance_ok A b ∧ u = A)) 0 0 (ew_A L sz) := by
  refine ec_met (by decide) rfl (Nat.le_of_ble_eq_true rfl) ?_
  intro p e s m below meth c ls hx hb hr hts hown hlocks hml hV hK hN hS hA hl hsz
  subst hsz
  have hl : lv_has ls 2 [(0, .ref th), (1, .int (nI b))] := hl
  refine lv_iload_n hx hb dL_balance_0 rfl (lv_at hl 1 rfl) ?_
  refine er_calli (va_runS (As := [.int (nI b)]) (rest := []) ⟨hx, hb, hml, hown, hts⟩ (c_L_isLibrary l D T X L tg _ A (nI b)) (cwS 1 hts gL_43 rfl rfl rfl (by decide +kernel) ⟨Nat.le_of_ble_eq_true rfl, Nat.le_of_ble_eq_true rfl⟩) (ec_preS hK hN hV) rfl rfl hl.1 rfl (lv_room (Nat.le_of_ble_eq_true rfl)) dL_balance_1 ⟨Nat.le_of_ble_eq_true rfl, Nat.le_of_ble_eq_true rfl⟩) hV hS hA (fun r u H locs hp hV hS => ?_)
  obtain ⟨rfl, eu9⟩ := hp
  rw [eu9] at hV
  refine lv_toe (y := 1) (z_isLibrary_1 hb6) ?_
  refine lv_if_eq (tgt := 16) hx hb dL_balance_4 rfl (fun h9 => absurd h9 (by decide)) (fun _ => ?_)
  refine lv_aload_n hx hb dL_balance_7 rfl (lv_at hl 0 rfl) ?_
  refine ew_get (v := .ref (X 11 0)) hx hb hts hown hK hV fL_21 hth (cC_0 _ _ _ _) rfl dL_balance_8 ?_
  refine lv_iload_n hx hb dL_balance_11 rfl (lv_at hl 1 rfl) ?_
  refine ew_iald (v := A 11 0 b) hx hb hK hV e11_0 (cC_11 _ _ _ _) 0 rfl (vp_in_nI (by omega) (by decide)) (er_ix (by omega) rfl) dL_balance_12 ?_
  refine lv_goto (tgt := 17) hx hb dL_balance_13 rfl ?_
  exact er_iret hx hb hr hlocks hV hS dL_balance_17 ⟨Eq.symm (by unfold z_L_balance_ok; rfl), rfl⟩

set_option maxHeartbeats 4000000 in
set_option maxRecDepth 100000 in
theorem c_L_balance_bad (l : Launch) (D : va_G) (T : Nat → ClassId) (X : Nat → Nat → Nat) (L : List Nat) (tg : Nat → Nat × Nat) (sz : Nat) (A : ew_R) (th : Nat) (hth : ew_in X L tg 0 0 th) (b : Int32) (hnb : z_L_isLibrary b = 0) : Met l yL_balance wsL_balance ({ frames := 1, cells := 0, slots := 0, locals := 20 }) (ec_Pc D vwCl (tysA T) (cfC T) X L tg A sz [.ref th, .int b]) (er_Qi D vwCl (cfC T) X L tg sz (fun r u => r = 0 ∧ u = A)) 0 0 (ew_A L sz) := by
  refine ec_met (by decide) rfl (Nat.le_of_ble_eq_true rfl) ?_
  intro p e s m below meth c ls hx hb hr hts hown hlocks hml hV hK hN hS hA hl hsz
  subst hsz
  have hl : lv_has ls 2 [(0, .ref th), (1, .int b)] := hl
  refine lv_iload_n hx hb dL_balance_0 rfl (lv_at hl 1 rfl) ?_
  refine er_calli (va_runS (As := [.int b]) (rest := []) ⟨hx, hb, hml, hown, hts⟩ (c_L_isLibrary l D T X L tg _ A b) (cwS 1 hts gL_43 rfl rfl rfl (by decide +kernel) ⟨Nat.le_of_ble_eq_true rfl, Nat.le_of_ble_eq_true rfl⟩) (ec_preS hK hN hV) rfl rfl hl.1 rfl (lv_room (Nat.le_of_ble_eq_true rfl)) dL_balance_1 ⟨Nat.le_of_ble_eq_true rfl, Nat.le_of_ble_eq_true rfl⟩) hV hS hA (fun r u H locs hp hV hS => ?_)
  obtain ⟨rfl, eu9⟩ := hp
  rw [eu9] at hV
  refine lv_toe (y := 0) hnb ?_
  refine lv_if_eq (tgt := 16) hx hb dL_balance_4 rfl (fun _ => ?_) (fun h9 => absurd (by decide) h9)
  refine lv_iconst (v := 0) hx hb dL_balance_16 (by decide) ?_
  exact er_iret hx hb hr hlocks hV hS dL_balance_17 ⟨rfl, rfl⟩

set_option maxHeartbeats 4000000 in
set_option maxRecDepth 100000 in
theorem c_L_settled_neg (l : Launch) (D : va_G) (T : Nat → ClassId) (X : Nat → Nat → Nat) (L : List Nat) (tg : Nat → Nat × Nat) (sz : Nat) (A : ew_R) (th : Nat) (hth : ew_in X L tg 0 0 th) (ln : Int32) (h0 : ln < 0) : Met l yL_settled wsL_settled ({ frames := 2, cells := 0, slots := 0, locals := 41 }) (ec_Pc D vwCl (tysA T) (cfC T) X L tg A sz [.ref th, .int ln]) (er_Qi D vwCl (cfC T) X L tg sz (fun r u => r = 0 ∧ u = A)) 0 0 (ew_A L sz) := by
  refine ec_met (by decide) rfl (Nat.le_of_ble_eq_true rfl) ?_
  intro p e s m below meth c ls hx hb hr hts hown hlocks hml hV hK hN hS hA hl hsz
  subst hsz
  have hl : lv_has ls 5 [(0, .ref th), (1, .int ln)] := hl
  refine lv_aload_n hx hb dL_settled_0 rfl (lv_at hl 0 rfl) ?_
  refine lv_iload_n hx hb dL_settled_1 rfl (lv_at hl 1 rfl) ?_
  refine er_callq (va_runV (As := [.int ln]) (rest := []) ⟨hx, hb, hml, hown, hts⟩ (c_L_loanAt_neg l D T X L tg _ A th hth ln h0) (cwV 1 hts gL_88 rfl rfl rfl (by decide +kernel) ⟨Nat.le_of_ble_eq_true rfl, Nat.le_of_ble_eq_true rfl⟩) (ec_preV hK hN hV hth (cC_0 _ _ _ _) rfl) rfl rfl hl.1 rfl (lv_room (Nat.le_of_ble_eq_true rfl)) dL_settled_2 ⟨Nat.le_of_ble_eq_true rfl, Nat.le_of_ble_eq_true rfl⟩) hV hS hA (fun r u H locs hp hV hS => ?_)
  obtain ⟨rfl, eu9⟩ := hp
  rw [eu9] at hV
  refine lv_astore_nN (lv' := [(2, .null), (0, .ref th), (1, .int ln)]) hx hb dL_settled_5 rfl hl (by decide) rfl (fun ls hl => ?_)
  refine lv_aload_nN hx hb dL_settled_6 rfl (lv_at hl 0 rfl) ?_
  refine lv_ifnonnullN hx hb dL_settled_7 ?_
  refine lv_iconst (v := 0) hx hb dL_settled_10 (by decide) ?_
  exact er_zret hx hb hr hlocks hV hS dL_settled_11 (by decide) ⟨rfl, rfl⟩

set_option maxHeartbeats 4000000 in
set_option maxRecDepth 100000 in
theorem c_L_settled_big (l : Launch) (D : va_G) (T : Nat → ClassId) (X : Nat → Nat → Nat) (L : List Nat) (tg : Nat → Nat × Nat) (sz : Nat) (A : ew_R) (th : Nat) (hth : ew_in X L tg 0 0 th) (ln : Int32) (nl : Nat) (qn : A 0 0 6 = nI nl) (h0 : ¬ ln < 0) (h1 : nI nl ≤ ln) : Met l yL_settled wsL_settled ({ frames := 2, cells := 0, slots := 0, locals := 41 }) (ec_Pc D vwCl (tysA T) (cfC T) X L tg A sz [.ref th, .int ln]) (er_Qi D vwCl (cfC T) X L tg sz (fun r u => r = 0 ∧ u = A)) 0 0 (ew_A L sz) := by
  refine ec_met (by decide) rfl (Nat.le_of_ble_eq_true rfl) ?_
  intro p e s m below meth c ls hx hb hr hts hown hlocks hml hV hK hN hS hA hl hsz
  subst hsz
  have hl : lv_has ls 5 [(0, .ref th), (1, .int ln)] := hl
  refine lv_aload_n hx hb dL_settled_0 rfl (lv_at hl 0 rfl) ?_
  refine lv_iload_n hx hb dL_settled_1 rfl (lv_at hl 1 rfl) ?_
  refine er_callq (va_runV (As := [.int ln]) (rest := []) ⟨hx, hb, hml, hown, hts⟩ (c_L_loanAt_big l D T X L tg _ A th hth ln nl qn h0 h1) (cwV 1 hts gL_88 rfl rfl rfl (by decide +kernel) ⟨Nat.le_of_ble_eq_true rfl, Nat.le_of_ble_eq_true rfl⟩) (ec_preV hK hN hV hth (cC_0 _ _ _ _) rfl) rfl rfl hl.1 rfl (lv_room (Nat.le_of_ble_eq_true rfl)) dL_settled_2 ⟨Nat.le_of_ble_eq_true rfl, Nat.le_of_ble_eq_true rfl⟩) hV hS hA (fun r u H locs hp hV hS => ?_)
  obtain ⟨rfl, eu9⟩ := hp
  rw [eu9] at hV
  refine lv_astore_nN (lv' := [(2, .null), (0, .ref th), (1, .int ln)]) hx hb dL_settled_5 rfl hl (by decide) rfl (fun ls hl => ?_)
  refine lv_aload_nN hx hb dL_settled_6 rfl (lv_at hl 0 rfl) ?_
  refine lv_ifnonnullN hx hb dL_settled_7 ?_
  refine lv_iconst (v := 0) hx hb dL_settled_10 (by decide) ?_
  exact er_zret hx hb hr hlocks hV hS dL_settled_11 (by decide) ⟨rfl, rfl⟩

def z_L_settled_ok (A : ew_R) (ln : Nat) (nl : Nat) (pd : Nat) : Int32 :=
  if z_Side_allTakenAndKnown_5 A pd = 0 then
    0
  else
    if z_Side_allTakenAndKnown_15 A pd = 0 then
      0
    else
      1
set_option maxHeartbeats 4000000 in
set_option maxRecDepth 100000 in
theorem c_L_settled_ok (l : Launch) (D : va_G) (T : Nat → ClassId) (X : Nat → Nat → Nat) (L : List Nat) (tg : Nat → Nat × Nat) (sz : Nat) (A : ew_R) (th : Nat) (hth : ew_in X L tg 0 0 th) (ln : Nat) (nl : Nat) (pd : Nat) (e10_0 : ew_in X L tg 10 0 (X 10 0)) (e2_1 : ew_in X L tg 2 ln (X 2 ln)) (e4_2 : ew_in X L tg 4 pd (X 4 pd)) (e5_3 : ew_in X L tg 5 pd (X 5 pd)) (e15_4 : ew_in X L tg 15 pd (X 15 pd)) (e8_5 : ew_in X L tg 8 pd (X 8 pd)) (e16_6 : ew_in X L tg 16 pd (X 16 pd)) (hn : nl ≤ 32) (qn : A 0 0 6 = nI nl) (hl1 : ln < nl) (qf : ¬ A 10 0 ln = 0) (hp : pd < 192) (q7 : A 2 ln 7 = nI pd) : Met l yL_settled wsL_settled ({ frames := 2, cells := 0, slots := 0, locals := 41 }) (ec_Pc D vwCl (tysA T) (cfC T) X L tg A sz [.ref th, .int (nI ln)]) (er_Qi D vwCl (cfC T) X L tg sz (fun r u => r = z_L_settled_ok A ln nl pd ∧ u = A)) 0 0 (ew_A L sz) := by
  refine ec_met (by decide) rfl (Nat.le_of_ble_eq_true rfl) ?_
  intro p e s m below meth c ls hx hb hr hts hown hlocks hml hV hK hN hS hA hl hsz
  subst hsz
  have hl : lv_has ls 5 [(0, .ref th), (1, .int (nI ln))] := hl
  refine lv_aload_n hx hb dL_settled_0 rfl (lv_at hl 0 rfl) ?_
  refine lv_iload_n hx hb dL_settled_1 rfl (lv_at hl 1 rfl) ?_
  refine er_callq (va_runV (As := [.int (nI ln)]) (rest := []) ⟨hx, hb, hml, hown, hts⟩ (c_L_loanAt_ok l D T X L tg _ A th hth ln nl e10_0 e2_1 hn qn hl1 qf) (cwV 1 hts gL_88 rfl rfl rfl (by decide +kernel) ⟨Nat.le_of_ble_eq_true rfl, Nat.le_of_ble_eq_true rfl⟩) (ec_preV hK hN hV hth (cC_0 _ _ _ _) rfl) rfl rfl hl.1 rfl (lv_room (Nat.le_of_ble_eq_true rfl)) dL_settled_2 ⟨Nat.le_of_ble_eq_true rfl, Nat.le_of_ble_eq_true rfl⟩) hV hS hA (fun r u H locs hp hV hS => ?_)
  obtain ⟨rfl, eu9⟩ := hp
  rw [eu9] at hV
  refine lv_astore_n (lv' := [(2, .ref (X 2 ln)), (0, .ref th), (1, .int (nI ln))]) hx hb dL_settled_5 rfl hl (by decide) rfl (fun ls hl => ?_)
  refine lv_aload_n hx hb dL_settled_6 rfl (lv_at hl 0 rfl) ?_
  refine lv_ifnonnull (tgt := 12) hx hb dL_settled_7 rfl ?_
  refine lv_aload_n hx hb dL_settled_12 rfl (lv_at hl 0 rfl) ?_
  refine ew_get (v := .ref (X 4 pd)) hx hb hts hown hK hV fL_212 e2_1 (cC_2 _ _ _ _) (ec_rd q7 (by omega)) dL_settled_13 ?_
  refine ew_get (v := .ref (X 5 pd)) hx hb hts hown hK hV fL_169 e4_2 (cC_4 _ _ _ _) rfl dL_settled_16 ?_
  refine lv_astore_n (lv' := [(3, .ref (X 5 pd)), (2, .ref (X 2 ln)), (0, .ref th), (1, .int (nI ln))]) hx hb dL_settled_19 rfl hl (by decide) rfl (fun ls hl => ?_)
  refine lv_aload_n hx hb dL_settled_20 rfl (lv_at hl 1 rfl) ?_
  refine ew_get (v := .ref (X 4 pd)) hx hb hts hown hK hV fL_212 e2_1 (cC_2 _ _ _ _) (ec_rd q7 (by omega)) dL_settled_21 ?_
  refine ew_get (v := .ref (X 15 pd)) hx hb hts hown hK hV fL_173 e4_2 (cC_4 _ _ _ _) rfl dL_settled_24 ?_
  refine lv_astore (lv' := [(4, .ref (X 15 pd)), (3, .ref (X 5 pd)), (2, .ref (X 2 ln)), (0, .ref th), (1, .int (nI ln))]) hx hb dL_settled_27 hl (by decide) rfl (fun ls hl => ?_)
  refine lv_aload_n hx hb dL_settled_29 rfl (lv_at hl 1 rfl) ?_
  refine lv_aload hx hb dL_settled_30 (lv_at hl 0 rfl) ?_
  refine er_calli (va_runV (As := [.ref (X 15 pd)]) (rest := []) ⟨hx, hb, hml, hown, hts⟩ (c_Side_allTakenAndKnown_5 l D T X L tg _ A pd (X 5 pd) e5_3 (X 15 pd) e15_4 e8_5) (cwV 1 hts gL_233 rfl rfl rfl (by decide +kernel) ⟨Nat.le_of_ble_eq_true rfl, Nat.le_of_ble_eq_true rfl⟩) (ec_preV hK hN hV e5_3 (cC_5 _ _ _ _) rfl) rfl rfl hl.1 rfl (lv_room (Nat.le_of_ble_eq_true rfl)) dL_settled_32 ⟨Nat.le_of_ble_eq_true rfl, Nat.le_of_ble_eq_true rfl⟩) hV hS hA (fun r u H locs hp hV hS => ?_)
  obtain ⟨rfl, eu9⟩ := hp
  rw [eu9] at hV
  refine lv_if_eq (tgt := 51) hx hb dL_settled_35 rfl (fun h1 => ?_) (fun h1 => ?_)
  · refine lv_iconst (v := 0) hx hb dL_settled_51 (by decide) ?_
    exact er_zret hx hb hr hlocks hV hS dL_settled_52 (by decide) ⟨Eq.symm (by unfold z_L_settled_ok; simp only [if_pos h1]), rfl⟩
  · refine lv_aload hx hb dL_settled_38 (lv_at hl 0 rfl) ?_
    refine lv_aload_n hx hb dL_settled_40 rfl (lv_at hl 1 rfl) ?_
    refine er_calli (va_runV (As := [.ref (X 5 pd)]) (rest := []) ⟨hx, hb, hml, hown, hts⟩ (c_Side_allTakenAndKnown_15 l D T X L tg _ A pd (X 15 pd) e15_4 (X 5 pd) e5_3 e16_6) (cwV 1 hts gL_233 rfl rfl rfl (by decide +kernel) ⟨Nat.le_of_ble_eq_true rfl, Nat.le_of_ble_eq_true rfl⟩) (ec_preV hK hN hV e15_4 (cC_15 _ _ _ _) rfl) rfl rfl hl.1 rfl (lv_room (Nat.le_of_ble_eq_true rfl)) dL_settled_41 ⟨Nat.le_of_ble_eq_true rfl, Nat.le_of_ble_eq_true rfl⟩) hV hS hA (fun r u H locs hp hV hS => ?_)
    obtain ⟨rfl, eu9⟩ := hp
    rw [eu9] at hV
    refine lv_if_eq (tgt := 51) hx hb dL_settled_44 rfl (fun h2 => ?_) (fun h2 => ?_)
    · refine lv_iconst (v := 0) hx hb dL_settled_51 (by decide) ?_
      exact er_zret hx hb hr hlocks hV hS dL_settled_52 (by decide) ⟨Eq.symm (by unfold z_L_settled_ok; simp only [if_neg h1, if_pos h2]), rfl⟩
    · refine lv_iconst (v := 1) hx hb dL_settled_47 (by decide) ?_
      refine lv_goto (tgt := 52) hx hb dL_settled_48 rfl ?_
      exact er_zret hx hb hr hlocks hV hS dL_settled_52 (by decide) ⟨Eq.symm (by unfold z_L_settled_ok; simp only [if_neg h1, if_neg h2]), rfl⟩

set_option maxHeartbeats 4000000 in
set_option maxRecDepth 100000 in
theorem c_L_book_neg (l : Launch) (D : va_G) (T : Nat → ClassId) (X : Nat → Nat → Nat) (L : List Nat) (tg : Nat → Nat × Nat) (sz : Nat) (A : ew_R) (th : Nat) (hth : ew_in X L tg 0 0 th) (b : Int32) (ln : Int32) (wh : Int32) (h0 : ln < 0) : Met l yL_book wsL_book ({ frames := 3, cells := 0, slots := 0, locals := 63 }) (ec_Pc D vwCl (tysA T) (cfC T) X L tg A sz [.ref th, .int b, .int ln, .int wh]) (er_Qi D vwCl (cfC T) X L tg sz (fun r u => r = (-1) ∧ u = A)) 0 0 (ew_A L sz) := by
  refine ec_met (by decide) rfl (Nat.le_of_ble_eq_true rfl) ?_
  intro p e s m below meth c ls hx hb hr hts hown hlocks hml hV hK hN hS hA hl hsz
  subst hsz
  have hl : lv_has ls 7 [(0, .ref th), (1, .int b), (2, .int ln), (3, .int wh)] := hl
  refine lv_aload_n hx hb dL_book_0 rfl (lv_at hl 0 rfl) ?_
  refine lv_iload_n hx hb dL_book_1 rfl (lv_at hl 2 rfl) ?_
  refine er_callq (va_runV (As := [.int ln]) (rest := []) ⟨hx, hb, hml, hown, hts⟩ (c_L_loanAt_neg l D T X L tg _ A th hth ln h0) (cwV 1 hts gL_88 rfl rfl rfl (by decide +kernel) ⟨Nat.le_of_ble_eq_true rfl, Nat.le_of_ble_eq_true rfl⟩) (ec_preV hK hN hV hth (cC_0 _ _ _ _) rfl) rfl rfl hl.1 rfl (lv_room (Nat.le_of_ble_eq_true rfl)) dL_book_2 ⟨Nat.le_of_ble_eq_true rfl, Nat.le_of_ble_eq_true rfl⟩) hV hS hA (fun r u H locs hp hV hS => ?_)
  obtain ⟨rfl, eu9⟩ := hp
  rw [eu9] at hV
  refine lv_astoreN (lv' := [(4, .null), (0, .ref th), (1, .int b), (2, .int ln), (3, .int wh)]) hx hb dL_book_5 hl (by decide) rfl (fun ls hl => ?_)
  refine lv_aloadN hx hb dL_book_7 (lv_at hl 0 rfl) ?_
  refine lv_iload_n hx hb dL_book_9 rfl (lv_at hl 2 rfl) ?_
  refine er_callq (va_runS (As := [.null, .int b]) (rest := []) ⟨hx, hb, hml, hown, hts⟩ (c_L_sideOf_null l D T X L tg _ A b) (cwS 2 hts gL_134 rfl rfl rfl (by decide +kernel) ⟨Nat.le_of_ble_eq_true rfl, Nat.le_of_ble_eq_true rfl⟩) (ec_preS hK hN hV) rfl rfl hl.1 rfl (lv_room (Nat.le_of_ble_eq_true rfl)) dL_book_10 ⟨Nat.le_of_ble_eq_true rfl, Nat.le_of_ble_eq_true rfl⟩) hV hS hA (fun r u H locs hp hV hS => ?_)
  obtain ⟨rfl, eu9⟩ := hp
  rw [eu9] at hV
  refine lv_astoreN (lv' := [(5, .null), (4, .null), (0, .ref th), (1, .int b), (2, .int ln), (3, .int wh)]) hx hb dL_book_13 hl (by decide) rfl (fun ls hl => ?_)
  refine lv_aloadN hx hb dL_book_15 (lv_at hl 1 rfl) ?_
  refine lv_ifnullN (tgt := 25) hx hb dL_book_17 rfl ?_
  refine lv_iconst (v := (-1)) hx hb dL_book_25 (by decide) ?_
  exact er_iret hx hb hr hlocks hV hS dL_book_26 ⟨rfl, rfl⟩

set_option maxHeartbeats 4000000 in
set_option maxRecDepth 100000 in
theorem c_L_book_big (l : Launch) (D : va_G) (T : Nat → ClassId) (X : Nat → Nat → Nat) (L : List Nat) (tg : Nat → Nat × Nat) (sz : Nat) (A : ew_R) (th : Nat) (hth : ew_in X L tg 0 0 th) (b : Int32) (ln : Int32) (wh : Int32) (nl : Nat) (qn : A 0 0 6 = nI nl) (h0 : ¬ ln < 0) (h1 : nI nl ≤ ln) : Met l yL_book wsL_book ({ frames := 3, cells := 0, slots := 0, locals := 63 }) (ec_Pc D vwCl (tysA T) (cfC T) X L tg A sz [.ref th, .int b, .int ln, .int wh]) (er_Qi D vwCl (cfC T) X L tg sz (fun r u => r = (-1) ∧ u = A)) 0 0 (ew_A L sz) := by
  refine ec_met (by decide) rfl (Nat.le_of_ble_eq_true rfl) ?_
  intro p e s m below meth c ls hx hb hr hts hown hlocks hml hV hK hN hS hA hl hsz
  subst hsz
  have hl : lv_has ls 7 [(0, .ref th), (1, .int b), (2, .int ln), (3, .int wh)] := hl
  refine lv_aload_n hx hb dL_book_0 rfl (lv_at hl 0 rfl) ?_
  refine lv_iload_n hx hb dL_book_1 rfl (lv_at hl 2 rfl) ?_
  refine er_callq (va_runV (As := [.int ln]) (rest := []) ⟨hx, hb, hml, hown, hts⟩ (c_L_loanAt_big l D T X L tg _ A th hth ln nl qn h0 h1) (cwV 1 hts gL_88 rfl rfl rfl (by decide +kernel) ⟨Nat.le_of_ble_eq_true rfl, Nat.le_of_ble_eq_true rfl⟩) (ec_preV hK hN hV hth (cC_0 _ _ _ _) rfl) rfl rfl hl.1 rfl (lv_room (Nat.le_of_ble_eq_true rfl)) dL_book_2 ⟨Nat.le_of_ble_eq_true rfl, Nat.le_of_ble_eq_true rfl⟩) hV hS hA (fun r u H locs hp hV hS => ?_)
  obtain ⟨rfl, eu9⟩ := hp
  rw [eu9] at hV
  refine lv_astoreN (lv' := [(4, .null), (0, .ref th), (1, .int b), (2, .int ln), (3, .int wh)]) hx hb dL_book_5 hl (by decide) rfl (fun ls hl => ?_)
  refine lv_aloadN hx hb dL_book_7 (lv_at hl 0 rfl) ?_
  refine lv_iload_n hx hb dL_book_9 rfl (lv_at hl 2 rfl) ?_
  refine er_callq (va_runS (As := [.null, .int b]) (rest := []) ⟨hx, hb, hml, hown, hts⟩ (c_L_sideOf_null l D T X L tg _ A b) (cwS 2 hts gL_134 rfl rfl rfl (by decide +kernel) ⟨Nat.le_of_ble_eq_true rfl, Nat.le_of_ble_eq_true rfl⟩) (ec_preS hK hN hV) rfl rfl hl.1 rfl (lv_room (Nat.le_of_ble_eq_true rfl)) dL_book_10 ⟨Nat.le_of_ble_eq_true rfl, Nat.le_of_ble_eq_true rfl⟩) hV hS hA (fun r u H locs hp hV hS => ?_)
  obtain ⟨rfl, eu9⟩ := hp
  rw [eu9] at hV
  refine lv_astoreN (lv' := [(5, .null), (4, .null), (0, .ref th), (1, .int b), (2, .int ln), (3, .int wh)]) hx hb dL_book_13 hl (by decide) rfl (fun ls hl => ?_)
  refine lv_aloadN hx hb dL_book_15 (lv_at hl 1 rfl) ?_
  refine lv_ifnullN (tgt := 25) hx hb dL_book_17 rfl ?_
  refine lv_iconst (v := (-1)) hx hb dL_book_25 (by decide) ?_
  exact er_iret hx hb hr hlocks hV hS dL_book_26 ⟨rfl, rfl⟩

set_option maxHeartbeats 4000000 in
set_option maxRecDepth 100000 in
theorem c_L_book_bad (l : Launch) (D : va_G) (T : Nat → ClassId) (X : Nat → Nat → Nat) (L : List Nat) (tg : Nat → Nat × Nat) (sz : Nat) (A : ew_R) (th : Nat) (hth : ew_in X L tg 0 0 th) (b : Int32) (ln : Nat) (wh : Int32) (nl : Nat) (rq : Nat) (e10_0 : ew_in X L tg 10 0 (X 10 0)) (e2_1 : ew_in X L tg 2 ln (X 2 ln)) (hn : nl ≤ 32) (qn : A 0 0 6 = nI nl) (hl1 : ln < nl) (qf : ¬ A 10 0 ln = 0) (hrq : rq < 6) (q1 : A 2 ln 1 = nI rq) (hbr : ¬ b = nI rq) (hnb : z_L_isLibrary b = 0) : Met l yL_book wsL_book ({ frames := 3, cells := 0, slots := 0, locals := 63 }) (ec_Pc D vwCl (tysA T) (cfC T) X L tg A sz [.ref th, .int b, .int (nI ln), .int wh]) (er_Qi D vwCl (cfC T) X L tg sz (fun r u => r = (-1) ∧ u = A)) 0 0 (ew_A L sz) := by
  refine ec_met (by decide) rfl (Nat.le_of_ble_eq_true rfl) ?_
  intro p e s m below meth c ls hx hb hr hts hown hlocks hml hV hK hN hS hA hl hsz
  subst hsz
  have hl : lv_has ls 7 [(0, .ref th), (1, .int b), (2, .int (nI ln)), (3, .int wh)] := hl
  refine lv_aload_n hx hb dL_book_0 rfl (lv_at hl 0 rfl) ?_
  refine lv_iload_n hx hb dL_book_1 rfl (lv_at hl 2 rfl) ?_
  refine er_callq (va_runV (As := [.int (nI ln)]) (rest := []) ⟨hx, hb, hml, hown, hts⟩ (c_L_loanAt_ok l D T X L tg _ A th hth ln nl e10_0 e2_1 hn qn hl1 qf) (cwV 1 hts gL_88 rfl rfl rfl (by decide +kernel) ⟨Nat.le_of_ble_eq_true rfl, Nat.le_of_ble_eq_true rfl⟩) (ec_preV hK hN hV hth (cC_0 _ _ _ _) rfl) rfl rfl hl.1 rfl (lv_room (Nat.le_of_ble_eq_true rfl)) dL_book_2 ⟨Nat.le_of_ble_eq_true rfl, Nat.le_of_ble_eq_true rfl⟩) hV hS hA (fun r u H locs hp hV hS => ?_)
  obtain ⟨rfl, eu9⟩ := hp
  rw [eu9] at hV
  refine lv_astore (lv' := [(4, .ref (X 2 ln)), (0, .ref th), (1, .int b), (2, .int (nI ln)), (3, .int wh)]) hx hb dL_book_5 hl (by decide) rfl (fun ls hl => ?_)
  refine lv_aload hx hb dL_book_7 (lv_at hl 0 rfl) ?_
  refine lv_iload_n hx hb dL_book_9 rfl (lv_at hl 2 rfl) ?_
  refine er_callq (va_runS (As := [.ref (X 2 ln), .int b]) (rest := []) ⟨hx, hb, hml, hown, hts⟩ (c_L_sideOf_bad l D T X L tg _ A ln (X 2 ln) e2_1 b rq hrq q1 hbr hnb) (cwS 2 hts gL_134 rfl rfl rfl (by decide +kernel) ⟨Nat.le_of_ble_eq_true rfl, Nat.le_of_ble_eq_true rfl⟩) (ec_preS hK hN hV) rfl rfl hl.1 rfl (lv_room (Nat.le_of_ble_eq_true rfl)) dL_book_10 ⟨Nat.le_of_ble_eq_true rfl, Nat.le_of_ble_eq_true rfl⟩) hV hS hA (fun r u H locs hp hV hS => ?_)
  obtain ⟨rfl, eu9⟩ := hp
  rw [eu9] at hV
  refine lv_astoreN (lv' := [(5, .null), (4, .ref (X 2 ln)), (0, .ref th), (1, .int b), (2, .int (nI ln)), (3, .int wh)]) hx hb dL_book_13 hl (by decide) rfl (fun ls hl => ?_)
  refine lv_aload hx hb dL_book_15 (lv_at hl 1 rfl) ?_
  refine lv_ifnull hx hb dL_book_17 ?_
  refine lv_aloadN hx hb dL_book_20 (lv_at hl 0 rfl) ?_
  refine lv_ifnonnullN hx hb dL_book_22 ?_
  refine lv_iconst (v := (-1)) hx hb dL_book_25 (by decide) ?_
  exact er_iret hx hb hr hlocks hV hS dL_book_26 ⟨rfl, rfl⟩

set_option maxHeartbeats 4000000 in
set_option maxRecDepth 100000 in
theorem c_L_book_n (l : Launch) (D : va_G) (T : Nat → ClassId) (X : Nat → Nat → Nat) (L : List Nat) (tg : Nat → Nat × Nat) (sz : Nat) (A : ew_R) (th : Nat) (hth : ew_in X L tg 0 0 th) (b : Nat) (ln : Nat) (wh : Int32) (nl : Nat) (rq : Nat) (e10_0 : ew_in X L tg 10 0 (X 10 0)) (e2_1 : ew_in X L tg 2 ln (X 2 ln)) (e13_2 : ew_in X L tg 13 ln (X 13 ln)) (hn : nl ≤ 32) (qn : A 0 0 6 = nI nl) (hl1 : ln < nl) (qf : ¬ A 10 0 ln = 0) (hrq : rq < 6) (q1 : A 2 ln 1 = nI rq) (hb6 : b < 6) (hbr : ¬ b = rq) (qd : A 13 ln b = 0) : Met l yL_book wsL_book ({ frames := 3, cells := 0, slots := 0, locals := 63 }) (ec_Pc D vwCl (tysA T) (cfC T) X L tg A sz [.ref th, .int (nI b), .int (nI ln), .int wh]) (er_Qi D vwCl (cfC T) X L tg sz (fun r u => r = (-1) ∧ u = A)) 0 0 (ew_A L sz) := by
  refine ec_met (by decide) rfl (Nat.le_of_ble_eq_true rfl) ?_
  intro p e s m below meth c ls hx hb hr hts hown hlocks hml hV hK hN hS hA hl hsz
  subst hsz
  have hl : lv_has ls 7 [(0, .ref th), (1, .int (nI b)), (2, .int (nI ln)), (3, .int wh)] := hl
  refine lv_aload_n hx hb dL_book_0 rfl (lv_at hl 0 rfl) ?_
  refine lv_iload_n hx hb dL_book_1 rfl (lv_at hl 2 rfl) ?_
  refine er_callq (va_runV (As := [.int (nI ln)]) (rest := []) ⟨hx, hb, hml, hown, hts⟩ (c_L_loanAt_ok l D T X L tg _ A th hth ln nl e10_0 e2_1 hn qn hl1 qf) (cwV 1 hts gL_88 rfl rfl rfl (by decide +kernel) ⟨Nat.le_of_ble_eq_true rfl, Nat.le_of_ble_eq_true rfl⟩) (ec_preV hK hN hV hth (cC_0 _ _ _ _) rfl) rfl rfl hl.1 rfl (lv_room (Nat.le_of_ble_eq_true rfl)) dL_book_2 ⟨Nat.le_of_ble_eq_true rfl, Nat.le_of_ble_eq_true rfl⟩) hV hS hA (fun r u H locs hp hV hS => ?_)
  obtain ⟨rfl, eu9⟩ := hp
  rw [eu9] at hV
  refine lv_astore (lv' := [(4, .ref (X 2 ln)), (0, .ref th), (1, .int (nI b)), (2, .int (nI ln)), (3, .int wh)]) hx hb dL_book_5 hl (by decide) rfl (fun ls hl => ?_)
  refine lv_aload hx hb dL_book_7 (lv_at hl 0 rfl) ?_
  refine lv_iload_n hx hb dL_book_9 rfl (lv_at hl 2 rfl) ?_
  refine er_callq (va_runS (As := [.ref (X 2 ln), .int (nI b)]) (rest := []) ⟨hx, hb, hml, hown, hts⟩ (c_L_sideOf_n l D T X L tg _ A ln (X 2 ln) e2_1 b rq e13_2 hrq q1 hb6 hbr qd) (cwS 2 hts gL_134 rfl rfl rfl (by decide +kernel) ⟨Nat.le_of_ble_eq_true rfl, Nat.le_of_ble_eq_true rfl⟩) (ec_preS hK hN hV) rfl rfl hl.1 rfl (lv_room (Nat.le_of_ble_eq_true rfl)) dL_book_10 ⟨Nat.le_of_ble_eq_true rfl, Nat.le_of_ble_eq_true rfl⟩) hV hS hA (fun r u H locs hp hV hS => ?_)
  obtain ⟨rfl, eu9⟩ := hp
  rw [eu9] at hV
  refine lv_astoreN (lv' := [(5, .null), (4, .ref (X 2 ln)), (0, .ref th), (1, .int (nI b)), (2, .int (nI ln)), (3, .int wh)]) hx hb dL_book_13 hl (by decide) rfl (fun ls hl => ?_)
  refine lv_aload hx hb dL_book_15 (lv_at hl 1 rfl) ?_
  refine lv_ifnull hx hb dL_book_17 ?_
  refine lv_aloadN hx hb dL_book_20 (lv_at hl 0 rfl) ?_
  refine lv_ifnonnullN hx hb dL_book_22 ?_
  refine lv_iconst (v := (-1)) hx hb dL_book_25 (by decide) ?_
  exact er_iret hx hb hr hlocks hV hS dL_book_26 ⟨rfl, rfl⟩

def z_L_book_q (A : ew_R) (rq : Nat) (ln : Nat) (wh : Int32) (nl : Nat) (pd : Nat) : Int32 :=
  z_L_entry_5 A ln pd (z_Asker_hasCopy (A 3 ln 0)) wh
set_option maxHeartbeats 4000000 in
set_option maxRecDepth 100000 in
theorem c_L_book_q (l : Launch) (D : va_G) (T : Nat → ClassId) (X : Nat → Nat → Nat) (L : List Nat) (tg : Nat → Nat × Nat) (sz : Nat) (A : ew_R) (th : Nat) (hth : ew_in X L tg 0 0 th) (rq : Nat) (ln : Nat) (wh : Int32) (nl : Nat) (pd : Nat) (e10_0 : ew_in X L tg 10 0 (X 10 0)) (e2_1 : ew_in X L tg 2 ln (X 2 ln)) (e4_2 : ew_in X L tg 4 pd (X 4 pd)) (e5_3 : ew_in X L tg 5 pd (X 5 pd)) (e8_4 : ew_in X L tg 8 pd (X 8 pd)) (e3_5 : ew_in X L tg 3 ln (X 3 ln)) (hn : nl ≤ 32) (qn : A 0 0 6 = nI nl) (hl1 : ln < nl) (qf : ¬ A 10 0 ln = 0) (hrq : rq < 6) (q1 : A 2 ln 1 = nI rq) (hp : pd < 192) (q7 : A 2 ln 7 = nI pd) : Met l yL_book wsL_book ({ frames := 3, cells := 0, slots := 0, locals := 63 }) (ec_Pc D vwCl (tysA T) (cfC T) X L tg A sz [.ref th, .int (nI rq), .int (nI ln), .int wh]) (er_Qi D vwCl (cfC T) X L tg sz (fun r u => r = z_L_book_q A rq ln wh nl pd ∧ u = A)) 0 0 (ew_A L sz) := by
  refine ec_met (by decide) rfl (Nat.le_of_ble_eq_true rfl) ?_
  intro p e s m below meth c ls hx hb hr hts hown hlocks hml hV hK hN hS hA hl hsz
  subst hsz
  have hl : lv_has ls 7 [(0, .ref th), (1, .int (nI rq)), (2, .int (nI ln)), (3, .int wh)] := hl
  refine lv_aload_n hx hb dL_book_0 rfl (lv_at hl 0 rfl) ?_
  refine lv_iload_n hx hb dL_book_1 rfl (lv_at hl 2 rfl) ?_
  refine er_callq (va_runV (As := [.int (nI ln)]) (rest := []) ⟨hx, hb, hml, hown, hts⟩ (c_L_loanAt_ok l D T X L tg _ A th hth ln nl e10_0 e2_1 hn qn hl1 qf) (cwV 1 hts gL_88 rfl rfl rfl (by decide +kernel) ⟨Nat.le_of_ble_eq_true rfl, Nat.le_of_ble_eq_true rfl⟩) (ec_preV hK hN hV hth (cC_0 _ _ _ _) rfl) rfl rfl hl.1 rfl (lv_room (Nat.le_of_ble_eq_true rfl)) dL_book_2 ⟨Nat.le_of_ble_eq_true rfl, Nat.le_of_ble_eq_true rfl⟩) hV hS hA (fun r u H locs hp hV hS => ?_)
  obtain ⟨rfl, eu9⟩ := hp
  rw [eu9] at hV
  refine lv_astore (lv' := [(4, .ref (X 2 ln)), (0, .ref th), (1, .int (nI rq)), (2, .int (nI ln)), (3, .int wh)]) hx hb dL_book_5 hl (by decide) rfl (fun ls hl => ?_)
  refine lv_aload hx hb dL_book_7 (lv_at hl 0 rfl) ?_
  refine lv_iload_n hx hb dL_book_9 rfl (lv_at hl 2 rfl) ?_
  refine er_callq (va_runS (As := [.ref (X 2 ln), .int (nI rq)]) (rest := []) ⟨hx, hb, hml, hown, hts⟩ (c_L_sideOf_q l D T X L tg _ A ln (X 2 ln) e2_1 rq pd e4_2 e5_3 hrq q1 hp q7) (cwS 2 hts gL_134 rfl rfl rfl (by decide +kernel) ⟨Nat.le_of_ble_eq_true rfl, Nat.le_of_ble_eq_true rfl⟩) (ec_preS hK hN hV) rfl rfl hl.1 rfl (lv_room (Nat.le_of_ble_eq_true rfl)) dL_book_10 ⟨Nat.le_of_ble_eq_true rfl, Nat.le_of_ble_eq_true rfl⟩) hV hS hA (fun r u H locs hp hV hS => ?_)
  obtain ⟨rfl, eu9⟩ := hp
  rw [eu9] at hV
  refine lv_astore (lv' := [(5, .ref (X 5 pd)), (4, .ref (X 2 ln)), (0, .ref th), (1, .int (nI rq)), (2, .int (nI ln)), (3, .int wh)]) hx hb dL_book_13 hl (by decide) rfl (fun ls hl => ?_)
  refine lv_aload hx hb dL_book_15 (lv_at hl 1 rfl) ?_
  refine lv_ifnull hx hb dL_book_17 ?_
  refine lv_aload hx hb dL_book_20 (lv_at hl 0 rfl) ?_
  refine lv_ifnonnull (tgt := 27) hx hb dL_book_22 rfl ?_
  refine lv_iload_n hx hb dL_book_27 rfl (lv_at hl 3 rfl) ?_
  refine lv_aload hx hb dL_book_28 (lv_at hl 1 rfl) ?_
  refine ew_get (v := .int (A 2 ln 1)) hx hb hts hown hK hV fL_96 e2_1 (cC_2 _ _ _ _) rfl dL_book_30 ?_
  refine lv_toe (y := nI rq) q1 ?_
  refine lv_icmp_ne (tgt := 59) hx hb dL_book_33 rfl (fun h9 => absurd ((nI_eq (a := rq) (b := rq) (by omega) (by omega)).mpr rfl) h9) (fun _ => ?_)
  refine lv_aload hx hb dL_book_36 (lv_at hl 1 rfl) ?_
  refine ew_get (v := .ref (X 3 ln)) hx hb hts hown hK hV fL_107 e2_1 (cC_2 _ _ _ _) rfl dL_book_38 ?_
  refine lv_aload hx hb dL_book_41 (lv_at hl 0 rfl) ?_
  refine lv_aload hx hb dL_book_43 (lv_at hl 1 rfl) ?_
  refine ew_get (v := .ref (X 3 ln)) hx hb hts hown hK hV fL_107 e2_1 (cC_2 _ _ _ _) rfl dL_book_45 ?_
  refine ew_get (v := .int (A 3 ln 0)) hx hb hts hown hK hV fL_111 e3_5 (cC_3 _ _ _ _) rfl dL_book_48 ?_
  refine er_calli (va_runS (As := [.int (A 3 ln 0)]) (rest := [.ref (X 5 pd), .ref (X 3 ln)]) ⟨hx, hb, hml, hown, hts⟩ (c_Asker_hasCopy l D T X L tg _ A (A 3 ln 0)) ⟨callB_of 1 hts gL_203.1 rfl rfl rfl (hts _ gL_203.2.2.2) (hts _ gL_203.2.1) (by decide +kernel) ⟨Nat.le_of_ble_eq_true rfl, Nat.le_of_ble_eq_true rfl⟩, hts _ gL_203.2.2.1⟩ (ec_preS hK hN hV) rfl rfl hl.1 rfl (lv_room (Nat.le_of_ble_eq_true rfl)) dL_book_51 ⟨Nat.le_of_ble_eq_true rfl, Nat.le_of_ble_eq_true rfl⟩) hV hS hA (fun r u H locs hp hV hS => ?_)
  obtain ⟨rfl, eu9⟩ := hp
  rw [eu9] at hV
  refine lv_iload_n hx hb dL_book_54 rfl (lv_at hl 5 rfl) ?_
  refine er_calli (va_runS (As := [.ref (X 3 ln), .ref (X 5 pd), .int (z_Asker_hasCopy (A 3 ln 0)), .int wh]) (rest := []) ⟨hx, hb, hml, hown, hts⟩ (c_L_entry_5 l D T X L tg _ A ln pd (X 3 ln) e3_5 (X 5 pd) e5_3 (z_Asker_hasCopy (A 3 ln 0)) wh e8_4) (cwS 4 hts gL_206 rfl rfl rfl (by decide +kernel) ⟨Nat.le_of_ble_eq_true rfl, Nat.le_of_ble_eq_true rfl⟩) (ec_preS hK hN hV) rfl rfl hl.1 rfl (lv_room (Nat.le_of_ble_eq_true rfl)) dL_book_55 ⟨Nat.le_of_ble_eq_true rfl, Nat.le_of_ble_eq_true rfl⟩) hV hS hA (fun r u H locs hp hV hS => ?_)
  obtain ⟨rfl, eu9⟩ := hp
  rw [eu9] at hV
  exact er_iret hx hb hr hlocks hV hS dL_book_58 ⟨Eq.symm (by unfold z_L_book_q; rfl), rfl⟩

def z_L_book_s (A : ew_R) (b : Nat) (ln : Nat) (wh : Int32) (nl : Nat) (rq : Nat) : Int32 :=
  if A 17 (6 * ln + b) 0 = 3 then
    z_L_entry_15 A (6 * ln + b) (6 * ln + b) 1 wh
  else
    z_L_entry_15 A (6 * ln + b) (6 * ln + b) 0 wh
set_option maxHeartbeats 4000000 in
set_option maxRecDepth 100000 in
theorem c_L_book_s (l : Launch) (D : va_G) (T : Nat → ClassId) (X : Nat → Nat → Nat) (L : List Nat) (tg : Nat → Nat × Nat) (sz : Nat) (A : ew_R) (th : Nat) (hth : ew_in X L tg 0 0 th) (b : Nat) (ln : Nat) (wh : Int32) (nl : Nat) (rq : Nat) (e10_0 : ew_in X L tg 10 0 (X 10 0)) (e2_1 : ew_in X L tg 2 ln (X 2 ln)) (e13_2 : ew_in X L tg 13 ln (X 13 ln)) (e4_3 : ew_in X L tg 4 (6 * ln + b) (X 4 (6 * ln + b))) (e15_4 : ew_in X L tg 15 (6 * ln + b) (X 15 (6 * ln + b))) (e16_5 : ew_in X L tg 16 (6 * ln + b) (X 16 (6 * ln + b))) (e17_6 : ew_in X L tg 17 (6 * ln + b) (X 17 (6 * ln + b))) (hn : nl ≤ 32) (qn : A 0 0 6 = nI nl) (hl1 : ln < nl) (qf : ¬ A 10 0 ln = 0) (hrq : rq < 6) (q1 : A 2 ln 1 = nI rq) (hb6 : b < 6) (hbr : ¬ b = rq) (qd : ¬ A 13 ln b = 0) : Met l yL_book wsL_book ({ frames := 3, cells := 0, slots := 0, locals := 63 }) (ec_Pc D vwCl (tysA T) (cfC T) X L tg A sz [.ref th, .int (nI b), .int (nI ln), .int wh]) (er_Qi D vwCl (cfC T) X L tg sz (fun r u => r = z_L_book_s A b ln wh nl rq ∧ u = A)) 0 0 (ew_A L sz) := by
  refine ec_met (by decide) rfl (Nat.le_of_ble_eq_true rfl) ?_
  intro p e s m below meth c ls hx hb hr hts hown hlocks hml hV hK hN hS hA hl hsz
  subst hsz
  have hl : lv_has ls 7 [(0, .ref th), (1, .int (nI b)), (2, .int (nI ln)), (3, .int wh)] := hl
  refine lv_aload_n hx hb dL_book_0 rfl (lv_at hl 0 rfl) ?_
  refine lv_iload_n hx hb dL_book_1 rfl (lv_at hl 2 rfl) ?_
  refine er_callq (va_runV (As := [.int (nI ln)]) (rest := []) ⟨hx, hb, hml, hown, hts⟩ (c_L_loanAt_ok l D T X L tg _ A th hth ln nl e10_0 e2_1 hn qn hl1 qf) (cwV 1 hts gL_88 rfl rfl rfl (by decide +kernel) ⟨Nat.le_of_ble_eq_true rfl, Nat.le_of_ble_eq_true rfl⟩) (ec_preV hK hN hV hth (cC_0 _ _ _ _) rfl) rfl rfl hl.1 rfl (lv_room (Nat.le_of_ble_eq_true rfl)) dL_book_2 ⟨Nat.le_of_ble_eq_true rfl, Nat.le_of_ble_eq_true rfl⟩) hV hS hA (fun r u H locs hp hV hS => ?_)
  obtain ⟨rfl, eu9⟩ := hp
  rw [eu9] at hV
  refine lv_astore (lv' := [(4, .ref (X 2 ln)), (0, .ref th), (1, .int (nI b)), (2, .int (nI ln)), (3, .int wh)]) hx hb dL_book_5 hl (by decide) rfl (fun ls hl => ?_)
  refine lv_aload hx hb dL_book_7 (lv_at hl 0 rfl) ?_
  refine lv_iload_n hx hb dL_book_9 rfl (lv_at hl 2 rfl) ?_
  refine er_callq (va_runS (As := [.ref (X 2 ln), .int (nI b)]) (rest := []) ⟨hx, hb, hml, hown, hts⟩ (c_L_sideOf_s l D T X L tg _ A ln (X 2 ln) e2_1 b rq e13_2 e4_3 e15_4 hrq q1 hb6 hbr qd) (cwS 2 hts gL_134 rfl rfl rfl (by decide +kernel) ⟨Nat.le_of_ble_eq_true rfl, Nat.le_of_ble_eq_true rfl⟩) (ec_preS hK hN hV) rfl rfl hl.1 rfl (lv_room (Nat.le_of_ble_eq_true rfl)) dL_book_10 ⟨Nat.le_of_ble_eq_true rfl, Nat.le_of_ble_eq_true rfl⟩) hV hS hA (fun r u H locs hp hV hS => ?_)
  obtain ⟨rfl, eu9⟩ := hp
  rw [eu9] at hV
  refine lv_astore (lv' := [(5, .ref (X 15 (6 * ln + b))), (4, .ref (X 2 ln)), (0, .ref th), (1, .int (nI b)), (2, .int (nI ln)), (3, .int wh)]) hx hb dL_book_13 hl (by decide) rfl (fun ls hl => ?_)
  refine lv_aload hx hb dL_book_15 (lv_at hl 1 rfl) ?_
  refine lv_ifnull hx hb dL_book_17 ?_
  refine lv_aload hx hb dL_book_20 (lv_at hl 0 rfl) ?_
  refine lv_ifnonnull (tgt := 27) hx hb dL_book_22 rfl ?_
  refine lv_iload_n hx hb dL_book_27 rfl (lv_at hl 3 rfl) ?_
  refine lv_aload hx hb dL_book_28 (lv_at hl 1 rfl) ?_
  refine ew_get (v := .int (A 2 ln 1)) hx hb hts hown hK hV fL_96 e2_1 (cC_2 _ _ _ _) rfl dL_book_30 ?_
  refine lv_toe (y := nI rq) q1 ?_
  refine lv_icmp_ne (tgt := 59) hx hb dL_book_33 rfl (fun _ => ?_) (fun h9 => absurd h9 (fun z9 => hbr ((nI_eq (a := b) (b := rq) (by omega) (by omega)).mp z9)))
  refine lv_aload hx hb dL_book_59 (lv_at hl 1 rfl) ?_
  refine lv_iload_n hx hb dL_book_61 rfl (lv_at hl 3 rfl) ?_
  refine er_callq (va_runV (As := [.int (nI b)]) (rest := []) ⟨hx, hb, hml, hown, hts⟩ (c_Loan_dealWith_ok l D T X L tg _ A ln (X 2 ln) e2_1 b e13_2 e4_3 hb6 qd) (cwV 1 hts gL_116 rfl rfl rfl (by decide +kernel) ⟨Nat.le_of_ble_eq_true rfl, Nat.le_of_ble_eq_true rfl⟩) (ec_preV hK hN hV e2_1 (cC_2 _ _ _ _) rfl) rfl rfl hl.1 rfl (lv_room (Nat.le_of_ble_eq_true rfl)) dL_book_62 ⟨Nat.le_of_ble_eq_true rfl, Nat.le_of_ble_eq_true rfl⟩) hV hS hA (fun r u H locs hp hV hS => ?_)
  obtain ⟨rfl, eu9⟩ := hp
  rw [eu9] at hV
  refine lv_astore (lv' := [(6, .ref (X 4 (6 * ln + b))), (5, .ref (X 15 (6 * ln + b))), (4, .ref (X 2 ln)), (0, .ref th), (1, .int (nI b)), (2, .int (nI ln)), (3, .int wh)]) hx hb dL_book_65 hl (by decide) rfl (fun ls hl => ?_)
  refine lv_aload hx hb dL_book_67 (lv_at hl 0 rfl) ?_
  refine lv_ifnonnull (tgt := 76) hx hb dL_book_69 rfl ?_
  refine lv_aload hx hb dL_book_76 (lv_at hl 0 rfl) ?_
  refine ew_get (v := .ref (X 17 (6 * ln + b))) hx hb hts hown hK hV fL_128 e4_3 (cC_4 _ _ _ _) rfl dL_book_78 ?_
  refine lv_aload hx hb dL_book_81 (lv_at hl 1 rfl) ?_
  refine lv_aload hx hb dL_book_83 (lv_at hl 0 rfl) ?_
  refine ew_get (v := .ref (X 17 (6 * ln + b))) hx hb hts hown hK hV fL_128 e4_3 (cC_4 _ _ _ _) rfl dL_book_85 ?_
  refine ew_get (v := .int (A 17 (6 * ln + b) 0)) hx hb hts hown hK hV fL_111 e17_6 (cC_17 _ _ _ _) rfl dL_book_88 ?_
  refine lv_iconst (v := 3) hx hb dL_book_91 (by decide) ?_
  refine lv_icmp_ne (tgt := 99) hx hb dL_book_92 rfl (fun h1 => ?_) (fun h1 => ?_)
  · refine lv_iconst (v := 0) hx hb dL_book_99 (by decide) ?_
    refine lv_iload_n hx hb dL_book_100 rfl (lv_at hl 6 rfl) ?_
    refine er_calli (va_runS (As := [.ref (X 17 (6 * ln + b)), .ref (X 15 (6 * ln + b)), .int 0, .int wh]) (rest := []) ⟨hx, hb, hml, hown, hts⟩ (c_L_entry_15 l D T X L tg _ A (6 * ln + b) (6 * ln + b) (X 17 (6 * ln + b)) e17_6 (X 15 (6 * ln + b)) e15_4 0 wh e16_5) (cwS 4 hts gL_206 rfl rfl rfl (by decide +kernel) ⟨Nat.le_of_ble_eq_true rfl, Nat.le_of_ble_eq_true rfl⟩) (ec_preS hK hN hV) rfl rfl hl.1 rfl (lv_room (Nat.le_of_ble_eq_true rfl)) dL_book_101 ⟨Nat.le_of_ble_eq_true rfl, Nat.le_of_ble_eq_true rfl⟩) hV hS hA (fun r u H locs hp hV hS => ?_)
    obtain ⟨rfl, eu9⟩ := hp
    rw [eu9] at hV
    exact er_iret hx hb hr hlocks hV hS dL_book_104 ⟨Eq.symm (by unfold z_L_book_s; simp only [if_neg h1]), rfl⟩
  · refine lv_iconst (v := 1) hx hb dL_book_95 (by decide) ?_
    refine lv_goto (tgt := 100) hx hb dL_book_96 rfl ?_
    refine lv_iload_n hx hb dL_book_100 rfl (lv_at hl 6 rfl) ?_
    refine er_calli (va_runS (As := [.ref (X 17 (6 * ln + b)), .ref (X 15 (6 * ln + b)), .int 1, .int wh]) (rest := []) ⟨hx, hb, hml, hown, hts⟩ (c_L_entry_15 l D T X L tg _ A (6 * ln + b) (6 * ln + b) (X 17 (6 * ln + b)) e17_6 (X 15 (6 * ln + b)) e15_4 1 wh e16_5) (cwS 4 hts gL_206 rfl rfl rfl (by decide +kernel) ⟨Nat.le_of_ble_eq_true rfl, Nat.le_of_ble_eq_true rfl⟩) (ec_preS hK hN hV) rfl rfl hl.1 rfl (lv_room (Nat.le_of_ble_eq_true rfl)) dL_book_101 ⟨Nat.le_of_ble_eq_true rfl, Nat.le_of_ble_eq_true rfl⟩) hV hS hA (fun r u H locs hp hV hS => ?_)
    obtain ⟨rfl, eu9⟩ := hp
    rw [eu9] at hV
    exact er_iret hx hb hr hlocks hV hS dL_book_104 ⟨Eq.symm (by unfold z_L_book_s; simp only [if_pos h1]), rfl⟩
