/-! The next one is asked -/
theorem clC_clear {X : Nat → Nat → Nat} {L : List Nat} {tg : Nat → Nat × Nat} {A : ew_R} {ln : Nat} (h : clC X L tg A) : clC X L tg (z_Page_clear A ln) := clC_3 (clC_3 (clC_3 h))
theorem z_clear_oth (A : ew_R) (ln : Nat) {c : Nat} (h : c ≠ 3) : z_Page_clear A ln c = A c := by
  unfold z_Page_clear; rw [p_kd_up _ _ _ _ h, p_kd_up _ _ _ _ h, p_kd_up _ _ _ _ h]
theorem z_turn_oth (A : ew_R) (ln b d : Nat) (rq : Int32) {c i : Nat} (h : (c, i) ∉ nw_4 d) (h2 : ¬ (c = 2 ∧ i = ln)) (h13 : ¬ (c = 13 ∧ i = ln)) : z_turn A ln b d rq c i = A c i := by
  unfold z_turn; rw [up3_oth _ _ _ h13, up3_oth _ _ _ h2, z_Deal_oth _ _ _ _ _ h]
theorem z_turn_2 (A : ew_R) (ln b d : Nat) (rq : Int32) : z_turn A ln b d rq 2 ln = va_up (A 2 ln) 7 (nI d) := by
  unfold z_turn; rw [up3_oth _ _ _ (by omega), up3_row, z_Deal_oth _ _ _ _ _ (by simp [nw_4])]
theorem z_turn_4 (A : ew_R) (ln b d : Nat) (rq : Int32) (i : Nat) {c : Nat} (hc : c = 4 ∨ c = 5 ∨ c = 8 ∨ c = 15 ∨ c = 16 ∨ c = 17) : z_turn A ln b d rq c i = z_Deal A d (A 2 ln 0) rq (nI b) c i := by
  unfold z_turn; rw [up3_oth _ _ _ (by omega), up3_oth _ _ _ (by omega)]
/-- the ints after the next one was asked -/
def z_ask (A : ew_R) (ln b w : Nat) (rq : Int32) : ew_R := z_L_send_5 (up3 (z_turn (z_Page_clear A ln) ln b (6 * ln + b) rq) 3 ln 0 0) (6 * ln + b) 0 0 w 1 (A 2 ln 4)
def z_askEnd (A : ew_R) (ln : Nat) : ew_R := up3 (z_Page_clear A ln) 3 ln 0 9

set_option maxHeartbeats 4000000 in
set_option maxRecDepth 100000 in
theorem c_L_askNext_go (l : Launch) (D : va_G) (T : Nat → ClassId) (t0 : Nat × Nat) (X : Nat → Nat → Nat) (L : List Nat) (tg : Nat → Nat × Nat) (sz : Nat) (A : ew_R) (ln th lo st rq w : Nat) (hth : ew_in X L tg 0 0 th) (hlo : ew_in X L tg 2 ln lo) (e3 : ew_in X L tg 3 ln (X 3 ln)) (e13 : ew_in X L tg 13 ln (X 13 ln)) (e4x : ∀ b, b < 6 → ¬ A 13 ln b = 0 → ew_in X L tg 4 (6 * ln + b) (X 4 (6 * ln + b))) (e7 : ew_in X L tg 7 0 (X 7 0)) (e12 : ew_in X L tg 12 0 (X 12 0)) (hln : ln < 32) (hst : st < 6) (hrq : rq < 6) (q3 : A 2 ln 3 = nI st) (q1 : A 2 ln 1 = nI rq) (hw : w ≤ 64) (qw : A 7 0 1 = nI w) (hcl : clC X L tg A) (x : Nat) (hx1 : 1 ≤ x) (hx5 : x < 6) (hsk : ∀ k, 1 ≤ k → k < x → (st + k) % 6 = rq ∨ ¬ A 13 ln ((st + k) % 6) = 0) (hne : ¬ (st + x) % 6 = rq) (hz : A 13 ln ((st + x) % 6) = 0) (h14 : X 14 (64 * (6 * ln + (st + x) % 6)) = t0.1) (h20 : X 20 (64 * (6 * ln + (st + x) % 6)) = t0.1) (hnew : ∀ b ∈ L, ∀ t ∈ nw_4 (6 * ln + (st + x) % 6), t ≠ tg b) (hnl : ∀ b ∈ L, (6, 512 * (6 * ln + (st + x) % 6)) ≠ tg b) (hna : ∀ b ∈ L, (14, 64 * (6 * ln + (st + x) % 6) + 1) ≠ tg b) : Met l yL_askNext wsL_askNext ({ frames := 10, cells := 8, slots := 1032, locals := 330 }) (em_Pc D vwCl (tysA T) (cfC T) t0 X L tg A sz [.ref th, .ref lo]) (em_Qi D vwCl (cfC T) L sz (fun r u => r = 1 ∧ em_S (nw_4 (6 * ln + (st + x) % 6) ++ nw_5 (6 * ln + (st + x) % 6) 0 0) X L tg u.1 u.2.1 u.2.2.1 ∧ u.2.2.2 = z_ask A ln ((st + x) % 6) w (nI rq))) 8 1032 (ew_A L sz) := by
  refine em_met (by decide) rfl (Nat.le_of_ble_eq_true rfl) ?_
  intro p e s m below meth c ls hx hb hr hts hown hlocks hml hnm hV hK hN hZ hS hA hl hsz
  subst hsz
  have hl : lv_has ls 2 [(0, .ref th), (1, .ref lo)] := hl
  refine lv_aload_n hx hb dL_askNext_0 rfl (lv_at hl 1 rfl) ?_
  refine ew_get (v := .ref (X 3 ln)) hx hb hts hown hK hV fL_107 hlo (cC_2 _ _ _ _) rfl dL_askNext_1 ?_
  refine er_callv (va_runV (As := []) (rest := []) ⟨hx, hb, hml, hown, hts⟩ (c_Page_clear l D T X L tg _ A ln (X 3 ln) e3) (cwV 0 hts gL_286 rfl rfl rfl (by decide +kernel) ⟨Nat.le_of_ble_eq_true rfl, Nat.le_of_ble_eq_true rfl⟩) (ec_preV hK hN hV e3 (cC_3 _ _ _ _) rfl) rfl rfl hl.1 rfl (lv_room (Nat.le_of_ble_eq_true rfl)) dL_askNext_4 ⟨Nat.le_of_ble_eq_true rfl, Nat.le_of_ble_eq_true rfl⟩) hV hS hA (fun u1 H locs eu1 hV hS => ?_)
  have eu1 : u1 = z_Page_clear A ln := eu1
  rw [eu1] at hV
  have zc : ∀ c, c ≠ 3 → z_Page_clear A ln c = A c := fun c h => z_clear_oth A ln h
  refine lv_aload_n hx hb dL_askNext_7 rfl (lv_at hl 1 rfl) ?_
  refine em_calli (va_runV (As := []) (rest := []) ⟨hx, hb, hml, hown, hts⟩ (c_Loan_turnToNext_go l D T t0 X L tg _ (z_Page_clear A ln) ln lo st rq hlo e13 (by rw [zc 13 (by decide)]; exact e4x) hln hst hrq (by rw [zc 2 (by decide)]; exact q3) (by rw [zc 2 (by decide)]; exact q1) x hx1 hx5 (by rw [zc 13 (by decide)]; exact hsk) hne (by rw [zc 13 (by decide)]; exact hz) h14 h20 (clC_clear hcl) hnew) (cwV 0 hts gL_289 rfl rfl rfl (by decide +kernel) ⟨Nat.le_of_ble_eq_true rfl, Nat.le_of_ble_eq_true rfl⟩) (em_preV hK hN hV hZ hS hA hlo (cC_2 _ _ _ _) rfl) rfl rfl hl.1 rfl (lv_room (Nat.le_of_ble_eq_true rfl)) dL_askNext_8 ⟨Nat.le_of_ble_eq_true rfl, Nat.le_of_ble_eq_true rfl⟩) hV hS hA (fun r X1 L1 tg1 u H locs hp hV hS => ?_)
  obtain ⟨rfl, h1, eA⟩ := hp
  have h1 : em_S (nw_4 (6 * ln + ((st + x) % 6))) X L tg X1 L1 tg1 := h1
  have eA : u = z_turn (z_Page_clear A ln) ln ((st + x) % 6) (6 * ln + ((st + x) % 6)) (nI rq) := eA
  rw [eA] at hV
  have hth := h1.ad hth
  have hlo := h1.ad hlo
  have f3 := (h1.ad e3).self
  have f7 := (h1.ad e7).self
  have f12 := (h1.ad e12).self
  have lv : ∀ t ∈ nw_4 (6 * ln + ((st + x) % 6)), ew_in X1 L1 tg1 t.1 t.2 (X1 t.1 t.2) := h1.2.2.1
  have f4 := lv (4, (6 * ln + ((st + x) % 6))) (by simp [nw_4])
  have f5 := lv (5, (6 * ln + ((st + x) % 6))) (by simp [nw_4])
  have f8 := lv (8, (6 * ln + ((st + x) % 6))) (by simp [nw_4])
  have z2 := z_turn_2 (z_Page_clear A ln) ln ((st + x) % 6) (6 * ln + ((st + x) % 6)) (nI rq)
  have z8 : z_turn (z_Page_clear A ln) ln ((st + x) % 6) (6 * ln + ((st + x) % 6)) (nI rq) 8 (6 * ln + ((st + x) % 6)) = p_r8 (6 * ln + ((st + x) % 6)) := by rw [z_turn_4 _ _ _ _ _ _ (by simp)]; simp [z_Deal, upr, va_up]
  refine lv_if_eq (tgt := 41) hx hb dL_askNext_11 rfl (fun h9 => absurd h9 (by decide)) (fun _ => ?_)
  refine lv_aload_n hx hb dL_askNext_14 rfl (lv_at hl 1 rfl) ?_
  refine ew_get (v := .ref (X1 3 ln)) hx hb hts hown hK hV fL_107 hlo (cC_2 _ _ _ _) rfl dL_askNext_15 ?_
  refine lv_iconst (v := 0) hx hb dL_askNext_18 (by decide) ?_
  refine ew_put (ty := .int) hx hb hts hown hK hV hS fL_111 gPage f3 (cC_3 _ _ _ _) 0 _ (pC_3_0 _ _ _ _ _) rfl (by decide +kernel) rfl rfl (Nat.le_of_ble_eq_true rfl) dL_askNext_19 (fun H locs hV hS => ?_)
  refine lv_aload_n hx hb dL_askNext_22 rfl (lv_at hl 0 rfl) ?_
  refine lv_aload_n hx hb dL_askNext_23 rfl (lv_at hl 1 rfl) ?_
  refine ew_get (v := .ref (X1 4 (6 * ln + ((st + x) % 6)))) hx hb hts hown hK hV fL_212 hlo (cC_2 _ _ _ _) (by
    show some (Value.ref (X1 4 ((up3 _ 3 ln 0 0) 2 ln 7).toNatClampNeg)) = _
    rw [p_kd_up _ _ _ _ (by decide), z2, va_up_self, nI_clamp (by omega)]) dL_askNext_24 ?_
  refine ew_get (v := .ref (X1 5 (6 * ln + ((st + x) % 6)))) hx hb hts hown hK hV fL_169 f4 (cC_4 _ _ _ _) rfl dL_askNext_27 ?_
  refine lv_iconst (v := 1) hx hb dL_askNext_30 (by decide) ?_
  refine lv_aload_n hx hb dL_askNext_31 rfl (lv_at hl 1 rfl) ?_
  refine ew_get (v := .int (A 2 ln 4)) hx hb hts hown hK hV fL_292 hlo (cC_2 _ _ _ _) (by
    show some (Value.int ((up3 _ 3 ln 0 0) 2 ln 4)) = _
    rw [p_kd_up _ _ _ _ (by decide), z2, va_up_ne _ _ (by decide), zc 2 (by decide)]) dL_askNext_32 ?_
  refine em_callv (va_runV (As := [.ref (X1 5 (6 * ln + ((st + x) % 6))), .int 1, .int (A 2 ln 4)]) (rest := []) ⟨hx, hb, hml, hown, hts⟩ (c_L_send_5 l D T t0 X1 L1 tg1 _ (up3 (z_turn (z_Page_clear A ln) ln ((st + x) % 6) (6 * ln + ((st + x) % 6)) (nI rq)) 3 ln 0 0) (6 * ln + ((st + x) % 6)) 0 0 w th (X1 5 (6 * ln + ((st + x) % 6))) (X1 8 (6 * ln + ((st + x) % 6))) (X1 7 0) (X1 12 0) 1 (A 2 ln 4) (by omega) (by omega) hth f5 f8 f7 f12 ⟨by omega, Nat.le_refl _, ?_, ?_, fun _ => ?_, fun h => by omega⟩ hw ?_ (clC_3 (clC_turn hln (Nat.mod_lt _ (by decide)) (clC_clear hcl) h1)) ?_ ?_) (cwV 3 hts gL_257 rfl rfl rfl (by decide +kernel) ⟨Nat.le_of_ble_eq_true rfl, Nat.le_of_ble_eq_true rfl⟩) (em_preV hK hN hV hZ hS hA hth (cC_0 _ _ _ _) rfl) rfl rfl hl.1 rfl (lv_room (Nat.le_of_ble_eq_true rfl)) dL_askNext_35 ⟨Nat.le_of_ble_eq_true rfl, Nat.le_of_ble_eq_true rfl⟩) hV hS hA (fun X2 L2 tg2 u2 H locs hp hV hS => ?_)
  · rw [p_kd_up _ _ _ _ (by decide), z8]; rfl
  · rw [p_kd_up _ _ _ _ (by decide), z8]; rfl
  · rw [h1.1 14 (64 * (6 * ln + ((st + x) % 6))) (by simp [nw_4])]; exact h14
  · rw [p_kd_up _ _ _ _ (by decide), z_turn_oth _ _ _ _ _ (by simp [nw_4]) (by omega) (by omega), zc 7 (by decide)]; exact qw
  · intro a ha z
    rcases h1.2.2.2 a ha with h | ⟨h, h2⟩
    · rw [← z] at h; simp [nw_4] at h
    · exact hnl a h (by rw [← h2]; exact z)
  · intro a ha z
    rcases h1.2.2.2 a ha with h | ⟨h, h2⟩
    · rw [← z] at h; simp [nw_4] at h
    · exact hna a h (by rw [← h2]; exact z)
  obtain ⟨h2, eA2⟩ := hp
  have h2 : em_S (nw_5 (6 * ln + ((st + x) % 6)) 0 0) X1 L1 tg1 X2 L2 tg2 := h2
  refine lv_goto (tgt := 50) hx hb dL_askNext_38 rfl ?_
  refine lv_iconst (v := 1) hx hb dL_askNext_50 (by decide) ?_
  exact em_zret hx hb hr hlocks hV hS dL_askNext_51 (by decide) ⟨rfl, h1.trans h2, eA2⟩
set_option maxHeartbeats 4000000 in
set_option maxRecDepth 100000 in
theorem c_L_askNext_end (l : Launch) (D : va_G) (T : Nat → ClassId) (t0 : Nat × Nat) (X : Nat → Nat → Nat) (L : List Nat) (tg : Nat → Nat × Nat) (sz : Nat) (A : ew_R) (ln th lo st rq w : Nat) (hth : ew_in X L tg 0 0 th) (hlo : ew_in X L tg 2 ln lo) (e3 : ew_in X L tg 3 ln (X 3 ln)) (e13 : ew_in X L tg 13 ln (X 13 ln)) (e4x : ∀ b, b < 6 → ¬ A 13 ln b = 0 → ew_in X L tg 4 (6 * ln + b) (X 4 (6 * ln + b))) (e7 : ew_in X L tg 7 0 (X 7 0)) (e12 : ew_in X L tg 12 0 (X 12 0)) (hln : ln < 32) (hst : st < 6) (hrq : rq < 6) (q3 : A 2 ln 3 = nI st) (q1 : A 2 ln 1 = nI rq) (hw : w ≤ 64) (qw : A 7 0 1 = nI w) (hcl : clC X L tg A) (hsk : ∀ k, 1 ≤ k → k < 6 → (st + k) % 6 = rq ∨ ¬ A 13 ln ((st + k) % 6) = 0) : Met l yL_askNext wsL_askNext ({ frames := 10, cells := 8, slots := 1032, locals := 330 }) (em_Pc D vwCl (tysA T) (cfC T) t0 X L tg A sz [.ref th, .ref lo]) (em_Qi D vwCl (cfC T) L sz (fun r u => r = 1 ∧ em_S [] X L tg u.1 u.2.1 u.2.2.1 ∧ u.2.2.2 = z_askEnd A ln)) 8 1032 (ew_A L sz) := by
  refine em_met (by decide) rfl (Nat.le_of_ble_eq_true rfl) ?_
  intro p e s m below meth c ls hx hb hr hts hown hlocks hml hnm hV hK hN hZ hS hA hl hsz
  subst hsz
  have hl : lv_has ls 2 [(0, .ref th), (1, .ref lo)] := hl
  refine lv_aload_n hx hb dL_askNext_0 rfl (lv_at hl 1 rfl) ?_
  refine ew_get (v := .ref (X 3 ln)) hx hb hts hown hK hV fL_107 hlo (cC_2 _ _ _ _) rfl dL_askNext_1 ?_
  refine er_callv (va_runV (As := []) (rest := []) ⟨hx, hb, hml, hown, hts⟩ (c_Page_clear l D T X L tg _ A ln (X 3 ln) e3) (cwV 0 hts gL_286 rfl rfl rfl (by decide +kernel) ⟨Nat.le_of_ble_eq_true rfl, Nat.le_of_ble_eq_true rfl⟩) (ec_preV hK hN hV e3 (cC_3 _ _ _ _) rfl) rfl rfl hl.1 rfl (lv_room (Nat.le_of_ble_eq_true rfl)) dL_askNext_4 ⟨Nat.le_of_ble_eq_true rfl, Nat.le_of_ble_eq_true rfl⟩) hV hS hA (fun u1 H locs eu1 hV hS => ?_)
  have eu1 : u1 = z_Page_clear A ln := eu1
  rw [eu1] at hV
  have zc : ∀ c, c ≠ 3 → z_Page_clear A ln c = A c := fun c h => z_clear_oth A ln h
  refine lv_aload_n hx hb dL_askNext_7 rfl (lv_at hl 1 rfl) ?_
  refine em_calli (va_runV (As := []) (rest := []) ⟨hx, hb, hml, hown, hts⟩ (c_Loan_turnToNext_end l D T t0 X L tg _ (z_Page_clear A ln) ln lo st rq hlo e13 (by rw [zc 13 (by decide)]; exact e4x) hln hst hrq (by rw [zc 2 (by decide)]; exact q3) (by rw [zc 2 (by decide)]; exact q1) (by rw [zc 13 (by decide)]; exact hsk)) (cwV 0 hts gL_289 rfl rfl rfl (by decide +kernel) ⟨Nat.le_of_ble_eq_true rfl, Nat.le_of_ble_eq_true rfl⟩) (em_preV hK hN hV hZ hS hA hlo (cC_2 _ _ _ _) rfl) rfl rfl hl.1 rfl (lv_room (Nat.le_of_ble_eq_true rfl)) dL_askNext_8 ⟨Nat.le_of_ble_eq_true rfl, Nat.le_of_ble_eq_true rfl⟩) hV hS hA (fun r X1 L1 tg1 u H locs hp hV hS => ?_)
  obtain ⟨rfl, h1, eA⟩ := hp
  have h1 : em_S [] X L tg X1 L1 tg1 := h1
  have eA : u = z_Page_clear A ln := eA
  rw [eA] at hV
  have hlo := h1.ad hlo
  have f3 := (h1.ad e3).self
  refine lv_if_eq (tgt := 41) hx hb dL_askNext_11 rfl (fun _ => ?_) (fun h9 => absurd rfl h9)
  refine lv_aload_n hx hb dL_askNext_41 rfl (lv_at hl 1 rfl) ?_
  refine ew_get (v := .ref (X1 3 ln)) hx hb hts hown hK hV fL_107 hlo (cC_2 _ _ _ _) rfl dL_askNext_42 ?_
  refine lv_bipush (v := 9) hx hb dL_askNext_45 (by decide) ?_
  refine ew_put (ty := .int) hx hb hts hown hK hV hS fL_111 gPage f3 (cC_3 _ _ _ _) 0 _ (pC_3_0 _ _ _ _ _) rfl (by decide +kernel) rfl rfl (Nat.le_of_ble_eq_true rfl) dL_askNext_47 (fun H locs hV hS => ?_)
  refine lv_iconst (v := 1) hx hb dL_askNext_50 (by decide) ?_
  refine W.widen (k := 8) (n := 1032) (Nat.le_of_ble_eq_true rfl) (Nat.le_of_ble_eq_true rfl) ?_
  exact em_zret hx hb hr hlocks hV hS dL_askNext_51 (by decide) ⟨rfl, h1, rfl⟩
