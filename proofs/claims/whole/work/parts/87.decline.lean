/-! A decline -/
def z_dec (A : ew_R) (ln pd g n b w : Nat) (rq : Int32) : ew_R := z_ask (z_L_send_5 A pd g n w 6 0) ln b (p_lw w) rq
def z_decEnd (A : ew_R) (ln pd g n w : Nat) : ew_R := z_askEnd (z_L_send_5 A pd g n w 6 0) ln

set_option maxHeartbeats 4000000 in
set_option maxRecDepth 100000 in
theorem c_L_decline_go (l : Launch) (D : va_G) (T : Nat → ClassId) (t0 : Nat × Nat) (X : Nat → Nat → Nat) (L : List Nat) (tg : Nat → Nat × Nat) (sz : Nat) (A : ew_R) (ln th lo st rq w : Nat) (hth : ew_in X L tg 0 0 th) (hlo : ew_in X L tg 2 ln lo) (e3 : ew_in X L tg 3 ln (X 3 ln)) (e13 : ew_in X L tg 13 ln (X 13 ln)) (e4x : ∀ b, b < 6 → ¬ A 13 ln b = 0 → ew_in X L tg 4 (6 * ln + b) (X 4 (6 * ln + b))) (e7 : ew_in X L tg 7 0 (X 7 0)) (e12 : ew_in X L tg 12 0 (X 12 0)) (hln : ln < 32) (hst : st < 6) (hrq : rq < 6) (q3 : A 2 ln 3 = nI st) (q1 : A 2 ln 1 = nI rq) (hw : w ≤ 64) (qw : A 7 0 1 = nI w) (hcl : clC X L tg A) (pd g n : Nat) (q7 : A 2 ln 7 = nI pd) (hpd : pd < 192) (hn : n < 512) (e4 : ew_in X L tg 4 pd (X 4 pd)) (e5 : ew_in X L tg 5 pd (X 5 pd)) (e8 : ew_in X L tg 8 pd (X 8 pd)) (hLS : lsC 8 14 t0 X L tg A pd g n) (hnlp : ∀ b ∈ L, (6, 512 * pd + n) ≠ tg b) (hnap : ∀ b ∈ L, (14, 64 * pd + g + 1) ≠ tg b) (hs1 : A 3 ln 0 = 1) (x : Nat) (hx1 : 1 ≤ x) (hx5 : x < 6) (hsk : ∀ k, 1 ≤ k → k < x → (st + k) % 6 = rq ∨ ¬ A 13 ln ((st + k) % 6) = 0) (hne : ¬ (st + x) % 6 = rq) (hz : A 13 ln ((st + x) % 6) = 0) (h14 : X 14 (64 * (6 * ln + (st + x) % 6)) = t0.1) (h20 : X 20 (64 * (6 * ln + (st + x) % 6)) = t0.1) (hnew : ∀ b ∈ L, ∀ t ∈ nw_4 (6 * ln + (st + x) % 6), t ≠ tg b) (hnl : ∀ b ∈ L, (6, 512 * (6 * ln + (st + x) % 6)) ≠ tg b) (hna : ∀ b ∈ L, (14, 64 * (6 * ln + (st + x) % 6) + 1) ≠ tg b) (hpx : pd ≠ 6 * ln + (st + x) % 6) : Met l yL_decline wsL_decline ({ frames := 11, cells := 10, slots := 2036, locals := 360 }) (em_Pc D vwCl (tysA T) (cfC T) t0 X L tg A sz [.ref th, .ref lo]) (em_Qi D vwCl (cfC T) L sz (fun r u => r = 1 ∧ em_S (nw_5 pd g n ++ (nw_4 (6 * ln + (st + x) % 6) ++ nw_5 (6 * ln + (st + x) % 6) 0 0)) X L tg u.1 u.2.1 u.2.2.1 ∧ u.2.2.2 = z_dec A ln pd g n ((st + x) % 6) w (nI rq))) 10 2036 (ew_A L sz) := by
  have g11 := hLS.1
  refine em_met (by decide) rfl (Nat.le_of_ble_eq_true rfl) ?_
  intro p e s m below meth c ls hx hb hr hts hown hlocks hml hnm hV hK hN hZ hS hA hl hsz
  subst hsz
  have hl : lv_has ls 2 [(0, .ref th), (1, .ref lo)] := hl
  refine lv_aload_n hx hb dL_decline_0 rfl (lv_at hl 1 rfl) ?_
  refine ew_get (v := .ref (X 3 ln)) hx hb hts hown hK hV fL_107 hlo (cC_2 _ _ _ _) rfl dL_decline_1 ?_
  refine ew_get (v := .int (A 3 ln 0)) hx hb hts hown hK hV fL_111 e3 (cC_3 _ _ _ _) rfl dL_decline_4 ?_
  refine lv_iconst (v := 1) hx hb dL_decline_7 (by decide) ?_
  refine lv_icmp_eq (tgt := 13) hx hb dL_decline_8 rfl (fun _ => ?_) (fun h9 => absurd hs1 h9)
  refine lv_aload_n hx hb dL_decline_13 rfl (lv_at hl 0 rfl) ?_
  refine lv_aload_n hx hb dL_decline_14 rfl (lv_at hl 1 rfl) ?_
  refine ew_get (v := .ref (X 4 pd)) hx hb hts hown hK hV fL_212 hlo (cC_2 _ _ _ _) (ec_rd q7 (by omega)) dL_decline_15 ?_
  refine ew_get (v := .ref (X 5 pd)) hx hb hts hown hK hV fL_169 e4 (cC_4 _ _ _ _) rfl dL_decline_18 ?_
  refine lv_bipush (v := 6) hx hb dL_decline_21 (by decide) ?_
  refine lv_iconst (v := 0) hx hb dL_decline_23 (by decide) ?_
  refine em_callv (va_runV (As := [.ref (X 5 pd), .int 6, .int 0]) (rest := []) ⟨hx, hb, hml, hown, hts⟩ (c_L_send_5 l D T t0 X L tg _ A pd g n w th (X 5 pd) (X 8 pd) (X 7 0) (X 12 0) 6 0 hpd hn hth e5 e8 e7 e12 hLS hw qw hcl hnlp hnap) (cwV 3 hts gL_257 rfl rfl rfl (by decide +kernel) ⟨Nat.le_of_ble_eq_true rfl, Nat.le_of_ble_eq_true rfl⟩) (em_preV hK hN hV hZ hS hA hth (cC_0 _ _ _ _) rfl) rfl rfl hl.1 rfl (lv_room (Nat.le_of_ble_eq_true rfl)) dL_decline_24 ⟨Nat.le_of_ble_eq_true rfl, Nat.le_of_ble_eq_true rfl⟩) hV hS hA (fun X1 L1 tg1 u H locs hp hV hS => ?_)
  obtain ⟨h1, eA⟩ := hp
  have h1 : em_S (nw_5 pd g n) X L tg X1 L1 tg1 := h1
  have eA : u = z_L_send_5 A pd g n w 6 0 := eA
  rw [eA] at hV
  have hth := h1.ad hth
  have hlo := h1.ad hlo
  have a1 : ∀ c, c ∉ [7, 12, 6, 8, 14] → z_L_send_5 A pd g n w 6 0 c = A c := fun c hc => p_send5_4 _ _ _ _ _ _ _ hc
  refine lv_aload_n hx hb dL_decline_27 rfl (lv_at hl 0 rfl) ?_
  refine lv_aload_n hx hb dL_decline_28 rfl (lv_at hl 1 rfl) ?_
  refine em_calli (va_runV (As := [.ref lo]) (rest := []) ⟨hx, hb, hml, hown, hts⟩ (c_L_askNext_go l D T t0 X1 L1 tg1 _ (z_L_send_5 A pd g n w 6 0) ln th lo st rq (p_lw w) hth hlo (h1.ad e3).self (h1.ad e13).self (fun b hb hq => (h1.ad (e4x b hb (by rw [a1 13 (by decide)] at hq; exact hq))).self) (h1.ad e7).self (h1.ad e12).self hln hst hrq (by rw [a1 2 (by decide)]; exact q3) (by rw [a1 2 (by decide)]; exact q1) (p_lw_le hw) (by unfold z_L_send_5; rw [p_radd_5_6, p_radd_7 _ hw]) (clC_wr5 hpd hn hcl hLS h1) x hx1 hx5 (by rw [a1 13 (by decide)]; exact hsk) hne (by rw [a1 13 (by decide)]; exact hz) (by rw [h1.1 14 _ (by unfold nw_5; split <;> simp <;> omega)]; exact h14) (by rw [h1.1 20 _ (by unfold nw_5; split <;> simp)]; exact h20) (fun b hb t ht z => ?_) (fun b hb z => ?_) (fun b hb z => ?_)) (cwV 1 hts gL_283 rfl rfl rfl (by decide +kernel) ⟨Nat.le_of_ble_eq_true rfl, Nat.le_of_ble_eq_true rfl⟩) (em_preV hK hN hV hZ hS hA hth (cC_0 _ _ _ _) rfl) rfl rfl hl.1 rfl (lv_room (Nat.le_of_ble_eq_true rfl)) dL_decline_29 ⟨Nat.le_of_ble_eq_true rfl, Nat.le_of_ble_eq_true rfl⟩) hV hS hA (fun r X2 L2 tg2 u2 H locs hp hV hS => ?_)
  · rcases h1.2.2.2 b hb with h | ⟨h, h2⟩
    · rw [← z] at h
      simp only [nw_4, List.mem_cons, List.not_mem_nil, or_false] at ht
      unfold nw_5 at h
      split at h <;> rcases ht with rfl | rfl | rfl | rfl | rfl | rfl <;> simp at h
    · exact hnew b h t ht (by rw [← h2]; exact z)
  · rcases h1.2.2.2 b hb with h | ⟨h, h2⟩
    · rw [← z] at h
      unfold nw_5 at h
      split at h <;> simp at h <;> omega
    · exact hnl b h (by rw [← h2]; exact z)
  · rcases h1.2.2.2 b hb with h | ⟨h, h2⟩
    · rw [← z] at h
      unfold nw_5 at h
      split at h <;> simp at h <;> omega
    · exact hna b h (by rw [← h2]; exact z)
  obtain ⟨rfl, h2, eA2⟩ := hp
  have h2 : em_S (nw_4 (6 * ln + (st + x) % 6) ++ nw_5 (6 * ln + (st + x) % 6) 0 0) X1 L1 tg1 X2 L2 tg2 := h2
  exact em_zret hx hb hr hlocks hV hS dL_decline_32 (by decide) ⟨rfl, h1.trans h2, eA2⟩
set_option maxHeartbeats 4000000 in
set_option maxRecDepth 100000 in
theorem c_L_decline_end (l : Launch) (D : va_G) (T : Nat → ClassId) (t0 : Nat × Nat) (X : Nat → Nat → Nat) (L : List Nat) (tg : Nat → Nat × Nat) (sz : Nat) (A : ew_R) (ln th lo st rq w : Nat) (hth : ew_in X L tg 0 0 th) (hlo : ew_in X L tg 2 ln lo) (e3 : ew_in X L tg 3 ln (X 3 ln)) (e13 : ew_in X L tg 13 ln (X 13 ln)) (e4x : ∀ b, b < 6 → ¬ A 13 ln b = 0 → ew_in X L tg 4 (6 * ln + b) (X 4 (6 * ln + b))) (e7 : ew_in X L tg 7 0 (X 7 0)) (e12 : ew_in X L tg 12 0 (X 12 0)) (hln : ln < 32) (hst : st < 6) (hrq : rq < 6) (q3 : A 2 ln 3 = nI st) (q1 : A 2 ln 1 = nI rq) (hw : w ≤ 64) (qw : A 7 0 1 = nI w) (hcl : clC X L tg A) (pd g n : Nat) (q7 : A 2 ln 7 = nI pd) (hpd : pd < 192) (hn : n < 512) (e4 : ew_in X L tg 4 pd (X 4 pd)) (e5 : ew_in X L tg 5 pd (X 5 pd)) (e8 : ew_in X L tg 8 pd (X 8 pd)) (hLS : lsC 8 14 t0 X L tg A pd g n) (hnlp : ∀ b ∈ L, (6, 512 * pd + n) ≠ tg b) (hnap : ∀ b ∈ L, (14, 64 * pd + g + 1) ≠ tg b) (hs1 : A 3 ln 0 = 1) (hsk : ∀ k, 1 ≤ k → k < 6 → (st + k) % 6 = rq ∨ ¬ A 13 ln ((st + k) % 6) = 0) : Met l yL_decline wsL_decline ({ frames := 11, cells := 10, slots := 2036, locals := 360 }) (em_Pc D vwCl (tysA T) (cfC T) t0 X L tg A sz [.ref th, .ref lo]) (em_Qi D vwCl (cfC T) L sz (fun r u => r = 1 ∧ em_S (nw_5 pd g n ++ []) X L tg u.1 u.2.1 u.2.2.1 ∧ u.2.2.2 = z_decEnd A ln pd g n w)) 10 2036 (ew_A L sz) := by
  have g11 := hLS.1
  refine em_met (by decide) rfl (Nat.le_of_ble_eq_true rfl) ?_
  intro p e s m below meth c ls hx hb hr hts hown hlocks hml hnm hV hK hN hZ hS hA hl hsz
  subst hsz
  have hl : lv_has ls 2 [(0, .ref th), (1, .ref lo)] := hl
  refine lv_aload_n hx hb dL_decline_0 rfl (lv_at hl 1 rfl) ?_
  refine ew_get (v := .ref (X 3 ln)) hx hb hts hown hK hV fL_107 hlo (cC_2 _ _ _ _) rfl dL_decline_1 ?_
  refine ew_get (v := .int (A 3 ln 0)) hx hb hts hown hK hV fL_111 e3 (cC_3 _ _ _ _) rfl dL_decline_4 ?_
  refine lv_iconst (v := 1) hx hb dL_decline_7 (by decide) ?_
  refine lv_icmp_eq (tgt := 13) hx hb dL_decline_8 rfl (fun _ => ?_) (fun h9 => absurd hs1 h9)
  refine lv_aload_n hx hb dL_decline_13 rfl (lv_at hl 0 rfl) ?_
  refine lv_aload_n hx hb dL_decline_14 rfl (lv_at hl 1 rfl) ?_
  refine ew_get (v := .ref (X 4 pd)) hx hb hts hown hK hV fL_212 hlo (cC_2 _ _ _ _) (ec_rd q7 (by omega)) dL_decline_15 ?_
  refine ew_get (v := .ref (X 5 pd)) hx hb hts hown hK hV fL_169 e4 (cC_4 _ _ _ _) rfl dL_decline_18 ?_
  refine lv_bipush (v := 6) hx hb dL_decline_21 (by decide) ?_
  refine lv_iconst (v := 0) hx hb dL_decline_23 (by decide) ?_
  refine em_callv (va_runV (As := [.ref (X 5 pd), .int 6, .int 0]) (rest := []) ⟨hx, hb, hml, hown, hts⟩ (c_L_send_5 l D T t0 X L tg _ A pd g n w th (X 5 pd) (X 8 pd) (X 7 0) (X 12 0) 6 0 hpd hn hth e5 e8 e7 e12 hLS hw qw hcl hnlp hnap) (cwV 3 hts gL_257 rfl rfl rfl (by decide +kernel) ⟨Nat.le_of_ble_eq_true rfl, Nat.le_of_ble_eq_true rfl⟩) (em_preV hK hN hV hZ hS hA hth (cC_0 _ _ _ _) rfl) rfl rfl hl.1 rfl (lv_room (Nat.le_of_ble_eq_true rfl)) dL_decline_24 ⟨Nat.le_of_ble_eq_true rfl, Nat.le_of_ble_eq_true rfl⟩) hV hS hA (fun X1 L1 tg1 u H locs hp hV hS => ?_)
  obtain ⟨h1, eA⟩ := hp
  have h1 : em_S (nw_5 pd g n) X L tg X1 L1 tg1 := h1
  have eA : u = z_L_send_5 A pd g n w 6 0 := eA
  rw [eA] at hV
  have hth := h1.ad hth
  have hlo := h1.ad hlo
  have a1 : ∀ c, c ∉ [7, 12, 6, 8, 14] → z_L_send_5 A pd g n w 6 0 c = A c := fun c hc => p_send5_4 _ _ _ _ _ _ _ hc
  refine lv_aload_n hx hb dL_decline_27 rfl (lv_at hl 0 rfl) ?_
  refine lv_aload_n hx hb dL_decline_28 rfl (lv_at hl 1 rfl) ?_
  refine em_calli (va_runV (As := [.ref lo]) (rest := []) ⟨hx, hb, hml, hown, hts⟩ (c_L_askNext_end l D T t0 X1 L1 tg1 _ (z_L_send_5 A pd g n w 6 0) ln th lo st rq (p_lw w) hth hlo (h1.ad e3).self (h1.ad e13).self (fun b hb hq => (h1.ad (e4x b hb (by rw [a1 13 (by decide)] at hq; exact hq))).self) (h1.ad e7).self (h1.ad e12).self hln hst hrq (by rw [a1 2 (by decide)]; exact q3) (by rw [a1 2 (by decide)]; exact q1) (p_lw_le hw) (by unfold z_L_send_5; rw [p_radd_5_6, p_radd_7 _ hw]) (clC_wr5 hpd hn hcl hLS h1) (by rw [a1 13 (by decide)]; exact hsk)) (cwV 1 hts gL_283 rfl rfl rfl (by decide +kernel) ⟨Nat.le_of_ble_eq_true rfl, Nat.le_of_ble_eq_true rfl⟩) (em_preV hK hN hV hZ hS hA hth (cC_0 _ _ _ _) rfl) rfl rfl hl.1 rfl (lv_room (Nat.le_of_ble_eq_true rfl)) dL_decline_29 ⟨Nat.le_of_ble_eq_true rfl, Nat.le_of_ble_eq_true rfl⟩) hV hS hA (fun r X2 L2 tg2 u2 H locs hp hV hS => ?_)
  obtain ⟨rfl, h2, eA2⟩ := hp
  have h2 : em_S ([]) X1 L1 tg1 X2 L2 tg2 := h2
  exact em_zret hx hb hr hlocks hV hS dL_decline_32 (by decide) ⟨rfl, h1.trans h2, eA2⟩
