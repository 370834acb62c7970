theorem z_Side_write_5_oth (A : ew_R) (d g n : Nat) (kn tl : Int32) (c i : Nat) (h1 : ¬ c = 6) (h2 : ¬ c = 14) (h3 : ¬ (c = 8 ∧ i = d)) : z_Side_write_5 A d g n kn tl c i = A c i := by
  have hk : ∀ j, ¬ (c = 14 ∧ i = j) := fun _ z => h2 z.1
  have ht : ∀ j, ¬ (c = 6 ∧ i = j) := fun _ z => h1 z.1
  unfold z_Side_write_5
  split
  · show up3 (up3 (up3 (z_wl_6 A d n kn tl) 8 d 0 _) 14 _ 1001 _) 8 d 2 _ c i = _
    rw [up3_oth _ _ _ h3, up3_oth _ _ _ (hk _), up3_oth _ _ _ h3, z_wl_6_oth _ _ _ _ _ _ _ (ht _)]
  · split
    · show up3 (up3 (up3 (z_ga 14 (up3 (z_wl_6 A d 0 kn tl) 8 d 0 _) _ 10) 8 d 1 _) 14 _ 1001 _) 8 d 2 _ c i = _
      rw [up3_oth _ _ _ h3, up3_oth _ _ _ (hk _), up3_oth _ _ _ h3, z_ga_oth _ _ _ _ _ _ (hk _), up3_oth _ _ _ h3, z_wl_6_oth _ _ _ _ _ _ _ (ht _)]
    · show up3 (up3 (up3 (z_gr 14 (up3 (z_wl_6 A d n kn tl) 8 d 0 _) _ n _) 8 d 1 _) 14 _ 1001 _) 8 d 2 _ c i = _
      unfold z_gr
      rw [up3_oth _ _ _ h3, up3_oth _ _ _ (hk _), up3_oth _ _ _ h3, up3_oth _ _ _ (hk _), up3_oth _ _ _ (hk _), up3_oth _ _ _ (hk _), up3_oth _ _ _ h3, z_wl_6_oth _ _ _ _ _ _ _ (ht _)]
theorem nw_5_le (d g n : Nat) : (6, 512 * d + n) ∈ nw_5 d g n := by
  unfold nw_5
  split <;> simp
def z_L_send_5 (A : ew_R) (d g n w : Nat) (kn tl : Int32) : ew_R := z_Row_add_5_6 (z_Side_write_5 A d g n kn tl) d (512 * d + n) w
set_option maxHeartbeats 4000000 in
set_option maxRecDepth 100000 in
theorem c_L_send_5 (l : Launch) (D : va_G) (T : Nat → ClassId) (t0 : Nat × Nat) (X : Nat → Nat → Nat) (L : List Nat) (tg : Nat → Nat × Nat) (sz : Nat) (A : ew_R) (d g n w th sd ll rw9 ce : Nat) (kn tl : Int32) (hd : d < 192) (hn : n < 512) (hth : ew_in X L tg 0 0 th) (hsd : ew_in X L tg 5 d sd) (hll : ew_in X L tg 8 d ll) (hrow : ew_in X L tg 7 0 rw9) (hce : ew_in X L tg 12 0 ce) (hLS : lsC 8 14 t0 X L tg A d g n) (hw : w ≤ 64) (qw : A 7 0 1 = nI w) (hcl : clC X L tg A) (hnl : ∀ b ∈ L, (6, 512 * d + n) ≠ tg b) (hnew : ∀ b ∈ L, (14, 64 * d + g + 1) ≠ tg b) :
    Met l yL_send wsL_send ({ frames := 8, cells := 2, slots := 1004, locals := 260 }) (em_Pc D vwCl (tysA T) (cfC T) t0 X L tg A sz [.ref th, .ref sd, .int kn, .int tl]) (em_Qv D vwCl (cfC T) L sz (fun u => em_S (nw_5 d g n) X L tg u.1 u.2.1 u.2.2.1 ∧ u.2.2.2 = z_L_send_5 A d g n w kn tl)) 2 1004 (ew_A L sz) := by
  refine em_met (by decide) rfl (Nat.le_of_ble_eq_true rfl) ?_
  intro p e s m below meth c ls hx hb hr hts hown hlocks hml hnm hV hK hN hZ hS hA hl hsz
  subst hsz
  have hl : lv_has ls 4 [(0, .ref th), (1, .ref sd), (2, .int kn), (3, .int tl)] := hl
  refine lv_aload_n hx hb dL_send_0 rfl (lv_at hl 1 rfl) ?_
  refine er_calli (va_runV (As := []) (rest := []) ⟨hx, hb, hml, hown, hts⟩ (c_Side_isFull_5 l D T X L tg _ A d sd hsd n hll.self hn hLS.2.2.2.1) (cwV 0 hts gL_249 rfl rfl rfl (by decide +kernel) ⟨Nat.le_of_ble_eq_true rfl, Nat.le_of_ble_eq_true rfl⟩) (ec_preV hK hN hV hsd (cC_5 _ _ _ _) rfl) rfl rfl hl.1 rfl (lv_room (Nat.le_of_ble_eq_true rfl)) dL_send_1 ⟨Nat.le_of_ble_eq_true rfl, Nat.le_of_ble_eq_true rfl⟩) hV hS hA (fun r u H locs hp hV hS => ?_)
  obtain ⟨rfl, eu9⟩ := hp
  rw [eu9] at hV
  refine lv_if_ne (tgt := 21) hx hb dL_send_4 rfl (fun h9 => absurd rfl h9) (fun _ => ?_)
  refine lv_aload_n hx hb dL_send_7 rfl (lv_at hl 0 rfl) ?_
  refine ew_get (v := .ref rw9) hx hb hts hown hK hV fL_28 hth (cC_0 _ _ _ _) (congrArg (fun z => some (Value.ref z)) hrow.1) dL_send_8 ?_
  refine lv_aload_n hx hb dL_send_11 rfl (lv_at hl 1 rfl) ?_
  refine lv_aload_n hx hb dL_send_12 rfl (lv_at hl 1 rfl) ?_
  refine lv_iload_n hx hb dL_send_13 rfl (lv_at hl 2 rfl) ?_
  refine lv_iload_n hx hb dL_send_14 rfl (lv_at hl 3 rfl) ?_
  refine em_callq (va_runV (As := [.int kn, .int tl]) (rest := [.ref sd, .ref rw9]) ⟨hx, hb, hml, hown, hts⟩ (c_Side_write_5 l D T t0 X L tg _ A d g n sd ll kn tl hd hn hsd hll hLS hcl hnl hnew) (cwV 2 hts gL_253 rfl rfl rfl (by decide +kernel) ⟨Nat.le_of_ble_eq_true rfl, Nat.le_of_ble_eq_true rfl⟩) (em_preV hK hN hV hZ hS hA hsd (cC_5 _ _ _ _) rfl) rfl rfl hl.1 rfl (lv_room (Nat.le_of_ble_eq_true rfl)) dL_send_15 ⟨Nat.le_of_ble_eq_true rfl, Nat.le_of_ble_eq_true rfl⟩) hV hS hA (fun r X1 L1 tg1 u H locs hp hV hS => ?_)
  obtain ⟨e1, h1, eu⟩ := hp
  have e1 : r = some (X1 6 (512 * d + n)) := e1
  have eu : u = (z_Side_write_5 A d g n kn tl) := eu
  subst e1
  subst eu
  refine er_callv (va_runV (As := [.ref sd, .ref (X1 6 (512 * d + n))]) (rest := []) ⟨hx, hb, hml, hown, hts⟩ (c_Row_add_5_6 l D T X1 L1 tg1 _ (z_Side_write_5 A d g n kn tl) d (512 * d + n) rw9 (h1.ad hrow) sd (h1.ad hsd) (X1 6 (512 * d + n)) (h1.2.2.1 (6, (512 * d + n)) (nw_5_le d g n)) w (h1.ad hce).self hw (by rw [z_Side_write_5_oth _ _ _ _ _ _ 7 0 (by decide) (by decide) (by omega)]; exact qw)) (cwV 2 hts gL_159 rfl rfl rfl (by decide +kernel) ⟨Nat.le_of_ble_eq_true rfl, Nat.le_of_ble_eq_true rfl⟩) (ec_preV hK hN hV (h1.ad hrow) (cC_7 _ _ _ _) rfl) rfl rfl hl.1 rfl (lv_room (Nat.le_of_ble_eq_true rfl)) dL_send_18 ⟨Nat.le_of_ble_eq_true rfl, Nat.le_of_ble_eq_true rfl⟩) hV hS hA (fun u H locs eu hV hS => ?_)
  exact em_vret hx hb hr hlocks hV hS dL_send_21 ⟨h1, eu⟩
theorem z_Side_write_15_oth (A : ew_R) (d g n : Nat) (kn tl : Int32) (c i : Nat) (h1 : ¬ c = 19) (h2 : ¬ c = 20) (h3 : ¬ (c = 16 ∧ i = d)) : z_Side_write_15 A d g n kn tl c i = A c i := by
  have hk : ∀ j, ¬ (c = 20 ∧ i = j) := fun _ z => h2 z.1
  have ht : ∀ j, ¬ (c = 19 ∧ i = j) := fun _ z => h1 z.1
  unfold z_Side_write_15
  split
  · show up3 (up3 (up3 (z_wl_19 A d n kn tl) 16 d 0 _) 20 _ 1001 _) 16 d 2 _ c i = _
    rw [up3_oth _ _ _ h3, up3_oth _ _ _ (hk _), up3_oth _ _ _ h3, z_wl_19_oth _ _ _ _ _ _ _ (ht _)]
  · split
    · show up3 (up3 (up3 (z_ga 20 (up3 (z_wl_19 A d 0 kn tl) 16 d 0 _) _ 10) 16 d 1 _) 20 _ 1001 _) 16 d 2 _ c i = _
      rw [up3_oth _ _ _ h3, up3_oth _ _ _ (hk _), up3_oth _ _ _ h3, z_ga_oth _ _ _ _ _ _ (hk _), up3_oth _ _ _ h3, z_wl_19_oth _ _ _ _ _ _ _ (ht _)]
    · show up3 (up3 (up3 (z_gr 20 (up3 (z_wl_19 A d n kn tl) 16 d 0 _) _ n _) 16 d 1 _) 20 _ 1001 _) 16 d 2 _ c i = _
      unfold z_gr
      rw [up3_oth _ _ _ h3, up3_oth _ _ _ (hk _), up3_oth _ _ _ h3, up3_oth _ _ _ (hk _), up3_oth _ _ _ (hk _), up3_oth _ _ _ (hk _), up3_oth _ _ _ h3, z_wl_19_oth _ _ _ _ _ _ _ (ht _)]
theorem nw_15_le (d g n : Nat) : (19, 512 * d + n) ∈ nw_15 d g n := by
  unfold nw_15
  split <;> simp
def z_L_send_15 (A : ew_R) (d g n w : Nat) (kn tl : Int32) : ew_R := z_Row_add_15_19 (z_Side_write_15 A d g n kn tl) d (512 * d + n) w
set_option maxHeartbeats 4000000 in
set_option maxRecDepth 100000 in
theorem c_L_send_15 (l : Launch) (D : va_G) (T : Nat → ClassId) (t0 : Nat × Nat) (X : Nat → Nat → Nat) (L : List Nat) (tg : Nat → Nat × Nat) (sz : Nat) (A : ew_R) (d g n w th sd ll rw9 ce : Nat) (kn tl : Int32) (hd : d < 192) (hn : n < 512) (hth : ew_in X L tg 0 0 th) (hsd : ew_in X L tg 15 d sd) (hll : ew_in X L tg 16 d ll) (hrow : ew_in X L tg 7 0 rw9) (hce : ew_in X L tg 12 0 ce) (hLS : lsC 16 20 t0 X L tg A d g n) (hw : w ≤ 64) (qw : A 7 0 1 = nI w) (hcl : clC X L tg A) (hnl : ∀ b ∈ L, (19, 512 * d + n) ≠ tg b) (hnew : ∀ b ∈ L, (20, 64 * d + g + 1) ≠ tg b) :
    Met l yL_send wsL_send ({ frames := 8, cells := 2, slots := 1004, locals := 260 }) (em_Pc D vwCl (tysA T) (cfC T) t0 X L tg A sz [.ref th, .ref sd, .int kn, .int tl]) (em_Qv D vwCl (cfC T) L sz (fun u => em_S (nw_15 d g n) X L tg u.1 u.2.1 u.2.2.1 ∧ u.2.2.2 = z_L_send_15 A d g n w kn tl)) 2 1004 (ew_A L sz) := by
  refine em_met (by decide) rfl (Nat.le_of_ble_eq_true rfl) ?_
  intro p e s m below meth c ls hx hb hr hts hown hlocks hml hnm hV hK hN hZ hS hA hl hsz
  subst hsz
  have hl : lv_has ls 4 [(0, .ref th), (1, .ref sd), (2, .int kn), (3, .int tl)] := hl
  refine lv_aload_n hx hb dL_send_0 rfl (lv_at hl 1 rfl) ?_
  refine er_calli (va_runV (As := []) (rest := []) ⟨hx, hb, hml, hown, hts⟩ (c_Side_isFull_15 l D T X L tg _ A d sd hsd n hll.self hn hLS.2.2.2.1) (cwV 0 hts gL_249 rfl rfl rfl (by decide +kernel) ⟨Nat.le_of_ble_eq_true rfl, Nat.le_of_ble_eq_true rfl⟩) (ec_preV hK hN hV hsd (cC_15 _ _ _ _) rfl) rfl rfl hl.1 rfl (lv_room (Nat.le_of_ble_eq_true rfl)) dL_send_1 ⟨Nat.le_of_ble_eq_true rfl, Nat.le_of_ble_eq_true rfl⟩) hV hS hA (fun r u H locs hp hV hS => ?_)
  obtain ⟨rfl, eu9⟩ := hp
  rw [eu9] at hV
  refine lv_if_ne (tgt := 21) hx hb dL_send_4 rfl (fun h9 => absurd rfl h9) (fun _ => ?_)
  refine lv_aload_n hx hb dL_send_7 rfl (lv_at hl 0 rfl) ?_
  refine ew_get (v := .ref rw9) hx hb hts hown hK hV fL_28 hth (cC_0 _ _ _ _) (congrArg (fun z => some (Value.ref z)) hrow.1) dL_send_8 ?_
  refine lv_aload_n hx hb dL_send_11 rfl (lv_at hl 1 rfl) ?_
  refine lv_aload_n hx hb dL_send_12 rfl (lv_at hl 1 rfl) ?_
  refine lv_iload_n hx hb dL_send_13 rfl (lv_at hl 2 rfl) ?_
  refine lv_iload_n hx hb dL_send_14 rfl (lv_at hl 3 rfl) ?_
  refine em_callq (va_runV (As := [.int kn, .int tl]) (rest := [.ref sd, .ref rw9]) ⟨hx, hb, hml, hown, hts⟩ (c_Side_write_15 l D T t0 X L tg _ A d g n sd ll kn tl hd hn hsd hll hLS hcl hnl hnew) (cwV 2 hts gL_253 rfl rfl rfl (by decide +kernel) ⟨Nat.le_of_ble_eq_true rfl, Nat.le_of_ble_eq_true rfl⟩) (em_preV hK hN hV hZ hS hA hsd (cC_15 _ _ _ _) rfl) rfl rfl hl.1 rfl (lv_room (Nat.le_of_ble_eq_true rfl)) dL_send_15 ⟨Nat.le_of_ble_eq_true rfl, Nat.le_of_ble_eq_true rfl⟩) hV hS hA (fun r X1 L1 tg1 u H locs hp hV hS => ?_)
  obtain ⟨e1, h1, eu⟩ := hp
  have e1 : r = some (X1 19 (512 * d + n)) := e1
  have eu : u = (z_Side_write_15 A d g n kn tl) := eu
  subst e1
  subst eu
  refine er_callv (va_runV (As := [.ref sd, .ref (X1 19 (512 * d + n))]) (rest := []) ⟨hx, hb, hml, hown, hts⟩ (c_Row_add_15_19 l D T X1 L1 tg1 _ (z_Side_write_15 A d g n kn tl) d (512 * d + n) rw9 (h1.ad hrow) sd (h1.ad hsd) (X1 19 (512 * d + n)) (h1.2.2.1 (19, (512 * d + n)) (nw_15_le d g n)) w (h1.ad hce).self hw (by rw [z_Side_write_15_oth _ _ _ _ _ _ 7 0 (by decide) (by decide) (by omega)]; exact qw)) (cwV 2 hts gL_159 rfl rfl rfl (by decide +kernel) ⟨Nat.le_of_ble_eq_true rfl, Nat.le_of_ble_eq_true rfl⟩) (ec_preV hK hN hV (h1.ad hrow) (cC_7 _ _ _ _) rfl) rfl rfl hl.1 rfl (lv_room (Nat.le_of_ble_eq_true rfl)) dL_send_18 ⟨Nat.le_of_ble_eq_true rfl, Nat.le_of_ble_eq_true rfl⟩) hV hS hA (fun u H locs eu hV hS => ?_)
  exact em_vret hx hb hr hlocks hV hS dL_send_21 ⟨h1, eu⟩
