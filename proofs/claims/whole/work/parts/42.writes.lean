theorem lsC_up {kl k : Nat} {t0 : Nat × Nat} {X : Nat → Nat → Nat} {L : List Nat} {tg : Nat → Nat × Nat} {A : ew_R} {d g n c i j : Nat} {x : Int32} (h : lsC kl k t0 X L tg A d g n) (h1 : ¬ kl = c) (h2 : ¬ k = c) : lsC kl k t0 X L tg (up3 A c i j x) d g n := by
  unfold lsC at h ⊢
  rw [up3_oth _ _ _ (fun z => h1 z.1), up3_oth _ _ _ (fun z => h2 z.1)]
  exact h

def z_L_requesterWrites (A : ew_R) (ln pd g n w : Nat) (stt kn tl : Int32) : ew_R := z_L_send_5 (up3 A 3 ln 0 stt) pd g n w kn tl
set_option maxHeartbeats 4000000 in
set_option maxRecDepth 100000 in
theorem c_L_requesterWrites (l : Launch) (D : va_G) (T : Nat → ClassId) (t0 : Nat × Nat) (X : Nat → Nat → Nat) (L : List Nat) (tg : Nat → Nat × Nat) (sz : Nat) (A : ew_R) (ln pd g n w th lo pg dl sd ll rw9 ce : Nat) (stt kn tl : Int32) (hd : pd < 192) (hn : n < 512) (hth : ew_in X L tg 0 0 th) (hsd : ew_in X L tg 5 pd sd) (hll : ew_in X L tg 8 pd ll) (hrow : ew_in X L tg 7 0 rw9) (hce : ew_in X L tg 12 0 ce) (hLS : lsC 8 14 t0 X L tg A pd g n) (hw : w ≤ 64) (qw : A 7 0 1 = nI w) (hcl : clC X L tg A) (hnl : ∀ b ∈ L, (6, 512 * pd + n) ≠ tg b) (hnew : ∀ b ∈ L, (14, 64 * pd + g + 1) ≠ tg b) (hlo : ew_in X L tg 2 ln lo) (hpg : ew_in X L tg 3 ln pg) (hdl : ew_in X L tg 4 pd dl) (q7 : A 2 ln 7 = nI pd) :
    Met l yL_requesterWrites wsL_requesterWrites ({ frames := 9, cells := 2, slots := 1004, locals := 290 }) (em_Pc D vwCl (tysA T) (cfC T) t0 X L tg A sz [.ref th, .ref lo, .int stt, .int kn, .int tl]) (em_Qi D vwCl (cfC T) L sz (fun r u => r = 1 ∧ em_S (nw_5 pd g n) X L tg u.1 u.2.1 u.2.2.1 ∧ u.2.2.2 = z_L_requesterWrites A ln pd g n w stt kn tl)) 2 1004 (ew_A L sz) := by
  refine em_met (by decide) rfl (Nat.le_of_ble_eq_true rfl) ?_
  intro p e s m below meth c ls hx hb hr hts hown hlocks hml hnm hV hK hN hZ hS hA hl hsz
  subst hsz
  have hl : lv_has ls 5 [(0, .ref th), (1, .ref lo), (2, .int stt), (3, .int kn), (4, .int tl)] := hl
  refine lv_aload_n hx hb dL_requesterWrites_0 rfl (lv_at hl 1 rfl) ?_
  refine ew_get (v := .ref pg) hx hb hts hown hK hV fL_107 hlo (cC_2 _ _ _ _) (congrArg (fun z => some (Value.ref z)) hpg.1) dL_requesterWrites_1 ?_
  refine lv_iload_n hx hb dL_requesterWrites_4 rfl (lv_at hl 2 rfl) ?_
  refine ew_put (ty := .int) hx hb hts hown hK hV hS fL_111 gPage hpg (cC_3 _ _ _ _) 0 _ (pC_3_0 _ _ _ _ _) rfl (by decide +kernel) rfl rfl (Nat.le_of_ble_eq_true rfl) dL_requesterWrites_5 (fun H locs hV hS => ?_)
  refine lv_aload_n hx hb dL_requesterWrites_8 rfl (lv_at hl 0 rfl) ?_
  refine lv_aload_n hx hb dL_requesterWrites_9 rfl (lv_at hl 1 rfl) ?_
  refine ew_get (v := .ref dl) hx hb hts hown hK hV fL_212 hlo (cC_2 _ _ _ _) (by show some (Value.ref (X 4 (up3 A 3 ln 0 stt 2 ln 7).toNatClampNeg)) = _; rw [up3_oth _ _ _ (by omega), q7, nI_clamp (by omega), hdl.1]) dL_requesterWrites_10 ?_
  refine ew_get (v := .ref sd) hx hb hts hown hK hV fL_169 hdl (cC_4 _ _ _ _) (congrArg (fun z => some (Value.ref z)) hsd.1) dL_requesterWrites_13 ?_
  refine lv_iload_n hx hb dL_requesterWrites_16 rfl (lv_at hl 3 rfl) ?_
  refine lv_iload hx hb dL_requesterWrites_17 (lv_at hl 4 rfl) ?_
  refine em_callv (va_runV (As := [.ref sd, .int kn, .int tl]) (rest := []) ⟨hx, hb, hml, hown, hts⟩ (c_L_send_5 l D T t0 X L tg _ (up3 A 3 ln 0 stt) pd g n w th sd ll rw9 ce kn tl hd hn hth hsd hll hrow hce (lsC_up hLS (by decide) (by decide)) hw (by rw [up3_oth _ _ _ (by omega)]; exact qw) (clC_up hcl (fun _ _ h => h)) hnl hnew) (cwV 3 hts gL_257 rfl rfl rfl (by decide +kernel) ⟨Nat.le_of_ble_eq_true rfl, Nat.le_of_ble_eq_true rfl⟩) (em_preV hK hN hV hZ hS hA hth (cC_0 _ _ _ _) rfl) rfl rfl hl.1 rfl (lv_room (Nat.le_of_ble_eq_true rfl)) dL_requesterWrites_19 ⟨Nat.le_of_ble_eq_true rfl, Nat.le_of_ble_eq_true rfl⟩) hV hS hA (fun X1 L1 tg1 u H locs hp hV hS => ?_)
  refine lv_iconst (v := 1) hx hb dL_requesterWrites_22 (by decide) ?_
  exact em_zret hx hb hr hlocks hV hS dL_requesterWrites_23 (by decide) ⟨rfl, hp⟩
def z_L_supplierWrites (A : ew_R) (d g n w : Nat) (stt kn tl : Int32) : ew_R := z_L_send_15 (up3 A 17 d 0 stt) d g n w kn tl
set_option maxHeartbeats 4000000 in
set_option maxRecDepth 100000 in
theorem c_L_supplierWrites (l : Launch) (D : va_G) (T : Nat → ClassId) (t0 : Nat × Nat) (X : Nat → Nat → Nat) (L : List Nat) (tg : Nat → Nat × Nat) (sz : Nat) (A : ew_R) (d g n w th dl pg sd ll rw9 ce : Nat) (stt kn tl : Int32) (hd : d < 192) (hn : n < 512) (hth : ew_in X L tg 0 0 th) (hsd : ew_in X L tg 15 d sd) (hll : ew_in X L tg 16 d ll) (hrow : ew_in X L tg 7 0 rw9) (hce : ew_in X L tg 12 0 ce) (hLS : lsC 16 20 t0 X L tg A d g n) (hw : w ≤ 64) (qw : A 7 0 1 = nI w) (hcl : clC X L tg A) (hnl : ∀ b ∈ L, (19, 512 * d + n) ≠ tg b) (hnew : ∀ b ∈ L, (20, 64 * d + g + 1) ≠ tg b) (hpg : ew_in X L tg 17 d pg) (hdl : ew_in X L tg 4 d dl) :
    Met l yL_supplierWrites wsL_supplierWrites ({ frames := 9, cells := 2, slots := 1004, locals := 290 }) (em_Pc D vwCl (tysA T) (cfC T) t0 X L tg A sz [.ref th, .ref dl, .int stt, .int kn, .int tl]) (em_Qi D vwCl (cfC T) L sz (fun r u => r = 1 ∧ em_S (nw_15 d g n) X L tg u.1 u.2.1 u.2.2.1 ∧ u.2.2.2 = z_L_supplierWrites A d g n w stt kn tl)) 2 1004 (ew_A L sz) := by
  refine em_met (by decide) rfl (Nat.le_of_ble_eq_true rfl) ?_
  intro p e s m below meth c ls hx hb hr hts hown hlocks hml hnm hV hK hN hZ hS hA hl hsz
  subst hsz
  have hl : lv_has ls 5 [(0, .ref th), (1, .ref dl), (2, .int stt), (3, .int kn), (4, .int tl)] := hl
  refine lv_aload_n hx hb dL_supplierWrites_0 rfl (lv_at hl 1 rfl) ?_
  refine ew_get (v := .ref pg) hx hb hts hown hK hV fL_128 hdl (cC_4 _ _ _ _) (congrArg (fun z => some (Value.ref z)) hpg.1) dL_supplierWrites_1 ?_
  refine lv_iload_n hx hb dL_supplierWrites_4 rfl (lv_at hl 2 rfl) ?_
  refine ew_put (ty := .int) hx hb hts hown hK hV hS fL_111 gPage hpg (cC_17 _ _ _ _) 0 _ (pC_17_0 _ _ _ _ _) rfl (by decide +kernel) rfl rfl (Nat.le_of_ble_eq_true rfl) dL_supplierWrites_5 (fun H locs hV hS => ?_)
  refine lv_aload_n hx hb dL_supplierWrites_8 rfl (lv_at hl 0 rfl) ?_
  refine lv_aload_n hx hb dL_supplierWrites_9 rfl (lv_at hl 1 rfl) ?_
  refine ew_get (v := .ref sd) hx hb hts hown hK hV fL_173 hdl (cC_4 _ _ _ _) (congrArg (fun z => some (Value.ref z)) hsd.1) dL_supplierWrites_10 ?_
  refine lv_iload_n hx hb dL_supplierWrites_13 rfl (lv_at hl 3 rfl) ?_
  refine lv_iload hx hb dL_supplierWrites_14 (lv_at hl 4 rfl) ?_
  refine em_callv (va_runV (As := [.ref sd, .int kn, .int tl]) (rest := []) ⟨hx, hb, hml, hown, hts⟩ (c_L_send_15 l D T t0 X L tg _ (up3 A 17 d 0 stt) d g n w th sd ll rw9 ce kn tl hd hn hth hsd hll hrow hce (lsC_up hLS (by decide) (by decide)) hw (by rw [up3_oth _ _ _ (by omega)]; exact qw) (clC_up hcl (fun _ _ h => h)) hnl hnew) (cwV 3 hts gL_257 rfl rfl rfl (by decide +kernel) ⟨Nat.le_of_ble_eq_true rfl, Nat.le_of_ble_eq_true rfl⟩) (em_preV hK hN hV hZ hS hA hth (cC_0 _ _ _ _) rfl) rfl rfl hl.1 rfl (lv_room (Nat.le_of_ble_eq_true rfl)) dL_supplierWrites_16 ⟨Nat.le_of_ble_eq_true rfl, Nat.le_of_ble_eq_true rfl⟩) hV hS hA (fun X1 L1 tg1 u H locs hp hV hS => ?_)
  refine lv_iconst (v := 1) hx hb dL_supplierWrites_19 (by decide) ?_
  exact em_zret hx hb hr hlocks hV hS dL_supplierWrites_20 (by decide) ⟨rfl, hp⟩
