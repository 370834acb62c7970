set_option maxHeartbeats 4000000 in
set_option maxRecDepth 100000 in
theorem c_L_decline_no (l : Launch) (D : va_G) (T : Nat → ClassId) (X : Nat → Nat → Nat) (L : List Nat) (tg : Nat → Nat × Nat) (sz : Nat) (A : ew_R) (ln : Nat) (th : Nat) (hth : ew_in X L tg 0 0 th) (lo : Nat) (hlo : ew_in X L tg 2 ln lo) (e3_0 : ew_in X L tg 3 ln (X 3 ln)) (hst : ¬ A 3 ln 0 = 1) : Met l yL_decline wsL_decline ({ frames := 10, cells := 0, slots := 0, locals := 224 }) (ec_Pc D vwCl (tysA T) (cfC T) X L tg A sz [.ref th, .ref lo]) (er_Qi D vwCl (cfC T) X L tg sz (fun r u => r = 0 ∧ u = A)) 0 0 (ew_A L sz) := by
  refine ec_met (by decide) rfl (Nat.le_of_ble_eq_true rfl) ?_
  intro p e s m below meth c ls hx hb hr hts hown hlocks hml hV hK hN hS hA hl hsz
  subst hsz
  have hl : lv_has ls 2 [(0, .ref th), (1, .ref lo)] := hl
  refine lv_aload_n hx hb dL_decline_0 rfl (lv_at hl 1 rfl) ?_
  refine ew_get (v := .ref (X 3 ln)) hx hb hts hown hK hV fL_107 hlo (cC_2 _ _ _ _) rfl dL_decline_1 ?_
  refine ew_get (v := .int (A 3 ln 0)) hx hb hts hown hK hV fL_111 e3_0 (cC_3 _ _ _ _) rfl dL_decline_4 ?_
  refine lv_iconst (v := 1) hx hb dL_decline_7 (by decide) ?_
  refine lv_icmp_eq (tgt := 13) hx hb dL_decline_8 rfl (fun h9 => absurd h9 hst) (fun _ => ?_)
  refine lv_iconst (v := 0) hx hb dL_decline_11 (by decide) ?_
  exact er_zret hx hb hr hlocks hV hS dL_decline_12 (by decide) ⟨rfl, rfl⟩

set_option maxHeartbeats 4000000 in
set_option maxRecDepth 100000 in
theorem c_L_rd_decline_no (l : Launch) (D : va_G) (T : Nat → ClassId) (X : Nat → Nat → Nat) (L : List Nat) (tg : Nat → Nat × Nat) (sz : Nat) (A : ew_R) (ln : Nat) (th : Nat) (hth : ew_in X L tg 0 0 th) (lo : Nat) (hlo : ew_in X L tg 2 ln lo) (e3_0 : ew_in X L tg 3 ln (X 3 ln)) (hst : ¬ A 3 ln 0 = 1) : Met l yL_requesterDoes wsL_requesterDoes ({ frames := 11, cells := 0, slots := 0, locals := 249 }) (ec_Pc D vwCl (tysA T) (cfC T) X L tg A sz [.ref th, .ref lo, .int 1]) (er_Qi D vwCl (cfC T) X L tg sz (fun r u => r = 0 ∧ u = A)) 0 0 (ew_A L sz) := by
  refine ec_met (by decide) rfl (Nat.le_of_ble_eq_true rfl) ?_
  intro p e s m below meth c ls hx hb hr hts hown hlocks hml hV hK hN hS hA hl hsz
  subst hsz
  have hl : lv_has ls 3 [(0, .ref th), (1, .ref lo), (2, .int 1)] := hl
  refine lv_iload_n hx hb dL_requesterDoes_0 rfl (lv_at hl 2 rfl) ?_
  refine lv_tableIn (tgt := 50) hx hb dL_requesterDoes_1 (by decide) (by decide) rfl rfl ?_
  refine lv_aload_n hx hb dL_requesterDoes_50 rfl (lv_at hl 0 rfl) ?_
  refine lv_aload_n hx hb dL_requesterDoes_51 rfl (lv_at hl 1 rfl) ?_
  refine er_calli (va_runV (As := [.ref lo]) (rest := []) ⟨hx, hb, hml, hown, hts⟩ (c_L_decline_no l D T X L tg _ A ln th hth lo hlo e3_0 hst) (cwV 1 hts gL_265 rfl rfl rfl (by decide +kernel) ⟨Nat.le_of_ble_eq_true rfl, Nat.le_of_ble_eq_true rfl⟩) (ec_preV hK hN hV hth (cC_0 _ _ _ _) rfl) rfl rfl hl.1 rfl (lv_room (Nat.le_of_ble_eq_true rfl)) dL_requesterDoes_52 ⟨Nat.le_of_ble_eq_true rfl, Nat.le_of_ble_eq_true rfl⟩) hV hS hA (fun r u H locs hp hV hS => ?_)
  obtain ⟨rfl, eu9⟩ := hp
  rw [eu9] at hV
  exact er_zret hx hb hr hlocks hV hS dL_requesterDoes_55 (by decide) ⟨rfl, rfl⟩

def z_L_hears_10 (A : ew_R) (ln : Nat) (t : Nat) : ew_R :=
  if A 19 t 1 = 4 then
    up3 A 3 ln 0 11
  else
    if A 19 t 1 = 16 then
      up3 A 3 ln 0 11
    else
      A
set_option maxHeartbeats 4000000 in
set_option maxRecDepth 100000 in
theorem c_L_hears_10 (l : Launch) (D : va_G) (T : Nat → ClassId) (X : Nat → Nat → Nat) (L : List Nat) (tg : Nat → Nat × Nat) (sz : Nat) (A : ew_R) (ln : Nat) (t : Nat) (th : Nat) (hth : ew_in X L tg 0 0 th) (lo : Nat) (hlo : ew_in X L tg 2 ln lo) (lt : Nat) (hlt : ew_in X L tg 19 t lt) (e3_0 : ew_in X L tg 3 ln (X 3 ln)) (hst : A 3 ln 0 = 10) : Met l yL_requesterHearsAnswer wsL_requesterHearsAnswer ({ frames := 10, cells := 0, slots := 0, locals := 224 }) (ec_Pc D vwCl (tysA T) (cfC T) X L tg A sz [.ref th, .ref lo, .ref lt]) (er_Qv D vwCl (cfC T) X L tg sz (fun u => u = z_L_hears_10 A ln t)) 0 0 (ew_A L sz) := by
  refine ec_met (by decide) rfl (Nat.le_of_ble_eq_true rfl) ?_
  intro p e s m below meth c ls hx hb hr hts hown hlocks hml hV hK hN hS hA hl hsz
  subst hsz
  have hl : lv_has ls 4 [(0, .ref th), (1, .ref lo), (2, .ref lt)] := hl
  refine lv_aload_n hx hb dL_requesterHearsAnswer_0 rfl (lv_at hl 1 rfl) ?_
  refine ew_get (v := .ref (X 3 ln)) hx hb hts hown hK hV fL_107 hlo (cC_2 _ _ _ _) rfl dL_requesterHearsAnswer_1 ?_
  refine lv_astore_n (lv' := [(3, .ref (X 3 ln)), (0, .ref th), (1, .ref lo), (2, .ref lt)]) hx hb dL_requesterHearsAnswer_4 rfl hl (by decide) rfl (fun ls hl => ?_)
  refine lv_aload_n hx hb dL_requesterHearsAnswer_5 rfl (lv_at hl 0 rfl) ?_
  refine ew_get (v := .int (A 3 ln 0)) hx hb hts hown hK hV fL_111 e3_0 (cC_3 _ _ _ _) rfl dL_requesterHearsAnswer_6 ?_
  refine lv_bipush (v := 10) hx hb dL_requesterHearsAnswer_9 (by decide) ?_
  refine lv_icmp_ne (tgt := 40) hx hb dL_requesterHearsAnswer_11 rfl (fun h9 => absurd hst h9) (fun _ => ?_)
  refine lv_aload_n hx hb dL_requesterHearsAnswer_14 rfl (lv_at hl 3 rfl) ?_
  refine ew_get (v := .int (A 19 t 1)) hx hb hts hown hK hV fL_350 hlt (cC_19 _ _ _ _) rfl dL_requesterHearsAnswer_15 ?_
  refine lv_iconst (v := 4) hx hb dL_requesterHearsAnswer_18 (by decide) ?_
  refine lv_icmp_eq (tgt := 31) hx hb dL_requesterHearsAnswer_19 rfl (fun h1 => ?_) (fun h1 => ?_)
  · refine lv_aload_n hx hb dL_requesterHearsAnswer_31 rfl (lv_at hl 0 rfl) ?_
    refine lv_bipush (v := 11) hx hb dL_requesterHearsAnswer_32 (by decide) ?_
    refine ew_put (ty := .int) hx hb hts hown hK hV hS fL_111 gPage e3_0 (cC_3 _ _ _ _) 0 _ (pC_3_0 _ _ _ _ _) rfl (by decide +kernel) rfl rfl (Nat.le_of_ble_eq_true rfl) dL_requesterHearsAnswer_34 (fun H locs hV hS => ?_)
    refine lv_goto (tgt := 101) hx hb dL_requesterHearsAnswer_37 rfl ?_
    exact er_vret hx hb hr hlocks hV hS dL_requesterHearsAnswer_101 (Eq.symm (by unfold z_L_hears_10; simp only [if_pos h1]))
  · refine lv_aload_n hx hb dL_requesterHearsAnswer_22 rfl (lv_at hl 3 rfl) ?_
    refine ew_get (v := .int (A 19 t 1)) hx hb hts hown hK hV fL_350 hlt (cC_19 _ _ _ _) rfl dL_requesterHearsAnswer_23 ?_
    refine lv_bipush (v := 16) hx hb dL_requesterHearsAnswer_26 (by decide) ?_
    refine lv_icmp_ne (tgt := 101) hx hb dL_requesterHearsAnswer_28 rfl (fun h2 => ?_) (fun h2 => ?_)
    · exact er_vret hx hb hr hlocks hV hS dL_requesterHearsAnswer_101 (Eq.symm (by unfold z_L_hears_10; simp only [if_neg h1, if_neg h2]))
    · refine lv_aload_n hx hb dL_requesterHearsAnswer_31 rfl (lv_at hl 0 rfl) ?_
      refine lv_bipush (v := 11) hx hb dL_requesterHearsAnswer_32 (by decide) ?_
      refine ew_put (ty := .int) hx hb hts hown hK hV hS fL_111 gPage e3_0 (cC_3 _ _ _ _) 0 _ (pC_3_0 _ _ _ _ _) rfl (by decide +kernel) rfl rfl (Nat.le_of_ble_eq_true rfl) dL_requesterHearsAnswer_34 (fun H locs hV hS => ?_)
      refine lv_goto (tgt := 101) hx hb dL_requesterHearsAnswer_37 rfl ?_
      exact er_vret hx hb hr hlocks hV hS dL_requesterHearsAnswer_101 (Eq.symm (by unfold z_L_hears_10; simp only [if_neg h1, if_pos h2]))

def z_L_hears_0 (A : ew_R) (ln : Nat) (t : Nat) : ew_R :=
  if A 19 t 1 = 2 then
    up3 A 3 ln 0 2
  else
    if A 19 t 1 = 3 then
      up3 (up3 A 3 ln 0 1) 3 ln 2 (A 19 t 2)
    else
      A
set_option maxHeartbeats 4000000 in
set_option maxRecDepth 100000 in
theorem c_L_hears_0 (l : Launch) (D : va_G) (T : Nat → ClassId) (X : Nat → Nat → Nat) (L : List Nat) (tg : Nat → Nat × Nat) (sz : Nat) (A : ew_R) (ln : Nat) (t : Nat) (th : Nat) (hth : ew_in X L tg 0 0 th) (lo : Nat) (hlo : ew_in X L tg 2 ln lo) (lt : Nat) (hlt : ew_in X L tg 19 t lt) (e3_0 : ew_in X L tg 3 ln (X 3 ln)) (hst : A 3 ln 0 = 0) (hk4 : ¬ A 19 t 1 = 4) : Met l yL_requesterHearsAnswer wsL_requesterHearsAnswer ({ frames := 10, cells := 0, slots := 0, locals := 224 }) (ec_Pc D vwCl (tysA T) (cfC T) X L tg A sz [.ref th, .ref lo, .ref lt]) (er_Qv D vwCl (cfC T) X L tg sz (fun u => u = z_L_hears_0 A ln t)) 0 0 (ew_A L sz) := by
  refine ec_met (by decide) rfl (Nat.le_of_ble_eq_true rfl) ?_
  intro p e s m below meth c ls hx hb hr hts hown hlocks hml hV hK hN hS hA hl hsz
  subst hsz
  have hl : lv_has ls 4 [(0, .ref th), (1, .ref lo), (2, .ref lt)] := hl
  refine lv_aload_n hx hb dL_requesterHearsAnswer_0 rfl (lv_at hl 1 rfl) ?_
  refine ew_get (v := .ref (X 3 ln)) hx hb hts hown hK hV fL_107 hlo (cC_2 _ _ _ _) rfl dL_requesterHearsAnswer_1 ?_
  refine lv_astore_n (lv' := [(3, .ref (X 3 ln)), (0, .ref th), (1, .ref lo), (2, .ref lt)]) hx hb dL_requesterHearsAnswer_4 rfl hl (by decide) rfl (fun ls hl => ?_)
  refine lv_aload_n hx hb dL_requesterHearsAnswer_5 rfl (lv_at hl 0 rfl) ?_
  refine ew_get (v := .int (A 3 ln 0)) hx hb hts hown hK hV fL_111 e3_0 (cC_3 _ _ _ _) rfl dL_requesterHearsAnswer_6 ?_
  refine lv_bipush (v := 10) hx hb dL_requesterHearsAnswer_9 (by decide) ?_
  refine lv_icmp_ne (tgt := 40) hx hb dL_requesterHearsAnswer_11 rfl (fun _ => ?_) (fun h9 => absurd h9 (i3_ne2 hst (by decide)))
  refine lv_aload_n hx hb dL_requesterHearsAnswer_40 rfl (lv_at hl 0 rfl) ?_
  refine ew_get (v := .int (A 3 ln 0)) hx hb hts hown hK hV fL_111 e3_0 (cC_3 _ _ _ _) rfl dL_requesterHearsAnswer_41 ?_
  refine lv_if_ne (tgt := 101) hx hb dL_requesterHearsAnswer_44 rfl (fun h9 => absurd hst h9) (fun _ => ?_)
  refine lv_aload_n hx hb dL_requesterHearsAnswer_47 rfl (lv_at hl 3 rfl) ?_
  refine ew_get (v := .int (A 19 t 1)) hx hb hts hown hK hV fL_350 hlt (cC_19 _ _ _ _) rfl dL_requesterHearsAnswer_48 ?_
  refine lv_iconst (v := 2) hx hb dL_requesterHearsAnswer_51 (by decide) ?_
  refine lv_icmp_ne (tgt := 63) hx hb dL_requesterHearsAnswer_52 rfl (fun h1 => ?_) (fun h1 => ?_)
  · refine lv_aload_n hx hb dL_requesterHearsAnswer_63 rfl (lv_at hl 3 rfl) ?_
    refine ew_get (v := .int (A 19 t 1)) hx hb hts hown hK hV fL_350 hlt (cC_19 _ _ _ _) rfl dL_requesterHearsAnswer_64 ?_
    refine lv_iconst (v := 3) hx hb dL_requesterHearsAnswer_67 (by decide) ?_
    refine lv_icmp_ne (tgt := 87) hx hb dL_requesterHearsAnswer_68 rfl (fun h2 => ?_) (fun h2 => ?_)
    · refine lv_aload_n hx hb dL_requesterHearsAnswer_87 rfl (lv_at hl 3 rfl) ?_
      refine ew_get (v := .int (A 19 t 1)) hx hb hts hown hK hV fL_350 hlt (cC_19 _ _ _ _) rfl dL_requesterHearsAnswer_88 ?_
      refine lv_iconst (v := 4) hx hb dL_requesterHearsAnswer_91 (by decide) ?_
      refine lv_icmp_ne (tgt := 101) hx hb dL_requesterHearsAnswer_92 rfl (fun _ => ?_) (fun h9 => absurd h9 hk4)
      exact er_vret hx hb hr hlocks hV hS dL_requesterHearsAnswer_101 (Eq.symm (by unfold z_L_hears_0; simp only [if_neg h1, if_neg h2]))
    · refine lv_aload_n hx hb dL_requesterHearsAnswer_71 rfl (lv_at hl 0 rfl) ?_
      refine lv_iconst (v := 1) hx hb dL_requesterHearsAnswer_72 (by decide) ?_
      refine ew_put (ty := .int) hx hb hts hown hK hV hS fL_111 gPage e3_0 (cC_3 _ _ _ _) 0 _ (pC_3_0 _ _ _ _ _) rfl (by decide +kernel) rfl rfl (Nat.le_of_ble_eq_true rfl) dL_requesterHearsAnswer_73 (fun H locs hV hS => ?_)
      refine lv_aload_n hx hb dL_requesterHearsAnswer_76 rfl (lv_at hl 0 rfl) ?_
      refine lv_aload_n hx hb dL_requesterHearsAnswer_77 rfl (lv_at hl 3 rfl) ?_
      refine ew_get (v := .int (A 19 t 2)) hx hb hts hown hK hV fL_378 hlt (cC_19 _ _ _ _) rfl dL_requesterHearsAnswer_78 ?_
      refine ew_put (ty := .int) hx hb hts hown hK hV hS fL_243 gPage e3_0 (cC_3 _ _ _ _) 2 _ (pC_3_2 _ _ _ _ _) rfl (by decide +kernel) rfl rfl (Nat.le_of_ble_eq_true rfl) dL_requesterHearsAnswer_81 (fun H locs hV hS => ?_)
      refine lv_goto (tgt := 101) hx hb dL_requesterHearsAnswer_84 rfl ?_
      exact er_vret hx hb hr hlocks hV hS dL_requesterHearsAnswer_101 (Eq.symm (by unfold z_L_hears_0; simp only [if_neg h1, if_pos h2]))
  · refine lv_aload_n hx hb dL_requesterHearsAnswer_55 rfl (lv_at hl 0 rfl) ?_
    refine lv_iconst (v := 2) hx hb dL_requesterHearsAnswer_56 (by decide) ?_
    refine ew_put (ty := .int) hx hb hts hown hK hV hS fL_111 gPage e3_0 (cC_3 _ _ _ _) 0 _ (pC_3_0 _ _ _ _ _) rfl (by decide +kernel) rfl rfl (Nat.le_of_ble_eq_true rfl) dL_requesterHearsAnswer_57 (fun H locs hV hS => ?_)
    refine lv_goto (tgt := 101) hx hb dL_requesterHearsAnswer_60 rfl ?_
    exact er_vret hx hb hr hlocks hV hS dL_requesterHearsAnswer_101 (Eq.symm (by unfold z_L_hears_0; simp only [if_pos h1]))

def z_L_hears_n (A : ew_R) (ln : Nat) (t : Nat) : ew_R :=
  A
set_option maxHeartbeats 4000000 in
set_option maxRecDepth 100000 in
theorem c_L_hears_n (l : Launch) (D : va_G) (T : Nat → ClassId) (X : Nat → Nat → Nat) (L : List Nat) (tg : Nat → Nat × Nat) (sz : Nat) (A : ew_R) (ln : Nat) (t : Nat) (th : Nat) (hth : ew_in X L tg 0 0 th) (lo : Nat) (hlo : ew_in X L tg 2 ln lo) (lt : Nat) (hlt : ew_in X L tg 19 t lt) (e3_0 : ew_in X L tg 3 ln (X 3 ln)) (hst : ¬ A 3 ln 0 = 10) (hs0 : ¬ A 3 ln 0 = 0) : Met l yL_requesterHearsAnswer wsL_requesterHearsAnswer ({ frames := 10, cells := 0, slots := 0, locals := 224 }) (ec_Pc D vwCl (tysA T) (cfC T) X L tg A sz [.ref th, .ref lo, .ref lt]) (er_Qv D vwCl (cfC T) X L tg sz (fun u => u = z_L_hears_n A ln t)) 0 0 (ew_A L sz) := by
  refine ec_met (by decide) rfl (Nat.le_of_ble_eq_true rfl) ?_
  intro p e s m below meth c ls hx hb hr hts hown hlocks hml hV hK hN hS hA hl hsz
  subst hsz
  have hl : lv_has ls 4 [(0, .ref th), (1, .ref lo), (2, .ref lt)] := hl
  refine lv_aload_n hx hb dL_requesterHearsAnswer_0 rfl (lv_at hl 1 rfl) ?_
  refine ew_get (v := .ref (X 3 ln)) hx hb hts hown hK hV fL_107 hlo (cC_2 _ _ _ _) rfl dL_requesterHearsAnswer_1 ?_
  refine lv_astore_n (lv' := [(3, .ref (X 3 ln)), (0, .ref th), (1, .ref lo), (2, .ref lt)]) hx hb dL_requesterHearsAnswer_4 rfl hl (by decide) rfl (fun ls hl => ?_)
  refine lv_aload_n hx hb dL_requesterHearsAnswer_5 rfl (lv_at hl 0 rfl) ?_
  refine ew_get (v := .int (A 3 ln 0)) hx hb hts hown hK hV fL_111 e3_0 (cC_3 _ _ _ _) rfl dL_requesterHearsAnswer_6 ?_
  refine lv_bipush (v := 10) hx hb dL_requesterHearsAnswer_9 (by decide) ?_
  refine lv_icmp_ne (tgt := 40) hx hb dL_requesterHearsAnswer_11 rfl (fun _ => ?_) (fun h9 => absurd h9 hst)
  refine lv_aload_n hx hb dL_requesterHearsAnswer_40 rfl (lv_at hl 0 rfl) ?_
  refine ew_get (v := .int (A 3 ln 0)) hx hb hts hown hK hV fL_111 e3_0 (cC_3 _ _ _ _) rfl dL_requesterHearsAnswer_41 ?_
  refine lv_if_ne (tgt := 101) hx hb dL_requesterHearsAnswer_44 rfl (fun _ => ?_) (fun h9 => absurd h9 hs0)
  exact er_vret hx hb hr hlocks hV hS dL_requesterHearsAnswer_101 (Eq.symm (by unfold z_L_hears_n; rfl))

def z_L_rt_np (A : ew_R) (ln : Nat) (d : Nat) (t : Nat) (pd : Nat) : ew_R :=
  A
set_option maxHeartbeats 4000000 in
set_option maxRecDepth 100000 in
theorem c_L_rt_np (l : Launch) (D : va_G) (T : Nat → ClassId) (X : Nat → Nat → Nat) (L : List Nat) (tg : Nat → Nat × Nat) (sz : Nat) (A : ew_R) (ln : Nat) (d : Nat) (t : Nat) (th : Nat) (hth : ew_in X L tg 0 0 th) (lo : Nat) (hlo : ew_in X L tg 2 ln lo) (dl : Nat) (hdl : ew_in X L tg 4 d dl) (lt : Nat) (hlt : ew_in X L tg 19 t lt) (pd : Nat) (e4_0 : ew_in X L tg 4 pd (X 4 pd)) (q7 : A 2 ln 7 = nI pd) (hpd : pd < 192) (hne : ¬ d = pd) : Met l yL_requesterTakes wsL_requesterTakes ({ frames := 11, cells := 0, slots := 0, locals := 247 }) (ec_Pc D vwCl (tysA T) (cfC T) X L tg A sz [.ref th, .ref lo, .ref dl, .ref lt]) (er_Qv D vwCl (cfC T) X L tg sz (fun u => u = z_L_rt_np A ln d t pd)) 0 0 (ew_A L sz) := by
  refine ec_met (by decide) rfl (Nat.le_of_ble_eq_true rfl) ?_
  intro p e s m below meth c ls hx hb hr hts hown hlocks hml hV hK hN hS hA hl hsz
  subst hsz
  have hl : lv_has ls 4 [(0, .ref th), (1, .ref lo), (2, .ref dl), (3, .ref lt)] := hl
  refine lv_aload_n hx hb dL_requesterTakes_0 rfl (lv_at hl 2 rfl) ?_
  refine lv_aload_n hx hb dL_requesterTakes_1 rfl (lv_at hl 1 rfl) ?_
  refine ew_get (v := .ref (X 4 pd)) hx hb hts hown hK hV fL_212 hlo (cC_2 _ _ _ _) (ec_rd q7 (by omega)) dL_requesterTakes_2 ?_
  refine lv_acmp_eq (rx := some dl) (ry := some (X 4 pd)) (tgt := 9) hx hb dL_requesterTakes_5 rfl (fun h9 => absurd h9 (fun z9 => hne (by have a9 := hdl.2.2; have b9 := e4_0.2.2; have z9 := Option.some.inj z9; rw [z9, b9] at a9; exact (congrArg Prod.snd a9).symm))) (fun _ => ?_)
  exact er_vret hx hb hr hlocks hV hS dL_requesterTakes_8 (Eq.symm (by unfold z_L_rt_np; rfl))

def z_L_rt_10 (A : ew_R) (ln : Nat) (d : Nat) (t : Nat) (rq : Nat) : ew_R :=
  if A 19 t 1 = 2 then
    (z_L_hears_10 A ln t)
  else
    if A 19 t 1 = 3 then
      (z_L_hears_10 A ln t)
    else
      if A 19 t 1 = 4 then
        (z_L_hears_10 A ln t)
      else
        if A 19 t 1 = 5 then
          A
        else
          if A 19 t 1 = 6 then
            A
          else
            if A 19 t 1 = 7 then
              (z_L_requesterHearsOfDue A ln t)
            else
              if A 19 t 1 = 8 then
                A
              else
                if A 19 t 1 = 9 then
                  A
                else
                  if A 19 t 1 = 10 then
                    (z_L_requesterHearsOfDue A ln t)
                  else
                    if A 19 t 1 = 11 then
                      (z_L_requesterHearsOfDue A ln t)
                    else
                      if A 19 t 1 = 12 then
                        A
                      else
                        if A 19 t 1 = 13 then
                          (z_L_requesterIsCharged A ln (A 19 t 2) rq)
                        else
                          if A 19 t 1 = 14 then
                            A
                          else
                            if A 19 t 1 = 15 then
                              A
                            else
                              if A 19 t 1 = 16 then
                                (z_L_hears_10 A ln t)
                              else
                                A
set_option maxHeartbeats 4000000 in
set_option maxRecDepth 100000 in
theorem c_L_rt_10 (l : Launch) (D : va_G) (T : Nat → ClassId) (X : Nat → Nat → Nat) (L : List Nat) (tg : Nat → Nat × Nat) (sz : Nat) (A : ew_R) (ln : Nat) (d : Nat) (t : Nat) (th : Nat) (hth : ew_in X L tg 0 0 th) (lo : Nat) (hlo : ew_in X L tg 2 ln lo) (dl : Nat) (hdl : ew_in X L tg 4 d dl) (lt : Nat) (hlt : ew_in X L tg 19 t lt) (rq : Nat) (e3_0 : ew_in X L tg 3 ln (X 3 ln)) (e11_1 : ew_in X L tg 11 0 (X 11 0)) (q7 : A 2 ln 7 = nI d) (hpd : d < 192) (hrq : rq < 6) (q1 : A 2 ln 1 = nI rq) (hst : A 3 ln 0 = 10) : Met l yL_requesterTakes wsL_requesterTakes ({ frames := 11, cells := 0, slots := 0, locals := 247 }) (ec_Pc D vwCl (tysA T) (cfC T) X L tg A sz [.ref th, .ref lo, .ref dl, .ref lt]) (er_Qv D vwCl (cfC T) X L tg sz (fun u => u = z_L_rt_10 A ln d t rq)) 0 0 (ew_A L sz) := by
  refine ec_met (by decide) rfl (Nat.le_of_ble_eq_true rfl) ?_
  intro p e s m below meth c ls hx hb hr hts hown hlocks hml hV hK hN hS hA hl hsz
  subst hsz
  have hl : lv_has ls 4 [(0, .ref th), (1, .ref lo), (2, .ref dl), (3, .ref lt)] := hl
  refine lv_aload_n hx hb dL_requesterTakes_0 rfl (lv_at hl 2 rfl) ?_
  refine lv_aload_n hx hb dL_requesterTakes_1 rfl (lv_at hl 1 rfl) ?_
  refine ew_get (v := .ref (X 4 d)) hx hb hts hown hK hV fL_212 hlo (cC_2 _ _ _ _) (ec_rd q7 (by omega)) dL_requesterTakes_2 ?_
  refine lv_acmp_eq (rx := some dl) (ry := some (X 4 d)) (tgt := 9) hx hb dL_requesterTakes_5 rfl (fun _ => ?_) (fun h9 => absurd (congrArg some hdl.1.symm) h9)
  refine lv_aload_n hx hb dL_requesterTakes_9 rfl (lv_at hl 3 rfl) ?_
  refine ew_get (v := .int (A 19 t 1)) hx hb hts hown hK hV fL_350 hlt (cC_19 _ _ _ _) rfl dL_requesterTakes_10 ?_
  by_cases h1 : A 19 t 1 = 2
  · refine lv_tableIn (tgt := 88) hx hb dL_requesterTakes_13 (by rw [h1]; decide) (by rw [h1]; decide) (by rw [h1]; rfl) rfl ?_
    refine lv_aload_n hx hb dL_requesterTakes_88 rfl (lv_at hl 0 rfl) ?_
    refine lv_aload_n hx hb dL_requesterTakes_89 rfl (lv_at hl 1 rfl) ?_
    refine lv_aload_n hx hb dL_requesterTakes_90 rfl (lv_at hl 3 rfl) ?_
    refine er_callv (va_runV (As := [.ref lo, .ref lt]) (rest := []) ⟨hx, hb, hml, hown, hts⟩ (c_L_hears_10 l D T X L tg _ A ln t th hth lo hlo lt hlt e3_0 hst) (cwV 2 hts gL_370 rfl rfl rfl (by decide +kernel) ⟨Nat.le_of_ble_eq_true rfl, Nat.le_of_ble_eq_true rfl⟩) (ec_preV hK hN hV hth (cC_0 _ _ _ _) rfl) rfl rfl hl.1 rfl (lv_room (Nat.le_of_ble_eq_true rfl)) dL_requesterTakes_91 ⟨Nat.le_of_ble_eq_true rfl, Nat.le_of_ble_eq_true rfl⟩) hV hS hA (fun u2 H locs eu2 hV hS => ?_)
    have eu2 : u2 = z_L_hears_10 A ln t := eu2
    refine lv_goto (tgt := 120) hx hb dL_requesterTakes_94 rfl ?_
    rw [eu2] at hV
    exact er_vret hx hb hr hlocks hV hS dL_requesterTakes_120 (Eq.symm (by unfold z_L_rt_10; simp only [if_pos h1]))
  · by_cases h3 : A 19 t 1 = 3
    · refine lv_tableIn (tgt := 88) hx hb dL_requesterTakes_13 (by rw [h3]; decide) (by rw [h3]; decide) (by rw [h3]; rfl) rfl ?_
      refine lv_aload_n hx hb dL_requesterTakes_88 rfl (lv_at hl 0 rfl) ?_
      refine lv_aload_n hx hb dL_requesterTakes_89 rfl (lv_at hl 1 rfl) ?_
      refine lv_aload_n hx hb dL_requesterTakes_90 rfl (lv_at hl 3 rfl) ?_
      refine er_callv (va_runV (As := [.ref lo, .ref lt]) (rest := []) ⟨hx, hb, hml, hown, hts⟩ (c_L_hears_10 l D T X L tg _ A ln t th hth lo hlo lt hlt e3_0 hst) (cwV 2 hts gL_370 rfl rfl rfl (by decide +kernel) ⟨Nat.le_of_ble_eq_true rfl, Nat.le_of_ble_eq_true rfl⟩) (ec_preV hK hN hV hth (cC_0 _ _ _ _) rfl) rfl rfl hl.1 rfl (lv_room (Nat.le_of_ble_eq_true rfl)) dL_requesterTakes_91 ⟨Nat.le_of_ble_eq_true rfl, Nat.le_of_ble_eq_true rfl⟩) hV hS hA (fun u4 H locs eu4 hV hS => ?_)
      have eu4 : u4 = z_L_hears_10 A ln t := eu4
      refine lv_goto (tgt := 120) hx hb dL_requesterTakes_94 rfl ?_
      rw [eu4] at hV
      exact er_vret hx hb hr hlocks hV hS dL_requesterTakes_120 (Eq.symm (by unfold z_L_rt_10; simp only [if_neg h1, if_pos h3]))
    · by_cases h5 : A 19 t 1 = 4
      · refine lv_tableIn (tgt := 88) hx hb dL_requesterTakes_13 (by rw [h5]; decide) (by rw [h5]; decide) (by rw [h5]; rfl) rfl ?_
        refine lv_aload_n hx hb dL_requesterTakes_88 rfl (lv_at hl 0 rfl) ?_
        refine lv_aload_n hx hb dL_requesterTakes_89 rfl (lv_at hl 1 rfl) ?_
        refine lv_aload_n hx hb dL_requesterTakes_90 rfl (lv_at hl 3 rfl) ?_
        refine er_callv (va_runV (As := [.ref lo, .ref lt]) (rest := []) ⟨hx, hb, hml, hown, hts⟩ (c_L_hears_10 l D T X L tg _ A ln t th hth lo hlo lt hlt e3_0 hst) (cwV 2 hts gL_370 rfl rfl rfl (by decide +kernel) ⟨Nat.le_of_ble_eq_true rfl, Nat.le_of_ble_eq_true rfl⟩) (ec_preV hK hN hV hth (cC_0 _ _ _ _) rfl) rfl rfl hl.1 rfl (lv_room (Nat.le_of_ble_eq_true rfl)) dL_requesterTakes_91 ⟨Nat.le_of_ble_eq_true rfl, Nat.le_of_ble_eq_true rfl⟩) hV hS hA (fun u6 H locs eu6 hV hS => ?_)
        have eu6 : u6 = z_L_hears_10 A ln t := eu6
        refine lv_goto (tgt := 120) hx hb dL_requesterTakes_94 rfl ?_
        rw [eu6] at hV
        exact er_vret hx hb hr hlocks hV hS dL_requesterTakes_120 (Eq.symm (by unfold z_L_rt_10; simp only [if_neg h1, if_neg h3, if_pos h5]))
      · by_cases h7 : A 19 t 1 = 5
        · refine lv_tableIn (tgt := 120) hx hb dL_requesterTakes_13 (by rw [h7]; decide) (by rw [h7]; decide) (by rw [h7]; rfl) rfl ?_
          exact er_vret hx hb hr hlocks hV hS dL_requesterTakes_120 (Eq.symm (by unfold z_L_rt_10; simp only [if_neg h1, if_neg h3, if_neg h5, if_pos h7]))
        · by_cases h8 : A 19 t 1 = 6
          · refine lv_tableIn (tgt := 120) hx hb dL_requesterTakes_13 (by rw [h8]; decide) (by rw [h8]; decide) (by rw [h8]; rfl) rfl ?_
            exact er_vret hx hb hr hlocks hV hS dL_requesterTakes_120 (Eq.symm (by unfold z_L_rt_10; simp only [if_neg h1, if_neg h3, if_neg h5, if_neg h7, if_pos h8]))
          · by_cases h9 : A 19 t 1 = 7
            · refine lv_tableIn (tgt := 97) hx hb dL_requesterTakes_13 (by rw [h9]; decide) (by rw [h9]; decide) (by rw [h9]; rfl) rfl ?_
              refine lv_aload_n hx hb dL_requesterTakes_97 rfl (lv_at hl 1 rfl) ?_
              refine ew_get (v := .ref (X 3 ln)) hx hb hts hown hK hV fL_107 hlo (cC_2 _ _ _ _) rfl dL_requesterTakes_98 ?_
              refine lv_aload_n hx hb dL_requesterTakes_101 rfl (lv_at hl 3 rfl) ?_
              refine er_callv (va_runS (As := [.ref (X 3 ln), .ref lt]) (rest := []) ⟨hx, hb, hml, hown, hts⟩ (c_L_requesterHearsOfDue l D T X L tg _ A ln t (X 3 ln) e3_0 lt hlt) (cwS 2 hts gL_374 rfl rfl rfl (by decide +kernel) ⟨Nat.le_of_ble_eq_true rfl, Nat.le_of_ble_eq_true rfl⟩) (ec_preS hK hN hV) rfl rfl hl.1 rfl (lv_room (Nat.le_of_ble_eq_true rfl)) dL_requesterTakes_102 ⟨Nat.le_of_ble_eq_true rfl, Nat.le_of_ble_eq_true rfl⟩) hV hS hA (fun u10 H locs eu10 hV hS => ?_)
              have eu10 : u10 = z_L_requesterHearsOfDue A ln t := eu10
              refine lv_goto (tgt := 120) hx hb dL_requesterTakes_105 rfl ?_
              rw [eu10] at hV
              exact er_vret hx hb hr hlocks hV hS dL_requesterTakes_120 (Eq.symm (by unfold z_L_rt_10; simp only [if_neg h1, if_neg h3, if_neg h5, if_neg h7, if_neg h8, if_pos h9]))
            · by_cases h11 : A 19 t 1 = 8
              · refine lv_tableIn (tgt := 120) hx hb dL_requesterTakes_13 (by rw [h11]; decide) (by rw [h11]; decide) (by rw [h11]; rfl) rfl ?_
                exact er_vret hx hb hr hlocks hV hS dL_requesterTakes_120 (Eq.symm (by unfold z_L_rt_10; simp only [if_neg h1, if_neg h3, if_neg h5, if_neg h7, if_neg h8, if_neg h9, if_pos h11]))
              · by_cases h12 : A 19 t 1 = 9
                · refine lv_tableIn (tgt := 120) hx hb dL_requesterTakes_13 (by rw [h12]; decide) (by rw [h12]; decide) (by rw [h12]; rfl) rfl ?_
                  exact er_vret hx hb hr hlocks hV hS dL_requesterTakes_120 (Eq.symm (by unfold z_L_rt_10; simp only [if_neg h1, if_neg h3, if_neg h5, if_neg h7, if_neg h8, if_neg h9, if_neg h11, if_pos h12]))
                · by_cases h13 : A 19 t 1 = 10
                  · refine lv_tableIn (tgt := 97) hx hb dL_requesterTakes_13 (by rw [h13]; decide) (by rw [h13]; decide) (by rw [h13]; rfl) rfl ?_
                    refine lv_aload_n hx hb dL_requesterTakes_97 rfl (lv_at hl 1 rfl) ?_
                    refine ew_get (v := .ref (X 3 ln)) hx hb hts hown hK hV fL_107 hlo (cC_2 _ _ _ _) rfl dL_requesterTakes_98 ?_
                    refine lv_aload_n hx hb dL_requesterTakes_101 rfl (lv_at hl 3 rfl) ?_
                    refine er_callv (va_runS (As := [.ref (X 3 ln), .ref lt]) (rest := []) ⟨hx, hb, hml, hown, hts⟩ (c_L_requesterHearsOfDue l D T X L tg _ A ln t (X 3 ln) e3_0 lt hlt) (cwS 2 hts gL_374 rfl rfl rfl (by decide +kernel) ⟨Nat.le_of_ble_eq_true rfl, Nat.le_of_ble_eq_true rfl⟩) (ec_preS hK hN hV) rfl rfl hl.1 rfl (lv_room (Nat.le_of_ble_eq_true rfl)) dL_requesterTakes_102 ⟨Nat.le_of_ble_eq_true rfl, Nat.le_of_ble_eq_true rfl⟩) hV hS hA (fun u14 H locs eu14 hV hS => ?_)
                    have eu14 : u14 = z_L_requesterHearsOfDue A ln t := eu14
                    refine lv_goto (tgt := 120) hx hb dL_requesterTakes_105 rfl ?_
                    rw [eu14] at hV
                    exact er_vret hx hb hr hlocks hV hS dL_requesterTakes_120 (Eq.symm (by unfold z_L_rt_10; simp only [if_neg h1, if_neg h3, if_neg h5, if_neg h7, if_neg h8, if_neg h9, if_neg h11, if_neg h12, if_pos h13]))
                  · by_cases h15 : A 19 t 1 = 11
                    · refine lv_tableIn (tgt := 97) hx hb dL_requesterTakes_13 (by rw [h15]; decide) (by rw [h15]; decide) (by rw [h15]; rfl) rfl ?_
                      refine lv_aload_n hx hb dL_requesterTakes_97 rfl (lv_at hl 1 rfl) ?_
                      refine ew_get (v := .ref (X 3 ln)) hx hb hts hown hK hV fL_107 hlo (cC_2 _ _ _ _) rfl dL_requesterTakes_98 ?_
                      refine lv_aload_n hx hb dL_requesterTakes_101 rfl (lv_at hl 3 rfl) ?_
                      refine er_callv (va_runS (As := [.ref (X 3 ln), .ref lt]) (rest := []) ⟨hx, hb, hml, hown, hts⟩ (c_L_requesterHearsOfDue l D T X L tg _ A ln t (X 3 ln) e3_0 lt hlt) (cwS 2 hts gL_374 rfl rfl rfl (by decide +kernel) ⟨Nat.le_of_ble_eq_true rfl, Nat.le_of_ble_eq_true rfl⟩) (ec_preS hK hN hV) rfl rfl hl.1 rfl (lv_room (Nat.le_of_ble_eq_true rfl)) dL_requesterTakes_102 ⟨Nat.le_of_ble_eq_true rfl, Nat.le_of_ble_eq_true rfl⟩) hV hS hA (fun u16 H locs eu16 hV hS => ?_)
                      have eu16 : u16 = z_L_requesterHearsOfDue A ln t := eu16
                      refine lv_goto (tgt := 120) hx hb dL_requesterTakes_105 rfl ?_
                      rw [eu16] at hV
                      exact er_vret hx hb hr hlocks hV hS dL_requesterTakes_120 (Eq.symm (by unfold z_L_rt_10; simp only [if_neg h1, if_neg h3, if_neg h5, if_neg h7, if_neg h8, if_neg h9, if_neg h11, if_neg h12, if_neg h13, if_pos h15]))
                    · by_cases h17 : A 19 t 1 = 12
                      · refine lv_tableIn (tgt := 120) hx hb dL_requesterTakes_13 (by rw [h17]; decide) (by rw [h17]; decide) (by rw [h17]; rfl) rfl ?_
                        exact er_vret hx hb hr hlocks hV hS dL_requesterTakes_120 (Eq.symm (by unfold z_L_rt_10; simp only [if_neg h1, if_neg h3, if_neg h5, if_neg h7, if_neg h8, if_neg h9, if_neg h11, if_neg h12, if_neg h13, if_neg h15, if_pos h17]))
                      · by_cases h18 : A 19 t 1 = 13
                        · refine lv_tableIn (tgt := 108) hx hb dL_requesterTakes_13 (by rw [h18]; decide) (by rw [h18]; decide) (by rw [h18]; rfl) rfl ?_
                          refine lv_aload_n hx hb dL_requesterTakes_108 rfl (lv_at hl 0 rfl) ?_
                          refine lv_aload_n hx hb dL_requesterTakes_109 rfl (lv_at hl 1 rfl) ?_
                          refine lv_aload_n hx hb dL_requesterTakes_110 rfl (lv_at hl 3 rfl) ?_
                          refine ew_get (v := .int (A 19 t 2)) hx hb hts hown hK hV fL_378 hlt (cC_19 _ _ _ _) rfl dL_requesterTakes_111 ?_
                          refine er_callv (va_runV (As := [.ref lo, .int (A 19 t 2)]) (rest := []) ⟨hx, hb, hml, hown, hts⟩ (c_L_requesterIsCharged l D T X L tg _ A ln th hth lo hlo (A 19 t 2) rq e3_0 e11_1 hrq q1) (cwV 2 hts gL_380 rfl rfl rfl (by decide +kernel) ⟨Nat.le_of_ble_eq_true rfl, Nat.le_of_ble_eq_true rfl⟩) (ec_preV hK hN hV hth (cC_0 _ _ _ _) rfl) rfl rfl hl.1 rfl (lv_room (Nat.le_of_ble_eq_true rfl)) dL_requesterTakes_114 ⟨Nat.le_of_ble_eq_true rfl, Nat.le_of_ble_eq_true rfl⟩) hV hS hA (fun u19 H locs eu19 hV hS => ?_)
                          have eu19 : u19 = z_L_requesterIsCharged A ln (A 19 t 2) rq := eu19
                          refine lv_goto (tgt := 120) hx hb dL_requesterTakes_117 rfl ?_
                          rw [eu19] at hV
                          exact er_vret hx hb hr hlocks hV hS dL_requesterTakes_120 (Eq.symm (by unfold z_L_rt_10; simp only [if_neg h1, if_neg h3, if_neg h5, if_neg h7, if_neg h8, if_neg h9, if_neg h11, if_neg h12, if_neg h13, if_neg h15, if_neg h17, if_pos h18]))
                        · by_cases h20 : A 19 t 1 = 14
                          · refine lv_tableIn (tgt := 120) hx hb dL_requesterTakes_13 (by rw [h20]; decide) (by rw [h20]; decide) (by rw [h20]; rfl) rfl ?_
                            exact er_vret hx hb hr hlocks hV hS dL_requesterTakes_120 (Eq.symm (by unfold z_L_rt_10; simp only [if_neg h1, if_neg h3, if_neg h5, if_neg h7, if_neg h8, if_neg h9, if_neg h11, if_neg h12, if_neg h13, if_neg h15, if_neg h17, if_neg h18, if_pos h20]))
                          · by_cases h21 : A 19 t 1 = 15
                            · refine lv_tableIn (tgt := 120) hx hb dL_requesterTakes_13 (by rw [h21]; decide) (by rw [h21]; decide) (by rw [h21]; rfl) rfl ?_
                              exact er_vret hx hb hr hlocks hV hS dL_requesterTakes_120 (Eq.symm (by unfold z_L_rt_10; simp only [if_neg h1, if_neg h3, if_neg h5, if_neg h7, if_neg h8, if_neg h9, if_neg h11, if_neg h12, if_neg h13, if_neg h15, if_neg h17, if_neg h18, if_neg h20, if_pos h21]))
                            · by_cases h22 : A 19 t 1 = 16
                              · refine lv_tableIn (tgt := 88) hx hb dL_requesterTakes_13 (by rw [h22]; decide) (by rw [h22]; decide) (by rw [h22]; rfl) rfl ?_
                                refine lv_aload_n hx hb dL_requesterTakes_88 rfl (lv_at hl 0 rfl) ?_
                                refine lv_aload_n hx hb dL_requesterTakes_89 rfl (lv_at hl 1 rfl) ?_
                                refine lv_aload_n hx hb dL_requesterTakes_90 rfl (lv_at hl 3 rfl) ?_
                                refine er_callv (va_runV (As := [.ref lo, .ref lt]) (rest := []) ⟨hx, hb, hml, hown, hts⟩ (c_L_hears_10 l D T X L tg _ A ln t th hth lo hlo lt hlt e3_0 hst) (cwV 2 hts gL_370 rfl rfl rfl (by decide +kernel) ⟨Nat.le_of_ble_eq_true rfl, Nat.le_of_ble_eq_true rfl⟩) (ec_preV hK hN hV hth (cC_0 _ _ _ _) rfl) rfl rfl hl.1 rfl (lv_room (Nat.le_of_ble_eq_true rfl)) dL_requesterTakes_91 ⟨Nat.le_of_ble_eq_true rfl, Nat.le_of_ble_eq_true rfl⟩) hV hS hA (fun u23 H locs eu23 hV hS => ?_)
                                have eu23 : u23 = z_L_hears_10 A ln t := eu23
                                refine lv_goto (tgt := 120) hx hb dL_requesterTakes_94 rfl ?_
                                rw [eu23] at hV
                                exact er_vret hx hb hr hlocks hV hS dL_requesterTakes_120 (Eq.symm (by unfold z_L_rt_10; simp only [if_neg h1, if_neg h3, if_neg h5, if_neg h7, if_neg h8, if_neg h9, if_neg h11, if_neg h12, if_neg h13, if_neg h15, if_neg h17, if_neg h18, if_neg h20, if_neg h21, if_pos h22]))
                              · refine lv_tableOut (tgt := 120) hx hb dL_requesterTakes_13 (by have a0 := lv_neT (a := 2) h1 (by decide); have a1 := lv_neT (a := 3) h3 (by decide); have a2 := lv_neT (a := 4) h5 (by decide); have a3 := lv_neT (a := 5) h7 (by decide); have a4 := lv_neT (a := 6) h8 (by decide); have a5 := lv_neT (a := 7) h9 (by decide); have a6 := lv_neT (a := 8) h11 (by decide); have a7 := lv_neT (a := 9) h12 (by decide); have a8 := lv_neT (a := 10) h13 (by decide); have a9 := lv_neT (a := 11) h15 (by decide); have a10 := lv_neT (a := 12) h17 (by decide); have a11 := lv_neT (a := 13) h18 (by decide); have a12 := lv_neT (a := 14) h20 (by decide); have a13 := lv_neT (a := 15) h21 (by decide); have a14 := lv_neT (a := 16) h22 (by decide); omega) rfl ?_
                                exact er_vret hx hb hr hlocks hV hS dL_requesterTakes_120 (Eq.symm (by unfold z_L_rt_10; simp only [if_neg h1, if_neg h3, if_neg h5, if_neg h7, if_neg h8, if_neg h9, if_neg h11, if_neg h12, if_neg h13, if_neg h15, if_neg h17, if_neg h18, if_neg h20, if_neg h21, if_neg h22]))

def z_L_rt_0 (A : ew_R) (ln : Nat) (d : Nat) (t : Nat) (rq : Nat) : ew_R :=
  if A 19 t 1 = 2 then
    (z_L_hears_0 A ln t)
  else
    if A 19 t 1 = 3 then
      (z_L_hears_0 A ln t)
    else
      if A 19 t 1 = 5 then
        A
      else
        if A 19 t 1 = 6 then
          A
        else
          if A 19 t 1 = 7 then
            (z_L_requesterHearsOfDue A ln t)
          else
            if A 19 t 1 = 8 then
              A
            else
              if A 19 t 1 = 9 then
                A
              else
                if A 19 t 1 = 10 then
                  (z_L_requesterHearsOfDue A ln t)
                else
                  if A 19 t 1 = 11 then
                    (z_L_requesterHearsOfDue A ln t)
                  else
                    if A 19 t 1 = 12 then
                      A
                    else
                      if A 19 t 1 = 13 then
                        (z_L_requesterIsCharged A ln (A 19 t 2) rq)
                      else
                        if A 19 t 1 = 14 then
                          A
                        else
                          if A 19 t 1 = 15 then
                            A
                          else
                            if A 19 t 1 = 16 then
                              (z_L_hears_0 A ln t)
                            else
                              A
set_option maxHeartbeats 4000000 in
set_option maxRecDepth 100000 in
theorem c_L_rt_0 (l : Launch) (D : va_G) (T : Nat → ClassId) (X : Nat → Nat → Nat) (L : List Nat) (tg : Nat → Nat × Nat) (sz : Nat) (A : ew_R) (ln : Nat) (d : Nat) (t : Nat) (th : Nat) (hth : ew_in X L tg 0 0 th) (lo : Nat) (hlo : ew_in X L tg 2 ln lo) (dl : Nat) (hdl : ew_in X L tg 4 d dl) (lt : Nat) (hlt : ew_in X L tg 19 t lt) (rq : Nat) (e3_0 : ew_in X L tg 3 ln (X 3 ln)) (e11_1 : ew_in X L tg 11 0 (X 11 0)) (q7 : A 2 ln 7 = nI d) (hpd : d < 192) (hrq : rq < 6) (q1 : A 2 ln 1 = nI rq) (hst : A 3 ln 0 = 0) (hk4 : ¬ A 19 t 1 = 4) : Met l yL_requesterTakes wsL_requesterTakes ({ frames := 11, cells := 0, slots := 0, locals := 247 }) (ec_Pc D vwCl (tysA T) (cfC T) X L tg A sz [.ref th, .ref lo, .ref dl, .ref lt]) (er_Qv D vwCl (cfC T) X L tg sz (fun u => u = z_L_rt_0 A ln d t rq)) 0 0 (ew_A L sz) := by
  refine ec_met (by decide) rfl (Nat.le_of_ble_eq_true rfl) ?_
  intro p e s m below meth c ls hx hb hr hts hown hlocks hml hV hK hN hS hA hl hsz
  subst hsz
  have hl : lv_has ls 4 [(0, .ref th), (1, .ref lo), (2, .ref dl), (3, .ref lt)] := hl
  refine lv_aload_n hx hb dL_requesterTakes_0 rfl (lv_at hl 2 rfl) ?_
  refine lv_aload_n hx hb dL_requesterTakes_1 rfl (lv_at hl 1 rfl) ?_
  refine ew_get (v := .ref (X 4 d)) hx hb hts hown hK hV fL_212 hlo (cC_2 _ _ _ _) (ec_rd q7 (by omega)) dL_requesterTakes_2 ?_
  refine lv_acmp_eq (rx := some dl) (ry := some (X 4 d)) (tgt := 9) hx hb dL_requesterTakes_5 rfl (fun _ => ?_) (fun h9 => absurd (congrArg some hdl.1.symm) h9)
  refine lv_aload_n hx hb dL_requesterTakes_9 rfl (lv_at hl 3 rfl) ?_
  refine ew_get (v := .int (A 19 t 1)) hx hb hts hown hK hV fL_350 hlt (cC_19 _ _ _ _) rfl dL_requesterTakes_10 ?_
  by_cases h1 : A 19 t 1 = 2
  · refine lv_tableIn (tgt := 88) hx hb dL_requesterTakes_13 (by rw [h1]; decide) (by rw [h1]; decide) (by rw [h1]; rfl) rfl ?_
    refine lv_aload_n hx hb dL_requesterTakes_88 rfl (lv_at hl 0 rfl) ?_
    refine lv_aload_n hx hb dL_requesterTakes_89 rfl (lv_at hl 1 rfl) ?_
    refine lv_aload_n hx hb dL_requesterTakes_90 rfl (lv_at hl 3 rfl) ?_
    refine er_callv (va_runV (As := [.ref lo, .ref lt]) (rest := []) ⟨hx, hb, hml, hown, hts⟩ (c_L_hears_0 l D T X L tg _ A ln t th hth lo hlo lt hlt e3_0 hst hk4) (cwV 2 hts gL_370 rfl rfl rfl (by decide +kernel) ⟨Nat.le_of_ble_eq_true rfl, Nat.le_of_ble_eq_true rfl⟩) (ec_preV hK hN hV hth (cC_0 _ _ _ _) rfl) rfl rfl hl.1 rfl (lv_room (Nat.le_of_ble_eq_true rfl)) dL_requesterTakes_91 ⟨Nat.le_of_ble_eq_true rfl, Nat.le_of_ble_eq_true rfl⟩) hV hS hA (fun u2 H locs eu2 hV hS => ?_)
    have eu2 : u2 = z_L_hears_0 A ln t := eu2
    refine lv_goto (tgt := 120) hx hb dL_requesterTakes_94 rfl ?_
    rw [eu2] at hV
    exact er_vret hx hb hr hlocks hV hS dL_requesterTakes_120 (Eq.symm (by unfold z_L_rt_0; simp only [if_pos h1]))
  · by_cases h3 : A 19 t 1 = 3
    · refine lv_tableIn (tgt := 88) hx hb dL_requesterTakes_13 (by rw [h3]; decide) (by rw [h3]; decide) (by rw [h3]; rfl) rfl ?_
      refine lv_aload_n hx hb dL_requesterTakes_88 rfl (lv_at hl 0 rfl) ?_
      refine lv_aload_n hx hb dL_requesterTakes_89 rfl (lv_at hl 1 rfl) ?_
      refine lv_aload_n hx hb dL_requesterTakes_90 rfl (lv_at hl 3 rfl) ?_
      refine er_callv (va_runV (As := [.ref lo, .ref lt]) (rest := []) ⟨hx, hb, hml, hown, hts⟩ (c_L_hears_0 l D T X L tg _ A ln t th hth lo hlo lt hlt e3_0 hst hk4) (cwV 2 hts gL_370 rfl rfl rfl (by decide +kernel) ⟨Nat.le_of_ble_eq_true rfl, Nat.le_of_ble_eq_true rfl⟩) (ec_preV hK hN hV hth (cC_0 _ _ _ _) rfl) rfl rfl hl.1 rfl (lv_room (Nat.le_of_ble_eq_true rfl)) dL_requesterTakes_91 ⟨Nat.le_of_ble_eq_true rfl, Nat.le_of_ble_eq_true rfl⟩) hV hS hA (fun u4 H locs eu4 hV hS => ?_)
      have eu4 : u4 = z_L_hears_0 A ln t := eu4
      refine lv_goto (tgt := 120) hx hb dL_requesterTakes_94 rfl ?_
      rw [eu4] at hV
      exact er_vret hx hb hr hlocks hV hS dL_requesterTakes_120 (Eq.symm (by unfold z_L_rt_0; simp only [if_neg h1, if_pos h3]))
    · by_cases h5 : A 19 t 1 = 5
      · refine lv_tableIn (tgt := 120) hx hb dL_requesterTakes_13 (by rw [h5]; decide) (by rw [h5]; decide) (by rw [h5]; rfl) rfl ?_
        exact er_vret hx hb hr hlocks hV hS dL_requesterTakes_120 (Eq.symm (by unfold z_L_rt_0; simp only [if_neg h1, if_neg h3, if_pos h5]))
      · by_cases h6 : A 19 t 1 = 6
        · refine lv_tableIn (tgt := 120) hx hb dL_requesterTakes_13 (by rw [h6]; decide) (by rw [h6]; decide) (by rw [h6]; rfl) rfl ?_
          exact er_vret hx hb hr hlocks hV hS dL_requesterTakes_120 (Eq.symm (by unfold z_L_rt_0; simp only [if_neg h1, if_neg h3, if_neg h5, if_pos h6]))
        · by_cases h7 : A 19 t 1 = 7
          · refine lv_tableIn (tgt := 97) hx hb dL_requesterTakes_13 (by rw [h7]; decide) (by rw [h7]; decide) (by rw [h7]; rfl) rfl ?_
            refine lv_aload_n hx hb dL_requesterTakes_97 rfl (lv_at hl 1 rfl) ?_
            refine ew_get (v := .ref (X 3 ln)) hx hb hts hown hK hV fL_107 hlo (cC_2 _ _ _ _) rfl dL_requesterTakes_98 ?_
            refine lv_aload_n hx hb dL_requesterTakes_101 rfl (lv_at hl 3 rfl) ?_
            refine er_callv (va_runS (As := [.ref (X 3 ln), .ref lt]) (rest := []) ⟨hx, hb, hml, hown, hts⟩ (c_L_requesterHearsOfDue l D T X L tg _ A ln t (X 3 ln) e3_0 lt hlt) (cwS 2 hts gL_374 rfl rfl rfl (by decide +kernel) ⟨Nat.le_of_ble_eq_true rfl, Nat.le_of_ble_eq_true rfl⟩) (ec_preS hK hN hV) rfl rfl hl.1 rfl (lv_room (Nat.le_of_ble_eq_true rfl)) dL_requesterTakes_102 ⟨Nat.le_of_ble_eq_true rfl, Nat.le_of_ble_eq_true rfl⟩) hV hS hA (fun u8 H locs eu8 hV hS => ?_)
            have eu8 : u8 = z_L_requesterHearsOfDue A ln t := eu8
            refine lv_goto (tgt := 120) hx hb dL_requesterTakes_105 rfl ?_
            rw [eu8] at hV
            exact er_vret hx hb hr hlocks hV hS dL_requesterTakes_120 (Eq.symm (by unfold z_L_rt_0; simp only [if_neg h1, if_neg h3, if_neg h5, if_neg h6, if_pos h7]))
          · by_cases h9 : A 19 t 1 = 8
            · refine lv_tableIn (tgt := 120) hx hb dL_requesterTakes_13 (by rw [h9]; decide) (by rw [h9]; decide) (by rw [h9]; rfl) rfl ?_
              exact er_vret hx hb hr hlocks hV hS dL_requesterTakes_120 (Eq.symm (by unfold z_L_rt_0; simp only [if_neg h1, if_neg h3, if_neg h5, if_neg h6, if_neg h7, if_pos h9]))
            · by_cases h10 : A 19 t 1 = 9
              · refine lv_tableIn (tgt := 120) hx hb dL_requesterTakes_13 (by rw [h10]; decide) (by rw [h10]; decide) (by rw [h10]; rfl) rfl ?_
                exact er_vret hx hb hr hlocks hV hS dL_requesterTakes_120 (Eq.symm (by unfold z_L_rt_0; simp only [if_neg h1, if_neg h3, if_neg h5, if_neg h6, if_neg h7, if_neg h9, if_pos h10]))
              · by_cases h11 : A 19 t 1 = 10
                · refine lv_tableIn (tgt := 97) hx hb dL_requesterTakes_13 (by rw [h11]; decide) (by rw [h11]; decide) (by rw [h11]; rfl) rfl ?_
                  refine lv_aload_n hx hb dL_requesterTakes_97 rfl (lv_at hl 1 rfl) ?_
                  refine ew_get (v := .ref (X 3 ln)) hx hb hts hown hK hV fL_107 hlo (cC_2 _ _ _ _) rfl dL_requesterTakes_98 ?_
                  refine lv_aload_n hx hb dL_requesterTakes_101 rfl (lv_at hl 3 rfl) ?_
                  refine er_callv (va_runS (As := [.ref (X 3 ln), .ref lt]) (rest := []) ⟨hx, hb, hml, hown, hts⟩ (c_L_requesterHearsOfDue l D T X L tg _ A ln t (X 3 ln) e3_0 lt hlt) (cwS 2 hts gL_374 rfl rfl rfl (by decide +kernel) ⟨Nat.le_of_ble_eq_true rfl, Nat.le_of_ble_eq_true rfl⟩) (ec_preS hK hN hV) rfl rfl hl.1 rfl (lv_room (Nat.le_of_ble_eq_true rfl)) dL_requesterTakes_102 ⟨Nat.le_of_ble_eq_true rfl, Nat.le_of_ble_eq_true rfl⟩) hV hS hA (fun u12 H locs eu12 hV hS => ?_)
                  have eu12 : u12 = z_L_requesterHearsOfDue A ln t := eu12
                  refine lv_goto (tgt := 120) hx hb dL_requesterTakes_105 rfl ?_
                  rw [eu12] at hV
                  exact er_vret hx hb hr hlocks hV hS dL_requesterTakes_120 (Eq.symm (by unfold z_L_rt_0; simp only [if_neg h1, if_neg h3, if_neg h5, if_neg h6, if_neg h7, if_neg h9, if_neg h10, if_pos h11]))
                · by_cases h13 : A 19 t 1 = 11
                  · refine lv_tableIn (tgt := 97) hx hb dL_requesterTakes_13 (by rw [h13]; decide) (by rw [h13]; decide) (by rw [h13]; rfl) rfl ?_
                    refine lv_aload_n hx hb dL_requesterTakes_97 rfl (lv_at hl 1 rfl) ?_
                    refine ew_get (v := .ref (X 3 ln)) hx hb hts hown hK hV fL_107 hlo (cC_2 _ _ _ _) rfl dL_requesterTakes_98 ?_
                    refine lv_aload_n hx hb dL_requesterTakes_101 rfl (lv_at hl 3 rfl) ?_
                    refine er_callv (va_runS (As := [.ref (X 3 ln), .ref lt]) (rest := []) ⟨hx, hb, hml, hown, hts⟩ (c_L_requesterHearsOfDue l D T X L tg _ A ln t (X 3 ln) e3_0 lt hlt) (cwS 2 hts gL_374 rfl rfl rfl (by decide +kernel) ⟨Nat.le_of_ble_eq_true rfl, Nat.le_of_ble_eq_true rfl⟩) (ec_preS hK hN hV) rfl rfl hl.1 rfl (lv_room (Nat.le_of_ble_eq_true rfl)) dL_requesterTakes_102 ⟨Nat.le_of_ble_eq_true rfl, Nat.le_of_ble_eq_true rfl⟩) hV hS hA (fun u14 H locs eu14 hV hS => ?_)
                    have eu14 : u14 = z_L_requesterHearsOfDue A ln t := eu14
                    refine lv_goto (tgt := 120) hx hb dL_requesterTakes_105 rfl ?_
                    rw [eu14] at hV
                    exact er_vret hx hb hr hlocks hV hS dL_requesterTakes_120 (Eq.symm (by unfold z_L_rt_0; simp only [if_neg h1, if_neg h3, if_neg h5, if_neg h6, if_neg h7, if_neg h9, if_neg h10, if_neg h11, if_pos h13]))
                  · by_cases h15 : A 19 t 1 = 12
                    · refine lv_tableIn (tgt := 120) hx hb dL_requesterTakes_13 (by rw [h15]; decide) (by rw [h15]; decide) (by rw [h15]; rfl) rfl ?_
                      exact er_vret hx hb hr hlocks hV hS dL_requesterTakes_120 (Eq.symm (by unfold z_L_rt_0; simp only [if_neg h1, if_neg h3, if_neg h5, if_neg h6, if_neg h7, if_neg h9, if_neg h10, if_neg h11, if_neg h13, if_pos h15]))
                    · by_cases h16 : A 19 t 1 = 13
                      · refine lv_tableIn (tgt := 108) hx hb dL_requesterTakes_13 (by rw [h16]; decide) (by rw [h16]; decide) (by rw [h16]; rfl) rfl ?_
                        refine lv_aload_n hx hb dL_requesterTakes_108 rfl (lv_at hl 0 rfl) ?_
                        refine lv_aload_n hx hb dL_requesterTakes_109 rfl (lv_at hl 1 rfl) ?_
                        refine lv_aload_n hx hb dL_requesterTakes_110 rfl (lv_at hl 3 rfl) ?_
                        refine ew_get (v := .int (A 19 t 2)) hx hb hts hown hK hV fL_378 hlt (cC_19 _ _ _ _) rfl dL_requesterTakes_111 ?_
                        refine er_callv (va_runV (As := [.ref lo, .int (A 19 t 2)]) (rest := []) ⟨hx, hb, hml, hown, hts⟩ (c_L_requesterIsCharged l D T X L tg _ A ln th hth lo hlo (A 19 t 2) rq e3_0 e11_1 hrq q1) (cwV 2 hts gL_380 rfl rfl rfl (by decide +kernel) ⟨Nat.le_of_ble_eq_true rfl, Nat.le_of_ble_eq_true rfl⟩) (ec_preV hK hN hV hth (cC_0 _ _ _ _) rfl) rfl rfl hl.1 rfl (lv_room (Nat.le_of_ble_eq_true rfl)) dL_requesterTakes_114 ⟨Nat.le_of_ble_eq_true rfl, Nat.le_of_ble_eq_true rfl⟩) hV hS hA (fun u17 H locs eu17 hV hS => ?_)
                        have eu17 : u17 = z_L_requesterIsCharged A ln (A 19 t 2) rq := eu17
                        refine lv_goto (tgt := 120) hx hb dL_requesterTakes_117 rfl ?_
                        rw [eu17] at hV
                        exact er_vret hx hb hr hlocks hV hS dL_requesterTakes_120 (Eq.symm (by unfold z_L_rt_0; simp only [if_neg h1, if_neg h3, if_neg h5, if_neg h6, if_neg h7, if_neg h9, if_neg h10, if_neg h11, if_neg h13, if_neg h15, if_pos h16]))
                      · by_cases h18 : A 19 t 1 = 14
                        · refine lv_tableIn (tgt := 120) hx hb dL_requesterTakes_13 (by rw [h18]; decide) (by rw [h18]; decide) (by rw [h18]; rfl) rfl ?_
                          exact er_vret hx hb hr hlocks hV hS dL_requesterTakes_120 (Eq.symm (by unfold z_L_rt_0; simp only [if_neg h1, if_neg h3, if_neg h5, if_neg h6, if_neg h7, if_neg h9, if_neg h10, if_neg h11, if_neg h13, if_neg h15, if_neg h16, if_pos h18]))
                        · by_cases h19 : A 19 t 1 = 15
                          · refine lv_tableIn (tgt := 120) hx hb dL_requesterTakes_13 (by rw [h19]; decide) (by rw [h19]; decide) (by rw [h19]; rfl) rfl ?_
                            exact er_vret hx hb hr hlocks hV hS dL_requesterTakes_120 (Eq.symm (by unfold z_L_rt_0; simp only [if_neg h1, if_neg h3, if_neg h5, if_neg h6, if_neg h7, if_neg h9, if_neg h10, if_neg h11, if_neg h13, if_neg h15, if_neg h16, if_neg h18, if_pos h19]))
                          · by_cases h20 : A 19 t 1 = 16
                            · refine lv_tableIn (tgt := 88) hx hb dL_requesterTakes_13 (by rw [h20]; decide) (by rw [h20]; decide) (by rw [h20]; rfl) rfl ?_
                              refine lv_aload_n hx hb dL_requesterTakes_88 rfl (lv_at hl 0 rfl) ?_
                              refine lv_aload_n hx hb dL_requesterTakes_89 rfl (lv_at hl 1 rfl) ?_
                              refine lv_aload_n hx hb dL_requesterTakes_90 rfl (lv_at hl 3 rfl) ?_
                              refine er_callv (va_runV (As := [.ref lo, .ref lt]) (rest := []) ⟨hx, hb, hml, hown, hts⟩ (c_L_hears_0 l D T X L tg _ A ln t th hth lo hlo lt hlt e3_0 hst hk4) (cwV 2 hts gL_370 rfl rfl rfl (by decide +kernel) ⟨Nat.le_of_ble_eq_true rfl, Nat.le_of_ble_eq_true rfl⟩) (ec_preV hK hN hV hth (cC_0 _ _ _ _) rfl) rfl rfl hl.1 rfl (lv_room (Nat.le_of_ble_eq_true rfl)) dL_requesterTakes_91 ⟨Nat.le_of_ble_eq_true rfl, Nat.le_of_ble_eq_true rfl⟩) hV hS hA (fun u21 H locs eu21 hV hS => ?_)
                              have eu21 : u21 = z_L_hears_0 A ln t := eu21
                              refine lv_goto (tgt := 120) hx hb dL_requesterTakes_94 rfl ?_
                              rw [eu21] at hV
                              exact er_vret hx hb hr hlocks hV hS dL_requesterTakes_120 (Eq.symm (by unfold z_L_rt_0; simp only [if_neg h1, if_neg h3, if_neg h5, if_neg h6, if_neg h7, if_neg h9, if_neg h10, if_neg h11, if_neg h13, if_neg h15, if_neg h16, if_neg h18, if_neg h19, if_pos h20]))
                            · refine lv_tableOut (tgt := 120) hx hb dL_requesterTakes_13 (by have a0 := lv_neT (a := 2) h1 (by decide); have a1 := lv_neT (a := 3) h3 (by decide); have a2 := lv_neT (a := 4) hk4 (by decide); have a3 := lv_neT (a := 5) h5 (by decide); have a4 := lv_neT (a := 6) h6 (by decide); have a5 := lv_neT (a := 7) h7 (by decide); have a6 := lv_neT (a := 8) h9 (by decide); have a7 := lv_neT (a := 9) h10 (by decide); have a8 := lv_neT (a := 10) h11 (by decide); have a9 := lv_neT (a := 11) h13 (by decide); have a10 := lv_neT (a := 12) h15 (by decide); have a11 := lv_neT (a := 13) h16 (by decide); have a12 := lv_neT (a := 14) h18 (by decide); have a13 := lv_neT (a := 15) h19 (by decide); have a14 := lv_neT (a := 16) h20 (by decide); omega) rfl ?_
                              exact er_vret hx hb hr hlocks hV hS dL_requesterTakes_120 (Eq.symm (by unfold z_L_rt_0; simp only [if_neg h1, if_neg h3, if_neg h5, if_neg h6, if_neg h7, if_neg h9, if_neg h10, if_neg h11, if_neg h13, if_neg h15, if_neg h16, if_neg h18, if_neg h19, if_neg h20]))

def z_L_rt_n (A : ew_R) (ln : Nat) (d : Nat) (t : Nat) (rq : Nat) : ew_R :=
  if A 19 t 1 = 2 then
    (z_L_hears_n A ln t)
  else
    if A 19 t 1 = 3 then
      (z_L_hears_n A ln t)
    else
      if A 19 t 1 = 4 then
        (z_L_hears_n A ln t)
      else
        if A 19 t 1 = 5 then
          A
        else
          if A 19 t 1 = 6 then
            A
          else
            if A 19 t 1 = 7 then
              (z_L_requesterHearsOfDue A ln t)
            else
              if A 19 t 1 = 8 then
                A
              else
                if A 19 t 1 = 9 then
                  A
                else
                  if A 19 t 1 = 10 then
                    (z_L_requesterHearsOfDue A ln t)
                  else
                    if A 19 t 1 = 11 then
                      (z_L_requesterHearsOfDue A ln t)
                    else
                      if A 19 t 1 = 12 then
                        A
                      else
                        if A 19 t 1 = 13 then
                          (z_L_requesterIsCharged A ln (A 19 t 2) rq)
                        else
                          if A 19 t 1 = 14 then
                            A
                          else
                            if A 19 t 1 = 15 then
                              A
                            else
                              if A 19 t 1 = 16 then
                                (z_L_hears_n A ln t)
                              else
                                A
set_option maxHeartbeats 4000000 in
set_option maxRecDepth 100000 in
theorem c_L_rt_n (l : Launch) (D : va_G) (T : Nat → ClassId) (X : Nat → Nat → Nat) (L : List Nat) (tg : Nat → Nat × Nat) (sz : Nat) (A : ew_R) (ln : Nat) (d : Nat) (t : Nat) (th : Nat) (hth : ew_in X L tg 0 0 th) (lo : Nat) (hlo : ew_in X L tg 2 ln lo) (dl : Nat) (hdl : ew_in X L tg 4 d dl) (lt : Nat) (hlt : ew_in X L tg 19 t lt) (rq : Nat) (e3_0 : ew_in X L tg 3 ln (X 3 ln)) (e11_1 : ew_in X L tg 11 0 (X 11 0)) (q7 : A 2 ln 7 = nI d) (hpd : d < 192) (hrq : rq < 6) (q1 : A 2 ln 1 = nI rq) (hst : ¬ A 3 ln 0 = 10) (hs0 : ¬ A 3 ln 0 = 0) : Met l yL_requesterTakes wsL_requesterTakes ({ frames := 11, cells := 0, slots := 0, locals := 247 }) (ec_Pc D vwCl (tysA T) (cfC T) X L tg A sz [.ref th, .ref lo, .ref dl, .ref lt]) (er_Qv D vwCl (cfC T) X L tg sz (fun u => u = z_L_rt_n A ln d t rq)) 0 0 (ew_A L sz) := by
  refine ec_met (by decide) rfl (Nat.le_of_ble_eq_true rfl) ?_
  intro p e s m below meth c ls hx hb hr hts hown hlocks hml hV hK hN hS hA hl hsz
  subst hsz
  have hl : lv_has ls 4 [(0, .ref th), (1, .ref lo), (2, .ref dl), (3, .ref lt)] := hl
  refine lv_aload_n hx hb dL_requesterTakes_0 rfl (lv_at hl 2 rfl) ?_
  refine lv_aload_n hx hb dL_requesterTakes_1 rfl (lv_at hl 1 rfl) ?_
  refine ew_get (v := .ref (X 4 d)) hx hb hts hown hK hV fL_212 hlo (cC_2 _ _ _ _) (ec_rd q7 (by omega)) dL_requesterTakes_2 ?_
  refine lv_acmp_eq (rx := some dl) (ry := some (X 4 d)) (tgt := 9) hx hb dL_requesterTakes_5 rfl (fun _ => ?_) (fun h9 => absurd (congrArg some hdl.1.symm) h9)
  refine lv_aload_n hx hb dL_requesterTakes_9 rfl (lv_at hl 3 rfl) ?_
  refine ew_get (v := .int (A 19 t 1)) hx hb hts hown hK hV fL_350 hlt (cC_19 _ _ _ _) rfl dL_requesterTakes_10 ?_
  by_cases h1 : A 19 t 1 = 2
  · refine lv_tableIn (tgt := 88) hx hb dL_requesterTakes_13 (by rw [h1]; decide) (by rw [h1]; decide) (by rw [h1]; rfl) rfl ?_
    refine lv_aload_n hx hb dL_requesterTakes_88 rfl (lv_at hl 0 rfl) ?_
    refine lv_aload_n hx hb dL_requesterTakes_89 rfl (lv_at hl 1 rfl) ?_
    refine lv_aload_n hx hb dL_requesterTakes_90 rfl (lv_at hl 3 rfl) ?_
    refine er_callv (va_runV (As := [.ref lo, .ref lt]) (rest := []) ⟨hx, hb, hml, hown, hts⟩ (c_L_hears_n l D T X L tg _ A ln t th hth lo hlo lt hlt e3_0 hst hs0) (cwV 2 hts gL_370 rfl rfl rfl (by decide +kernel) ⟨Nat.le_of_ble_eq_true rfl, Nat.le_of_ble_eq_true rfl⟩) (ec_preV hK hN hV hth (cC_0 _ _ _ _) rfl) rfl rfl hl.1 rfl (lv_room (Nat.le_of_ble_eq_true rfl)) dL_requesterTakes_91 ⟨Nat.le_of_ble_eq_true rfl, Nat.le_of_ble_eq_true rfl⟩) hV hS hA (fun u2 H locs eu2 hV hS => ?_)
    have eu2 : u2 = z_L_hears_n A ln t := eu2
    refine lv_goto (tgt := 120) hx hb dL_requesterTakes_94 rfl ?_
    rw [eu2] at hV
    exact er_vret hx hb hr hlocks hV hS dL_requesterTakes_120 (Eq.symm (by unfold z_L_rt_n; simp only [if_pos h1]))
  · by_cases h3 : A 19 t 1 = 3
    · refine lv_tableIn (tgt := 88) hx hb dL_requesterTakes_13 (by rw [h3]; decide) (by rw [h3]; decide) (by rw [h3]; rfl) rfl ?_
      refine lv_aload_n hx hb dL_requesterTakes_88 rfl (lv_at hl 0 rfl) ?_
      refine lv_aload_n hx hb dL_requesterTakes_89 rfl (lv_at hl 1 rfl) ?_
      refine lv_aload_n hx hb dL_requesterTakes_90 rfl (lv_at hl 3 rfl) ?_
      refine er_callv (va_runV (As := [.ref lo, .ref lt]) (rest := []) ⟨hx, hb, hml, hown, hts⟩ (c_L_hears_n l D T X L tg _ A ln t th hth lo hlo lt hlt e3_0 hst hs0) (cwV 2 hts gL_370 rfl rfl rfl (by decide +kernel) ⟨Nat.le_of_ble_eq_true rfl, Nat.le_of_ble_eq_true rfl⟩) (ec_preV hK hN hV hth (cC_0 _ _ _ _) rfl) rfl rfl hl.1 rfl (lv_room (Nat.le_of_ble_eq_true rfl)) dL_requesterTakes_91 ⟨Nat.le_of_ble_eq_true rfl, Nat.le_of_ble_eq_true rfl⟩) hV hS hA (fun u4 H locs eu4 hV hS => ?_)
      have eu4 : u4 = z_L_hears_n A ln t := eu4
      refine lv_goto (tgt := 120) hx hb dL_requesterTakes_94 rfl ?_
      rw [eu4] at hV
      exact er_vret hx hb hr hlocks hV hS dL_requesterTakes_120 (Eq.symm (by unfold z_L_rt_n; simp only [if_neg h1, if_pos h3]))
    · by_cases h5 : A 19 t 1 = 4
      · refine lv_tableIn (tgt := 88) hx hb dL_requesterTakes_13 (by rw [h5]; decide) (by rw [h5]; decide) (by rw [h5]; rfl) rfl ?_
        refine lv_aload_n hx hb dL_requesterTakes_88 rfl (lv_at hl 0 rfl) ?_
        refine lv_aload_n hx hb dL_requesterTakes_89 rfl (lv_at hl 1 rfl) ?_
        refine lv_aload_n hx hb dL_requesterTakes_90 rfl (lv_at hl 3 rfl) ?_
        refine er_callv (va_runV (As := [.ref lo, .ref lt]) (rest := []) ⟨hx, hb, hml, hown, hts⟩ (c_L_hears_n l D T X L tg _ A ln t th hth lo hlo lt hlt e3_0 hst hs0) (cwV 2 hts gL_370 rfl rfl rfl (by decide +kernel) ⟨Nat.le_of_ble_eq_true rfl, Nat.le_of_ble_eq_true rfl⟩) (ec_preV hK hN hV hth (cC_0 _ _ _ _) rfl) rfl rfl hl.1 rfl (lv_room (Nat.le_of_ble_eq_true rfl)) dL_requesterTakes_91 ⟨Nat.le_of_ble_eq_true rfl, Nat.le_of_ble_eq_true rfl⟩) hV hS hA (fun u6 H locs eu6 hV hS => ?_)
        have eu6 : u6 = z_L_hears_n A ln t := eu6
        refine lv_goto (tgt := 120) hx hb dL_requesterTakes_94 rfl ?_
        rw [eu6] at hV
        exact er_vret hx hb hr hlocks hV hS dL_requesterTakes_120 (Eq.symm (by unfold z_L_rt_n; simp only [if_neg h1, if_neg h3, if_pos h5]))
      · by_cases h7 : A 19 t 1 = 5
        · refine lv_tableIn (tgt := 120) hx hb dL_requesterTakes_13 (by rw [h7]; decide) (by rw [h7]; decide) (by rw [h7]; rfl) rfl ?_
          exact er_vret hx hb hr hlocks hV hS dL_requesterTakes_120 (Eq.symm (by unfold z_L_rt_n; simp only [if_neg h1, if_neg h3, if_neg h5, if_pos h7]))
        · by_cases h8 : A 19 t 1 = 6
          · refine lv_tableIn (tgt := 120) hx hb dL_requesterTakes_13 (by rw [h8]; decide) (by rw [h8]; decide) (by rw [h8]; rfl) rfl ?_
            exact er_vret hx hb hr hlocks hV hS dL_requesterTakes_120 (Eq.symm (by unfold z_L_rt_n; simp only [if_neg h1, if_neg h3, if_neg h5, if_neg h7, if_pos h8]))
          · by_cases h9 : A 19 t 1 = 7
            · refine lv_tableIn (tgt := 97) hx hb dL_requesterTakes_13 (by rw [h9]; decide) (by rw [h9]; decide) (by rw [h9]; rfl) rfl ?_
              refine lv_aload_n hx hb dL_requesterTakes_97 rfl (lv_at hl 1 rfl) ?_
              refine ew_get (v := .ref (X 3 ln)) hx hb hts hown hK hV fL_107 hlo (cC_2 _ _ _ _) rfl dL_requesterTakes_98 ?_
              refine lv_aload_n hx hb dL_requesterTakes_101 rfl (lv_at hl 3 rfl) ?_
              refine er_callv (va_runS (As := [.ref (X 3 ln), .ref lt]) (rest := []) ⟨hx, hb, hml, hown, hts⟩ (c_L_requesterHearsOfDue l D T X L tg _ A ln t (X 3 ln) e3_0 lt hlt) (cwS 2 hts gL_374 rfl rfl rfl (by decide +kernel) ⟨Nat.le_of_ble_eq_true rfl, Nat.le_of_ble_eq_true rfl⟩) (ec_preS hK hN hV) rfl rfl hl.1 rfl (lv_room (Nat.le_of_ble_eq_true rfl)) dL_requesterTakes_102 ⟨Nat.le_of_ble_eq_true rfl, Nat.le_of_ble_eq_true rfl⟩) hV hS hA (fun u10 H locs eu10 hV hS => ?_)
              have eu10 : u10 = z_L_requesterHearsOfDue A ln t := eu10
              refine lv_goto (tgt := 120) hx hb dL_requesterTakes_105 rfl ?_
              rw [eu10] at hV
              exact er_vret hx hb hr hlocks hV hS dL_requesterTakes_120 (Eq.symm (by unfold z_L_rt_n; simp only [if_neg h1, if_neg h3, if_neg h5, if_neg h7, if_neg h8, if_pos h9]))
            · by_cases h11 : A 19 t 1 = 8
              · refine lv_tableIn (tgt := 120) hx hb dL_requesterTakes_13 (by rw [h11]; decide) (by rw [h11]; decide) (by rw [h11]; rfl) rfl ?_
                exact er_vret hx hb hr hlocks hV hS dL_requesterTakes_120 (Eq.symm (by unfold z_L_rt_n; simp only [if_neg h1, if_neg h3, if_neg h5, if_neg h7, if_neg h8, if_neg h9, if_pos h11]))
              · by_cases h12 : A 19 t 1 = 9
                · refine lv_tableIn (tgt := 120) hx hb dL_requesterTakes_13 (by rw [h12]; decide) (by rw [h12]; decide) (by rw [h12]; rfl) rfl ?_
                  exact er_vret hx hb hr hlocks hV hS dL_requesterTakes_120 (Eq.symm (by unfold z_L_rt_n; simp only [if_neg h1, if_neg h3, if_neg h5, if_neg h7, if_neg h8, if_neg h9, if_neg h11, if_pos h12]))
                · by_cases h13 : A 19 t 1 = 10
                  · refine lv_tableIn (tgt := 97) hx hb dL_requesterTakes_13 (by rw [h13]; decide) (by rw [h13]; decide) (by rw [h13]; rfl) rfl ?_
                    refine lv_aload_n hx hb dL_requesterTakes_97 rfl (lv_at hl 1 rfl) ?_
                    refine ew_get (v := .ref (X 3 ln)) hx hb hts hown hK hV fL_107 hlo (cC_2 _ _ _ _) rfl dL_requesterTakes_98 ?_
                    refine lv_aload_n hx hb dL_requesterTakes_101 rfl (lv_at hl 3 rfl) ?_
                    refine er_callv (va_runS (As := [.ref (X 3 ln), .ref lt]) (rest := []) ⟨hx, hb, hml, hown, hts⟩ (c_L_requesterHearsOfDue l D T X L tg _ A ln t (X 3 ln) e3_0 lt hlt) (cwS 2 hts gL_374 rfl rfl rfl (by decide +kernel) ⟨Nat.le_of_ble_eq_true rfl, Nat.le_of_ble_eq_true rfl⟩) (ec_preS hK hN hV) rfl rfl hl.1 rfl (lv_room (Nat.le_of_ble_eq_true rfl)) dL_requesterTakes_102 ⟨Nat.le_of_ble_eq_true rfl, Nat.le_of_ble_eq_true rfl⟩) hV hS hA (fun u14 H locs eu14 hV hS => ?_)
                    have eu14 : u14 = z_L_requesterHearsOfDue A ln t := eu14
                    refine lv_goto (tgt := 120) hx hb dL_requesterTakes_105 rfl ?_
                    rw [eu14] at hV
                    exact er_vret hx hb hr hlocks hV hS dL_requesterTakes_120 (Eq.symm (by unfold z_L_rt_n; simp only [if_neg h1, if_neg h3, if_neg h5, if_neg h7, if_neg h8, if_neg h9, if_neg h11, if_neg h12, if_pos h13]))
                  · by_cases h15 : A 19 t 1 = 11
                    · refine lv_tableIn (tgt := 97) hx hb dL_requesterTakes_13 (by rw [h15]; decide) (by rw [h15]; decide) (by rw [h15]; rfl) rfl ?_
                      refine lv_aload_n hx hb dL_requesterTakes_97 rfl (lv_at hl 1 rfl) ?_
                      refine ew_get (v := .ref (X 3 ln)) hx hb hts hown hK hV fL_107 hlo (cC_2 _ _ _ _) rfl dL_requesterTakes_98 ?_
                      refine lv_aload_n hx hb dL_requesterTakes_101 rfl (lv_at hl 3 rfl) ?_
                      refine er_callv (va_runS (As := [.ref (X 3 ln), .ref lt]) (rest := []) ⟨hx, hb, hml, hown, hts⟩ (c_L_requesterHearsOfDue l D T X L tg _ A ln t (X 3 ln) e3_0 lt hlt) (cwS 2 hts gL_374 rfl rfl rfl (by decide +kernel) ⟨Nat.le_of_ble_eq_true rfl, Nat.le_of_ble_eq_true rfl⟩) (ec_preS hK hN hV) rfl rfl hl.1 rfl (lv_room (Nat.le_of_ble_eq_true rfl)) dL_requesterTakes_102 ⟨Nat.le_of_ble_eq_true rfl, Nat.le_of_ble_eq_true rfl⟩) hV hS hA (fun u16 H locs eu16 hV hS => ?_)
                      have eu16 : u16 = z_L_requesterHearsOfDue A ln t := eu16
                      refine lv_goto (tgt := 120) hx hb dL_requesterTakes_105 rfl ?_
                      rw [eu16] at hV
                      exact er_vret hx hb hr hlocks hV hS dL_requesterTakes_120 (Eq.symm (by unfold z_L_rt_n; simp only [if_neg h1, if_neg h3, if_neg h5, if_neg h7, if_neg h8, if_neg h9, if_neg h11, if_neg h12, if_neg h13, if_pos h15]))
                    · by_cases h17 : A 19 t 1 = 12
                      · refine lv_tableIn (tgt := 120) hx hb dL_requesterTakes_13 (by rw [h17]; decide) (by rw [h17]; decide) (by rw [h17]; rfl) rfl ?_
                        exact er_vret hx hb hr hlocks hV hS dL_requesterTakes_120 (Eq.symm (by unfold z_L_rt_n; simp only [if_neg h1, if_neg h3, if_neg h5, if_neg h7, if_neg h8, if_neg h9, if_neg h11, if_neg h12, if_neg h13, if_neg h15, if_pos h17]))
                      · by_cases h18 : A 19 t 1 = 13
                        · refine lv_tableIn (tgt := 108) hx hb dL_requesterTakes_13 (by rw [h18]; decide) (by rw [h18]; decide) (by rw [h18]; rfl) rfl ?_
                          refine lv_aload_n hx hb dL_requesterTakes_108 rfl (lv_at hl 0 rfl) ?_
                          refine lv_aload_n hx hb dL_requesterTakes_109 rfl (lv_at hl 1 rfl) ?_
                          refine lv_aload_n hx hb dL_requesterTakes_110 rfl (lv_at hl 3 rfl) ?_
                          refine ew_get (v := .int (A 19 t 2)) hx hb hts hown hK hV fL_378 hlt (cC_19 _ _ _ _) rfl dL_requesterTakes_111 ?_
                          refine er_callv (va_runV (As := [.ref lo, .int (A 19 t 2)]) (rest := []) ⟨hx, hb, hml, hown, hts⟩ (c_L_requesterIsCharged l D T X L tg _ A ln th hth lo hlo (A 19 t 2) rq e3_0 e11_1 hrq q1) (cwV 2 hts gL_380 rfl rfl rfl (by decide +kernel) ⟨Nat.le_of_ble_eq_true rfl, Nat.le_of_ble_eq_true rfl⟩) (ec_preV hK hN hV hth (cC_0 _ _ _ _) rfl) rfl rfl hl.1 rfl (lv_room (Nat.le_of_ble_eq_true rfl)) dL_requesterTakes_114 ⟨Nat.le_of_ble_eq_true rfl, Nat.le_of_ble_eq_true rfl⟩) hV hS hA (fun u19 H locs eu19 hV hS => ?_)
                          have eu19 : u19 = z_L_requesterIsCharged A ln (A 19 t 2) rq := eu19
                          refine lv_goto (tgt := 120) hx hb dL_requesterTakes_117 rfl ?_
                          rw [eu19] at hV
                          exact er_vret hx hb hr hlocks hV hS dL_requesterTakes_120 (Eq.symm (by unfold z_L_rt_n; simp only [if_neg h1, if_neg h3, if_neg h5, if_neg h7, if_neg h8, if_neg h9, if_neg h11, if_neg h12, if_neg h13, if_neg h15, if_neg h17, if_pos h18]))
                        · by_cases h20 : A 19 t 1 = 14
                          · refine lv_tableIn (tgt := 120) hx hb dL_requesterTakes_13 (by rw [h20]; decide) (by rw [h20]; decide) (by rw [h20]; rfl) rfl ?_
                            exact er_vret hx hb hr hlocks hV hS dL_requesterTakes_120 (Eq.symm (by unfold z_L_rt_n; simp only [if_neg h1, if_neg h3, if_neg h5, if_neg h7, if_neg h8, if_neg h9, if_neg h11, if_neg h12, if_neg h13, if_neg h15, if_neg h17, if_neg h18, if_pos h20]))
                          · by_cases h21 : A 19 t 1 = 15
                            · refine lv_tableIn (tgt := 120) hx hb dL_requesterTakes_13 (by rw [h21]; decide) (by rw [h21]; decide) (by rw [h21]; rfl) rfl ?_
                              exact er_vret hx hb hr hlocks hV hS dL_requesterTakes_120 (Eq.symm (by unfold z_L_rt_n; simp only [if_neg h1, if_neg h3, if_neg h5, if_neg h7, if_neg h8, if_neg h9, if_neg h11, if_neg h12, if_neg h13, if_neg h15, if_neg h17, if_neg h18, if_neg h20, if_pos h21]))
                            · by_cases h22 : A 19 t 1 = 16
                              · refine lv_tableIn (tgt := 88) hx hb dL_requesterTakes_13 (by rw [h22]; decide) (by rw [h22]; decide) (by rw [h22]; rfl) rfl ?_
                                refine lv_aload_n hx hb dL_requesterTakes_88 rfl (lv_at hl 0 rfl) ?_
                                refine lv_aload_n hx hb dL_requesterTakes_89 rfl (lv_at hl 1 rfl) ?_
                                refine lv_aload_n hx hb dL_requesterTakes_90 rfl (lv_at hl 3 rfl) ?_
                                refine er_callv (va_runV (As := [.ref lo, .ref lt]) (rest := []) ⟨hx, hb, hml, hown, hts⟩ (c_L_hears_n l D T X L tg _ A ln t th hth lo hlo lt hlt e3_0 hst hs0) (cwV 2 hts gL_370 rfl rfl rfl (by decide +kernel) ⟨Nat.le_of_ble_eq_true rfl, Nat.le_of_ble_eq_true rfl⟩) (ec_preV hK hN hV hth (cC_0 _ _ _ _) rfl) rfl rfl hl.1 rfl (lv_room (Nat.le_of_ble_eq_true rfl)) dL_requesterTakes_91 ⟨Nat.le_of_ble_eq_true rfl, Nat.le_of_ble_eq_true rfl⟩) hV hS hA (fun u23 H locs eu23 hV hS => ?_)
                                have eu23 : u23 = z_L_hears_n A ln t := eu23
                                refine lv_goto (tgt := 120) hx hb dL_requesterTakes_94 rfl ?_
                                rw [eu23] at hV
                                exact er_vret hx hb hr hlocks hV hS dL_requesterTakes_120 (Eq.symm (by unfold z_L_rt_n; simp only [if_neg h1, if_neg h3, if_neg h5, if_neg h7, if_neg h8, if_neg h9, if_neg h11, if_neg h12, if_neg h13, if_neg h15, if_neg h17, if_neg h18, if_neg h20, if_neg h21, if_pos h22]))
                              · refine lv_tableOut (tgt := 120) hx hb dL_requesterTakes_13 (by have a0 := lv_neT (a := 2) h1 (by decide); have a1 := lv_neT (a := 3) h3 (by decide); have a2 := lv_neT (a := 4) h5 (by decide); have a3 := lv_neT (a := 5) h7 (by decide); have a4 := lv_neT (a := 6) h8 (by decide); have a5 := lv_neT (a := 7) h9 (by decide); have a6 := lv_neT (a := 8) h11 (by decide); have a7 := lv_neT (a := 9) h12 (by decide); have a8 := lv_neT (a := 10) h13 (by decide); have a9 := lv_neT (a := 11) h15 (by decide); have a10 := lv_neT (a := 12) h17 (by decide); have a11 := lv_neT (a := 13) h18 (by decide); have a12 := lv_neT (a := 14) h20 (by decide); have a13 := lv_neT (a := 15) h21 (by decide); have a14 := lv_neT (a := 16) h22 (by decide); omega) rfl ?_
                                exact er_vret hx hb hr hlocks hV hS dL_requesterTakes_120 (Eq.symm (by unfold z_L_rt_n; simp only [if_neg h1, if_neg h3, if_neg h5, if_neg h7, if_neg h8, if_neg h9, if_neg h11, if_neg h12, if_neg h13, if_neg h15, if_neg h17, if_neg h18, if_neg h20, if_neg h21, if_neg h22]))
