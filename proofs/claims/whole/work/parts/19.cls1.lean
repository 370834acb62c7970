def z_Asker_hasCopy (sx : Int32) : Int32 :=
  if sx = 4 then
    1
  else
    if sx = 5 then
      1
    else
      if sx = 6 then
        1
      else
        0
set_option maxHeartbeats 4000000 in
set_option maxRecDepth 100000 in
theorem c_Asker_hasCopy (l : Launch) (D : va_G) (T : Nat → ClassId) (X : Nat → Nat → Nat) (L : List Nat) (tg : Nat → Nat × Nat) (sz : Nat) (A : ew_R) (sx : Int32) : Met l yAsker_hasCopy wsAsker_hasCopy ({ frames := 0, cells := 0, slots := 0, locals := 0 }) (ec_Pc D vwCl (tysA T) (cfC T) X L tg A sz [.int sx]) (er_Qi D vwCl (cfC T) X L tg sz (fun r u => r = z_Asker_hasCopy sx ∧ u = A)) 0 0 (ew_A L sz) := by
  refine ec_met (by decide) rfl (Nat.le_of_ble_eq_true rfl) ?_
  intro p e s m below meth c ls hx hb hr hts hown hlocks hml hV hK hN hS hA hl hsz
  subst hsz
  have hl : lv_has ls 1 [(0, .int sx)] := hl
  refine lv_iload_n hx hb dAsker_hasCopy_0 rfl (lv_at hl 0 rfl) ?_
  refine lv_iconst (v := 4) hx hb dAsker_hasCopy_1 (by decide) ?_
  refine lv_icmp_eq (tgt := 16) hx hb dAsker_hasCopy_2 rfl (fun h1 => ?_) (fun h1 => ?_)
  · refine lv_iconst (v := 1) hx hb dAsker_hasCopy_16 (by decide) ?_
    refine lv_goto (tgt := 21) hx hb dAsker_hasCopy_17 rfl ?_
    exact er_zret hx hb hr hlocks hV hS dAsker_hasCopy_21 (by decide) ⟨Eq.symm (by unfold z_Asker_hasCopy; simp only [if_pos h1]), rfl⟩
  · refine lv_iload_n hx hb dAsker_hasCopy_5 rfl (lv_at hl 0 rfl) ?_
    refine lv_iconst (v := 5) hx hb dAsker_hasCopy_6 (by decide) ?_
    refine lv_icmp_eq (tgt := 16) hx hb dAsker_hasCopy_7 rfl (fun h2 => ?_) (fun h2 => ?_)
    · refine lv_iconst (v := 1) hx hb dAsker_hasCopy_16 (by decide) ?_
      refine lv_goto (tgt := 21) hx hb dAsker_hasCopy_17 rfl ?_
      exact er_zret hx hb hr hlocks hV hS dAsker_hasCopy_21 (by decide) ⟨Eq.symm (by unfold z_Asker_hasCopy; simp only [if_neg h1, if_pos h2]), rfl⟩
    · refine lv_iload_n hx hb dAsker_hasCopy_10 rfl (lv_at hl 0 rfl) ?_
      refine lv_bipush (v := 6) hx hb dAsker_hasCopy_11 (by decide) ?_
      refine lv_icmp_ne (tgt := 20) hx hb dAsker_hasCopy_13 rfl (fun h3 => ?_) (fun h3 => ?_)
      · refine lv_iconst (v := 0) hx hb dAsker_hasCopy_20 (by decide) ?_
        exact er_zret hx hb hr hlocks hV hS dAsker_hasCopy_21 (by decide) ⟨Eq.symm (by unfold z_Asker_hasCopy; simp only [if_neg h1, if_neg h2, if_neg h3]), rfl⟩
      · refine lv_iconst (v := 1) hx hb dAsker_hasCopy_16 (by decide) ?_
        refine lv_goto (tgt := 21) hx hb dAsker_hasCopy_17 rfl ?_
        exact er_zret hx hb hr hlocks hV hS dAsker_hasCopy_21 (by decide) ⟨Eq.symm (by unfold z_Asker_hasCopy; simp only [if_neg h1, if_neg h2, if_pos h3]), rfl⟩

def z_Lender_isOut (sx : Int32) : Int32 :=
  if sx = 5 then
    1
  else
    if sx = 6 then
      1
    else
      if sx = 7 then
        1
      else
        0
set_option maxHeartbeats 4000000 in
set_option maxRecDepth 100000 in
theorem c_Lender_isOut (l : Launch) (D : va_G) (T : Nat → ClassId) (X : Nat → Nat → Nat) (L : List Nat) (tg : Nat → Nat × Nat) (sz : Nat) (A : ew_R) (sx : Int32) : Met l yLender_isOut wsLender_isOut ({ frames := 0, cells := 0, slots := 0, locals := 0 }) (ec_Pc D vwCl (tysA T) (cfC T) X L tg A sz [.int sx]) (er_Qi D vwCl (cfC T) X L tg sz (fun r u => r = z_Lender_isOut sx ∧ u = A)) 0 0 (ew_A L sz) := by
  refine ec_met (by decide) rfl (Nat.le_of_ble_eq_true rfl) ?_
  intro p e s m below meth c ls hx hb hr hts hown hlocks hml hV hK hN hS hA hl hsz
  subst hsz
  have hl : lv_has ls 1 [(0, .int sx)] := hl
  refine lv_iload_n hx hb dLender_isOut_0 rfl (lv_at hl 0 rfl) ?_
  refine lv_iconst (v := 5) hx hb dLender_isOut_1 (by decide) ?_
  refine lv_icmp_eq (tgt := 17) hx hb dLender_isOut_2 rfl (fun h1 => ?_) (fun h1 => ?_)
  · refine lv_iconst (v := 1) hx hb dLender_isOut_17 (by decide) ?_
    refine lv_goto (tgt := 22) hx hb dLender_isOut_18 rfl ?_
    exact er_zret hx hb hr hlocks hV hS dLender_isOut_22 (by decide) ⟨Eq.symm (by unfold z_Lender_isOut; simp only [if_pos h1]), rfl⟩
  · refine lv_iload_n hx hb dLender_isOut_5 rfl (lv_at hl 0 rfl) ?_
    refine lv_bipush (v := 6) hx hb dLender_isOut_6 (by decide) ?_
    refine lv_icmp_eq (tgt := 17) hx hb dLender_isOut_8 rfl (fun h2 => ?_) (fun h2 => ?_)
    · refine lv_iconst (v := 1) hx hb dLender_isOut_17 (by decide) ?_
      refine lv_goto (tgt := 22) hx hb dLender_isOut_18 rfl ?_
      exact er_zret hx hb hr hlocks hV hS dLender_isOut_22 (by decide) ⟨Eq.symm (by unfold z_Lender_isOut; simp only [if_neg h1, if_pos h2]), rfl⟩
    · refine lv_iload_n hx hb dLender_isOut_11 rfl (lv_at hl 0 rfl) ?_
      refine lv_bipush (v := 7) hx hb dLender_isOut_12 (by decide) ?_
      refine lv_icmp_ne (tgt := 21) hx hb dLender_isOut_14 rfl (fun h3 => ?_) (fun h3 => ?_)
      · refine lv_iconst (v := 0) hx hb dLender_isOut_21 (by decide) ?_
        exact er_zret hx hb hr hlocks hV hS dLender_isOut_22 (by decide) ⟨Eq.symm (by unfold z_Lender_isOut; simp only [if_neg h1, if_neg h2, if_neg h3]), rfl⟩
      · refine lv_iconst (v := 1) hx hb dLender_isOut_17 (by decide) ?_
        refine lv_goto (tgt := 22) hx hb dLender_isOut_18 rfl ?_
        exact er_zret hx hb hr hlocks hV hS dLender_isOut_22 (by decide) ⟨Eq.symm (by unfold z_Lender_isOut; simp only [if_neg h1, if_neg h2, if_pos h3]), rfl⟩

def z_L_isLibrary (lb : Int32) : Int32 :=
  if lb < 0 then
    0
  else
    if 6 ≤ lb then
      0
    else
      1
set_option maxHeartbeats 4000000 in
set_option maxRecDepth 100000 in
theorem c_L_isLibrary (l : Launch) (D : va_G) (T : Nat → ClassId) (X : Nat → Nat → Nat) (L : List Nat) (tg : Nat → Nat × Nat) (sz : Nat) (A : ew_R) (lb : Int32) : Met l yL_isLibrary wsL_isLibrary ({ frames := 0, cells := 0, slots := 0, locals := 0 }) (ec_Pc D vwCl (tysA T) (cfC T) X L tg A sz [.int lb]) (er_Qi D vwCl (cfC T) X L tg sz (fun r u => r = z_L_isLibrary lb ∧ u = A)) 0 0 (ew_A L sz) := by
  refine ec_met (by decide) rfl (Nat.le_of_ble_eq_true rfl) ?_
  intro p e s m below meth c ls hx hb hr hts hown hlocks hml hV hK hN hS hA hl hsz
  subst hsz
  have hl : lv_has ls 1 [(0, .int lb)] := hl
  refine lv_iload_n hx hb dL_isLibrary_0 rfl (lv_at hl 0 rfl) ?_
  refine lv_if_lt (tgt := 14) hx hb dL_isLibrary_1 rfl (fun h1 => ?_) (fun h1 => ?_)
  · refine lv_iconst (v := 0) hx hb dL_isLibrary_14 (by decide) ?_
    exact er_zret hx hb hr hlocks hV hS dL_isLibrary_15 (by decide) ⟨Eq.symm (by unfold z_L_isLibrary; simp only [if_pos h1]), rfl⟩
  · refine lv_iload_n hx hb dL_isLibrary_4 rfl (lv_at hl 0 rfl) ?_
    refine lv_bipush (v := 6) hx hb dL_isLibrary_5 (by decide) ?_
    refine lv_icmp_ge (tgt := 14) hx hb dL_isLibrary_7 rfl (fun h2 => ?_) (fun h2 => ?_)
    · refine lv_iconst (v := 0) hx hb dL_isLibrary_14 (by decide) ?_
      exact er_zret hx hb hr hlocks hV hS dL_isLibrary_15 (by decide) ⟨Eq.symm (by unfold z_L_isLibrary; simp only [if_neg h1, if_pos h2]), rfl⟩
    · refine lv_iconst (v := 1) hx hb dL_isLibrary_10 (by decide) ?_
      refine lv_goto (tgt := 15) hx hb dL_isLibrary_11 rfl ?_
      exact er_zret hx hb hr hlocks hV hS dL_isLibrary_15 (by decide) ⟨Eq.symm (by unfold z_L_isLibrary; simp only [if_neg h1, if_neg h2]), rfl⟩

def z_L_isTitle (tt : Int32) : Int32 :=
  if tt < 0 then
    0
  else
    if 8 ≤ tt then
      0
    else
      1
set_option maxHeartbeats 4000000 in
set_option maxRecDepth 100000 in
theorem c_L_isTitle (l : Launch) (D : va_G) (T : Nat → ClassId) (X : Nat → Nat → Nat) (L : List Nat) (tg : Nat → Nat × Nat) (sz : Nat) (A : ew_R) (tt : Int32) : Met l yL_isTitle wsL_isTitle ({ frames := 0, cells := 0, slots := 0, locals := 0 }) (ec_Pc D vwCl (tysA T) (cfC T) X L tg A sz [.int tt]) (er_Qi D vwCl (cfC T) X L tg sz (fun r u => r = z_L_isTitle tt ∧ u = A)) 0 0 (ew_A L sz) := by
  refine ec_met (by decide) rfl (Nat.le_of_ble_eq_true rfl) ?_
  intro p e s m below meth c ls hx hb hr hts hown hlocks hml hV hK hN hS hA hl hsz
  subst hsz
  have hl : lv_has ls 1 [(0, .int tt)] := hl
  refine lv_iload_n hx hb dL_isTitle_0 rfl (lv_at hl 0 rfl) ?_
  refine lv_if_lt (tgt := 14) hx hb dL_isTitle_1 rfl (fun h1 => ?_) (fun h1 => ?_)
  · refine lv_iconst (v := 0) hx hb dL_isTitle_14 (by decide) ?_
    exact er_zret hx hb hr hlocks hV hS dL_isTitle_15 (by decide) ⟨Eq.symm (by unfold z_L_isTitle; simp only [if_pos h1]), rfl⟩
  · refine lv_iload_n hx hb dL_isTitle_4 rfl (lv_at hl 0 rfl) ?_
    refine lv_bipush (v := 8) hx hb dL_isTitle_5 (by decide) ?_
    refine lv_icmp_ge (tgt := 14) hx hb dL_isTitle_7 rfl (fun h2 => ?_) (fun h2 => ?_)
    · refine lv_iconst (v := 0) hx hb dL_isTitle_14 (by decide) ?_
      exact er_zret hx hb hr hlocks hV hS dL_isTitle_15 (by decide) ⟨Eq.symm (by unfold z_L_isTitle; simp only [if_neg h1, if_pos h2]), rfl⟩
    · refine lv_iconst (v := 1) hx hb dL_isTitle_10 (by decide) ?_
      refine lv_goto (tgt := 15) hx hb dL_isTitle_11 rfl ?_
      exact er_zret hx hb hr hlocks hV hS dL_isTitle_15 (by decide) ⟨Eq.symm (by unfold z_L_isTitle; simp only [if_neg h1, if_neg h2]), rfl⟩

def z_Copy_canGo (A : ew_R) (cp : Nat) (lb : Int32) (wn : Int32) : Int32 :=
  if A 1 cp 1 = wn then
    if A 1 cp 0 = lb then
      if A 1 cp 2 = lb then
        if A 1 cp 3 = (-1) then
          1
        else
          0
      else
        0
    else
      0
  else
    0
set_option maxHeartbeats 4000000 in
set_option maxRecDepth 100000 in
theorem c_Copy_canGo (l : Launch) (D : va_G) (T : Nat → ClassId) (X : Nat → Nat → Nat) (L : List Nat) (tg : Nat → Nat × Nat) (sz : Nat) (A : ew_R) (cp : Nat) (th : Nat) (hth : ew_in X L tg 1 cp th) (lb : Int32) (wn : Int32) : Met l yCopy_canGo wsCopy_canGo ({ frames := 0, cells := 0, slots := 0, locals := 0 }) (ec_Pc D vwCl (tysA T) (cfC T) X L tg A sz [.ref th, .int lb, .int wn]) (er_Qi D vwCl (cfC T) X L tg sz (fun r u => r = z_Copy_canGo A cp lb wn ∧ u = A)) 0 0 (ew_A L sz) := by
  refine ec_met (by decide) rfl (Nat.le_of_ble_eq_true rfl) ?_
  intro p e s m below meth c ls hx hb hr hts hown hlocks hml hV hK hN hS hA hl hsz
  subst hsz
  have hl : lv_has ls 3 [(0, .ref th), (1, .int lb), (2, .int wn)] := hl
  refine lv_aload_n hx hb dCopy_canGo_0 rfl (lv_at hl 0 rfl) ?_
  refine ew_get (v := .int (A 1 cp 1)) hx hb hts hown hK hV fCopy_18 hth (cC_1 _ _ _ _) rfl dCopy_canGo_1 ?_
  refine lv_iload_n hx hb dCopy_canGo_4 rfl (lv_at hl 2 rfl) ?_
  refine lv_icmp_ne (tgt := 36) hx hb dCopy_canGo_5 rfl (fun h1 => ?_) (fun h1 => ?_)
  · refine lv_iconst (v := 0) hx hb dCopy_canGo_36 (by decide) ?_
    exact er_zret hx hb hr hlocks hV hS dCopy_canGo_37 (by decide) ⟨Eq.symm (by unfold z_Copy_canGo; simp only [if_neg h1]), rfl⟩
  · refine lv_aload_n hx hb dCopy_canGo_8 rfl (lv_at hl 0 rfl) ?_
    refine ew_get (v := .int (A 1 cp 0)) hx hb hts hown hK hV fCopy_15 hth (cC_1 _ _ _ _) rfl dCopy_canGo_9 ?_
    refine lv_iload_n hx hb dCopy_canGo_12 rfl (lv_at hl 1 rfl) ?_
    refine lv_icmp_ne (tgt := 36) hx hb dCopy_canGo_13 rfl (fun h2 => ?_) (fun h2 => ?_)
    · refine lv_iconst (v := 0) hx hb dCopy_canGo_36 (by decide) ?_
      exact er_zret hx hb hr hlocks hV hS dCopy_canGo_37 (by decide) ⟨Eq.symm (by unfold z_Copy_canGo; simp only [if_pos h1, if_neg h2]), rfl⟩
    · refine lv_aload_n hx hb dCopy_canGo_16 rfl (lv_at hl 0 rfl) ?_
      refine ew_get (v := .int (A 1 cp 2)) hx hb hts hown hK hV fCopy_21 hth (cC_1 _ _ _ _) rfl dCopy_canGo_17 ?_
      refine lv_iload_n hx hb dCopy_canGo_20 rfl (lv_at hl 1 rfl) ?_
      refine lv_icmp_ne (tgt := 36) hx hb dCopy_canGo_21 rfl (fun h3 => ?_) (fun h3 => ?_)
      · refine lv_iconst (v := 0) hx hb dCopy_canGo_36 (by decide) ?_
        exact er_zret hx hb hr hlocks hV hS dCopy_canGo_37 (by decide) ⟨Eq.symm (by unfold z_Copy_canGo; simp only [if_pos h1, if_pos h2, if_neg h3]), rfl⟩
      · refine lv_aload_n hx hb dCopy_canGo_24 rfl (lv_at hl 0 rfl) ?_
        refine ew_get (v := .int (A 1 cp 3)) hx hb hts hown hK hV fCopy_9 hth (cC_1 _ _ _ _) rfl dCopy_canGo_25 ?_
        refine lv_iconst (v := (-1)) hx hb dCopy_canGo_28 (by decide) ?_
        refine lv_icmp_ne (tgt := 36) hx hb dCopy_canGo_29 rfl (fun h4 => ?_) (fun h4 => ?_)
        · refine lv_iconst (v := 0) hx hb dCopy_canGo_36 (by decide) ?_
          exact er_zret hx hb hr hlocks hV hS dCopy_canGo_37 (by decide) ⟨Eq.symm (by unfold z_Copy_canGo; simp only [if_pos h1, if_pos h2, if_pos h3, if_neg h4]), rfl⟩
        · refine lv_iconst (v := 1) hx hb dCopy_canGo_32 (by decide) ?_
          refine lv_goto (tgt := 37) hx hb dCopy_canGo_33 rfl ?_
          exact er_zret hx hb hr hlocks hV hS dCopy_canGo_37 (by decide) ⟨Eq.symm (by unfold z_Copy_canGo; simp only [if_pos h1, if_pos h2, if_pos h3, if_pos h4]), rfl⟩

def z_Deal_turn (A : ew_R) (d : Nat) (al : Int32) (sx : Int32) : ew_R :=
  if al = 0 then
    A
  else
    up3 A 17 d 0 sx
set_option maxHeartbeats 4000000 in
set_option maxRecDepth 100000 in
theorem c_Deal_turn (l : Launch) (D : va_G) (T : Nat → ClassId) (X : Nat → Nat → Nat) (L : List Nat) (tg : Nat → Nat × Nat) (sz : Nat) (A : ew_R) (d : Nat) (th : Nat) (hth : ew_in X L tg 4 d th) (al : Int32) (sx : Int32) (e17_0 : ew_in X L tg 17 d (X 17 d)) : Met l yDeal_turn wsDeal_turn ({ frames := 0, cells := 0, slots := 0, locals := 0 }) (ec_Pc D vwCl (tysA T) (cfC T) X L tg A sz [.ref th, .int al, .int sx]) (er_Qv D vwCl (cfC T) X L tg sz (fun u => u = z_Deal_turn A d al sx)) 0 0 (ew_A L sz) := by
  refine ec_met (by decide) rfl (Nat.le_of_ble_eq_true rfl) ?_
  intro p e s m below meth c ls hx hb hr hts hown hlocks hml hV hK hN hS hA hl hsz
  subst hsz
  have hl : lv_has ls 3 [(0, .ref th), (1, .int al), (2, .int sx)] := hl
  refine lv_iload_n hx hb dDeal_turn_0 rfl (lv_at hl 1 rfl) ?_
  refine lv_if_eq (tgt := 12) hx hb dDeal_turn_1 rfl (fun h1 => ?_) (fun h1 => ?_)
  · exact er_vret hx hb hr hlocks hV hS dDeal_turn_12 (Eq.symm (by unfold z_Deal_turn; simp only [if_pos h1]))
  · refine lv_aload_n hx hb dDeal_turn_4 rfl (lv_at hl 0 rfl) ?_
    refine ew_get (v := .ref (X 17 d)) hx hb hts hown hK hV fDeal_10 hth (cC_4 _ _ _ _) rfl dDeal_turn_5 ?_
    refine lv_iload_n hx hb dDeal_turn_8 rfl (lv_at hl 2 rfl) ?_
    refine ew_put (ty := .int) hx hb hts hown hK hV hS fDeal_32 gPage e17_0 (cC_17 _ _ _ _) 0 _ (pC_17_0 _ _ _ _ _) rfl (by decide +kernel) rfl rfl (Nat.le_of_ble_eq_true rfl) dDeal_turn_9 (fun H locs hV hS => ?_)
    exact er_vret hx hb hr hlocks hV hS dDeal_turn_12 (Eq.symm (by unfold z_Deal_turn; simp only [if_neg h1]))

def z_Deal_moveCopy_c (A : ew_R) (d : Nat) (hd : Int32) (cp : Nat) : ew_R :=
  up3 A 1 cp 2 hd
set_option maxHeartbeats 4000000 in
set_option maxRecDepth 100000 in
theorem c_Deal_moveCopy_c (l : Launch) (D : va_G) (T : Nat → ClassId) (X : Nat → Nat → Nat) (L : List Nat) (tg : Nat → Nat × Nat) (sz : Nat) (A : ew_R) (d : Nat) (th : Nat) (hth : ew_in X L tg 4 d th) (hd : Int32) (cp : Nat) (e1_0 : ew_in X L tg 1 cp (X 1 cp)) (hcp : cp < 32) (q4 : A 4 d 4 = nI cp) : Met l yDeal_moveCopy wsDeal_moveCopy ({ frames := 0, cells := 0, slots := 0, locals := 0 }) (ec_Pc D vwCl (tysA T) (cfC T) X L tg A sz [.ref th, .int hd]) (er_Qv D vwCl (cfC T) X L tg sz (fun u => u = z_Deal_moveCopy_c A d hd cp)) 0 0 (ew_A L sz) := by
  refine ec_met (by decide) rfl (Nat.le_of_ble_eq_true rfl) ?_
  intro p e s m below meth c ls hx hb hr hts hown hlocks hml hV hK hN hS hA hl hsz
  subst hsz
  have hl : lv_has ls 2 [(0, .ref th), (1, .int hd)] := hl
  refine lv_aload_n hx hb dDeal_moveCopy_0 rfl (lv_at hl 0 rfl) ?_
  refine ew_get (v := .ref (X 1 cp)) hx hb hts hown hK hV fDeal_35 hth (cC_4 _ _ _ _) (ec_cs q4 (by omega)) dDeal_moveCopy_1 ?_
  refine lv_ifnull hx hb dDeal_moveCopy_4 ?_
  refine lv_aload_n hx hb dDeal_moveCopy_7 rfl (lv_at hl 0 rfl) ?_
  refine ew_get (v := .ref (X 1 cp)) hx hb hts hown hK hV fDeal_35 hth (cC_4 _ _ _ _) (ec_cs q4 (by omega)) dDeal_moveCopy_8 ?_
  refine lv_iload_n hx hb dDeal_moveCopy_11 rfl (lv_at hl 1 rfl) ?_
  refine ew_put (ty := .int) hx hb hts hown hK hV hS fDeal_39 gCopy e1_0 (cC_1 _ _ _ _) 2 _ (pC_1_2 _ _ _ _ _) rfl (by decide +kernel) rfl rfl (Nat.le_of_ble_eq_true rfl) dDeal_moveCopy_12 (fun H locs hV hS => ?_)
  exact er_vret hx hb hr hlocks hV hS dDeal_moveCopy_15 (Eq.symm (by unfold z_Deal_moveCopy_c; rfl))

def z_Deal_moveCopy_n (A : ew_R) (d : Nat) (hd : Int32) : ew_R :=
  A
set_option maxHeartbeats 4000000 in
set_option maxRecDepth 100000 in
theorem c_Deal_moveCopy_n (l : Launch) (D : va_G) (T : Nat → ClassId) (X : Nat → Nat → Nat) (L : List Nat) (tg : Nat → Nat × Nat) (sz : Nat) (A : ew_R) (d : Nat) (th : Nat) (hth : ew_in X L tg 4 d th) (hd : Int32) (q4 : A 4 d 4 = (-1)) : Met l yDeal_moveCopy wsDeal_moveCopy ({ frames := 0, cells := 0, slots := 0, locals := 0 }) (ec_Pc D vwCl (tysA T) (cfC T) X L tg A sz [.ref th, .int hd]) (er_Qv D vwCl (cfC T) X L tg sz (fun u => u = z_Deal_moveCopy_n A d hd)) 0 0 (ew_A L sz) := by
  refine ec_met (by decide) rfl (Nat.le_of_ble_eq_true rfl) ?_
  intro p e s m below meth c ls hx hb hr hts hown hlocks hml hV hK hN hS hA hl hsz
  subst hsz
  have hl : lv_has ls 2 [(0, .ref th), (1, .int hd)] := hl
  refine lv_aload_n hx hb dDeal_moveCopy_0 rfl (lv_at hl 0 rfl) ?_
  refine ew_get (v := .null) hx hb hts hown hK hV fDeal_35 hth (cC_4 _ _ _ _) (ec_cn q4) dDeal_moveCopy_1 ?_
  refine lv_ifnullN (tgt := 15) hx hb dDeal_moveCopy_4 rfl ?_
  exact er_vret hx hb hr hlocks hV hS dDeal_moveCopy_15 (Eq.symm (by unfold z_Deal_moveCopy_n; rfl))

def z_Deal_freeCopy_c (A : ew_R) (d : Nat) (cp : Nat) : ew_R :=
  up3 A 1 cp 3 (-1)
set_option maxHeartbeats 4000000 in
set_option maxRecDepth 100000 in
theorem c_Deal_freeCopy_c (l : Launch) (D : va_G) (T : Nat → ClassId) (X : Nat → Nat → Nat) (L : List Nat) (tg : Nat → Nat × Nat) (sz : Nat) (A : ew_R) (d : Nat) (th : Nat) (hth : ew_in X L tg 4 d th) (cp : Nat) (e1_0 : ew_in X L tg 1 cp (X 1 cp)) (hcp : cp < 32) (q4 : A 4 d 4 = nI cp) : Met l yDeal_freeCopy wsDeal_freeCopy ({ frames := 0, cells := 0, slots := 0, locals := 0 }) (ec_Pc D vwCl (tysA T) (cfC T) X L tg A sz [.ref th]) (er_Qv D vwCl (cfC T) X L tg sz (fun u => u = z_Deal_freeCopy_c A d cp)) 0 0 (ew_A L sz) := by
  refine ec_met (by decide) rfl (Nat.le_of_ble_eq_true rfl) ?_
  intro p e s m below meth c ls hx hb hr hts hown hlocks hml hV hK hN hS hA hl hsz
  subst hsz
  have hl : lv_has ls 1 [(0, .ref th)] := hl
  refine lv_aload_n hx hb dDeal_freeCopy_0 rfl (lv_at hl 0 rfl) ?_
  refine ew_get (v := .ref (X 1 cp)) hx hb hts hown hK hV fDeal_35 hth (cC_4 _ _ _ _) (ec_cs q4 (by omega)) dDeal_freeCopy_1 ?_
  refine lv_ifnull hx hb dDeal_freeCopy_4 ?_
  refine lv_aload_n hx hb dDeal_freeCopy_7 rfl (lv_at hl 0 rfl) ?_
  refine ew_get (v := .ref (X 1 cp)) hx hb hts hown hK hV fDeal_35 hth (cC_4 _ _ _ _) (ec_cs q4 (by omega)) dDeal_freeCopy_8 ?_
  refine lv_iconst (v := (-1)) hx hb dDeal_freeCopy_11 (by decide) ?_
  refine ew_put (ty := .int) hx hb hts hown hK hV hS fDeal_46 gCopy e1_0 (cC_1 _ _ _ _) 3 _ (pC_1_3 _ _ _ _ _) rfl (by decide +kernel) rfl rfl (Nat.le_of_ble_eq_true rfl) dDeal_freeCopy_12 (fun H locs hV hS => ?_)
  exact er_vret hx hb hr hlocks hV hS dDeal_freeCopy_15 (Eq.symm (by unfold z_Deal_freeCopy_c; rfl))

def z_Deal_freeCopy_n (A : ew_R) (d : Nat) : ew_R :=
  A
set_option maxHeartbeats 4000000 in
set_option maxRecDepth 100000 in
theorem c_Deal_freeCopy_n (l : Launch) (D : va_G) (T : Nat → ClassId) (X : Nat → Nat → Nat) (L : List Nat) (tg : Nat → Nat × Nat) (sz : Nat) (A : ew_R) (d : Nat) (th : Nat) (hth : ew_in X L tg 4 d th) (q4 : A 4 d 4 = (-1)) : Met l yDeal_freeCopy wsDeal_freeCopy ({ frames := 0, cells := 0, slots := 0, locals := 0 }) (ec_Pc D vwCl (tysA T) (cfC T) X L tg A sz [.ref th]) (er_Qv D vwCl (cfC T) X L tg sz (fun u => u = z_Deal_freeCopy_n A d)) 0 0 (ew_A L sz) := by
  refine ec_met (by decide) rfl (Nat.le_of_ble_eq_true rfl) ?_
  intro p e s m below meth c ls hx hb hr hts hown hlocks hml hV hK hN hS hA hl hsz
  subst hsz
  have hl : lv_has ls 1 [(0, .ref th)] := hl
  refine lv_aload_n hx hb dDeal_freeCopy_0 rfl (lv_at hl 0 rfl) ?_
  refine ew_get (v := .null) hx hb hts hown hK hV fDeal_35 hth (cC_4 _ _ _ _) (ec_cn q4) dDeal_freeCopy_1 ?_
  refine lv_ifnullN (tgt := 15) hx hb dDeal_freeCopy_4 rfl ?_
  exact er_vret hx hb hr hlocks hV hS dDeal_freeCopy_15 (Eq.symm (by unfold z_Deal_freeCopy_n; rfl))

def z_Deal_bringCopyHome_c (A : ew_R) (d : Nat) (cp : Nat) : ew_R :=
  up3 (up3 A 1 cp 2 (A 1 cp 0)) 1 cp 3 (-1)
set_option maxHeartbeats 4000000 in
set_option maxRecDepth 100000 in
theorem c_Deal_bringCopyHome_c (l : Launch) (D : va_G) (T : Nat → ClassId) (X : Nat → Nat → Nat) (L : List Nat) (tg : Nat → Nat × Nat) (sz : Nat) (A : ew_R) (d : Nat) (th : Nat) (hth : ew_in X L tg 4 d th) (cp : Nat) (e1_0 : ew_in X L tg 1 cp (X 1 cp)) (hcp : cp < 32) (q4 : A 4 d 4 = nI cp) : Met l yDeal_bringCopyHome wsDeal_bringCopyHome ({ frames := 0, cells := 0, slots := 0, locals := 0 }) (ec_Pc D vwCl (tysA T) (cfC T) X L tg A sz [.ref th]) (er_Qv D vwCl (cfC T) X L tg sz (fun u => u = z_Deal_bringCopyHome_c A d cp)) 0 0 (ew_A L sz) := by
  refine ec_met (by decide) rfl (Nat.le_of_ble_eq_true rfl) ?_
  intro p e s m below meth c ls hx hb hr hts hown hlocks hml hV hK hN hS hA hl hsz
  subst hsz
  have hl : lv_has ls 1 [(0, .ref th)] := hl
  refine lv_aload_n hx hb dDeal_bringCopyHome_0 rfl (lv_at hl 0 rfl) ?_
  refine ew_get (v := .ref (X 1 cp)) hx hb hts hown hK hV fDeal_35 hth (cC_4 _ _ _ _) (ec_cs q4 (by omega)) dDeal_bringCopyHome_1 ?_
  refine lv_ifnull hx hb dDeal_bringCopyHome_4 ?_
  refine lv_aload_n hx hb dDeal_bringCopyHome_7 rfl (lv_at hl 0 rfl) ?_
  refine ew_get (v := .ref (X 1 cp)) hx hb hts hown hK hV fDeal_35 hth (cC_4 _ _ _ _) (ec_cs q4 (by omega)) dDeal_bringCopyHome_8 ?_
  refine lv_aload_n hx hb dDeal_bringCopyHome_11 rfl (lv_at hl 0 rfl) ?_
  refine ew_get (v := .ref (X 1 cp)) hx hb hts hown hK hV fDeal_35 hth (cC_4 _ _ _ _) (ec_cs q4 (by omega)) dDeal_bringCopyHome_12 ?_
  refine ew_get (v := .int (A 1 cp 0)) hx hb hts hown hK hV fDeal_49 e1_0 (cC_1 _ _ _ _) rfl dDeal_bringCopyHome_15 ?_
  refine ew_put (ty := .int) hx hb hts hown hK hV hS fDeal_39 gCopy e1_0 (cC_1 _ _ _ _) 2 _ (pC_1_2 _ _ _ _ _) rfl (by decide +kernel) rfl rfl (Nat.le_of_ble_eq_true rfl) dDeal_bringCopyHome_18 (fun H locs hV hS => ?_)
  refine lv_aload_n hx hb dDeal_bringCopyHome_21 rfl (lv_at hl 0 rfl) ?_
  refine ew_get (v := .ref (X 1 cp)) hx hb hts hown hK hV fDeal_35 hth (cC_4 _ _ _ _) (ec_cs q4 (by omega)) dDeal_bringCopyHome_22 ?_
  refine lv_iconst (v := (-1)) hx hb dDeal_bringCopyHome_25 (by decide) ?_
  refine ew_put (ty := .int) hx hb hts hown hK hV hS fDeal_46 gCopy e1_0 (cC_1 _ _ _ _) 3 _ (pC_1_3 _ _ _ _ _) rfl (by decide +kernel) rfl rfl (Nat.le_of_ble_eq_true rfl) dDeal_bringCopyHome_26 (fun H locs hV hS => ?_)
  exact er_vret hx hb hr hlocks hV hS dDeal_bringCopyHome_29 (Eq.symm (by unfold z_Deal_bringCopyHome_c; rfl))

def z_Page_clear (A : ew_R) (k : Nat) : ew_R :=
  up3 (up3 (up3 A 3 k 1 0) 3 k 2 0) 3 k 3 0
set_option maxHeartbeats 4000000 in
set_option maxRecDepth 100000 in
theorem c_Page_clear (l : Launch) (D : va_G) (T : Nat → ClassId) (X : Nat → Nat → Nat) (L : List Nat) (tg : Nat → Nat × Nat) (sz : Nat) (A : ew_R) (k : Nat) (th : Nat) (hth : ew_in X L tg 3 k th) : Met l yPage_clear wsPage_clear ({ frames := 0, cells := 0, slots := 0, locals := 0 }) (ec_Pc D vwCl (tysA T) (cfC T) X L tg A sz [.ref th]) (er_Qv D vwCl (cfC T) X L tg sz (fun u => u = z_Page_clear A k)) 0 0 (ew_A L sz) := by
  refine ec_met (by decide) rfl (Nat.le_of_ble_eq_true rfl) ?_
  intro p e s m below meth c ls hx hb hr hts hown hlocks hml hV hK hN hS hA hl hsz
  subst hsz
  have hl : lv_has ls 1 [(0, .ref th)] := hl
  refine lv_aload_n hx hb dPage_clear_0 rfl (lv_at hl 0 rfl) ?_
  refine lv_iconst (v := 0) hx hb dPage_clear_1 (by decide) ?_
  refine ew_put (ty := .int) hx hb hts hown hK hV hS fPage_7 gPage hth (cC_3 _ _ _ _) 1 _ (pC_3_1 _ _ _ _ _) rfl (by decide +kernel) rfl rfl (Nat.le_of_ble_eq_true rfl) dPage_clear_2 (fun H locs hV hS => ?_)
  refine lv_aload_n hx hb dPage_clear_5 rfl (lv_at hl 0 rfl) ?_
  refine lv_iconst (v := 0) hx hb dPage_clear_6 (by decide) ?_
  refine ew_put (ty := .int) hx hb hts hown hK hV hS fPage_13 gPage hth (cC_3 _ _ _ _) 2 _ (pC_3_2 _ _ _ _ _) rfl (by decide +kernel) rfl rfl (Nat.le_of_ble_eq_true rfl) dPage_clear_7 (fun H locs hV hS => ?_)
  refine lv_aload_n hx hb dPage_clear_10 rfl (lv_at hl 0 rfl) ?_
  refine lv_iconst (v := 0) hx hb dPage_clear_11 (by decide) ?_
  refine ew_put (ty := .int) hx hb hts hown hK hV hS fPage_16 gPage hth (cC_3 _ _ _ _) 3 _ (pC_3_3 _ _ _ _ _) rfl (by decide +kernel) rfl rfl (Nat.le_of_ble_eq_true rfl) dPage_clear_12 (fun H locs hV hS => ?_)
  exact er_vret hx hb hr hlocks hV hS dPage_clear_15 (Eq.symm (by unfold z_Page_clear; rfl))

def z_Row_told_ok (A : ew_R) (i : Nat) (wh : Nat) (w : Nat) : Int32 :=
  A 12 0 ((i * 7) + wh)
set_option maxHeartbeats 4000000 in
set_option maxRecDepth 100000 in
theorem c_Row_told_ok (l : Launch) (D : va_G) (T : Nat → ClassId) (X : Nat → Nat → Nat) (L : List Nat) (tg : Nat → Nat × Nat) (sz : Nat) (A : ew_R) (th : Nat) (hth : ew_in X L tg 7 0 th) (i : Nat) (wh : Nat) (w : Nat) (e12_0 : ew_in X L tg 12 0 (X 12 0)) (hw : w ≤ 64) (qw : A 7 0 1 = nI w) (hi : i < w) (hwh : wh < 7) : Met l yRow_told wsRow_told ({ frames := 0, cells := 0, slots := 0, locals := 0 }) (ec_Pc D vwCl (tysA T) (cfC T) X L tg A sz [.ref th, .int (nI i), .int (nI wh)]) (er_Qi D vwCl (cfC T) X L tg sz (fun r u => r = z_Row_told_ok A i wh w ∧ u = A)) 0 0 (ew_A L sz) := by
  refine ec_met (by decide) rfl (Nat.le_of_ble_eq_true rfl) ?_
  intro p e s m below meth c ls hx hb hr hts hown hlocks hml hV hK hN hS hA hl hsz
  subst hsz
  have hl : lv_has ls 4 [(0, .ref th), (1, .int (nI i)), (2, .int (nI wh))] := hl
  refine lv_iload_n hx hb dRow_told_0 rfl (lv_at hl 1 rfl) ?_
  refine lv_if_lt (tgt := 26) hx hb dRow_told_1 rfl (fun h9 => absurd h9 (fun z9 => (show ¬ (i < 0) by omega) ((nI_ltI (a := i) (b := 0) (by omega) (by omega)).mp z9))) (fun _ => ?_)
  refine lv_iload_n hx hb dRow_told_4 rfl (lv_at hl 1 rfl) ?_
  refine lv_aload_n hx hb dRow_told_5 rfl (lv_at hl 0 rfl) ?_
  refine ew_get (v := .int (A 7 0 1)) hx hb hts hown hK hV fRow_13 hth (cC_7 _ _ _ _) rfl dRow_told_6 ?_
  refine lv_toe (y := nI w) qw ?_
  refine lv_icmp_ge (tgt := 26) hx hb dRow_told_9 rfl (fun h9 => absurd h9 (fun z9 => (show ¬ (w ≤ i) by omega) ((nI_leI (a := w) (b := i) (by omega) (by omega)).mp z9))) (fun _ => ?_)
  refine lv_iload_n hx hb dRow_told_12 rfl (lv_at hl 2 rfl) ?_
  refine lv_if_lt (tgt := 26) hx hb dRow_told_13 rfl (fun h9 => absurd h9 (fun z9 => (show ¬ (wh < 0) by omega) ((nI_ltI (a := wh) (b := 0) (by omega) (by omega)).mp z9))) (fun _ => ?_)
  refine lv_iload_n hx hb dRow_told_16 rfl (lv_at hl 2 rfl) ?_
  refine lv_bipush (v := 7) hx hb dRow_told_17 (by decide) ?_
  refine lv_icmp_ge (tgt := 26) hx hb dRow_told_19 rfl (fun h9 => absurd h9 (fun z9 => (show ¬ (7 ≤ wh) by omega) ((nI_leI (a := 7) (b := wh) (by omega) (by omega)).mp z9))) (fun _ => ?_)
  refine lv_iconst (v := 1) hx hb dRow_told_22 (by decide) ?_
  refine lv_goto (tgt := 27) hx hb dRow_told_23 rfl ?_
  refine lv_istore_n (lv' := [(3, .int 1), (0, .ref th), (1, .int (nI i)), (2, .int (nI wh))]) hx hb dRow_told_27 rfl hl (by decide) rfl (fun ls hl => ?_)
  refine lv_iload_n hx hb dRow_told_28 rfl (lv_at hl 0 rfl) ?_
  refine lv_if_eq (tgt := 46) hx hb dRow_told_29 rfl (fun h9 => absurd h9 (by decide)) (fun _ => ?_)
  refine lv_aload_n hx hb dRow_told_32 rfl (lv_at hl 1 rfl) ?_
  refine ew_get (v := .ref (X 12 0)) hx hb hts hown hK hV fRow_9 hth (cC_7 _ _ _ _) rfl dRow_told_33 ?_
  refine lv_iload_n hx hb dRow_told_36 rfl (lv_at hl 2 rfl) ?_
  refine lv_bipush (v := 7) hx hb dRow_told_37 (by decide) ?_
  refine lv_imul hx hb dRow_told_39 ?_
  refine lv_toe (y := nI (i * 7)) (pk_mul i 7) ?_
  refine lv_iload_n hx hb dRow_told_40 rfl (lv_at hl 3 rfl) ?_
  refine lv_iadd hx hb dRow_told_41 ?_
  refine lv_toe (y := nI ((i * 7) + wh)) (nI_add (i * 7) wh) ?_
  refine ew_iald (v := A 12 0 ((i * 7) + wh)) hx hb hK hV e12_0 (cC_12 _ _ _ _) 0 rfl (vp_in_nI (by omega) (by decide)) (er_ix (by omega) rfl) dRow_told_42 ?_
  refine lv_goto (tgt := 47) hx hb dRow_told_43 rfl ?_
  exact er_iret hx hb hr hlocks hV hS dRow_told_47 ⟨Eq.symm (by unfold z_Row_told_ok; rfl), rfl⟩

set_option maxHeartbeats 4000000 in
set_option maxRecDepth 100000 in
theorem c_Row_told_neg (l : Launch) (D : va_G) (T : Nat → ClassId) (X : Nat → Nat → Nat) (L : List Nat) (tg : Nat → Nat × Nat) (sz : Nat) (A : ew_R) (th : Nat) (hth : ew_in X L tg 7 0 th) (i : Int32) (wh : Int32) (hi : i < 0) : Met l yRow_told wsRow_told ({ frames := 0, cells := 0, slots := 0, locals := 0 }) (ec_Pc D vwCl (tysA T) (cfC T) X L tg A sz [.ref th, .int i, .int wh]) (er_Qi D vwCl (cfC T) X L tg sz (fun r u => r = (-1) ∧ u = A)) 0 0 (ew_A L sz) := by
  refine ec_met (by decide) rfl (Nat.le_of_ble_eq_true rfl) ?_
  intro p e s m below meth c ls hx hb hr hts hown hlocks hml hV hK hN hS hA hl hsz
  subst hsz
  have hl : lv_has ls 4 [(0, .ref th), (1, .int i), (2, .int wh)] := hl
  refine lv_iload_n hx hb dRow_told_0 rfl (lv_at hl 1 rfl) ?_
  refine lv_if_lt (tgt := 26) hx hb dRow_told_1 rfl (fun _ => ?_) (fun h9 => absurd hi h9)
  refine lv_iconst (v := 0) hx hb dRow_told_26 (by decide) ?_
  refine lv_istore_n (lv' := [(3, .int 0), (0, .ref th), (1, .int i), (2, .int wh)]) hx hb dRow_told_27 rfl hl (by decide) rfl (fun ls hl => ?_)
  refine lv_iload_n hx hb dRow_told_28 rfl (lv_at hl 0 rfl) ?_
  refine lv_if_eq (tgt := 46) hx hb dRow_told_29 rfl (fun _ => ?_) (fun h9 => absurd (by decide) h9)
  refine lv_iconst (v := (-1)) hx hb dRow_told_46 (by decide) ?_
  exact er_iret hx hb hr hlocks hV hS dRow_told_47 ⟨rfl, rfl⟩

set_option maxHeartbeats 4000000 in
set_option maxRecDepth 100000 in
theorem c_Row_told_big (l : Launch) (D : va_G) (T : Nat → ClassId) (X : Nat → Nat → Nat) (L : List Nat) (tg : Nat → Nat × Nat) (sz : Nat) (A : ew_R) (th : Nat) (hth : ew_in X L tg 7 0 th) (i : Int32) (wh : Int32) (w : Nat) (qw : A 7 0 1 = nI w) (hi : ¬ i < 0) (hi2 : nI w ≤ i) : Met l yRow_told wsRow_told ({ frames := 0, cells := 0, slots := 0, locals := 0 }) (ec_Pc D vwCl (tysA T) (cfC T) X L tg A sz [.ref th, .int i, .int wh]) (er_Qi D vwCl (cfC T) X L tg sz (fun r u => r = (-1) ∧ u = A)) 0 0 (ew_A L sz) := by
  refine ec_met (by decide) rfl (Nat.le_of_ble_eq_true rfl) ?_
  intro p e s m below meth c ls hx hb hr hts hown hlocks hml hV hK hN hS hA hl hsz
  subst hsz
  have hl : lv_has ls 4 [(0, .ref th), (1, .int i), (2, .int wh)] := hl
  refine lv_iload_n hx hb dRow_told_0 rfl (lv_at hl 1 rfl) ?_
  refine lv_if_lt (tgt := 26) hx hb dRow_told_1 rfl (fun h9 => absurd h9 hi) (fun _ => ?_)
  refine lv_iload_n hx hb dRow_told_4 rfl (lv_at hl 1 rfl) ?_
  refine lv_aload_n hx hb dRow_told_5 rfl (lv_at hl 0 rfl) ?_
  refine ew_get (v := .int (A 7 0 1)) hx hb hts hown hK hV fRow_13 hth (cC_7 _ _ _ _) rfl dRow_told_6 ?_
  refine lv_toe (y := nI w) qw ?_
  refine lv_icmp_ge (tgt := 26) hx hb dRow_told_9 rfl (fun _ => ?_) (fun h9 => absurd hi2 h9)
  refine lv_iconst (v := 0) hx hb dRow_told_26 (by decide) ?_
  refine lv_istore_n (lv' := [(3, .int 0), (0, .ref th), (1, .int i), (2, .int wh)]) hx hb dRow_told_27 rfl hl (by decide) rfl (fun ls hl => ?_)
  refine lv_iload_n hx hb dRow_told_28 rfl (lv_at hl 0 rfl) ?_
  refine lv_if_eq (tgt := 46) hx hb dRow_told_29 rfl (fun _ => ?_) (fun h9 => absurd (by decide) h9)
  refine lv_iconst (v := (-1)) hx hb dRow_told_46 (by decide) ?_
  exact er_iret hx hb hr hlocks hV hS dRow_told_47 ⟨rfl, rfl⟩

set_option maxHeartbeats 4000000 in
set_option maxRecDepth 100000 in
theorem c_Row_told_wneg (l : Launch) (D : va_G) (T : Nat → ClassId) (X : Nat → Nat → Nat) (L : List Nat) (tg : Nat → Nat × Nat) (sz : Nat) (A : ew_R) (th : Nat) (hth : ew_in X L tg 7 0 th) (i : Nat) (wh : Int32) (w : Nat) (hw : w ≤ 64) (qw : A 7 0 1 = nI w) (hi : i < w) (hwh : wh < 0) : Met l yRow_told wsRow_told ({ frames := 0, cells := 0, slots := 0, locals := 0 }) (ec_Pc D vwCl (tysA T) (cfC T) X L tg A sz [.ref th, .int (nI i), .int wh]) (er_Qi D vwCl (cfC T) X L tg sz (fun r u => r = (-1) ∧ u = A)) 0 0 (ew_A L sz) := by
  refine ec_met (by decide) rfl (Nat.le_of_ble_eq_true rfl) ?_
  intro p e s m below meth c ls hx hb hr hts hown hlocks hml hV hK hN hS hA hl hsz
  subst hsz
  have hl : lv_has ls 4 [(0, .ref th), (1, .int (nI i)), (2, .int wh)] := hl
  refine lv_iload_n hx hb dRow_told_0 rfl (lv_at hl 1 rfl) ?_
  refine lv_if_lt (tgt := 26) hx hb dRow_told_1 rfl (fun h9 => absurd h9 (fun z9 => (show ¬ (i < 0) by omega) ((nI_ltI (a := i) (b := 0) (by omega) (by omega)).mp z9))) (fun _ => ?_)
  refine lv_iload_n hx hb dRow_told_4 rfl (lv_at hl 1 rfl) ?_
  refine lv_aload_n hx hb dRow_told_5 rfl (lv_at hl 0 rfl) ?_
  refine ew_get (v := .int (A 7 0 1)) hx hb hts hown hK hV fRow_13 hth (cC_7 _ _ _ _) rfl dRow_told_6 ?_
  refine lv_toe (y := nI w) qw ?_
  refine lv_icmp_ge (tgt := 26) hx hb dRow_told_9 rfl (fun h9 => absurd h9 (fun z9 => (show ¬ (w ≤ i) by omega) ((nI_leI (a := w) (b := i) (by omega) (by omega)).mp z9))) (fun _ => ?_)
  refine lv_iload_n hx hb dRow_told_12 rfl (lv_at hl 2 rfl) ?_
  refine lv_if_lt (tgt := 26) hx hb dRow_told_13 rfl (fun _ => ?_) (fun h9 => absurd hwh h9)
  refine lv_iconst (v := 0) hx hb dRow_told_26 (by decide) ?_
  refine lv_istore_n (lv' := [(3, .int 0), (0, .ref th), (1, .int (nI i)), (2, .int wh)]) hx hb dRow_told_27 rfl hl (by decide) rfl (fun ls hl => ?_)
  refine lv_iload_n hx hb dRow_told_28 rfl (lv_at hl 0 rfl) ?_
  refine lv_if_eq (tgt := 46) hx hb dRow_told_29 rfl (fun _ => ?_) (fun h9 => absurd (by decide) h9)
  refine lv_iconst (v := (-1)) hx hb dRow_told_46 (by decide) ?_
  exact er_iret hx hb hr hlocks hV hS dRow_told_47 ⟨rfl, rfl⟩

set_option maxHeartbeats 4000000 in
set_option maxRecDepth 100000 in
theorem c_Row_told_wbig (l : Launch) (D : va_G) (T : Nat → ClassId) (X : Nat → Nat → Nat) (L : List Nat) (tg : Nat → Nat × Nat) (sz : Nat) (A : ew_R) (th : Nat) (hth : ew_in X L tg 7 0 th) (i : Nat) (wh : Int32) (w : Nat) (hw : w ≤ 64) (qw : A 7 0 1 = nI w) (hi : i < w) (hwh : ¬ wh < 0) (hw7 : 7 ≤ wh) : Met l yRow_told wsRow_told ({ frames := 0, cells := 0, slots := 0, locals := 0 }) (ec_Pc D vwCl (tysA T) (cfC T) X L tg A sz [.ref th, .int (nI i), .int wh]) (er_Qi D vwCl (cfC T) X L tg sz (fun r u => r = (-1) ∧ u = A)) 0 0 (ew_A L sz) := by
  refine ec_met (by decide) rfl (Nat.le_of_ble_eq_true rfl) ?_
  intro p e s m below meth c ls hx hb hr hts hown hlocks hml hV hK hN hS hA hl hsz
  subst hsz
  have hl : lv_has ls 4 [(0, .ref th), (1, .int (nI i)), (2, .int wh)] := hl
  refine lv_iload_n hx hb dRow_told_0 rfl (lv_at hl 1 rfl) ?_
  refine lv_if_lt (tgt := 26) hx hb dRow_told_1 rfl (fun h9 => absurd h9 (fun z9 => (show ¬ (i < 0) by omega) ((nI_ltI (a := i) (b := 0) (by omega) (by omega)).mp z9))) (fun _ => ?_)
  refine lv_iload_n hx hb dRow_told_4 rfl (lv_at hl 1 rfl) ?_
  refine lv_aload_n hx hb dRow_told_5 rfl (lv_at hl 0 rfl) ?_
  refine ew_get (v := .int (A 7 0 1)) hx hb hts hown hK hV fRow_13 hth (cC_7 _ _ _ _) rfl dRow_told_6 ?_
  refine lv_toe (y := nI w) qw ?_
  refine lv_icmp_ge (tgt := 26) hx hb dRow_told_9 rfl (fun h9 => absurd h9 (fun z9 => (show ¬ (w ≤ i) by omega) ((nI_leI (a := w) (b := i) (by omega) (by omega)).mp z9))) (fun _ => ?_)
  refine lv_iload_n hx hb dRow_told_12 rfl (lv_at hl 2 rfl) ?_
  refine lv_if_lt (tgt := 26) hx hb dRow_told_13 rfl (fun h9 => absurd h9 hwh) (fun _ => ?_)
  refine lv_iload_n hx hb dRow_told_16 rfl (lv_at hl 2 rfl) ?_
  refine lv_bipush (v := 7) hx hb dRow_told_17 (by decide) ?_
  refine lv_icmp_ge (tgt := 26) hx hb dRow_told_19 rfl (fun _ => ?_) (fun h9 => absurd hw7 h9)
  refine lv_iconst (v := 0) hx hb dRow_told_26 (by decide) ?_
  refine lv_istore_n (lv' := [(3, .int 0), (0, .ref th), (1, .int (nI i)), (2, .int wh)]) hx hb dRow_told_27 rfl hl (by decide) rfl (fun ls hl => ?_)
  refine lv_iload_n hx hb dRow_told_28 rfl (lv_at hl 0 rfl) ?_
  refine lv_if_eq (tgt := 46) hx hb dRow_told_29 rfl (fun _ => ?_) (fun h9 => absurd (by decide) h9)
  refine lv_iconst (v := (-1)) hx hb dRow_told_46 (by decide) ?_
  exact er_iret hx hb hr hlocks hV hS dRow_told_47 ⟨rfl, rfl⟩

set_option maxHeartbeats 4000000 in
set_option maxRecDepth 100000 in
theorem c_L_loanAt_ok (l : Launch) (D : va_G) (T : Nat → ClassId) (X : Nat → Nat → Nat) (L : List Nat) (tg : Nat → Nat × Nat) (sz : Nat) (A : ew_R) (th : Nat) (hth : ew_in X L tg 0 0 th) (ln : Nat) (nl : Nat) (e10_0 : ew_in X L tg 10 0 (X 10 0)) (e2_1 : ew_in X L tg 2 ln (X 2 ln)) (hn : nl ≤ 32) (qn : A 0 0 6 = nI nl) (hl1 : ln < nl) (qf : ¬ A 10 0 ln = 0) : Met l yL_loanAt wsL_loanAt ({ frames := 0, cells := 0, slots := 0, locals := 0 }) (ec_Pc D vwCl (tysA T) (cfC T) X L tg A sz [.ref th, .int (nI ln)]) (er_Qq D vwCl (cfC T) X L tg sz (fun r u => r = some (X 2 ln) ∧ u = A)) 0 0 (ew_A L sz) := by
  refine ec_met (by decide) rfl (Nat.le_of_ble_eq_true rfl) ?_
  intro p e s m below meth c ls hx hb hr hts hown hlocks hml hV hK hN hS hA hl hsz
  subst hsz
  have hl : lv_has ls 2 [(0, .ref th), (1, .int (nI ln))] := hl
  refine lv_iload_n hx hb dL_loanAt_0 rfl (lv_at hl 1 rfl) ?_
  refine lv_if_lt (tgt := 21) hx hb dL_loanAt_1 rfl (fun h9 => absurd h9 (fun z9 => (show ¬ (ln < 0) by omega) ((nI_ltI (a := ln) (b := 0) (by omega) (by omega)).mp z9))) (fun _ => ?_)
  refine lv_iload_n hx hb dL_loanAt_4 rfl (lv_at hl 1 rfl) ?_
  refine lv_aload_n hx hb dL_loanAt_5 rfl (lv_at hl 0 rfl) ?_
  refine ew_get (v := .int (A 0 0 6)) hx hb hts hown hK hV fL_71 hth (cC_0 _ _ _ _) rfl dL_loanAt_6 ?_
  refine lv_toe (y := nI nl) qn ?_
  refine lv_icmp_ge (tgt := 21) hx hb dL_loanAt_9 rfl (fun h9 => absurd h9 (fun z9 => (show ¬ (nl ≤ ln) by omega) ((nI_leI (a := nl) (b := ln) (by omega) (by omega)).mp z9))) (fun _ => ?_)
  refine lv_aload_n hx hb dL_loanAt_12 rfl (lv_at hl 0 rfl) ?_
  refine ew_get (v := .ref (X 10 0)) hx hb hts hown hK hV fL_17 hth (cC_0 _ _ _ _) rfl dL_loanAt_13 ?_
  refine lv_iload_n hx hb dL_loanAt_16 rfl (lv_at hl 1 rfl) ?_
  refine ew_aald (v := .ref (X 2 ln)) hx hb hK hV e10_0 (cC_10 _ _ _ _) 3 rfl (vp_in_nI (by omega) (by decide)) (by rw [nI_clamp (by omega)]; exact ec_nn qf) dL_loanAt_17 ?_
  refine lv_goto (tgt := 22) hx hb dL_loanAt_18 rfl ?_
  exact er_aret (r := some (X 2 ln)) hx hb hr hlocks hV hS dL_loanAt_22 rfl ⟨rfl, rfl⟩

set_option maxHeartbeats 4000000 in
set_option maxRecDepth 100000 in
theorem c_L_loanAt_neg (l : Launch) (D : va_G) (T : Nat → ClassId) (X : Nat → Nat → Nat) (L : List Nat) (tg : Nat → Nat × Nat) (sz : Nat) (A : ew_R) (th : Nat) (hth : ew_in X L tg 0 0 th) (ln : Int32) (h0 : ln < 0) : Met l yL_loanAt wsL_loanAt ({ frames := 0, cells := 0, slots := 0, locals := 0 }) (ec_Pc D vwCl (tysA T) (cfC T) X L tg A sz [.ref th, .int ln]) (er_Qq D vwCl (cfC T) X L tg sz (fun r u => r = none ∧ u = A)) 0 0 (ew_A L sz) := by
  refine ec_met (by decide) rfl (Nat.le_of_ble_eq_true rfl) ?_
  intro p e s m below meth c ls hx hb hr hts hown hlocks hml hV hK hN hS hA hl hsz
  subst hsz
  have hl : lv_has ls 2 [(0, .ref th), (1, .int ln)] := hl
  refine lv_iload_n hx hb dL_loanAt_0 rfl (lv_at hl 1 rfl) ?_
  refine lv_if_lt (tgt := 21) hx hb dL_loanAt_1 rfl (fun _ => ?_) (fun h9 => absurd h0 h9)
  refine lv_null hx hb dL_loanAt_21 ?_
  exact er_aret (r := none) hx hb hr hlocks hV hS dL_loanAt_22 rfl ⟨rfl, rfl⟩

set_option maxHeartbeats 4000000 in
set_option maxRecDepth 100000 in
theorem c_L_loanAt_big (l : Launch) (D : va_G) (T : Nat → ClassId) (X : Nat → Nat → Nat) (L : List Nat) (tg : Nat → Nat × Nat) (sz : Nat) (A : ew_R) (th : Nat) (hth : ew_in X L tg 0 0 th) (ln : Int32) (nl : Nat) (qn : A 0 0 6 = nI nl) (h0 : ¬ ln < 0) (h1 : nI nl ≤ ln) : Met l yL_loanAt wsL_loanAt ({ frames := 0, cells := 0, slots := 0, locals := 0 }) (ec_Pc D vwCl (tysA T) (cfC T) X L tg A sz [.ref th, .int ln]) (er_Qq D vwCl (cfC T) X L tg sz (fun r u => r = none ∧ u = A)) 0 0 (ew_A L sz) := by
  refine ec_met (by decide) rfl (Nat.le_of_ble_eq_true rfl) ?_
  intro p e s m below meth c ls hx hb hr hts hown hlocks hml hV hK hN hS hA hl hsz
  subst hsz
  have hl : lv_has ls 2 [(0, .ref th), (1, .int ln)] := hl
  refine lv_iload_n hx hb dL_loanAt_0 rfl (lv_at hl 1 rfl) ?_
  refine lv_if_lt (tgt := 21) hx hb dL_loanAt_1 rfl (fun h9 => absurd h9 h0) (fun _ => ?_)
  refine lv_iload_n hx hb dL_loanAt_4 rfl (lv_at hl 1 rfl) ?_
  refine lv_aload_n hx hb dL_loanAt_5 rfl (lv_at hl 0 rfl) ?_
  refine ew_get (v := .int (A 0 0 6)) hx hb hts hown hK hV fL_71 hth (cC_0 _ _ _ _) rfl dL_loanAt_6 ?_
  refine lv_toe (y := nI nl) qn ?_
  refine lv_icmp_ge (tgt := 21) hx hb dL_loanAt_9 rfl (fun _ => ?_) (fun h9 => absurd h1 h9)
  refine lv_null hx hb dL_loanAt_21 ?_
  exact er_aret (r := none) hx hb hr hlocks hV hS dL_loanAt_22 rfl ⟨rfl, rfl⟩

set_option maxHeartbeats 4000000 in
set_option maxRecDepth 100000 in
theorem c_L_copyAt_ok (l : Launch) (D : va_G) (T : Nat → ClassId) (X : Nat → Nat → Nat) (L : List Nat) (tg : Nat → Nat × Nat) (sz : Nat) (A : ew_R) (th : Nat) (hth : ew_in X L tg 0 0 th) (ln : Nat) (nc : Nat) (e9_0 : ew_in X L tg 9 0 (X 9 0)) (e1_1 : ew_in X L tg 1 ln (X 1 ln)) (hn : nc ≤ 32) (qn : A 0 0 5 = nI nc) (hl1 : ln < nc) (qf : ¬ A 9 0 ln = 0) : Met l yL_copyAt wsL_copyAt ({ frames := 0, cells := 0, slots := 0, locals := 0 }) (ec_Pc D vwCl (tysA T) (cfC T) X L tg A sz [.ref th, .int (nI ln)]) (er_Qq D vwCl (cfC T) X L tg sz (fun r u => r = some (X 1 ln) ∧ u = A)) 0 0 (ew_A L sz) := by
  refine ec_met (by decide) rfl (Nat.le_of_ble_eq_true rfl) ?_
  intro p e s m below meth c ls hx hb hr hts hown hlocks hml hV hK hN hS hA hl hsz
  subst hsz
  have hl : lv_has ls 2 [(0, .ref th), (1, .int (nI ln))] := hl
  refine lv_iload_n hx hb dL_copyAt_0 rfl (lv_at hl 1 rfl) ?_
  refine lv_if_lt (tgt := 21) hx hb dL_copyAt_1 rfl (fun h9 => absurd h9 (fun z9 => (show ¬ (ln < 0) by omega) ((nI_ltI (a := ln) (b := 0) (by omega) (by omega)).mp z9))) (fun _ => ?_)
  refine lv_iload_n hx hb dL_copyAt_4 rfl (lv_at hl 1 rfl) ?_
  refine lv_aload_n hx hb dL_copyAt_5 rfl (lv_at hl 0 rfl) ?_
  refine ew_get (v := .int (A 0 0 5)) hx hb hts hown hK hV fL_57 hth (cC_0 _ _ _ _) rfl dL_copyAt_6 ?_
  refine lv_toe (y := nI nc) qn ?_
  refine lv_icmp_ge (tgt := 21) hx hb dL_copyAt_9 rfl (fun h9 => absurd h9 (fun z9 => (show ¬ (nc ≤ ln) by omega) ((nI_leI (a := nc) (b := ln) (by omega) (by omega)).mp z9))) (fun _ => ?_)
  refine lv_aload_n hx hb dL_copyAt_12 rfl (lv_at hl 0 rfl) ?_
  refine ew_get (v := .ref (X 9 0)) hx hb hts hown hK hV fL_11 hth (cC_0 _ _ _ _) rfl dL_copyAt_13 ?_
  refine lv_iload_n hx hb dL_copyAt_16 rfl (lv_at hl 1 rfl) ?_
  refine ew_aald (v := .ref (X 1 ln)) hx hb hK hV e9_0 (cC_9 _ _ _ _) 2 rfl (vp_in_nI (by omega) (by decide)) (by rw [nI_clamp (by omega)]; exact ec_nn qf) dL_copyAt_17 ?_
  refine lv_goto (tgt := 22) hx hb dL_copyAt_18 rfl ?_
  exact er_aret (r := some (X 1 ln)) hx hb hr hlocks hV hS dL_copyAt_22 rfl ⟨rfl, rfl⟩

set_option maxHeartbeats 4000000 in
set_option maxRecDepth 100000 in
theorem c_L_copyAt_neg (l : Launch) (D : va_G) (T : Nat → ClassId) (X : Nat → Nat → Nat) (L : List Nat) (tg : Nat → Nat × Nat) (sz : Nat) (A : ew_R) (th : Nat) (hth : ew_in X L tg 0 0 th) (ln : Int32) (h0 : ln < 0) : Met l yL_copyAt wsL_copyAt ({ frames := 0, cells := 0, slots := 0, locals := 0 }) (ec_Pc D vwCl (tysA T) (cfC T) X L tg A sz [.ref th, .int ln]) (er_Qq D vwCl (cfC T) X L tg sz (fun r u => r = none ∧ u = A)) 0 0 (ew_A L sz) := by
  refine ec_met (by decide) rfl (Nat.le_of_ble_eq_true rfl) ?_
  intro p e s m below meth c ls hx hb hr hts hown hlocks hml hV hK hN hS hA hl hsz
  subst hsz
  have hl : lv_has ls 2 [(0, .ref th), (1, .int ln)] := hl
  refine lv_iload_n hx hb dL_copyAt_0 rfl (lv_at hl 1 rfl) ?_
  refine lv_if_lt (tgt := 21) hx hb dL_copyAt_1 rfl (fun _ => ?_) (fun h9 => absurd h0 h9)
  refine lv_null hx hb dL_copyAt_21 ?_
  exact er_aret (r := none) hx hb hr hlocks hV hS dL_copyAt_22 rfl ⟨rfl, rfl⟩

set_option maxHeartbeats 4000000 in
set_option maxRecDepth 100000 in
theorem c_L_copyAt_big (l : Launch) (D : va_G) (T : Nat → ClassId) (X : Nat → Nat → Nat) (L : List Nat) (tg : Nat → Nat × Nat) (sz : Nat) (A : ew_R) (th : Nat) (hth : ew_in X L tg 0 0 th) (ln : Int32) (nc : Nat) (qn : A 0 0 5 = nI nc) (h0 : ¬ ln < 0) (h1 : nI nc ≤ ln) : Met l yL_copyAt wsL_copyAt ({ frames := 0, cells := 0, slots := 0, locals := 0 }) (ec_Pc D vwCl (tysA T) (cfC T) X L tg A sz [.ref th, .int ln]) (er_Qq D vwCl (cfC T) X L tg sz (fun r u => r = none ∧ u = A)) 0 0 (ew_A L sz) := by
  refine ec_met (by decide) rfl (Nat.le_of_ble_eq_true rfl) ?_
  intro p e s m below meth c ls hx hb hr hts hown hlocks hml hV hK hN hS hA hl hsz
  subst hsz
  have hl : lv_has ls 2 [(0, .ref th), (1, .int ln)] := hl
  refine lv_iload_n hx hb dL_copyAt_0 rfl (lv_at hl 1 rfl) ?_
  refine lv_if_lt (tgt := 21) hx hb dL_copyAt_1 rfl (fun h9 => absurd h9 h0) (fun _ => ?_)
  refine lv_iload_n hx hb dL_copyAt_4 rfl (lv_at hl 1 rfl) ?_
  refine lv_aload_n hx hb dL_copyAt_5 rfl (lv_at hl 0 rfl) ?_
  refine ew_get (v := .int (A 0 0 5)) hx hb hts hown hK hV fL_57 hth (cC_0 _ _ _ _) rfl dL_copyAt_6 ?_
  refine lv_toe (y := nI nc) qn ?_
  refine lv_icmp_ge (tgt := 21) hx hb dL_copyAt_9 rfl (fun _ => ?_) (fun h9 => absurd h1 h9)
  refine lv_null hx hb dL_copyAt_21 ?_
  exact er_aret (r := none) hx hb hr hlocks hV hS dL_copyAt_22 rfl ⟨rfl, rfl⟩

theorem z_isLibrary_1 {b : Nat} (h : b < 6) : z_L_isLibrary (nI b) = 1 := by
  unfold z_L_isLibrary
  rw [if_neg (nI_pos (by omega)), if_neg (show ¬ (6 : Int32) ≤ nI b from nI_ge (b := 6) h (by decide))]

set_option maxHeartbeats 4000000 in
set_option maxRecDepth 100000 in
theorem c_Loan_dealWith_ok (l : Launch) (D : va_G) (T : Nat → ClassId) (X : Nat → Nat → Nat) (L : List Nat) (tg : Nat → Nat × Nat) (sz : Nat) (A : ew_R) (k : Nat) (th : Nat) (hth : ew_in X L tg 2 k th) (b : Nat) (e13_0 : ew_in X L tg 13 k (X 13 k)) (e4_1 : ew_in X L tg 4 (6 * k + b) (X 4 (6 * k + b))) (hb6 : b < 6) (qf : ¬ A 13 k b = 0) : Met l yLoan_dealWith wsLoan_dealWith ({ frames := 1, cells := 0, slots := 0, locals := 20 }) (ec_Pc D vwCl (tysA T) (cfC T) X L tg A sz [.ref th, .int (nI b)]) (er_Qq D vwCl (cfC T) X L tg sz (fun r u => r = some (X 4 (6 * k + b)) ∧ u = A)) 0 0 (ew_A L sz) := by
  refine ec_met (by decide) rfl (Nat.le_of_ble_eq_true rfl) ?_
  intro p e s m below meth c ls hx hb hr hts hown hlocks hml hV hK hN hS hA hl hsz
  subst hsz
  have hl : lv_has ls 2 [(0, .ref th), (1, .int (nI b))] := hl
  refine lv_iload_n hx hb dLoan_dealWith_0 rfl (lv_at hl 1 rfl) ?_
  refine er_calli (va_runSN (As := [.int (nI b)]) (rest := []) ⟨hx, hb, hml, hown, hts⟩ (c_L_isLibrary l D T X L tg _ A (nI b)) ⟨va_cnB 1 hts gn_47.1 rfl rfl rfl (hN.at 1 rfl) (hts _ gn_47.2.2) (by decide +kernel) ⟨Nat.le_of_ble_eq_true rfl, Nat.le_of_ble_eq_true rfl⟩, hts _ gn_47.2.1, trivial⟩ (ec_preS hK hN hV) rfl rfl hl.1 rfl (lv_room (Nat.le_of_ble_eq_true rfl)) dLoan_dealWith_1 ⟨Nat.le_of_ble_eq_true rfl, Nat.le_of_ble_eq_true rfl⟩) hV hS hA (fun r u H locs hp hV hS => ?_)
  obtain ⟨rfl, eu9⟩ := hp
  rw [eu9] at hV
  refine lv_toe (y := 1) (z_isLibrary_1 hb6) ?_
  refine lv_if_eq (tgt := 16) hx hb dLoan_dealWith_4 rfl (fun h9 => absurd h9 (by decide)) (fun _ => ?_)
  refine lv_aload_n hx hb dLoan_dealWith_7 rfl (lv_at hl 0 rfl) ?_
  refine ew_get (v := .ref (X 13 k)) hx hb hts hown hK hV fLoan_11 hth (cC_2 _ _ _ _) rfl dLoan_dealWith_8 ?_
  refine lv_iload_n hx hb dLoan_dealWith_11 rfl (lv_at hl 1 rfl) ?_
  refine ew_aald (v := .ref (X 4 (6 * k + b))) hx hb hK hV e13_0 (cC_13 _ _ _ _) 4 rfl (vp_in_nI (by omega) (by decide)) (by rw [nI_clamp (by omega)]; exact ec_nn qf) dLoan_dealWith_12 ?_
  refine lv_goto (tgt := 17) hx hb dLoan_dealWith_13 rfl ?_
  exact er_aret (r := some (X 4 (6 * k + b))) hx hb hr hlocks hV hS dLoan_dealWith_17 rfl ⟨rfl, rfl⟩

set_option maxHeartbeats 4000000 in
set_option maxRecDepth 100000 in
theorem c_Loan_dealWith_no (l : Launch) (D : va_G) (T : Nat → ClassId) (X : Nat → Nat → Nat) (L : List Nat) (tg : Nat → Nat × Nat) (sz : Nat) (A : ew_R) (k : Nat) (th : Nat) (hth : ew_in X L tg 2 k th) (b : Nat) (e13_0 : ew_in X L tg 13 k (X 13 k)) (hb6 : b < 6) (qf : A 13 k b = 0) : Met l yLoan_dealWith wsLoan_dealWith ({ frames := 1, cells := 0, slots := 0, locals := 20 }) (ec_Pc D vwCl (tysA T) (cfC T) X L tg A sz [.ref th, .int (nI b)]) (er_Qq D vwCl (cfC T) X L tg sz (fun r u => r = none ∧ u = A)) 0 0 (ew_A L sz) := by
  refine ec_met (by decide) rfl (Nat.le_of_ble_eq_true rfl) ?_
  intro p e s m below meth c ls hx hb hr hts hown hlocks hml hV hK hN hS hA hl hsz
  subst hsz
  have hl : lv_has ls 2 [(0, .ref th), (1, .int (nI b))] := hl
  refine lv_iload_n hx hb dLoan_dealWith_0 rfl (lv_at hl 1 rfl) ?_
  refine er_calli (va_runSN (As := [.int (nI b)]) (rest := []) ⟨hx, hb, hml, hown, hts⟩ (c_L_isLibrary l D T X L tg _ A (nI b)) ⟨va_cnB 1 hts gn_47.1 rfl rfl rfl (hN.at 1 rfl) (hts _ gn_47.2.2) (by decide +kernel) ⟨Nat.le_of_ble_eq_true rfl, Nat.le_of_ble_eq_true rfl⟩, hts _ gn_47.2.1, trivial⟩ (ec_preS hK hN hV) rfl rfl hl.1 rfl (lv_room (Nat.le_of_ble_eq_true rfl)) dLoan_dealWith_1 ⟨Nat.le_of_ble_eq_true rfl, Nat.le_of_ble_eq_true rfl⟩) hV hS hA (fun r u H locs hp hV hS => ?_)
  obtain ⟨rfl, eu9⟩ := hp
  rw [eu9] at hV
  refine lv_toe (y := 1) (z_isLibrary_1 hb6) ?_
  refine lv_if_eq (tgt := 16) hx hb dLoan_dealWith_4 rfl (fun h9 => absurd h9 (by decide)) (fun _ => ?_)
  refine lv_aload_n hx hb dLoan_dealWith_7 rfl (lv_at hl 0 rfl) ?_
  refine ew_get (v := .ref (X 13 k)) hx hb hts hown hK hV fLoan_11 hth (cC_2 _ _ _ _) rfl dLoan_dealWith_8 ?_
  refine lv_iload_n hx hb dLoan_dealWith_11 rfl (lv_at hl 1 rfl) ?_
  refine ew_aald (v := .null) hx hb hK hV e13_0 (cC_13 _ _ _ _) 4 rfl (vp_in_nI (by omega) (by decide)) (by rw [nI_clamp (by omega)]; exact ec_nu qf) dLoan_dealWith_12 ?_
  refine lv_goto (tgt := 17) hx hb dLoan_dealWith_13 rfl ?_
  exact er_aret (r := none) hx hb hr hlocks hV hS dLoan_dealWith_17 rfl ⟨rfl, rfl⟩

set_option maxHeartbeats 4000000 in
set_option maxRecDepth 100000 in
theorem c_Loan_dealWith_bad (l : Launch) (D : va_G) (T : Nat → ClassId) (X : Nat → Nat → Nat) (L : List Nat) (tg : Nat → Nat × Nat) (sz : Nat) (A : ew_R) (k : Nat) (th : Nat) (hth : ew_in X L tg 2 k th) (b : Int32) (hnb : z_L_isLibrary b = 0) : Met l yLoan_dealWith wsLoan_dealWith ({ frames := 1, cells := 0, slots := 0, locals := 20 }) (ec_Pc D vwCl (tysA T) (cfC T) X L tg A sz [.ref th, .int b]) (er_Qq D vwCl (cfC T) X L tg sz (fun r u => r = none ∧ u = A)) 0 0 (ew_A L sz) := by
  refine ec_met (by decide) rfl (Nat.le_of_ble_eq_true rfl) ?_
  intro p e s m below meth c ls hx hb hr hts hown hlocks hml hV hK hN hS hA hl hsz
  subst hsz
  have hl : lv_has ls 2 [(0, .ref th), (1, .int b)] := hl
  refine lv_iload_n hx hb dLoan_dealWith_0 rfl (lv_at hl 1 rfl) ?_
  refine er_calli (va_runSN (As := [.int b]) (rest := []) ⟨hx, hb, hml, hown, hts⟩ (c_L_isLibrary l D T X L tg _ A b) ⟨va_cnB 1 hts gn_47.1 rfl rfl rfl (hN.at 1 rfl) (hts _ gn_47.2.2) (by decide +kernel) ⟨Nat.le_of_ble_eq_true rfl, Nat.le_of_ble_eq_true rfl⟩, hts _ gn_47.2.1, trivial⟩ (ec_preS hK hN hV) rfl rfl hl.1 rfl (lv_room (Nat.le_of_ble_eq_true rfl)) dLoan_dealWith_1 ⟨Nat.le_of_ble_eq_true rfl, Nat.le_of_ble_eq_true rfl⟩) hV hS hA (fun r u H locs hp hV hS => ?_)
  obtain ⟨rfl, eu9⟩ := hp
  rw [eu9] at hV
  refine lv_toe (y := 0) hnb ?_
  refine lv_if_eq (tgt := 16) hx hb dLoan_dealWith_4 rfl (fun _ => ?_) (fun h9 => absurd (by decide) h9)
  refine lv_null hx hb dLoan_dealWith_16 ?_
  exact er_aret (r := none) hx hb hr hlocks hV hS dLoan_dealWith_17 rfl ⟨rfl, rfl⟩

def z_L_addToBalance (A : ew_R) (b : Nat) (ct : Int32) : ew_R :=
  up3 A 11 0 b ((A 11 0 b) + ct)
set_option maxHeartbeats 4000000 in
set_option maxRecDepth 100000 in
theorem c_L_addToBalance (l : Launch) (D : va_G) (T : Nat → ClassId) (X : Nat → Nat → Nat) (L : List Nat) (tg : Nat → Nat × Nat) (sz : Nat) (A : ew_R) (th : Nat) (hth : ew_in X L tg 0 0 th) (b : Nat) (ct : Int32) (e11_0 : ew_in X L tg 11 0 (X 11 0)) (hb6 : b < 6) : Met l yL_addToBalance wsL_addToBalance ({ frames := 1, cells := 0, slots := 0, locals := 20 }) (ec_Pc D vwCl (tysA T) (cfC T) X L tg A sz [.ref th, .int (nI b), .int ct]) (er_Qv D vwCl (cfC T) X L tg sz (fun u => u = z_L_addToBalance A b ct)) 0 0 (ew_A L sz) := by
  refine ec_met (by decide) rfl (Nat.le_of_ble_eq_true rfl) ?_
  intro p e s m below meth c ls hx hb hr hts hown hlocks hml hV hK hN hS hA hl hsz
  subst hsz
  have hl : lv_has ls 3 [(0, .ref th), (1, .int (nI b)), (2, .int ct)] := hl
  refine lv_iload_n hx hb dL_addToBalance_0 rfl (lv_at hl 1 rfl) ?_
  refine er_calli (va_runS (As := [.int (nI b)]) (rest := []) ⟨hx, hb, hml, hown, hts⟩ (c_L_isLibrary l D T X L tg _ A (nI b)) (cwS 1 hts gL_43 rfl rfl rfl (by decide +kernel) ⟨Nat.le_of_ble_eq_true rfl, Nat.le_of_ble_eq_true rfl⟩) (ec_preS hK hN hV) rfl rfl hl.1 rfl (lv_room (Nat.le_of_ble_eq_true rfl)) dL_addToBalance_1 ⟨Nat.le_of_ble_eq_true rfl, Nat.le_of_ble_eq_true rfl⟩) hV hS hA (fun r u H locs hp hV hS => ?_)
  obtain ⟨rfl, eu9⟩ := hp
  rw [eu9] at hV
  refine lv_toe (y := 1) (z_isLibrary_1 hb6) ?_
  refine lv_if_eq (tgt := 17) hx hb dL_addToBalance_4 rfl (fun h9 => absurd h9 (by decide)) (fun _ => ?_)
  refine lv_aload_n hx hb dL_addToBalance_7 rfl (lv_at hl 0 rfl) ?_
  refine ew_get (v := .ref (X 11 0)) hx hb hts hown hK hV fL_21 hth (cC_0 _ _ _ _) rfl dL_addToBalance_8 ?_
  refine lv_iload_n hx hb dL_addToBalance_11 rfl (lv_at hl 1 rfl) ?_
  refine lv_dup2_11 hx hb dL_addToBalance_12 rfl rfl ?_
  refine ew_iald (v := A 11 0 b) hx hb hK hV e11_0 (cC_11 _ _ _ _) 0 rfl (vp_in_nI (by omega) (by decide)) (er_ix (by omega) rfl) dL_addToBalance_13 ?_
  refine lv_iload_n hx hb dL_addToBalance_14 rfl (lv_at hl 2 rfl) ?_
  refine lv_iadd hx hb dL_addToBalance_15 ?_
  refine ew_iast hx hb hK hV hS e11_0 (cC_11 _ _ _ _) 0 rfl (vp_in_nI (by omega) (by decide)) b (nI_clamp (by omega)) (qC_11 _ _ _ _ _ _) dL_addToBalance_16 (fun H locs hV hS => ?_)
  exact er_vret hx hb hr hlocks hV hS dL_addToBalance_17 (Eq.symm (by unfold z_L_addToBalance; rfl))
