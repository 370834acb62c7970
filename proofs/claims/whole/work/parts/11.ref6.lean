def s_addCopy_bl (A : ew_R) (b : Int32) (t : Int32) : Int32 × ew_R :=
  if A 0 0 3 = 32 then
    (0, up3 A 0 0 0 1)
  else
    (0, up3 A 0 0 0 1)
set_option maxHeartbeats 4000000 in
set_option maxRecDepth 100000 in
theorem r_addCopy_bl (l : Launch) (D : va_G) (T : Nat → ClassId) (X : Nat → Nat → Nat) (L : List Nat) (tg : Nat → Nat × Nat) (sz : Nat) (hE : eR_E X L tg) (A : ew_R) (b : Int32) (t : Int32) (hnb : s_isLibrary b = 0) : Met l yM_addCopy wsM_addCopy ({ frames := 1, cells := 0, slots := 0, locals := 22 }) (er_Pc D vwCl (tysA T) (cfR T) X L tg A sz [.ref (X 0 0), .int b, .int t]) (er_Qi D vwCl (cfR T) X L tg sz (fun r u => r = (s_addCopy_bl A b t).1 ∧ u = (s_addCopy_bl A b t).2)) 0 0 (ew_A L sz) := by
  refine er_met (by decide) rfl (Nat.le_of_ble_eq_true rfl) ?_
  intro p e s m below meth c ls hx hb hr hts hown hlocks hml hV hK hS hA hl hsz
  subst hsz
  have hi0 := hE 0 (by decide)
  have hl : lv_has ls 3 [(0, .ref (X 0 0)), (1, .int b), (2, .int t)] := hl
  refine lv_aload_n hx hb dM_addCopy_0 rfl (lv_at hl 0 rfl) ?_
  refine lv_iload_n hx hb dM_addCopy_1 rfl (lv_at hl 1 rfl) ?_
  refine er_calli (va_runS (As := [.int b]) (rest := [.ref (X 0 0)]) ⟨hx, hb, hml, hown, hts⟩ (r_isLibrary l D T X L tg _ hE A b) (cwS 1 hts gM_142 rfl rfl rfl (by decide +kernel) ⟨Nat.le_of_ble_eq_true rfl, Nat.le_of_ble_eq_true rfl⟩) (er_preS hK hV) rfl rfl hl.1 rfl (lv_room (Nat.le_of_ble_eq_true rfl)) dM_addCopy_2 ⟨Nat.le_of_ble_eq_true rfl, Nat.le_of_ble_eq_true rfl⟩) hV hS hA (fun r u H locs hp hV hS => ?_)
  obtain ⟨rfl, eu9⟩ := hp
  rw [eu9] at hV
  refine lv_toe (y := 0) hnb ?_
  refine lv_if_eq (tgt := 15) hx hb dM_addCopy_5 rfl (fun _ => ?_) (fun h9 => absurd (by decide) h9)
  refine lv_iconst (v := 1) hx hb dM_addCopy_15 (by decide) ?_
  refine lv_goto (tgt := 20) hx hb dM_addCopy_16 rfl ?_
  refine lv_aload_n hx hb dM_addCopy_20 rfl (lv_at hl 0 rfl) ?_
  refine ew_get (v := .int (A 0 0 3)) hx hb hts hown hK hV fM_149 hi0 (cR_0 _ _ _) rfl dM_addCopy_21 ?_
  refine lv_bipush (v := 32) hx hb dM_addCopy_24 (by decide) ?_
  refine lv_icmp_ne (tgt := 33) hx hb dM_addCopy_26 rfl (fun h1 => ?_) (fun h1 => ?_)
  · refine lv_iconst (v := 0) hx hb dM_addCopy_33 (by decide) ?_
    refine er_calli (va_runV (As := [.int 1, .int 0]) (rest := []) ⟨hx, hb, hml, hown, hts⟩ (r_refuses_a l D T X L tg _ hE A 0) (cwV 2 hts gM_152 rfl rfl rfl (by decide +kernel) ⟨Nat.le_of_ble_eq_true rfl, Nat.le_of_ble_eq_true rfl⟩) (er_preV hK hV hi0 (cR_0 _ _ _) rfl) rfl rfl hl.1 rfl (lv_room (Nat.le_of_ble_eq_true rfl)) dM_addCopy_34 ⟨Nat.le_of_ble_eq_true rfl, Nat.le_of_ble_eq_true rfl⟩) hV hS hA (fun r u H locs hp hV hS => ?_)
    obtain ⟨rfl, rfl⟩ := hp
    refine lv_if_eq (tgt := 42) hx hb dM_addCopy_37 rfl (fun h9 => absurd h9 (by decide)) (fun _ => ?_)
    refine lv_iconst (v := 0) hx hb dM_addCopy_40 (by decide) ?_
    exact er_iret hx hb hr hlocks hV hS dM_addCopy_41 ⟨Eq.symm (by unfold s_addCopy_bl; simp only [if_neg h1]), Eq.symm (by unfold s_addCopy_bl; simp only [if_neg h1])⟩
  · refine lv_iconst (v := 1) hx hb dM_addCopy_29 (by decide) ?_
    refine lv_goto (tgt := 34) hx hb dM_addCopy_30 rfl ?_
    refine er_calli (va_runV (As := [.int 1, .int 1]) (rest := []) ⟨hx, hb, hml, hown, hts⟩ (r_refuses_a l D T X L tg _ hE A 1) (cwV 2 hts gM_152 rfl rfl rfl (by decide +kernel) ⟨Nat.le_of_ble_eq_true rfl, Nat.le_of_ble_eq_true rfl⟩) (er_preV hK hV hi0 (cR_0 _ _ _) rfl) rfl rfl hl.1 rfl (lv_room (Nat.le_of_ble_eq_true rfl)) dM_addCopy_34 ⟨Nat.le_of_ble_eq_true rfl, Nat.le_of_ble_eq_true rfl⟩) hV hS hA (fun r u H locs hp hV hS => ?_)
    obtain ⟨rfl, rfl⟩ := hp
    refine lv_if_eq (tgt := 42) hx hb dM_addCopy_37 rfl (fun h9 => absurd h9 (by decide)) (fun _ => ?_)
    refine lv_iconst (v := 0) hx hb dM_addCopy_40 (by decide) ?_
    exact er_iret hx hb hr hlocks hV hS dM_addCopy_41 ⟨Eq.symm (by unfold s_addCopy_bl; simp only [if_pos h1]), Eq.symm (by unfold s_addCopy_bl; simp only [if_pos h1])⟩

def s_addCopy_bt (A : ew_R) (b : Nat) (t : Int32) : Int32 × ew_R :=
  if A 0 0 3 = 32 then
    (0, up3 A 0 0 0 1)
  else
    (0, up3 A 0 0 0 1)
set_option maxHeartbeats 4000000 in
set_option maxRecDepth 100000 in
theorem r_addCopy_bt (l : Launch) (D : va_G) (T : Nat → ClassId) (X : Nat → Nat → Nat) (L : List Nat) (tg : Nat → Nat × Nat) (sz : Nat) (hE : eR_E X L tg) (A : ew_R) (b : Nat) (t : Int32) (hb6 : b < 6) (hnt : s_isTitle t = 0) : Met l yM_addCopy wsM_addCopy ({ frames := 1, cells := 0, slots := 0, locals := 22 }) (er_Pc D vwCl (tysA T) (cfR T) X L tg A sz [.ref (X 0 0), .int (nI b), .int t]) (er_Qi D vwCl (cfR T) X L tg sz (fun r u => r = (s_addCopy_bt A b t).1 ∧ u = (s_addCopy_bt A b t).2)) 0 0 (ew_A L sz) := by
  refine er_met (by decide) rfl (Nat.le_of_ble_eq_true rfl) ?_
  intro p e s m below meth c ls hx hb hr hts hown hlocks hml hV hK hS hA hl hsz
  subst hsz
  have hi0 := hE 0 (by decide)
  have hl : lv_has ls 3 [(0, .ref (X 0 0)), (1, .int (nI b)), (2, .int t)] := hl
  refine lv_aload_n hx hb dM_addCopy_0 rfl (lv_at hl 0 rfl) ?_
  refine lv_iload_n hx hb dM_addCopy_1 rfl (lv_at hl 1 rfl) ?_
  refine er_calli (va_runS (As := [.int (nI b)]) (rest := [.ref (X 0 0)]) ⟨hx, hb, hml, hown, hts⟩ (r_isLibrary l D T X L tg _ hE A (nI b)) (cwS 1 hts gM_142 rfl rfl rfl (by decide +kernel) ⟨Nat.le_of_ble_eq_true rfl, Nat.le_of_ble_eq_true rfl⟩) (er_preS hK hV) rfl rfl hl.1 rfl (lv_room (Nat.le_of_ble_eq_true rfl)) dM_addCopy_2 ⟨Nat.le_of_ble_eq_true rfl, Nat.le_of_ble_eq_true rfl⟩) hV hS hA (fun r u H locs hp hV hS => ?_)
  obtain ⟨rfl, eu9⟩ := hp
  rw [eu9] at hV
  refine lv_toe (y := 1) (s_isLibrary_1 hb6) ?_
  refine lv_if_eq (tgt := 15) hx hb dM_addCopy_5 rfl (fun h9 => absurd h9 (by decide)) (fun _ => ?_)
  refine lv_iload_n hx hb dM_addCopy_8 rfl (lv_at hl 2 rfl) ?_
  refine er_calli (va_runS (As := [.int t]) (rest := [.ref (X 0 0)]) ⟨hx, hb, hml, hown, hts⟩ (r_isTitle l D T X L tg _ hE A t) (cwS 1 hts gM_146 rfl rfl rfl (by decide +kernel) ⟨Nat.le_of_ble_eq_true rfl, Nat.le_of_ble_eq_true rfl⟩) (er_preS hK hV) rfl rfl hl.1 rfl (lv_room (Nat.le_of_ble_eq_true rfl)) dM_addCopy_9 ⟨Nat.le_of_ble_eq_true rfl, Nat.le_of_ble_eq_true rfl⟩) hV hS hA (fun r u H locs hp hV hS => ?_)
  obtain ⟨rfl, eu9⟩ := hp
  rw [eu9] at hV
  refine lv_toe (y := 0) hnt ?_
  refine lv_if_ne (tgt := 19) hx hb dM_addCopy_12 rfl (fun h9 => absurd (by decide) h9) (fun _ => ?_)
  refine lv_iconst (v := 1) hx hb dM_addCopy_15 (by decide) ?_
  refine lv_goto (tgt := 20) hx hb dM_addCopy_16 rfl ?_
  refine lv_aload_n hx hb dM_addCopy_20 rfl (lv_at hl 0 rfl) ?_
  refine ew_get (v := .int (A 0 0 3)) hx hb hts hown hK hV fM_149 hi0 (cR_0 _ _ _) rfl dM_addCopy_21 ?_
  refine lv_bipush (v := 32) hx hb dM_addCopy_24 (by decide) ?_
  refine lv_icmp_ne (tgt := 33) hx hb dM_addCopy_26 rfl (fun h1 => ?_) (fun h1 => ?_)
  · refine lv_iconst (v := 0) hx hb dM_addCopy_33 (by decide) ?_
    refine er_calli (va_runV (As := [.int 1, .int 0]) (rest := []) ⟨hx, hb, hml, hown, hts⟩ (r_refuses_a l D T X L tg _ hE A 0) (cwV 2 hts gM_152 rfl rfl rfl (by decide +kernel) ⟨Nat.le_of_ble_eq_true rfl, Nat.le_of_ble_eq_true rfl⟩) (er_preV hK hV hi0 (cR_0 _ _ _) rfl) rfl rfl hl.1 rfl (lv_room (Nat.le_of_ble_eq_true rfl)) dM_addCopy_34 ⟨Nat.le_of_ble_eq_true rfl, Nat.le_of_ble_eq_true rfl⟩) hV hS hA (fun r u H locs hp hV hS => ?_)
    obtain ⟨rfl, rfl⟩ := hp
    refine lv_if_eq (tgt := 42) hx hb dM_addCopy_37 rfl (fun h9 => absurd h9 (by decide)) (fun _ => ?_)
    refine lv_iconst (v := 0) hx hb dM_addCopy_40 (by decide) ?_
    exact er_iret hx hb hr hlocks hV hS dM_addCopy_41 ⟨Eq.symm (by unfold s_addCopy_bt; simp only [if_neg h1]), Eq.symm (by unfold s_addCopy_bt; simp only [if_neg h1])⟩
  · refine lv_iconst (v := 1) hx hb dM_addCopy_29 (by decide) ?_
    refine lv_goto (tgt := 34) hx hb dM_addCopy_30 rfl ?_
    refine er_calli (va_runV (As := [.int 1, .int 1]) (rest := []) ⟨hx, hb, hml, hown, hts⟩ (r_refuses_a l D T X L tg _ hE A 1) (cwV 2 hts gM_152 rfl rfl rfl (by decide +kernel) ⟨Nat.le_of_ble_eq_true rfl, Nat.le_of_ble_eq_true rfl⟩) (er_preV hK hV hi0 (cR_0 _ _ _) rfl) rfl rfl hl.1 rfl (lv_room (Nat.le_of_ble_eq_true rfl)) dM_addCopy_34 ⟨Nat.le_of_ble_eq_true rfl, Nat.le_of_ble_eq_true rfl⟩) hV hS hA (fun r u H locs hp hV hS => ?_)
    obtain ⟨rfl, rfl⟩ := hp
    refine lv_if_eq (tgt := 42) hx hb dM_addCopy_37 rfl (fun h9 => absurd h9 (by decide)) (fun _ => ?_)
    refine lv_iconst (v := 0) hx hb dM_addCopy_40 (by decide) ?_
    exact er_iret hx hb hr hlocks hV hS dM_addCopy_41 ⟨Eq.symm (by unfold s_addCopy_bt; simp only [if_pos h1]), Eq.symm (by unfold s_addCopy_bt; simp only [if_pos h1])⟩

def s_addCopy_ok (A : ew_R) (b : Nat) (t : Nat) (nc : Nat) : Int32 × ew_R :=
  if nc = 32 then
    (0, up3 A 0 0 0 2)
  else
    (nI nc, up3 (up3 (up3 (up3 (up3 (up3 A 0 0 0 0) 7 0 nc (nI t)) 8 0 nc (nI b)) 9 0 nc (nI b)) 10 0 nc (-1)) 0 0 3 (nI (nc + 1)))
set_option maxHeartbeats 4000000 in
set_option maxRecDepth 100000 in
theorem r_addCopy_ok (l : Launch) (D : va_G) (T : Nat → ClassId) (X : Nat → Nat → Nat) (L : List Nat) (tg : Nat → Nat × Nat) (sz : Nat) (hE : eR_E X L tg) (A : ew_R) (b : Nat) (t : Nat) (nc : Nat) (hb6 : b < 6) (ht8 : t < 8) (hnc : nc ≤ 32) (q3 : A 0 0 3 = nI nc) : Met l yM_addCopy wsM_addCopy ({ frames := 1, cells := 0, slots := 0, locals := 22 }) (er_Pc D vwCl (tysA T) (cfR T) X L tg A sz [.ref (X 0 0), .int (nI b), .int (nI t)]) (er_Qi D vwCl (cfR T) X L tg sz (fun r u => r = (s_addCopy_ok A b t nc).1 ∧ u = (s_addCopy_ok A b t nc).2)) 0 0 (ew_A L sz) := by
  refine er_met (by decide) rfl (Nat.le_of_ble_eq_true rfl) ?_
  intro p e s m below meth c ls hx hb hr hts hown hlocks hml hV hK hS hA hl hsz
  subst hsz
  have hi0 := hE 0 (by decide)
  have hl : lv_has ls 3 [(0, .ref (X 0 0)), (1, .int (nI b)), (2, .int (nI t))] := hl
  refine lv_aload_n hx hb dM_addCopy_0 rfl (lv_at hl 0 rfl) ?_
  refine lv_iload_n hx hb dM_addCopy_1 rfl (lv_at hl 1 rfl) ?_
  refine er_calli (va_runS (As := [.int (nI b)]) (rest := [.ref (X 0 0)]) ⟨hx, hb, hml, hown, hts⟩ (r_isLibrary l D T X L tg _ hE A (nI b)) (cwS 1 hts gM_142 rfl rfl rfl (by decide +kernel) ⟨Nat.le_of_ble_eq_true rfl, Nat.le_of_ble_eq_true rfl⟩) (er_preS hK hV) rfl rfl hl.1 rfl (lv_room (Nat.le_of_ble_eq_true rfl)) dM_addCopy_2 ⟨Nat.le_of_ble_eq_true rfl, Nat.le_of_ble_eq_true rfl⟩) hV hS hA (fun r u H locs hp hV hS => ?_)
  obtain ⟨rfl, eu9⟩ := hp
  rw [eu9] at hV
  refine lv_toe (y := 1) (s_isLibrary_1 hb6) ?_
  refine lv_if_eq (tgt := 15) hx hb dM_addCopy_5 rfl (fun h9 => absurd h9 (by decide)) (fun _ => ?_)
  refine lv_iload_n hx hb dM_addCopy_8 rfl (lv_at hl 2 rfl) ?_
  refine er_calli (va_runS (As := [.int (nI t)]) (rest := [.ref (X 0 0)]) ⟨hx, hb, hml, hown, hts⟩ (r_isTitle l D T X L tg _ hE A (nI t)) (cwS 1 hts gM_146 rfl rfl rfl (by decide +kernel) ⟨Nat.le_of_ble_eq_true rfl, Nat.le_of_ble_eq_true rfl⟩) (er_preS hK hV) rfl rfl hl.1 rfl (lv_room (Nat.le_of_ble_eq_true rfl)) dM_addCopy_9 ⟨Nat.le_of_ble_eq_true rfl, Nat.le_of_ble_eq_true rfl⟩) hV hS hA (fun r u H locs hp hV hS => ?_)
  obtain ⟨rfl, eu9⟩ := hp
  rw [eu9] at hV
  refine lv_toe (y := 1) (s_isTitle_1 ht8) ?_
  refine lv_if_ne (tgt := 19) hx hb dM_addCopy_12 rfl (fun _ => ?_) (fun h9 => absurd h9 (by decide))
  refine lv_iconst (v := 0) hx hb dM_addCopy_19 (by decide) ?_
  refine lv_aload_n hx hb dM_addCopy_20 rfl (lv_at hl 0 rfl) ?_
  refine ew_get (v := .int (A 0 0 3)) hx hb hts hown hK hV fM_149 hi0 (cR_0 _ _ _) rfl dM_addCopy_21 ?_
  refine lv_toe (y := nI nc) q3 ?_
  refine lv_bipush (v := 32) hx hb dM_addCopy_24 (by decide) ?_
  refine lv_icmp_ne (tgt := 33) hx hb dM_addCopy_26 rfl (fun h1 => ?_) (fun h1 => ?_)
  · replace h1 : ¬ (nc = 32) := fun z9 => h1 ((nI_eq (a := nc) (b := 32) (by omega) (by omega)).mpr z9)
    refine lv_iconst (v := 0) hx hb dM_addCopy_33 (by decide) ?_
    refine er_calli (va_runV (As := [.int 0, .int 0]) (rest := []) ⟨hx, hb, hml, hown, hts⟩ (r_refuses_c l D T X L tg _ hE A) (cwV 2 hts gM_152 rfl rfl rfl (by decide +kernel) ⟨Nat.le_of_ble_eq_true rfl, Nat.le_of_ble_eq_true rfl⟩) (er_preV hK hV hi0 (cR_0 _ _ _) rfl) rfl rfl hl.1 rfl (lv_room (Nat.le_of_ble_eq_true rfl)) dM_addCopy_34 ⟨Nat.le_of_ble_eq_true rfl, Nat.le_of_ble_eq_true rfl⟩) hV hS hA (fun r u H locs hp hV hS => ?_)
    obtain ⟨rfl, rfl⟩ := hp
    refine lv_if_eq (tgt := 42) hx hb dM_addCopy_37 rfl (fun _ => ?_) (fun h9 => absurd (by decide) h9)
    refine lv_aload_n hx hb dM_addCopy_42 rfl (lv_at hl 0 rfl) ?_
    refine ew_get (v := .ref (X 7 0)) hx hb hts hown hK hV fM_13 hi0 (cR_0 _ _ _) rfl dM_addCopy_43 ?_
    refine lv_aload_n hx hb dM_addCopy_46 rfl (lv_at hl 0 rfl) ?_
    refine ew_get (v := .int (A 0 0 3)) hx hb hts hown hK hV fM_149 hi0 (cR_0 _ _ _) rfl dM_addCopy_47 ?_
    refine lv_toe (y := nI nc) q3 ?_
    refine lv_iload_n hx hb dM_addCopy_50 rfl (lv_at hl 2 rfl) ?_
    refine ew_iast hx hb hK hV hS (hE 7 (by decide)) (cR_7 _ _ _) 0 rfl (vp_in_nI (by omega) (by decide)) nc (nI_clamp (by omega)) (qR_7 _ _ _ _ _) dM_addCopy_51 (fun H locs hV hS => ?_)
    refine lv_aload_n hx hb dM_addCopy_52 rfl (lv_at hl 0 rfl) ?_
    refine ew_get (v := .ref (X 8 0)) hx hb hts hown hK hV fM_16 hi0 (cR_0 _ _ _) rfl dM_addCopy_53 ?_
    refine lv_aload_n hx hb dM_addCopy_56 rfl (lv_at hl 0 rfl) ?_
    refine ew_get (v := .int (A 0 0 3)) hx hb hts hown hK hV fM_149 hi0 (cR_0 _ _ _) rfl dM_addCopy_57 ?_
    refine lv_toe (y := nI nc) q3 ?_
    refine lv_iload_n hx hb dM_addCopy_60 rfl (lv_at hl 1 rfl) ?_
    refine ew_iast hx hb hK hV hS (hE 8 (by decide)) (cR_8 _ _ _) 0 rfl (vp_in_nI (by omega) (by decide)) nc (nI_clamp (by omega)) (qR_8 _ _ _ _ _) dM_addCopy_61 (fun H locs hV hS => ?_)
    refine lv_aload_n hx hb dM_addCopy_62 rfl (lv_at hl 0 rfl) ?_
    refine ew_get (v := .ref (X 9 0)) hx hb hts hown hK hV fM_19 hi0 (cR_0 _ _ _) rfl dM_addCopy_63 ?_
    refine lv_aload_n hx hb dM_addCopy_66 rfl (lv_at hl 0 rfl) ?_
    refine ew_get (v := .int (A 0 0 3)) hx hb hts hown hK hV fM_149 hi0 (cR_0 _ _ _) rfl dM_addCopy_67 ?_
    refine lv_toe (y := nI nc) q3 ?_
    refine lv_iload_n hx hb dM_addCopy_70 rfl (lv_at hl 1 rfl) ?_
    refine ew_iast hx hb hK hV hS (hE 9 (by decide)) (cR_9 _ _ _) 0 rfl (vp_in_nI (by omega) (by decide)) nc (nI_clamp (by omega)) (qR_9 _ _ _ _ _) dM_addCopy_71 (fun H locs hV hS => ?_)
    refine lv_aload_n hx hb dM_addCopy_72 rfl (lv_at hl 0 rfl) ?_
    refine ew_get (v := .ref (X 10 0)) hx hb hts hown hK hV fM_22 hi0 (cR_0 _ _ _) rfl dM_addCopy_73 ?_
    refine lv_aload_n hx hb dM_addCopy_76 rfl (lv_at hl 0 rfl) ?_
    refine ew_get (v := .int (A 0 0 3)) hx hb hts hown hK hV fM_149 hi0 (cR_0 _ _ _) rfl dM_addCopy_77 ?_
    refine lv_toe (y := nI nc) q3 ?_
    refine lv_iconst (v := (-1)) hx hb dM_addCopy_80 (by decide) ?_
    refine ew_iast hx hb hK hV hS (hE 10 (by decide)) (cR_10 _ _ _) 0 rfl (vp_in_nI (by omega) (by decide)) nc (nI_clamp (by omega)) (qR_10 _ _ _ _ _) dM_addCopy_81 (fun H locs hV hS => ?_)
    refine lv_aload_n hx hb dM_addCopy_82 rfl (lv_at hl 0 rfl) ?_
    refine lv_dup hx hb dM_addCopy_83 rfl ?_
    refine ew_get (v := .int (A 0 0 3)) hx hb hts hown hK hV fM_149 hi0 (cR_0 _ _ _) rfl dM_addCopy_84 ?_
    refine lv_toe (y := nI nc) q3 ?_
    refine lv_iconst (v := 1) hx hb dM_addCopy_87 (by decide) ?_
    refine lv_iadd hx hb dM_addCopy_88 ?_
    refine lv_toe (y := nI (nc + 1)) (nI_add nc 1) ?_
    refine ew_put (ty := .int) hx hb hts hown hK hV hS fM_149 gM hi0 (cR_0 _ _ _) 3 _ (pR_3 _ _ _ _) rfl (by decide +kernel) rfl rfl (Nat.le_of_ble_eq_true rfl) dM_addCopy_89 (fun H locs hV hS => ?_)
    refine lv_aload_n hx hb dM_addCopy_92 rfl (lv_at hl 0 rfl) ?_
    refine ew_get (v := .int (nI (nc + 1))) hx hb hts hown hK hV fM_149 hi0 (cR_0 _ _ _) rfl dM_addCopy_93 ?_
    refine lv_iconst (v := 1) hx hb dM_addCopy_96 (by decide) ?_
    refine lv_isub hx hb dM_addCopy_97 ?_
    refine lv_toe (y := nI nc) (nI_pred nc) ?_
    exact er_iret hx hb hr hlocks hV hS dM_addCopy_98 ⟨Eq.symm (by unfold s_addCopy_ok; simp only [if_neg h1]), Eq.symm (by unfold s_addCopy_ok; simp only [if_neg h1])⟩
  · replace h1 := (nI_eq (a := nc) (b := 32) (by omega) (by omega)).mp h1
    refine lv_iconst (v := 1) hx hb dM_addCopy_29 (by decide) ?_
    refine lv_goto (tgt := 34) hx hb dM_addCopy_30 rfl ?_
    refine er_calli (va_runV (As := [.int 0, .int 1]) (rest := []) ⟨hx, hb, hml, hown, hts⟩ (r_refuses_b l D T X L tg _ hE A) (cwV 2 hts gM_152 rfl rfl rfl (by decide +kernel) ⟨Nat.le_of_ble_eq_true rfl, Nat.le_of_ble_eq_true rfl⟩) (er_preV hK hV hi0 (cR_0 _ _ _) rfl) rfl rfl hl.1 rfl (lv_room (Nat.le_of_ble_eq_true rfl)) dM_addCopy_34 ⟨Nat.le_of_ble_eq_true rfl, Nat.le_of_ble_eq_true rfl⟩) hV hS hA (fun r u H locs hp hV hS => ?_)
    obtain ⟨rfl, rfl⟩ := hp
    refine lv_if_eq (tgt := 42) hx hb dM_addCopy_37 rfl (fun h9 => absurd h9 (by decide)) (fun _ => ?_)
    refine lv_iconst (v := 0) hx hb dM_addCopy_40 (by decide) ?_
    exact er_iret hx hb hr hlocks hV hS dM_addCopy_41 ⟨Eq.symm (by unfold s_addCopy_ok; simp only [if_pos h1]), Eq.symm (by unfold s_addCopy_ok; simp only [if_pos h1])⟩

def s_request_bl (A : ew_R) (b : Int32) (t : Int32) (f : Int32) (n : Int32) : Int32 × ew_R :=
  if A 0 0 2 = 32 then
    (0, up3 A 0 0 0 1)
  else
    (0, up3 A 0 0 0 1)
set_option maxHeartbeats 4000000 in
set_option maxRecDepth 100000 in
theorem r_request_bl (l : Launch) (D : va_G) (T : Nat → ClassId) (X : Nat → Nat → Nat) (L : List Nat) (tg : Nat → Nat × Nat) (sz : Nat) (hE : eR_E X L tg) (A : ew_R) (b : Int32) (t : Int32) (f : Int32) (n : Int32) (hnb : s_isLibrary b = 0) : Met l yM_request wsM_request ({ frames := 4, cells := 0, slots := 0, locals := 89 }) (er_Pc D vwCl (tysA T) (cfR T) X L tg A sz [.ref (X 0 0), .int b, .int t, .int f, .int n]) (er_Qi D vwCl (cfR T) X L tg sz (fun r u => r = (s_request_bl A b t f n).1 ∧ u = (s_request_bl A b t f n).2)) 0 0 (ew_A L sz) := by
  refine er_met (by decide) rfl (Nat.le_of_ble_eq_true rfl) ?_
  intro p e s m below meth c ls hx hb hr hts hown hlocks hml hV hK hS hA hl hsz
  subst hsz
  have hi0 := hE 0 (by decide)
  have hl : lv_has ls 5 [(0, .ref (X 0 0)), (1, .int b), (2, .int t), (3, .int f), (4, .int n)] := hl
  refine lv_aload_n hx hb dM_request_0 rfl (lv_at hl 0 rfl) ?_
  refine lv_iload_n hx hb dM_request_1 rfl (lv_at hl 1 rfl) ?_
  refine er_calli (va_runS (As := [.int b]) (rest := [.ref (X 0 0)]) ⟨hx, hb, hml, hown, hts⟩ (r_isLibrary l D T X L tg _ hE A b) (cwS 1 hts gM_142 rfl rfl rfl (by decide +kernel) ⟨Nat.le_of_ble_eq_true rfl, Nat.le_of_ble_eq_true rfl⟩) (er_preS hK hV) rfl rfl hl.1 rfl (lv_room (Nat.le_of_ble_eq_true rfl)) dM_request_2 ⟨Nat.le_of_ble_eq_true rfl, Nat.le_of_ble_eq_true rfl⟩) hV hS hA (fun r u H locs hp hV hS => ?_)
  obtain ⟨rfl, eu9⟩ := hp
  rw [eu9] at hV
  refine lv_toe (y := 0) hnb ?_
  refine lv_if_eq (tgt := 35) hx hb dM_request_5 rfl (fun _ => ?_) (fun h9 => absurd (by decide) h9)
  refine lv_iconst (v := 1) hx hb dM_request_35 (by decide) ?_
  refine lv_goto (tgt := 40) hx hb dM_request_36 rfl ?_
  refine lv_aload_n hx hb dM_request_40 rfl (lv_at hl 0 rfl) ?_
  refine ew_get (v := .int (A 0 0 2)) hx hb hts hown hK hV fM_117 hi0 (cR_0 _ _ _) rfl dM_request_41 ?_
  refine lv_bipush (v := 32) hx hb dM_request_44 (by decide) ?_
  refine lv_icmp_ne (tgt := 53) hx hb dM_request_46 rfl (fun h1 => ?_) (fun h1 => ?_)
  · refine lv_iconst (v := 0) hx hb dM_request_53 (by decide) ?_
    refine er_calli (va_runV (As := [.int 1, .int 0]) (rest := []) ⟨hx, hb, hml, hown, hts⟩ (r_refuses_a l D T X L tg _ hE A 0) (cwV 2 hts gM_152 rfl rfl rfl (by decide +kernel) ⟨Nat.le_of_ble_eq_true rfl, Nat.le_of_ble_eq_true rfl⟩) (er_preV hK hV hi0 (cR_0 _ _ _) rfl) rfl rfl hl.1 rfl (lv_room (Nat.le_of_ble_eq_true rfl)) dM_request_54 ⟨Nat.le_of_ble_eq_true rfl, Nat.le_of_ble_eq_true rfl⟩) hV hS hA (fun r u H locs hp hV hS => ?_)
    obtain ⟨rfl, rfl⟩ := hp
    refine lv_if_eq (tgt := 62) hx hb dM_request_57 rfl (fun h9 => absurd h9 (by decide)) (fun _ => ?_)
    refine lv_iconst (v := 0) hx hb dM_request_60 (by decide) ?_
    exact er_iret hx hb hr hlocks hV hS dM_request_61 ⟨Eq.symm (by unfold s_request_bl; simp only [if_neg h1]), Eq.symm (by unfold s_request_bl; simp only [if_neg h1])⟩
  · refine lv_iconst (v := 1) hx hb dM_request_49 (by decide) ?_
    refine lv_goto (tgt := 54) hx hb dM_request_50 rfl ?_
    refine er_calli (va_runV (As := [.int 1, .int 1]) (rest := []) ⟨hx, hb, hml, hown, hts⟩ (r_refuses_a l D T X L tg _ hE A 1) (cwV 2 hts gM_152 rfl rfl rfl (by decide +kernel) ⟨Nat.le_of_ble_eq_true rfl, Nat.le_of_ble_eq_true rfl⟩) (er_preV hK hV hi0 (cR_0 _ _ _) rfl) rfl rfl hl.1 rfl (lv_room (Nat.le_of_ble_eq_true rfl)) dM_request_54 ⟨Nat.le_of_ble_eq_true rfl, Nat.le_of_ble_eq_true rfl⟩) hV hS hA (fun r u H locs hp hV hS => ?_)
    obtain ⟨rfl, rfl⟩ := hp
    refine lv_if_eq (tgt := 62) hx hb dM_request_57 rfl (fun h9 => absurd h9 (by decide)) (fun _ => ?_)
    refine lv_iconst (v := 0) hx hb dM_request_60 (by decide) ?_
    exact er_iret hx hb hr hlocks hV hS dM_request_61 ⟨Eq.symm (by unfold s_request_bl; simp only [if_pos h1]), Eq.symm (by unfold s_request_bl; simp only [if_pos h1])⟩

def s_request_bt (A : ew_R) (b : Nat) (t : Int32) (f : Int32) (n : Int32) : Int32 × ew_R :=
  if A 0 0 2 = 32 then
    (0, up3 A 0 0 0 1)
  else
    (0, up3 A 0 0 0 1)
set_option maxHeartbeats 4000000 in
set_option maxRecDepth 100000 in
theorem r_request_bt (l : Launch) (D : va_G) (T : Nat → ClassId) (X : Nat → Nat → Nat) (L : List Nat) (tg : Nat → Nat × Nat) (sz : Nat) (hE : eR_E X L tg) (A : ew_R) (b : Nat) (t : Int32) (f : Int32) (n : Int32) (hb6 : b < 6) (hnt : s_isTitle t = 0) : Met l yM_request wsM_request ({ frames := 4, cells := 0, slots := 0, locals := 89 }) (er_Pc D vwCl (tysA T) (cfR T) X L tg A sz [.ref (X 0 0), .int (nI b), .int t, .int f, .int n]) (er_Qi D vwCl (cfR T) X L tg sz (fun r u => r = (s_request_bt A b t f n).1 ∧ u = (s_request_bt A b t f n).2)) 0 0 (ew_A L sz) := by
  refine er_met (by decide) rfl (Nat.le_of_ble_eq_true rfl) ?_
  intro p e s m below meth c ls hx hb hr hts hown hlocks hml hV hK hS hA hl hsz
  subst hsz
  have hi0 := hE 0 (by decide)
  have hl : lv_has ls 5 [(0, .ref (X 0 0)), (1, .int (nI b)), (2, .int t), (3, .int f), (4, .int n)] := hl
  refine lv_aload_n hx hb dM_request_0 rfl (lv_at hl 0 rfl) ?_
  refine lv_iload_n hx hb dM_request_1 rfl (lv_at hl 1 rfl) ?_
  refine er_calli (va_runS (As := [.int (nI b)]) (rest := [.ref (X 0 0)]) ⟨hx, hb, hml, hown, hts⟩ (r_isLibrary l D T X L tg _ hE A (nI b)) (cwS 1 hts gM_142 rfl rfl rfl (by decide +kernel) ⟨Nat.le_of_ble_eq_true rfl, Nat.le_of_ble_eq_true rfl⟩) (er_preS hK hV) rfl rfl hl.1 rfl (lv_room (Nat.le_of_ble_eq_true rfl)) dM_request_2 ⟨Nat.le_of_ble_eq_true rfl, Nat.le_of_ble_eq_true rfl⟩) hV hS hA (fun r u H locs hp hV hS => ?_)
  obtain ⟨rfl, eu9⟩ := hp
  rw [eu9] at hV
  refine lv_toe (y := 1) (s_isLibrary_1 hb6) ?_
  refine lv_if_eq (tgt := 35) hx hb dM_request_5 rfl (fun h9 => absurd h9 (by decide)) (fun _ => ?_)
  refine lv_iload_n hx hb dM_request_8 rfl (lv_at hl 2 rfl) ?_
  refine er_calli (va_runS (As := [.int t]) (rest := [.ref (X 0 0)]) ⟨hx, hb, hml, hown, hts⟩ (r_isTitle l D T X L tg _ hE A t) (cwS 1 hts gM_146 rfl rfl rfl (by decide +kernel) ⟨Nat.le_of_ble_eq_true rfl, Nat.le_of_ble_eq_true rfl⟩) (er_preS hK hV) rfl rfl hl.1 rfl (lv_room (Nat.le_of_ble_eq_true rfl)) dM_request_9 ⟨Nat.le_of_ble_eq_true rfl, Nat.le_of_ble_eq_true rfl⟩) hV hS hA (fun r u H locs hp hV hS => ?_)
  obtain ⟨rfl, eu9⟩ := hp
  rw [eu9] at hV
  refine lv_toe (y := 0) hnt ?_
  refine lv_if_eq (tgt := 35) hx hb dM_request_12 rfl (fun _ => ?_) (fun h9 => absurd (by decide) h9)
  refine lv_iconst (v := 1) hx hb dM_request_35 (by decide) ?_
  refine lv_goto (tgt := 40) hx hb dM_request_36 rfl ?_
  refine lv_aload_n hx hb dM_request_40 rfl (lv_at hl 0 rfl) ?_
  refine ew_get (v := .int (A 0 0 2)) hx hb hts hown hK hV fM_117 hi0 (cR_0 _ _ _) rfl dM_request_41 ?_
  refine lv_bipush (v := 32) hx hb dM_request_44 (by decide) ?_
  refine lv_icmp_ne (tgt := 53) hx hb dM_request_46 rfl (fun h1 => ?_) (fun h1 => ?_)
  · refine lv_iconst (v := 0) hx hb dM_request_53 (by decide) ?_
    refine er_calli (va_runV (As := [.int 1, .int 0]) (rest := []) ⟨hx, hb, hml, hown, hts⟩ (r_refuses_a l D T X L tg _ hE A 0) (cwV 2 hts gM_152 rfl rfl rfl (by decide +kernel) ⟨Nat.le_of_ble_eq_true rfl, Nat.le_of_ble_eq_true rfl⟩) (er_preV hK hV hi0 (cR_0 _ _ _) rfl) rfl rfl hl.1 rfl (lv_room (Nat.le_of_ble_eq_true rfl)) dM_request_54 ⟨Nat.le_of_ble_eq_true rfl, Nat.le_of_ble_eq_true rfl⟩) hV hS hA (fun r u H locs hp hV hS => ?_)
    obtain ⟨rfl, rfl⟩ := hp
    refine lv_if_eq (tgt := 62) hx hb dM_request_57 rfl (fun h9 => absurd h9 (by decide)) (fun _ => ?_)
    refine lv_iconst (v := 0) hx hb dM_request_60 (by decide) ?_
    exact er_iret hx hb hr hlocks hV hS dM_request_61 ⟨Eq.symm (by unfold s_request_bt; simp only [if_neg h1]), Eq.symm (by unfold s_request_bt; simp only [if_neg h1])⟩
  · refine lv_iconst (v := 1) hx hb dM_request_49 (by decide) ?_
    refine lv_goto (tgt := 54) hx hb dM_request_50 rfl ?_
    refine er_calli (va_runV (As := [.int 1, .int 1]) (rest := []) ⟨hx, hb, hml, hown, hts⟩ (r_refuses_a l D T X L tg _ hE A 1) (cwV 2 hts gM_152 rfl rfl rfl (by decide +kernel) ⟨Nat.le_of_ble_eq_true rfl, Nat.le_of_ble_eq_true rfl⟩) (er_preV hK hV hi0 (cR_0 _ _ _) rfl) rfl rfl hl.1 rfl (lv_room (Nat.le_of_ble_eq_true rfl)) dM_request_54 ⟨Nat.le_of_ble_eq_true rfl, Nat.le_of_ble_eq_true rfl⟩) hV hS hA (fun r u H locs hp hV hS => ?_)
    obtain ⟨rfl, rfl⟩ := hp
    refine lv_if_eq (tgt := 62) hx hb dM_request_57 rfl (fun h9 => absurd h9 (by decide)) (fun _ => ?_)
    refine lv_iconst (v := 0) hx hb dM_request_60 (by decide) ?_
    exact er_iret hx hb hr hlocks hV hS dM_request_61 ⟨Eq.symm (by unfold s_request_bt; simp only [if_pos h1]), Eq.symm (by unfold s_request_bt; simp only [if_pos h1])⟩

def s_request_bf (A : ew_R) (b : Nat) (t : Nat) (f : Int32) (n : Int32) : Int32 × ew_R :=
  if A 0 0 2 = 32 then
    (0, up3 A 0 0 0 1)
  else
    (0, up3 A 0 0 0 1)
set_option maxHeartbeats 4000000 in
set_option maxRecDepth 100000 in
theorem r_request_bf (l : Launch) (D : va_G) (T : Nat → ClassId) (X : Nat → Nat → Nat) (L : List Nat) (tg : Nat → Nat × Nat) (sz : Nat) (hE : eR_E X L tg) (A : ew_R) (b : Nat) (t : Nat) (f : Int32) (n : Int32) (hb6 : b < 6) (ht8 : t < 8) (hnf : s_isLibrary f = 0) : Met l yM_request wsM_request ({ frames := 4, cells := 0, slots := 0, locals := 89 }) (er_Pc D vwCl (tysA T) (cfR T) X L tg A sz [.ref (X 0 0), .int (nI b), .int (nI t), .int f, .int n]) (er_Qi D vwCl (cfR T) X L tg sz (fun r u => r = (s_request_bf A b t f n).1 ∧ u = (s_request_bf A b t f n).2)) 0 0 (ew_A L sz) := by
  refine er_met (by decide) rfl (Nat.le_of_ble_eq_true rfl) ?_
  intro p e s m below meth c ls hx hb hr hts hown hlocks hml hV hK hS hA hl hsz
  subst hsz
  have hi0 := hE 0 (by decide)
  have hl : lv_has ls 5 [(0, .ref (X 0 0)), (1, .int (nI b)), (2, .int (nI t)), (3, .int f), (4, .int n)] := hl
  refine lv_aload_n hx hb dM_request_0 rfl (lv_at hl 0 rfl) ?_
  refine lv_iload_n hx hb dM_request_1 rfl (lv_at hl 1 rfl) ?_
  refine er_calli (va_runS (As := [.int (nI b)]) (rest := [.ref (X 0 0)]) ⟨hx, hb, hml, hown, hts⟩ (r_isLibrary l D T X L tg _ hE A (nI b)) (cwS 1 hts gM_142 rfl rfl rfl (by decide +kernel) ⟨Nat.le_of_ble_eq_true rfl, Nat.le_of_ble_eq_true rfl⟩) (er_preS hK hV) rfl rfl hl.1 rfl (lv_room (Nat.le_of_ble_eq_true rfl)) dM_request_2 ⟨Nat.le_of_ble_eq_true rfl, Nat.le_of_ble_eq_true rfl⟩) hV hS hA (fun r u H locs hp hV hS => ?_)
  obtain ⟨rfl, eu9⟩ := hp
  rw [eu9] at hV
  refine lv_toe (y := 1) (s_isLibrary_1 hb6) ?_
  refine lv_if_eq (tgt := 35) hx hb dM_request_5 rfl (fun h9 => absurd h9 (by decide)) (fun _ => ?_)
  refine lv_iload_n hx hb dM_request_8 rfl (lv_at hl 2 rfl) ?_
  refine er_calli (va_runS (As := [.int (nI t)]) (rest := [.ref (X 0 0)]) ⟨hx, hb, hml, hown, hts⟩ (r_isTitle l D T X L tg _ hE A (nI t)) (cwS 1 hts gM_146 rfl rfl rfl (by decide +kernel) ⟨Nat.le_of_ble_eq_true rfl, Nat.le_of_ble_eq_true rfl⟩) (er_preS hK hV) rfl rfl hl.1 rfl (lv_room (Nat.le_of_ble_eq_true rfl)) dM_request_9 ⟨Nat.le_of_ble_eq_true rfl, Nat.le_of_ble_eq_true rfl⟩) hV hS hA (fun r u H locs hp hV hS => ?_)
  obtain ⟨rfl, eu9⟩ := hp
  rw [eu9] at hV
  refine lv_toe (y := 1) (s_isTitle_1 ht8) ?_
  refine lv_if_eq (tgt := 35) hx hb dM_request_12 rfl (fun h9 => absurd h9 (by decide)) (fun _ => ?_)
  refine lv_iload_n hx hb dM_request_15 rfl (lv_at hl 3 rfl) ?_
  refine er_calli (va_runS (As := [.int f]) (rest := [.ref (X 0 0)]) ⟨hx, hb, hml, hown, hts⟩ (r_isLibrary l D T X L tg _ hE A f) (cwS 1 hts gM_142 rfl rfl rfl (by decide +kernel) ⟨Nat.le_of_ble_eq_true rfl, Nat.le_of_ble_eq_true rfl⟩) (er_preS hK hV) rfl rfl hl.1 rfl (lv_room (Nat.le_of_ble_eq_true rfl)) dM_request_16 ⟨Nat.le_of_ble_eq_true rfl, Nat.le_of_ble_eq_true rfl⟩) hV hS hA (fun r u H locs hp hV hS => ?_)
  obtain ⟨rfl, eu9⟩ := hp
  rw [eu9] at hV
  refine lv_toe (y := 0) hnf ?_
  refine lv_if_eq (tgt := 35) hx hb dM_request_19 rfl (fun _ => ?_) (fun h9 => absurd (by decide) h9)
  refine lv_iconst (v := 1) hx hb dM_request_35 (by decide) ?_
  refine lv_goto (tgt := 40) hx hb dM_request_36 rfl ?_
  refine lv_aload_n hx hb dM_request_40 rfl (lv_at hl 0 rfl) ?_
  refine ew_get (v := .int (A 0 0 2)) hx hb hts hown hK hV fM_117 hi0 (cR_0 _ _ _) rfl dM_request_41 ?_
  refine lv_bipush (v := 32) hx hb dM_request_44 (by decide) ?_
  refine lv_icmp_ne (tgt := 53) hx hb dM_request_46 rfl (fun h1 => ?_) (fun h1 => ?_)
  · refine lv_iconst (v := 0) hx hb dM_request_53 (by decide) ?_
    refine er_calli (va_runV (As := [.int 1, .int 0]) (rest := []) ⟨hx, hb, hml, hown, hts⟩ (r_refuses_a l D T X L tg _ hE A 0) (cwV 2 hts gM_152 rfl rfl rfl (by decide +kernel) ⟨Nat.le_of_ble_eq_true rfl, Nat.le_of_ble_eq_true rfl⟩) (er_preV hK hV hi0 (cR_0 _ _ _) rfl) rfl rfl hl.1 rfl (lv_room (Nat.le_of_ble_eq_true rfl)) dM_request_54 ⟨Nat.le_of_ble_eq_true rfl, Nat.le_of_ble_eq_true rfl⟩) hV hS hA (fun r u H locs hp hV hS => ?_)
    obtain ⟨rfl, rfl⟩ := hp
    refine lv_if_eq (tgt := 62) hx hb dM_request_57 rfl (fun h9 => absurd h9 (by decide)) (fun _ => ?_)
    refine lv_iconst (v := 0) hx hb dM_request_60 (by decide) ?_
    exact er_iret hx hb hr hlocks hV hS dM_request_61 ⟨Eq.symm (by unfold s_request_bf; simp only [if_neg h1]), Eq.symm (by unfold s_request_bf; simp only [if_neg h1])⟩
  · refine lv_iconst (v := 1) hx hb dM_request_49 (by decide) ?_
    refine lv_goto (tgt := 54) hx hb dM_request_50 rfl ?_
    refine er_calli (va_runV (As := [.int 1, .int 1]) (rest := []) ⟨hx, hb, hml, hown, hts⟩ (r_refuses_a l D T X L tg _ hE A 1) (cwV 2 hts gM_152 rfl rfl rfl (by decide +kernel) ⟨Nat.le_of_ble_eq_true rfl, Nat.le_of_ble_eq_true rfl⟩) (er_preV hK hV hi0 (cR_0 _ _ _) rfl) rfl rfl hl.1 rfl (lv_room (Nat.le_of_ble_eq_true rfl)) dM_request_54 ⟨Nat.le_of_ble_eq_true rfl, Nat.le_of_ble_eq_true rfl⟩) hV hS hA (fun r u H locs hp hV hS => ?_)
    obtain ⟨rfl, rfl⟩ := hp
    refine lv_if_eq (tgt := 62) hx hb dM_request_57 rfl (fun h9 => absurd h9 (by decide)) (fun _ => ?_)
    refine lv_iconst (v := 0) hx hb dM_request_60 (by decide) ?_
    exact er_iret hx hb hr hlocks hV hS dM_request_61 ⟨Eq.symm (by unfold s_request_bf; simp only [if_pos h1]), Eq.symm (by unfold s_request_bf; simp only [if_pos h1])⟩

def s_request_b1 (A : ew_R) (b : Nat) (t : Nat) (f : Nat) (n : Int32) : Int32 × ew_R :=
  if A 0 0 2 = 32 then
    (0, up3 A 0 0 0 1)
  else
    (0, up3 A 0 0 0 1)
set_option maxHeartbeats 4000000 in
set_option maxRecDepth 100000 in
theorem r_request_b1 (l : Launch) (D : va_G) (T : Nat → ClassId) (X : Nat → Nat → Nat) (L : List Nat) (tg : Nat → Nat × Nat) (sz : Nat) (hE : eR_E X L tg) (A : ew_R) (b : Nat) (t : Nat) (f : Nat) (n : Int32) (hb6 : b < 6) (ht8 : t < 8) (hf6 : f < 6) (hn1 : n < 1) : Met l yM_request wsM_request ({ frames := 4, cells := 0, slots := 0, locals := 89 }) (er_Pc D vwCl (tysA T) (cfR T) X L tg A sz [.ref (X 0 0), .int (nI b), .int (nI t), .int (nI f), .int n]) (er_Qi D vwCl (cfR T) X L tg sz (fun r u => r = (s_request_b1 A b t f n).1 ∧ u = (s_request_b1 A b t f n).2)) 0 0 (ew_A L sz) := by
  refine er_met (by decide) rfl (Nat.le_of_ble_eq_true rfl) ?_
  intro p e s m below meth c ls hx hb hr hts hown hlocks hml hV hK hS hA hl hsz
  subst hsz
  have hi0 := hE 0 (by decide)
  have hl : lv_has ls 5 [(0, .ref (X 0 0)), (1, .int (nI b)), (2, .int (nI t)), (3, .int (nI f)), (4, .int n)] := hl
  refine lv_aload_n hx hb dM_request_0 rfl (lv_at hl 0 rfl) ?_
  refine lv_iload_n hx hb dM_request_1 rfl (lv_at hl 1 rfl) ?_
  refine er_calli (va_runS (As := [.int (nI b)]) (rest := [.ref (X 0 0)]) ⟨hx, hb, hml, hown, hts⟩ (r_isLibrary l D T X L tg _ hE A (nI b)) (cwS 1 hts gM_142 rfl rfl rfl (by decide +kernel) ⟨Nat.le_of_ble_eq_true rfl, Nat.le_of_ble_eq_true rfl⟩) (er_preS hK hV) rfl rfl hl.1 rfl (lv_room (Nat.le_of_ble_eq_true rfl)) dM_request_2 ⟨Nat.le_of_ble_eq_true rfl, Nat.le_of_ble_eq_true rfl⟩) hV hS hA (fun r u H locs hp hV hS => ?_)
  obtain ⟨rfl, eu9⟩ := hp
  rw [eu9] at hV
  refine lv_toe (y := 1) (s_isLibrary_1 hb6) ?_
  refine lv_if_eq (tgt := 35) hx hb dM_request_5 rfl (fun h9 => absurd h9 (by decide)) (fun _ => ?_)
  refine lv_iload_n hx hb dM_request_8 rfl (lv_at hl 2 rfl) ?_
  refine er_calli (va_runS (As := [.int (nI t)]) (rest := [.ref (X 0 0)]) ⟨hx, hb, hml, hown, hts⟩ (r_isTitle l D T X L tg _ hE A (nI t)) (cwS 1 hts gM_146 rfl rfl rfl (by decide +kernel) ⟨Nat.le_of_ble_eq_true rfl, Nat.le_of_ble_eq_true rfl⟩) (er_preS hK hV) rfl rfl hl.1 rfl (lv_room (Nat.le_of_ble_eq_true rfl)) dM_request_9 ⟨Nat.le_of_ble_eq_true rfl, Nat.le_of_ble_eq_true rfl⟩) hV hS hA (fun r u H locs hp hV hS => ?_)
  obtain ⟨rfl, eu9⟩ := hp
  rw [eu9] at hV
  refine lv_toe (y := 1) (s_isTitle_1 ht8) ?_
  refine lv_if_eq (tgt := 35) hx hb dM_request_12 rfl (fun h9 => absurd h9 (by decide)) (fun _ => ?_)
  refine lv_iload_n hx hb dM_request_15 rfl (lv_at hl 3 rfl) ?_
  refine er_calli (va_runS (As := [.int (nI f)]) (rest := [.ref (X 0 0)]) ⟨hx, hb, hml, hown, hts⟩ (r_isLibrary l D T X L tg _ hE A (nI f)) (cwS 1 hts gM_142 rfl rfl rfl (by decide +kernel) ⟨Nat.le_of_ble_eq_true rfl, Nat.le_of_ble_eq_true rfl⟩) (er_preS hK hV) rfl rfl hl.1 rfl (lv_room (Nat.le_of_ble_eq_true rfl)) dM_request_16 ⟨Nat.le_of_ble_eq_true rfl, Nat.le_of_ble_eq_true rfl⟩) hV hS hA (fun r u H locs hp hV hS => ?_)
  obtain ⟨rfl, eu9⟩ := hp
  rw [eu9] at hV
  refine lv_toe (y := 1) (s_isLibrary_1 hf6) ?_
  refine lv_if_eq (tgt := 35) hx hb dM_request_19 rfl (fun h9 => absurd h9 (by decide)) (fun _ => ?_)
  refine lv_iload hx hb dM_request_22 (lv_at hl 4 rfl) ?_
  refine lv_iconst (v := 1) hx hb dM_request_24 (by decide) ?_
  refine lv_icmp_lt (tgt := 35) hx hb dM_request_25 rfl (fun _ => ?_) (fun h9 => absurd hn1 h9)
  refine lv_iconst (v := 1) hx hb dM_request_35 (by decide) ?_
  refine lv_goto (tgt := 40) hx hb dM_request_36 rfl ?_
  refine lv_aload_n hx hb dM_request_40 rfl (lv_at hl 0 rfl) ?_
  refine ew_get (v := .int (A 0 0 2)) hx hb hts hown hK hV fM_117 hi0 (cR_0 _ _ _) rfl dM_request_41 ?_
  refine lv_bipush (v := 32) hx hb dM_request_44 (by decide) ?_
  refine lv_icmp_ne (tgt := 53) hx hb dM_request_46 rfl (fun h1 => ?_) (fun h1 => ?_)
  · refine lv_iconst (v := 0) hx hb dM_request_53 (by decide) ?_
    refine er_calli (va_runV (As := [.int 1, .int 0]) (rest := []) ⟨hx, hb, hml, hown, hts⟩ (r_refuses_a l D T X L tg _ hE A 0) (cwV 2 hts gM_152 rfl rfl rfl (by decide +kernel) ⟨Nat.le_of_ble_eq_true rfl, Nat.le_of_ble_eq_true rfl⟩) (er_preV hK hV hi0 (cR_0 _ _ _) rfl) rfl rfl hl.1 rfl (lv_room (Nat.le_of_ble_eq_true rfl)) dM_request_54 ⟨Nat.le_of_ble_eq_true rfl, Nat.le_of_ble_eq_true rfl⟩) hV hS hA (fun r u H locs hp hV hS => ?_)
    obtain ⟨rfl, rfl⟩ := hp
    refine lv_if_eq (tgt := 62) hx hb dM_request_57 rfl (fun h9 => absurd h9 (by decide)) (fun _ => ?_)
    refine lv_iconst (v := 0) hx hb dM_request_60 (by decide) ?_
    exact er_iret hx hb hr hlocks hV hS dM_request_61 ⟨Eq.symm (by unfold s_request_b1; simp only [if_neg h1]), Eq.symm (by unfold s_request_b1; simp only [if_neg h1])⟩
  · refine lv_iconst (v := 1) hx hb dM_request_49 (by decide) ?_
    refine lv_goto (tgt := 54) hx hb dM_request_50 rfl ?_
    refine er_calli (va_runV (As := [.int 1, .int 1]) (rest := []) ⟨hx, hb, hml, hown, hts⟩ (r_refuses_a l D T X L tg _ hE A 1) (cwV 2 hts gM_152 rfl rfl rfl (by decide +kernel) ⟨Nat.le_of_ble_eq_true rfl, Nat.le_of_ble_eq_true rfl⟩) (er_preV hK hV hi0 (cR_0 _ _ _) rfl) rfl rfl hl.1 rfl (lv_room (Nat.le_of_ble_eq_true rfl)) dM_request_54 ⟨Nat.le_of_ble_eq_true rfl, Nat.le_of_ble_eq_true rfl⟩) hV hS hA (fun r u H locs hp hV hS => ?_)
    obtain ⟨rfl, rfl⟩ := hp
    refine lv_if_eq (tgt := 62) hx hb dM_request_57 rfl (fun h9 => absurd h9 (by decide)) (fun _ => ?_)
    refine lv_iconst (v := 0) hx hb dM_request_60 (by decide) ?_
    exact er_iret hx hb hr hlocks hV hS dM_request_61 ⟨Eq.symm (by unfold s_request_b1; simp only [if_pos h1]), Eq.symm (by unfold s_request_b1; simp only [if_pos h1])⟩

def s_request_b9 (A : ew_R) (b : Nat) (t : Nat) (f : Nat) (n : Int32) : Int32 × ew_R :=
  if A 0 0 2 = 32 then
    (0, up3 A 0 0 0 1)
  else
    (0, up3 A 0 0 0 1)
set_option maxHeartbeats 4000000 in
set_option maxRecDepth 100000 in
theorem r_request_b9 (l : Launch) (D : va_G) (T : Nat → ClassId) (X : Nat → Nat → Nat) (L : List Nat) (tg : Nat → Nat × Nat) (sz : Nat) (hE : eR_E X L tg) (A : ew_R) (b : Nat) (t : Nat) (f : Nat) (n : Int32) (hb6 : b < 6) (ht8 : t < 8) (hf6 : f < 6) (hn1 : ¬ n < 1) (hn9 : 99 < n) : Met l yM_request wsM_request ({ frames := 4, cells := 0, slots := 0, locals := 89 }) (er_Pc D vwCl (tysA T) (cfR T) X L tg A sz [.ref (X 0 0), .int (nI b), .int (nI t), .int (nI f), .int n]) (er_Qi D vwCl (cfR T) X L tg sz (fun r u => r = (s_request_b9 A b t f n).1 ∧ u = (s_request_b9 A b t f n).2)) 0 0 (ew_A L sz) := by
  refine er_met (by decide) rfl (Nat.le_of_ble_eq_true rfl) ?_
  intro p e s m below meth c ls hx hb hr hts hown hlocks hml hV hK hS hA hl hsz
  subst hsz
  have hi0 := hE 0 (by decide)
  have hl : lv_has ls 5 [(0, .ref (X 0 0)), (1, .int (nI b)), (2, .int (nI t)), (3, .int (nI f)), (4, .int n)] := hl
  refine lv_aload_n hx hb dM_request_0 rfl (lv_at hl 0 rfl) ?_
  refine lv_iload_n hx hb dM_request_1 rfl (lv_at hl 1 rfl) ?_
  refine er_calli (va_runS (As := [.int (nI b)]) (rest := [.ref (X 0 0)]) ⟨hx, hb, hml, hown, hts⟩ (r_isLibrary l D T X L tg _ hE A (nI b)) (cwS 1 hts gM_142 rfl rfl rfl (by decide +kernel) ⟨Nat.le_of_ble_eq_true rfl, Nat.le_of_ble_eq_true rfl⟩) (er_preS hK hV) rfl rfl hl.1 rfl (lv_room (Nat.le_of_ble_eq_true rfl)) dM_request_2 ⟨Nat.le_of_ble_eq_true rfl, Nat.le_of_ble_eq_true rfl⟩) hV hS hA (fun r u H locs hp hV hS => ?_)
  obtain ⟨rfl, eu9⟩ := hp
  rw [eu9] at hV
  refine lv_toe (y := 1) (s_isLibrary_1 hb6) ?_
  refine lv_if_eq (tgt := 35) hx hb dM_request_5 rfl (fun h9 => absurd h9 (by decide)) (fun _ => ?_)
  refine lv_iload_n hx hb dM_request_8 rfl (lv_at hl 2 rfl) ?_
  refine er_calli (va_runS (As := [.int (nI t)]) (rest := [.ref (X 0 0)]) ⟨hx, hb, hml, hown, hts⟩ (r_isTitle l D T X L tg _ hE A (nI t)) (cwS 1 hts gM_146 rfl rfl rfl (by decide +kernel) ⟨Nat.le_of_ble_eq_true rfl, Nat.le_of_ble_eq_true rfl⟩) (er_preS hK hV) rfl rfl hl.1 rfl (lv_room (Nat.le_of_ble_eq_true rfl)) dM_request_9 ⟨Nat.le_of_ble_eq_true rfl, Nat.le_of_ble_eq_true rfl⟩) hV hS hA (fun r u H locs hp hV hS => ?_)
  obtain ⟨rfl, eu9⟩ := hp
  rw [eu9] at hV
  refine lv_toe (y := 1) (s_isTitle_1 ht8) ?_
  refine lv_if_eq (tgt := 35) hx hb dM_request_12 rfl (fun h9 => absurd h9 (by decide)) (fun _ => ?_)
  refine lv_iload_n hx hb dM_request_15 rfl (lv_at hl 3 rfl) ?_
  refine er_calli (va_runS (As := [.int (nI f)]) (rest := [.ref (X 0 0)]) ⟨hx, hb, hml, hown, hts⟩ (r_isLibrary l D T X L tg _ hE A (nI f)) (cwS 1 hts gM_142 rfl rfl rfl (by decide +kernel) ⟨Nat.le_of_ble_eq_true rfl, Nat.le_of_ble_eq_true rfl⟩) (er_preS hK hV) rfl rfl hl.1 rfl (lv_room (Nat.le_of_ble_eq_true rfl)) dM_request_16 ⟨Nat.le_of_ble_eq_true rfl, Nat.le_of_ble_eq_true rfl⟩) hV hS hA (fun r u H locs hp hV hS => ?_)
  obtain ⟨rfl, eu9⟩ := hp
  rw [eu9] at hV
  refine lv_toe (y := 1) (s_isLibrary_1 hf6) ?_
  refine lv_if_eq (tgt := 35) hx hb dM_request_19 rfl (fun h9 => absurd h9 (by decide)) (fun _ => ?_)
  refine lv_iload hx hb dM_request_22 (lv_at hl 4 rfl) ?_
  refine lv_iconst (v := 1) hx hb dM_request_24 (by decide) ?_
  refine lv_icmp_lt (tgt := 35) hx hb dM_request_25 rfl (fun h9 => absurd h9 hn1) (fun _ => ?_)
  refine lv_iload hx hb dM_request_28 (lv_at hl 4 rfl) ?_
  refine lv_bipush (v := 99) hx hb dM_request_30 (by decide) ?_
  refine lv_icmp_le (tgt := 39) hx hb dM_request_32 rfl (fun h9 => absurd h9 (i3_nle hn9)) (fun _ => ?_)
  refine lv_iconst (v := 1) hx hb dM_request_35 (by decide) ?_
  refine lv_goto (tgt := 40) hx hb dM_request_36 rfl ?_
  refine lv_aload_n hx hb dM_request_40 rfl (lv_at hl 0 rfl) ?_
  refine ew_get (v := .int (A 0 0 2)) hx hb hts hown hK hV fM_117 hi0 (cR_0 _ _ _) rfl dM_request_41 ?_
  refine lv_bipush (v := 32) hx hb dM_request_44 (by decide) ?_
  refine lv_icmp_ne (tgt := 53) hx hb dM_request_46 rfl (fun h1 => ?_) (fun h1 => ?_)
  · refine lv_iconst (v := 0) hx hb dM_request_53 (by decide) ?_
    refine er_calli (va_runV (As := [.int 1, .int 0]) (rest := []) ⟨hx, hb, hml, hown, hts⟩ (r_refuses_a l D T X L tg _ hE A 0) (cwV 2 hts gM_152 rfl rfl rfl (by decide +kernel) ⟨Nat.le_of_ble_eq_true rfl, Nat.le_of_ble_eq_true rfl⟩) (er_preV hK hV hi0 (cR_0 _ _ _) rfl) rfl rfl hl.1 rfl (lv_room (Nat.le_of_ble_eq_true rfl)) dM_request_54 ⟨Nat.le_of_ble_eq_true rfl, Nat.le_of_ble_eq_true rfl⟩) hV hS hA (fun r u H locs hp hV hS => ?_)
    obtain ⟨rfl, rfl⟩ := hp
    refine lv_if_eq (tgt := 62) hx hb dM_request_57 rfl (fun h9 => absurd h9 (by decide)) (fun _ => ?_)
    refine lv_iconst (v := 0) hx hb dM_request_60 (by decide) ?_
    exact er_iret hx hb hr hlocks hV hS dM_request_61 ⟨Eq.symm (by unfold s_request_b9; simp only [if_neg h1]), Eq.symm (by unfold s_request_b9; simp only [if_neg h1])⟩
  · refine lv_iconst (v := 1) hx hb dM_request_49 (by decide) ?_
    refine lv_goto (tgt := 54) hx hb dM_request_50 rfl ?_
    refine er_calli (va_runV (As := [.int 1, .int 1]) (rest := []) ⟨hx, hb, hml, hown, hts⟩ (r_refuses_a l D T X L tg _ hE A 1) (cwV 2 hts gM_152 rfl rfl rfl (by decide +kernel) ⟨Nat.le_of_ble_eq_true rfl, Nat.le_of_ble_eq_true rfl⟩) (er_preV hK hV hi0 (cR_0 _ _ _) rfl) rfl rfl hl.1 rfl (lv_room (Nat.le_of_ble_eq_true rfl)) dM_request_54 ⟨Nat.le_of_ble_eq_true rfl, Nat.le_of_ble_eq_true rfl⟩) hV hS hA (fun r u H locs hp hV hS => ?_)
    obtain ⟨rfl, rfl⟩ := hp
    refine lv_if_eq (tgt := 62) hx hb dM_request_57 rfl (fun h9 => absurd h9 (by decide)) (fun _ => ?_)
    refine lv_iconst (v := 0) hx hb dM_request_60 (by decide) ?_
    exact er_iret hx hb hr hlocks hV hS dM_request_61 ⟨Eq.symm (by unfold s_request_b9; simp only [if_pos h1]), Eq.symm (by unfold s_request_b9; simp only [if_pos h1])⟩

theorem s_write_o (A : ew_R) (en : Nat) (x y : Int32) (w lg : Nat) {c : Nat} (h : c < 29) {k : Nat} (h0 : ¬ (c = 0 ∧ (k = 4 ∨ k = 5))) (a : Nat) : s_write A en x y w lg c a k = A c a k := by
  unfold s_write
  rw [up3_ne _ _ (by omega), s_lay_lt _ _ _ _ (by omega) (by omega), up3_ne _ _ (by omega), up3_ne _ _ (by omega), up3_ne _ _ (by omega), up3_ne _ _ (by omega), up3_ne _ _ (by omega), up3_ne _ _ (by omega)]
theorem s_askNext_2 (A : ew_R) (ln st ak rq w lg : Nat) : s_askNext A ln st ak rq w lg 0 0 2 = A 0 0 2 := by
  unfold s_askNext
  split
  · split
    · rw [s_write_o _ _ _ _ _ _ (by decide) (by decide)]; rfl
    · rfl
  · split
    · rw [s_write_o _ _ _ _ _ _ (by decide) (by decide)]; rfl
    · rfl

def s_request_ok (A : ew_R) (b : Nat) (t : Nat) (f : Nat) (n : Int32) (nl : Nat) (ak : Nat) (w : Nat) (lg : Nat) : Int32 × ew_R :=
  if nl = 32 then
    (0, up3 A 0 0 0 2)
  else
    (nI nl, (s_askNext (up3 (up3 (up3 (up3 (up3 (up3 (up3 A 0 0 0 0) 11 0 nl (nI b)) 12 0 nl (nI t)) 14 0 nl (nI f)) 13 0 nl n) 17 0 nl (-1)) 0 0 2 (nI (nl + 1))) nl f ak b w lg))
set_option maxHeartbeats 4000000 in
set_option maxRecDepth 100000 in
theorem r_request_ok (l : Launch) (D : va_G) (T : Nat → ClassId) (X : Nat → Nat → Nat) (L : List Nat) (tg : Nat → Nat × Nat) (sz : Nat) (hE : eR_E X L tg) (A : ew_R) (b : Nat) (t : Nat) (f : Nat) (n : Int32) (nl : Nat) (ak : Nat) (w : Nat) (lg : Nat) (hb6 : b < 6) (ht8 : t < 8) (hf6 : f < 6) (hn1 : ¬ n < 1) (hn9 : ¬ 99 < n) (hn2 : nl ≤ 32) (q2 : A 0 0 2 = nI nl) (hak : ak ≤ 8) (q15 : A 15 0 nl = nI ak) (hw : w ≤ 64) (hq : A 0 0 4 = nI w) (hlg : lg < 3000) (hg : A 0 0 5 = nI lg) : Met l yM_request wsM_request ({ frames := 4, cells := 0, slots := 0, locals := 89 }) (er_Pc D vwCl (tysA T) (cfR T) X L tg A sz [.ref (X 0 0), .int (nI b), .int (nI t), .int (nI f), .int n]) (er_Qi D vwCl (cfR T) X L tg sz (fun r u => r = (s_request_ok A b t f n nl ak w lg).1 ∧ u = (s_request_ok A b t f n nl ak w lg).2)) 0 0 (ew_A L sz) := by
  refine er_met (by decide) rfl (Nat.le_of_ble_eq_true rfl) ?_
  intro p e s m below meth c ls hx hb hr hts hown hlocks hml hV hK hS hA hl hsz
  subst hsz
  have hi0 := hE 0 (by decide)
  have hl : lv_has ls 5 [(0, .ref (X 0 0)), (1, .int (nI b)), (2, .int (nI t)), (3, .int (nI f)), (4, .int n)] := hl
  refine lv_aload_n hx hb dM_request_0 rfl (lv_at hl 0 rfl) ?_
  refine lv_iload_n hx hb dM_request_1 rfl (lv_at hl 1 rfl) ?_
  refine er_calli (va_runS (As := [.int (nI b)]) (rest := [.ref (X 0 0)]) ⟨hx, hb, hml, hown, hts⟩ (r_isLibrary l D T X L tg _ hE A (nI b)) (cwS 1 hts gM_142 rfl rfl rfl (by decide +kernel) ⟨Nat.le_of_ble_eq_true rfl, Nat.le_of_ble_eq_true rfl⟩) (er_preS hK hV) rfl rfl hl.1 rfl (lv_room (Nat.le_of_ble_eq_true rfl)) dM_request_2 ⟨Nat.le_of_ble_eq_true rfl, Nat.le_of_ble_eq_true rfl⟩) hV hS hA (fun r u H locs hp hV hS => ?_)
  obtain ⟨rfl, eu9⟩ := hp
  rw [eu9] at hV
  refine lv_toe (y := 1) (s_isLibrary_1 hb6) ?_
  refine lv_if_eq (tgt := 35) hx hb dM_request_5 rfl (fun h9 => absurd h9 (by decide)) (fun _ => ?_)
  refine lv_iload_n hx hb dM_request_8 rfl (lv_at hl 2 rfl) ?_
  refine er_calli (va_runS (As := [.int (nI t)]) (rest := [.ref (X 0 0)]) ⟨hx, hb, hml, hown, hts⟩ (r_isTitle l D T X L tg _ hE A (nI t)) (cwS 1 hts gM_146 rfl rfl rfl (by decide +kernel) ⟨Nat.le_of_ble_eq_true rfl, Nat.le_of_ble_eq_true rfl⟩) (er_preS hK hV) rfl rfl hl.1 rfl (lv_room (Nat.le_of_ble_eq_true rfl)) dM_request_9 ⟨Nat.le_of_ble_eq_true rfl, Nat.le_of_ble_eq_true rfl⟩) hV hS hA (fun r u H locs hp hV hS => ?_)
  obtain ⟨rfl, eu9⟩ := hp
  rw [eu9] at hV
  refine lv_toe (y := 1) (s_isTitle_1 ht8) ?_
  refine lv_if_eq (tgt := 35) hx hb dM_request_12 rfl (fun h9 => absurd h9 (by decide)) (fun _ => ?_)
  refine lv_iload_n hx hb dM_request_15 rfl (lv_at hl 3 rfl) ?_
  refine er_calli (va_runS (As := [.int (nI f)]) (rest := [.ref (X 0 0)]) ⟨hx, hb, hml, hown, hts⟩ (r_isLibrary l D T X L tg _ hE A (nI f)) (cwS 1 hts gM_142 rfl rfl rfl (by decide +kernel) ⟨Nat.le_of_ble_eq_true rfl, Nat.le_of_ble_eq_true rfl⟩) (er_preS hK hV) rfl rfl hl.1 rfl (lv_room (Nat.le_of_ble_eq_true rfl)) dM_request_16 ⟨Nat.le_of_ble_eq_true rfl, Nat.le_of_ble_eq_true rfl⟩) hV hS hA (fun r u H locs hp hV hS => ?_)
  obtain ⟨rfl, eu9⟩ := hp
  rw [eu9] at hV
  refine lv_toe (y := 1) (s_isLibrary_1 hf6) ?_
  refine lv_if_eq (tgt := 35) hx hb dM_request_19 rfl (fun h9 => absurd h9 (by decide)) (fun _ => ?_)
  refine lv_iload hx hb dM_request_22 (lv_at hl 4 rfl) ?_
  refine lv_iconst (v := 1) hx hb dM_request_24 (by decide) ?_
  refine lv_icmp_lt (tgt := 35) hx hb dM_request_25 rfl (fun h9 => absurd h9 hn1) (fun _ => ?_)
  refine lv_iload hx hb dM_request_28 (lv_at hl 4 rfl) ?_
  refine lv_bipush (v := 99) hx hb dM_request_30 (by decide) ?_
  refine lv_icmp_le (tgt := 39) hx hb dM_request_32 rfl (fun _ => ?_) (fun h9 => absurd (i3_le hn9) h9)
  refine lv_iconst (v := 0) hx hb dM_request_39 (by decide) ?_
  refine lv_aload_n hx hb dM_request_40 rfl (lv_at hl 0 rfl) ?_
  refine ew_get (v := .int (A 0 0 2)) hx hb hts hown hK hV fM_117 hi0 (cR_0 _ _ _) rfl dM_request_41 ?_
  refine lv_toe (y := nI nl) q2 ?_
  refine lv_bipush (v := 32) hx hb dM_request_44 (by decide) ?_
  refine lv_icmp_ne (tgt := 53) hx hb dM_request_46 rfl (fun h1 => ?_) (fun h1 => ?_)
  · replace h1 : ¬ (nl = 32) := fun z9 => h1 ((nI_eq (a := nl) (b := 32) (by omega) (by omega)).mpr z9)
    refine lv_iconst (v := 0) hx hb dM_request_53 (by decide) ?_
    refine er_calli (va_runV (As := [.int 0, .int 0]) (rest := []) ⟨hx, hb, hml, hown, hts⟩ (r_refuses_c l D T X L tg _ hE A) (cwV 2 hts gM_152 rfl rfl rfl (by decide +kernel) ⟨Nat.le_of_ble_eq_true rfl, Nat.le_of_ble_eq_true rfl⟩) (er_preV hK hV hi0 (cR_0 _ _ _) rfl) rfl rfl hl.1 rfl (lv_room (Nat.le_of_ble_eq_true rfl)) dM_request_54 ⟨Nat.le_of_ble_eq_true rfl, Nat.le_of_ble_eq_true rfl⟩) hV hS hA (fun r u H locs hp hV hS => ?_)
    obtain ⟨rfl, rfl⟩ := hp
    refine lv_if_eq (tgt := 62) hx hb dM_request_57 rfl (fun _ => ?_) (fun h9 => absurd (by decide) h9)
    refine lv_aload_n hx hb dM_request_62 rfl (lv_at hl 0 rfl) ?_
    refine ew_get (v := .ref (X 11 0)) hx hb hts hown hK hV fM_25 hi0 (cR_0 _ _ _) rfl dM_request_63 ?_
    refine lv_aload_n hx hb dM_request_66 rfl (lv_at hl 0 rfl) ?_
    refine ew_get (v := .int (A 0 0 2)) hx hb hts hown hK hV fM_117 hi0 (cR_0 _ _ _) rfl dM_request_67 ?_
    refine lv_toe (y := nI nl) q2 ?_
    refine lv_iload_n hx hb dM_request_70 rfl (lv_at hl 1 rfl) ?_
    refine ew_iast hx hb hK hV hS (hE 11 (by decide)) (cR_11 _ _ _) 0 rfl (vp_in_nI (by omega) (by decide)) nl (nI_clamp (by omega)) (qR_11 _ _ _ _ _) dM_request_71 (fun H locs hV hS => ?_)
    refine lv_aload_n hx hb dM_request_72 rfl (lv_at hl 0 rfl) ?_
    refine ew_get (v := .ref (X 12 0)) hx hb hts hown hK hV fM_28 hi0 (cR_0 _ _ _) rfl dM_request_73 ?_
    refine lv_aload_n hx hb dM_request_76 rfl (lv_at hl 0 rfl) ?_
    refine ew_get (v := .int (A 0 0 2)) hx hb hts hown hK hV fM_117 hi0 (cR_0 _ _ _) rfl dM_request_77 ?_
    refine lv_toe (y := nI nl) q2 ?_
    refine lv_iload_n hx hb dM_request_80 rfl (lv_at hl 2 rfl) ?_
    refine ew_iast hx hb hK hV hS (hE 12 (by decide)) (cR_12 _ _ _) 0 rfl (vp_in_nI (by omega) (by decide)) nl (nI_clamp (by omega)) (qR_12 _ _ _ _ _) dM_request_81 (fun H locs hV hS => ?_)
    refine lv_aload_n hx hb dM_request_82 rfl (lv_at hl 0 rfl) ?_
    refine ew_get (v := .ref (X 14 0)) hx hb hts hown hK hV fM_34 hi0 (cR_0 _ _ _) rfl dM_request_83 ?_
    refine lv_aload_n hx hb dM_request_86 rfl (lv_at hl 0 rfl) ?_
    refine ew_get (v := .int (A 0 0 2)) hx hb hts hown hK hV fM_117 hi0 (cR_0 _ _ _) rfl dM_request_87 ?_
    refine lv_toe (y := nI nl) q2 ?_
    refine lv_iload_n hx hb dM_request_90 rfl (lv_at hl 3 rfl) ?_
    refine ew_iast hx hb hK hV hS (hE 14 (by decide)) (cR_14 _ _ _) 0 rfl (vp_in_nI (by omega) (by decide)) nl (nI_clamp (by omega)) (qR_14 _ _ _ _ _) dM_request_91 (fun H locs hV hS => ?_)
    refine lv_aload_n hx hb dM_request_92 rfl (lv_at hl 0 rfl) ?_
    refine ew_get (v := .ref (X 13 0)) hx hb hts hown hK hV fM_31 hi0 (cR_0 _ _ _) rfl dM_request_93 ?_
    refine lv_aload_n hx hb dM_request_96 rfl (lv_at hl 0 rfl) ?_
    refine ew_get (v := .int (A 0 0 2)) hx hb hts hown hK hV fM_117 hi0 (cR_0 _ _ _) rfl dM_request_97 ?_
    refine lv_toe (y := nI nl) q2 ?_
    refine lv_iload hx hb dM_request_100 (lv_at hl 4 rfl) ?_
    refine ew_iast hx hb hK hV hS (hE 13 (by decide)) (cR_13 _ _ _) 0 rfl (vp_in_nI (by omega) (by decide)) nl (nI_clamp (by omega)) (qR_13 _ _ _ _ _) dM_request_102 (fun H locs hV hS => ?_)
    refine lv_aload_n hx hb dM_request_103 rfl (lv_at hl 0 rfl) ?_
    refine ew_get (v := .ref (X 17 0)) hx hb hts hown hK hV fM_43 hi0 (cR_0 _ _ _) rfl dM_request_104 ?_
    refine lv_aload_n hx hb dM_request_107 rfl (lv_at hl 0 rfl) ?_
    refine ew_get (v := .int (A 0 0 2)) hx hb hts hown hK hV fM_117 hi0 (cR_0 _ _ _) rfl dM_request_108 ?_
    refine lv_toe (y := nI nl) q2 ?_
    refine lv_iconst (v := (-1)) hx hb dM_request_111 (by decide) ?_
    refine ew_iast hx hb hK hV hS (hE 17 (by decide)) (cR_17 _ _ _) 0 rfl (vp_in_nI (by omega) (by decide)) nl (nI_clamp (by omega)) (qR_17 _ _ _ _ _) dM_request_112 (fun H locs hV hS => ?_)
    refine lv_aload_n hx hb dM_request_113 rfl (lv_at hl 0 rfl) ?_
    refine lv_dup hx hb dM_request_114 rfl ?_
    refine ew_get (v := .int (A 0 0 2)) hx hb hts hown hK hV fM_117 hi0 (cR_0 _ _ _) rfl dM_request_115 ?_
    refine lv_toe (y := nI nl) q2 ?_
    refine lv_iconst (v := 1) hx hb dM_request_118 (by decide) ?_
    refine lv_iadd hx hb dM_request_119 ?_
    refine lv_toe (y := nI (nl + 1)) (nI_add nl 1) ?_
    refine ew_put (ty := .int) hx hb hts hown hK hV hS fM_117 gM hi0 (cR_0 _ _ _) 2 _ (pR_2 _ _ _ _) rfl (by decide +kernel) rfl rfl (Nat.le_of_ble_eq_true rfl) dM_request_120 (fun H locs hV hS => ?_)
    refine lv_aload_n hx hb dM_request_123 rfl (lv_at hl 0 rfl) ?_
    refine lv_aload_n hx hb dM_request_124 rfl (lv_at hl 0 rfl) ?_
    refine ew_get (v := .int (nI (nl + 1))) hx hb hts hown hK hV fM_117 hi0 (cR_0 _ _ _) rfl dM_request_125 ?_
    refine lv_iconst (v := 1) hx hb dM_request_128 (by decide) ?_
    refine lv_isub hx hb dM_request_129 ?_
    refine lv_toe (y := nI nl) (nI_pred nl) ?_
    refine er_callv (va_runV (As := [.int (nI nl)]) (rest := []) ⟨hx, hb, hml, hown, hts⟩ (r_askNext l D T X L tg _ hE (up3 (up3 (up3 (up3 (up3 (up3 (up3 A 0 0 0 0) 11 0 nl (nI b)) 12 0 nl (nI t)) 14 0 nl (nI f)) 13 0 nl n) 17 0 nl (-1)) 0 0 2 (nI (nl + 1))) nl f ak b w lg (by omega) hf6 hak hb6 hw hq hlg hg (by simp [up3, va_up]) q15 (by simp [up3, va_up])) (cwV 1 hts gM_156 rfl rfl rfl (by decide +kernel) ⟨Nat.le_of_ble_eq_true rfl, Nat.le_of_ble_eq_true rfl⟩) (er_preV hK hV hi0 (cR_0 _ _ _) rfl) rfl rfl hl.1 rfl (lv_room (Nat.le_of_ble_eq_true rfl)) dM_request_130 ⟨Nat.le_of_ble_eq_true rfl, Nat.le_of_ble_eq_true rfl⟩) hV hS hA (fun u2 H locs eu2 hV hS => ?_)
    have eu2 : u2 = s_askNext (up3 (up3 (up3 (up3 (up3 (up3 (up3 A 0 0 0 0) 11 0 nl (nI b)) 12 0 nl (nI t)) 14 0 nl (nI f)) 13 0 nl n) 17 0 nl (-1)) 0 0 2 (nI (nl + 1))) nl f ak b w lg := eu2
    refine lv_aload_n hx hb dM_request_133 rfl (lv_at hl 0 rfl) ?_
    refine ew_get (v := .int (u2 0 0 2)) hx hb hts hown hK hV fM_117 hi0 (cR_0 _ _ _) rfl dM_request_134 ?_
    refine lv_toe (y := nI (nl + 1)) (by rw [eu2]; exact (s_askNext_2 _ _ _ _ _ _ _)) ?_
    refine lv_iconst (v := 1) hx hb dM_request_137 (by decide) ?_
    refine lv_isub hx hb dM_request_138 ?_
    refine lv_toe (y := nI nl) (nI_pred nl) ?_
    subst eu2
    exact er_iret hx hb hr hlocks hV hS dM_request_139 ⟨Eq.symm (by unfold s_request_ok; simp only [if_neg h1]), Eq.symm (by unfold s_request_ok; simp only [if_neg h1])⟩
  · replace h1 := (nI_eq (a := nl) (b := 32) (by omega) (by omega)).mp h1
    refine lv_iconst (v := 1) hx hb dM_request_49 (by decide) ?_
    refine lv_goto (tgt := 54) hx hb dM_request_50 rfl ?_
    refine er_calli (va_runV (As := [.int 0, .int 1]) (rest := []) ⟨hx, hb, hml, hown, hts⟩ (r_refuses_b l D T X L tg _ hE A) (cwV 2 hts gM_152 rfl rfl rfl (by decide +kernel) ⟨Nat.le_of_ble_eq_true rfl, Nat.le_of_ble_eq_true rfl⟩) (er_preV hK hV hi0 (cR_0 _ _ _) rfl) rfl rfl hl.1 rfl (lv_room (Nat.le_of_ble_eq_true rfl)) dM_request_54 ⟨Nat.le_of_ble_eq_true rfl, Nat.le_of_ble_eq_true rfl⟩) hV hS hA (fun r u H locs hp hV hS => ?_)
    obtain ⟨rfl, rfl⟩ := hp
    refine lv_if_eq (tgt := 62) hx hb dM_request_57 rfl (fun h9 => absurd h9 (by decide)) (fun _ => ?_)
    refine lv_iconst (v := 0) hx hb dM_request_60 (by decide) ?_
    exact er_iret hx hb hr hlocks hV hS dM_request_61 ⟨Eq.symm (by unfold s_request_ok; simp only [if_pos h1]), Eq.symm (by unfold s_request_ok; simp only [if_pos h1])⟩
