/-! act of a supplier's step where there is no such deal -/
set_option maxHeartbeats 4000000 in
set_option maxRecDepth 100000 in
theorem r_act_z (l : Launch) (D : va_G) (T : Nat → ClassId) (X : Nat → Nat → Nat) (L : List Nat) (tg : Nat → Nat × Nat) (sz : Nat) (hE : eR_E X L tg) (A : ew_R) (b : Nat) (ln : Nat) (sx : Int32) (cc : Int32) (nl : Nat) (rq : Nat) (hb6 : b < 6) (hnl : ln < nl) (hn2 : nl ≤ 32) (q2 : A 0 0 2 = nI nl) (hrq : rq < 6) (q11 : A 11 0 ln = nI rq) (hbr : b = rq) (hs0 : ¬ sx < 0) (hs7 : 7 ≤ sx) (hs6 : ¬ sx ≤ 6) (hs15 : ¬ 15 ≤ sx) (q22 : A 22 0 (6 * ln + b) = 0) : Met l yM_act wsM_act ({ frames := 5, cells := 0, slots := 0, locals := 114 }) (er_Pc D vwCl (tysA T) (cfR T) X L tg A sz [.ref (X 0 0), .int (nI b), .int (nI ln), .int sx, .int cc]) (er_Qi D vwCl (cfR T) X L tg sz (fun r u => r = ((0, up3 A 0 0 0 1) : Int32 × ew_R).1 ∧ u = ((0, up3 A 0 0 0 1) : Int32 × ew_R).2)) 0 0 (ew_A L sz) := by
  refine er_met (by decide) rfl (Nat.le_of_ble_eq_true rfl) ?_
  intro p e s m below meth c ls hx hb hr hts hown hlocks hml hV hK hS hA hl hsz
  subst hsz
  have hi0 := hE 0 (by decide)
  have hl : lv_has ls 8 [(0, .ref (X 0 0)), (1, .int (nI b)), (2, .int (nI ln)), (3, .int sx), (4, .int cc)] := hl
  refine lv_aload_n hx hb dM_act_0 rfl (lv_at hl 0 rfl) ?_
  refine lv_iload_n hx hb dM_act_1 rfl (lv_at hl 2 rfl) ?_
  refine er_calli (va_runV (As := [.int (nI ln)]) (rest := []) ⟨hx, hb, hml, hown, hts⟩ (r_isLoan l D T X L tg _ hE A (nI ln)) (cwV 1 hts gM_172 rfl rfl rfl (by decide +kernel) ⟨Nat.le_of_ble_eq_true rfl, Nat.le_of_ble_eq_true rfl⟩) (er_preV hK hV hi0 (cR_0 _ _ _) rfl) rfl rfl hl.1 rfl (lv_room (Nat.le_of_ble_eq_true rfl)) dM_act_2 ⟨Nat.le_of_ble_eq_true rfl, Nat.le_of_ble_eq_true rfl⟩) hV hS hA (fun r u H locs hp hV hS => ?_)
  obtain ⟨rfl, eu9⟩ := hp
  rw [eu9] at hV
  refine lv_toe (y := 1) (s_isLoan_1 q2 hnl hn2) ?_
  refine lv_if_eq (tgt := 29) hx hb dM_act_5 rfl (fun h9 => absurd h9 (by decide)) (fun _ => ?_)
  refine lv_iload_n hx hb dM_act_8 rfl (lv_at hl 1 rfl) ?_
  refine er_calli (va_runS (As := [.int (nI b)]) (rest := []) ⟨hx, hb, hml, hown, hts⟩ (r_isLibrary l D T X L tg _ hE A (nI b)) (cwS 1 hts gM_142 rfl rfl rfl (by decide +kernel) ⟨Nat.le_of_ble_eq_true rfl, Nat.le_of_ble_eq_true rfl⟩) (er_preS hK hV) rfl rfl hl.1 rfl (lv_room (Nat.le_of_ble_eq_true rfl)) dM_act_9 ⟨Nat.le_of_ble_eq_true rfl, Nat.le_of_ble_eq_true rfl⟩) hV hS hA (fun r u H locs hp hV hS => ?_)
  obtain ⟨rfl, eu9⟩ := hp
  rw [eu9] at hV
  refine lv_toe (y := 1) (s_isLibrary_1 hb6) ?_
  refine lv_if_eq (tgt := 29) hx hb dM_act_12 rfl (fun h9 => absurd h9 (by decide)) (fun _ => ?_)
  refine lv_iload_n hx hb dM_act_15 rfl (lv_at hl 1 rfl) ?_
  refine lv_aload_n hx hb dM_act_16 rfl (lv_at hl 0 rfl) ?_
  refine ew_get (v := .ref (X 11 0)) hx hb hts hown hK hV fM_25 hi0 (cR_0 _ _ _) rfl dM_act_17 ?_
  refine lv_iload_n hx hb dM_act_20 rfl (lv_at hl 2 rfl) ?_
  refine ew_iald (v := A 11 0 ln) hx hb hK hV (hE 11 (by decide)) (cR_11 _ _ _) 0 rfl (vp_in_nI (by omega) (by decide)) (er_ix (by omega) rfl) dM_act_21 ?_
  refine lv_toe (y := nI rq) q11 ?_
  refine lv_icmp_ne (tgt := 29) hx hb dM_act_22 rfl (fun h9 => absurd (by rw [hbr]) h9) (fun _ => ?_)
  refine lv_iconst (v := 1) hx hb dM_act_25 (by decide) ?_
  refine lv_goto (tgt := 30) hx hb dM_act_26 rfl ?_
  refine lv_istore (lv' := [(5, .int 1), (0, .ref (X 0 0)), (1, .int (nI b)), (2, .int (nI ln)), (3, .int sx), (4, .int cc)]) hx hb dM_act_30 hl (by decide) rfl (fun ls hl => ?_)
  refine lv_aload_n hx hb dM_act_32 rfl (lv_at hl 1 rfl) ?_
  refine lv_iload_n hx hb dM_act_33 rfl (lv_at hl 3 rfl) ?_
  refine er_calli (va_runV (As := [.int (nI ln)]) (rest := []) ⟨hx, hb, hml, hown, hts⟩ (r_isLoan l D T X L tg _ hE A (nI ln)) (cwV 1 hts gM_172 rfl rfl rfl (by decide +kernel) ⟨Nat.le_of_ble_eq_true rfl, Nat.le_of_ble_eq_true rfl⟩) (er_preV hK hV hi0 (cR_0 _ _ _) rfl) rfl rfl hl.1 rfl (lv_room (Nat.le_of_ble_eq_true rfl)) dM_act_34 ⟨Nat.le_of_ble_eq_true rfl, Nat.le_of_ble_eq_true rfl⟩) hV hS hA (fun r u H locs hp hV hS => ?_)
  obtain ⟨rfl, eu9⟩ := hp
  rw [eu9] at hV
  refine lv_toe (y := 1) (s_isLoan_1 q2 hnl hn2) ?_
  refine lv_if_eq (tgt := 65) hx hb dM_act_37 rfl (fun h9 => absurd h9 (by decide)) (fun _ => ?_)
  refine lv_iload_n hx hb dM_act_40 rfl (lv_at hl 2 rfl) ?_
  refine er_calli (va_runS (As := [.int (nI b)]) (rest := []) ⟨hx, hb, hml, hown, hts⟩ (r_isLibrary l D T X L tg _ hE A (nI b)) (cwS 1 hts gM_142 rfl rfl rfl (by decide +kernel) ⟨Nat.le_of_ble_eq_true rfl, Nat.le_of_ble_eq_true rfl⟩) (er_preS hK hV) rfl rfl hl.1 rfl (lv_room (Nat.le_of_ble_eq_true rfl)) dM_act_41 ⟨Nat.le_of_ble_eq_true rfl, Nat.le_of_ble_eq_true rfl⟩) hV hS hA (fun r u H locs hp hV hS => ?_)
  obtain ⟨rfl, eu9⟩ := hp
  rw [eu9] at hV
  refine lv_toe (y := 1) (s_isLibrary_1 hb6) ?_
  refine lv_if_eq (tgt := 65) hx hb dM_act_44 rfl (fun h9 => absurd h9 (by decide)) (fun _ => ?_)
  refine lv_aload_n hx hb dM_act_47 rfl (lv_at hl 1 rfl) ?_
  refine ew_get (v := .ref (X 22 0)) hx hb hts hown hK hV fM_58 hi0 (cR_0 _ _ _) rfl dM_act_48 ?_
  refine lv_bipush (v := 6) hx hb dM_act_51 (by decide) ?_
  refine lv_iload_n hx hb dM_act_53 rfl (lv_at hl 3 rfl) ?_
  refine lv_imul hx hb dM_act_54 ?_
  refine lv_toe (y := nI (6 * ln)) (pk_mul 6 ln) ?_
  refine lv_iload_n hx hb dM_act_55 rfl (lv_at hl 2 rfl) ?_
  refine lv_iadd hx hb dM_act_56 ?_
  refine lv_toe (y := nI ((6 * ln) + b)) (nI_add (6 * ln) b) ?_
  refine ew_zald (v := A 22 0 ((6 * ln) + b)) hx hb hK hV (hE 22 (by decide)) (cR_22 _ _ _) 1 rfl (vp_in_nI (by omega) (by decide)) (er_ix (by omega) rfl) dM_act_57 ?_
  refine lv_if_eq (tgt := 65) hx hb dM_act_58 rfl (fun h1 => ?_) (fun h1 => absurd q22 h1)
  refine lv_iconst (v := 0) hx hb dM_act_65 (by decide) ?_
  refine lv_istore (lv' := [(6, .int 0), (5, .int 1), (0, .ref (X 0 0)), (1, .int (nI b)), (2, .int (nI ln)), (3, .int sx), (4, .int cc)]) hx hb dM_act_66 hl (by decide) rfl (fun ls hl => ?_)
  refine lv_iload_n hx hb dM_act_68 rfl (lv_at hl 5 rfl) ?_
  refine lv_if_lt (tgt := 83) hx hb dM_act_69 rfl (fun h9 => absurd h9 hs0) (fun _ => ?_)
  refine lv_iload_n hx hb dM_act_72 rfl (lv_at hl 5 rfl) ?_
  refine lv_bipush (v := 7) hx hb dM_act_73 (by decide) ?_
  refine lv_icmp_ge (tgt := 83) hx hb dM_act_75 rfl (fun _ => ?_) (fun h9 => absurd hs7 h9)
  refine lv_iload_n hx hb dM_act_83 rfl (lv_at hl 5 rfl) ?_
  refine lv_bipush (v := 6) hx hb dM_act_84 (by decide) ?_
  refine lv_icmp_le (tgt := 104) hx hb dM_act_86 rfl (fun h9 => absurd h9 hs6) (fun _ => ?_)
  refine lv_iload_n hx hb dM_act_89 rfl (lv_at hl 5 rfl) ?_
  refine lv_bipush (v := 15) hx hb dM_act_90 (by decide) ?_
  refine lv_icmp_ge (tgt := 104) hx hb dM_act_92 rfl (fun h9 => absurd h9 hs15) (fun _ => ?_)
  refine lv_iload hx hb dM_act_95 (lv_at hl 0 rfl) ?_
  refine lv_if_eq (tgt := 104) hx hb dM_act_97 rfl (fun _ => ?_) (fun h9 => absurd (by decide) h9)
  refine lv_iconst (v := 0) hx hb dM_act_104 (by decide) ?_
  refine lv_istore (lv' := [(7, .int 0), (6, .int 0), (5, .int 1), (0, .ref (X 0 0)), (1, .int (nI b)), (2, .int (nI ln)), (3, .int sx), (4, .int cc)]) hx hb dM_act_105 hl (by decide) rfl (fun ls hl => ?_)
  refine lv_aload_n hx hb dM_act_107 rfl (lv_at hl 3 rfl) ?_
  refine lv_iload hx hb dM_act_108 (lv_at hl 0 rfl) ?_
  refine lv_if_ne (tgt := 117) hx hb dM_act_110 rfl (fun h9 => absurd (by decide) h9) (fun _ => ?_)
  refine lv_iconst (v := 1) hx hb dM_act_113 (by decide) ?_
  refine lv_goto (tgt := 118) hx hb dM_act_114 rfl ?_
  refine lv_iload hx hb dM_act_118 (lv_at hl 0 rfl) ?_
  refine lv_if_eq (tgt := 156) hx hb dM_act_120 rfl (fun _ => ?_) (fun h9 => absurd (by decide) h9)
  refine lv_iconst (v := 0) hx hb dM_act_156 (by decide) ?_
  refine er_calli (va_runV (As := [.int 1, .int 0]) (rest := []) ⟨hx, hb, hml, hown, hts⟩ (r_refuses_a l D T X L tg _ hE A 0) (cwV 2 hts gM_152 rfl rfl rfl (by decide +kernel) ⟨Nat.le_of_ble_eq_true rfl, Nat.le_of_ble_eq_true rfl⟩) (er_preV hK hV hi0 (cR_0 _ _ _) rfl) rfl rfl hl.1 rfl (lv_room (Nat.le_of_ble_eq_true rfl)) dM_act_157 ⟨Nat.le_of_ble_eq_true rfl, Nat.le_of_ble_eq_true rfl⟩) hV hS hA (fun r u H locs hp hV hS => ?_)
  obtain ⟨rfl, rfl⟩ := hp
  refine lv_if_eq (tgt := 165) hx hb dM_act_160 rfl (fun h9 => absurd h9 (by decide)) (fun _ => ?_)
  refine lv_iconst (v := 0) hx hb dM_act_163 (by decide) ?_
  exact er_iret hx hb hr hlocks hV hS dM_act_164 ⟨rfl, rfl⟩
set_option maxHeartbeats 4000000 in
set_option maxRecDepth 100000 in
theorem r_act_y (l : Launch) (D : va_G) (T : Nat → ClassId) (X : Nat → Nat → Nat) (L : List Nat) (tg : Nat → Nat × Nat) (sz : Nat) (hE : eR_E X L tg) (A : ew_R) (b : Nat) (ln : Nat) (sx : Int32) (cc : Int32) (nl : Nat) (rq : Nat) (hb6 : b < 6) (hnl : ln < nl) (hn2 : nl ≤ 32) (q2 : A 0 0 2 = nI nl) (hrq : rq < 6) (q11 : A 11 0 ln = nI rq) (hbr : ¬ b = rq) (hs0 : ¬ sx < 0) (hs7 : 7 ≤ sx) (hs6 : ¬ sx ≤ 6) (hs15 : ¬ 15 ≤ sx) (q22 : A 22 0 (6 * ln + b) = 0) : Met l yM_act wsM_act ({ frames := 5, cells := 0, slots := 0, locals := 114 }) (er_Pc D vwCl (tysA T) (cfR T) X L tg A sz [.ref (X 0 0), .int (nI b), .int (nI ln), .int sx, .int cc]) (er_Qi D vwCl (cfR T) X L tg sz (fun r u => r = ((0, up3 A 0 0 0 1) : Int32 × ew_R).1 ∧ u = ((0, up3 A 0 0 0 1) : Int32 × ew_R).2)) 0 0 (ew_A L sz) := by
  refine er_met (by decide) rfl (Nat.le_of_ble_eq_true rfl) ?_
  intro p e s m below meth c ls hx hb hr hts hown hlocks hml hV hK hS hA hl hsz
  subst hsz
  have hi0 := hE 0 (by decide)
  have hl : lv_has ls 8 [(0, .ref (X 0 0)), (1, .int (nI b)), (2, .int (nI ln)), (3, .int sx), (4, .int cc)] := hl
  refine lv_aload_n hx hb dM_act_0 rfl (lv_at hl 0 rfl) ?_
  refine lv_iload_n hx hb dM_act_1 rfl (lv_at hl 2 rfl) ?_
  refine er_calli (va_runV (As := [.int (nI ln)]) (rest := []) ⟨hx, hb, hml, hown, hts⟩ (r_isLoan l D T X L tg _ hE A (nI ln)) (cwV 1 hts gM_172 rfl rfl rfl (by decide +kernel) ⟨Nat.le_of_ble_eq_true rfl, Nat.le_of_ble_eq_true rfl⟩) (er_preV hK hV hi0 (cR_0 _ _ _) rfl) rfl rfl hl.1 rfl (lv_room (Nat.le_of_ble_eq_true rfl)) dM_act_2 ⟨Nat.le_of_ble_eq_true rfl, Nat.le_of_ble_eq_true rfl⟩) hV hS hA (fun r u H locs hp hV hS => ?_)
  obtain ⟨rfl, eu9⟩ := hp
  rw [eu9] at hV
  refine lv_toe (y := 1) (s_isLoan_1 q2 hnl hn2) ?_
  refine lv_if_eq (tgt := 29) hx hb dM_act_5 rfl (fun h9 => absurd h9 (by decide)) (fun _ => ?_)
  refine lv_iload_n hx hb dM_act_8 rfl (lv_at hl 1 rfl) ?_
  refine er_calli (va_runS (As := [.int (nI b)]) (rest := []) ⟨hx, hb, hml, hown, hts⟩ (r_isLibrary l D T X L tg _ hE A (nI b)) (cwS 1 hts gM_142 rfl rfl rfl (by decide +kernel) ⟨Nat.le_of_ble_eq_true rfl, Nat.le_of_ble_eq_true rfl⟩) (er_preS hK hV) rfl rfl hl.1 rfl (lv_room (Nat.le_of_ble_eq_true rfl)) dM_act_9 ⟨Nat.le_of_ble_eq_true rfl, Nat.le_of_ble_eq_true rfl⟩) hV hS hA (fun r u H locs hp hV hS => ?_)
  obtain ⟨rfl, eu9⟩ := hp
  rw [eu9] at hV
  refine lv_toe (y := 1) (s_isLibrary_1 hb6) ?_
  refine lv_if_eq (tgt := 29) hx hb dM_act_12 rfl (fun h9 => absurd h9 (by decide)) (fun _ => ?_)
  refine lv_iload_n hx hb dM_act_15 rfl (lv_at hl 1 rfl) ?_
  refine lv_aload_n hx hb dM_act_16 rfl (lv_at hl 0 rfl) ?_
  refine ew_get (v := .ref (X 11 0)) hx hb hts hown hK hV fM_25 hi0 (cR_0 _ _ _) rfl dM_act_17 ?_
  refine lv_iload_n hx hb dM_act_20 rfl (lv_at hl 2 rfl) ?_
  refine ew_iald (v := A 11 0 ln) hx hb hK hV (hE 11 (by decide)) (cR_11 _ _ _) 0 rfl (vp_in_nI (by omega) (by decide)) (er_ix (by omega) rfl) dM_act_21 ?_
  refine lv_toe (y := nI rq) q11 ?_
  refine lv_icmp_ne (tgt := 29) hx hb dM_act_22 rfl (fun _ => ?_) (fun h9 => absurd h9 (fun z9 => hbr ((nI_eq (a := b) (b := rq) (by omega) (by omega)).mp z9)))
  refine lv_iconst (v := 0) hx hb dM_act_29 (by decide) ?_
  refine lv_istore (lv' := [(5, .int 0), (0, .ref (X 0 0)), (1, .int (nI b)), (2, .int (nI ln)), (3, .int sx), (4, .int cc)]) hx hb dM_act_30 hl (by decide) rfl (fun ls hl => ?_)
  refine lv_aload_n hx hb dM_act_32 rfl (lv_at hl 1 rfl) ?_
  refine lv_iload_n hx hb dM_act_33 rfl (lv_at hl 3 rfl) ?_
  refine er_calli (va_runV (As := [.int (nI ln)]) (rest := []) ⟨hx, hb, hml, hown, hts⟩ (r_isLoan l D T X L tg _ hE A (nI ln)) (cwV 1 hts gM_172 rfl rfl rfl (by decide +kernel) ⟨Nat.le_of_ble_eq_true rfl, Nat.le_of_ble_eq_true rfl⟩) (er_preV hK hV hi0 (cR_0 _ _ _) rfl) rfl rfl hl.1 rfl (lv_room (Nat.le_of_ble_eq_true rfl)) dM_act_34 ⟨Nat.le_of_ble_eq_true rfl, Nat.le_of_ble_eq_true rfl⟩) hV hS hA (fun r u H locs hp hV hS => ?_)
  obtain ⟨rfl, eu9⟩ := hp
  rw [eu9] at hV
  refine lv_toe (y := 1) (s_isLoan_1 q2 hnl hn2) ?_
  refine lv_if_eq (tgt := 65) hx hb dM_act_37 rfl (fun h9 => absurd h9 (by decide)) (fun _ => ?_)
  refine lv_iload_n hx hb dM_act_40 rfl (lv_at hl 2 rfl) ?_
  refine er_calli (va_runS (As := [.int (nI b)]) (rest := []) ⟨hx, hb, hml, hown, hts⟩ (r_isLibrary l D T X L tg _ hE A (nI b)) (cwS 1 hts gM_142 rfl rfl rfl (by decide +kernel) ⟨Nat.le_of_ble_eq_true rfl, Nat.le_of_ble_eq_true rfl⟩) (er_preS hK hV) rfl rfl hl.1 rfl (lv_room (Nat.le_of_ble_eq_true rfl)) dM_act_41 ⟨Nat.le_of_ble_eq_true rfl, Nat.le_of_ble_eq_true rfl⟩) hV hS hA (fun r u H locs hp hV hS => ?_)
  obtain ⟨rfl, eu9⟩ := hp
  rw [eu9] at hV
  refine lv_toe (y := 1) (s_isLibrary_1 hb6) ?_
  refine lv_if_eq (tgt := 65) hx hb dM_act_44 rfl (fun h9 => absurd h9 (by decide)) (fun _ => ?_)
  refine lv_aload_n hx hb dM_act_47 rfl (lv_at hl 1 rfl) ?_
  refine ew_get (v := .ref (X 22 0)) hx hb hts hown hK hV fM_58 hi0 (cR_0 _ _ _) rfl dM_act_48 ?_
  refine lv_bipush (v := 6) hx hb dM_act_51 (by decide) ?_
  refine lv_iload_n hx hb dM_act_53 rfl (lv_at hl 3 rfl) ?_
  refine lv_imul hx hb dM_act_54 ?_
  refine lv_toe (y := nI (6 * ln)) (pk_mul 6 ln) ?_
  refine lv_iload_n hx hb dM_act_55 rfl (lv_at hl 2 rfl) ?_
  refine lv_iadd hx hb dM_act_56 ?_
  refine lv_toe (y := nI ((6 * ln) + b)) (nI_add (6 * ln) b) ?_
  refine ew_zald (v := A 22 0 ((6 * ln) + b)) hx hb hK hV (hE 22 (by decide)) (cR_22 _ _ _) 1 rfl (vp_in_nI (by omega) (by decide)) (er_ix (by omega) rfl) dM_act_57 ?_
  refine lv_if_eq (tgt := 65) hx hb dM_act_58 rfl (fun h1 => ?_) (fun h1 => absurd q22 h1)
  refine lv_iconst (v := 0) hx hb dM_act_65 (by decide) ?_
  refine lv_istore (lv' := [(6, .int 0), (5, .int 0), (0, .ref (X 0 0)), (1, .int (nI b)), (2, .int (nI ln)), (3, .int sx), (4, .int cc)]) hx hb dM_act_66 hl (by decide) rfl (fun ls hl => ?_)
  refine lv_iload_n hx hb dM_act_68 rfl (lv_at hl 5 rfl) ?_
  refine lv_if_lt (tgt := 83) hx hb dM_act_69 rfl (fun h9 => absurd h9 hs0) (fun _ => ?_)
  refine lv_iload_n hx hb dM_act_72 rfl (lv_at hl 5 rfl) ?_
  refine lv_bipush (v := 7) hx hb dM_act_73 (by decide) ?_
  refine lv_icmp_ge (tgt := 83) hx hb dM_act_75 rfl (fun _ => ?_) (fun h9 => absurd hs7 h9)
  refine lv_iload_n hx hb dM_act_83 rfl (lv_at hl 5 rfl) ?_
  refine lv_bipush (v := 6) hx hb dM_act_84 (by decide) ?_
  refine lv_icmp_le (tgt := 104) hx hb dM_act_86 rfl (fun h9 => absurd h9 hs6) (fun _ => ?_)
  refine lv_iload_n hx hb dM_act_89 rfl (lv_at hl 5 rfl) ?_
  refine lv_bipush (v := 15) hx hb dM_act_90 (by decide) ?_
  refine lv_icmp_ge (tgt := 104) hx hb dM_act_92 rfl (fun h9 => absurd h9 hs15) (fun _ => ?_)
  refine lv_iload hx hb dM_act_95 (lv_at hl 0 rfl) ?_
  refine lv_if_eq (tgt := 104) hx hb dM_act_97 rfl (fun _ => ?_) (fun h9 => absurd (by decide) h9)
  refine lv_iconst (v := 0) hx hb dM_act_104 (by decide) ?_
  refine lv_istore (lv' := [(7, .int 0), (6, .int 0), (5, .int 0), (0, .ref (X 0 0)), (1, .int (nI b)), (2, .int (nI ln)), (3, .int sx), (4, .int cc)]) hx hb dM_act_105 hl (by decide) rfl (fun ls hl => ?_)
  refine lv_aload_n hx hb dM_act_107 rfl (lv_at hl 3 rfl) ?_
  refine lv_iload hx hb dM_act_108 (lv_at hl 0 rfl) ?_
  refine lv_if_ne (tgt := 117) hx hb dM_act_110 rfl (fun h9 => absurd (by decide) h9) (fun _ => ?_)
  refine lv_iconst (v := 1) hx hb dM_act_113 (by decide) ?_
  refine lv_goto (tgt := 118) hx hb dM_act_114 rfl ?_
  refine lv_iload hx hb dM_act_118 (lv_at hl 0 rfl) ?_
  refine lv_if_eq (tgt := 156) hx hb dM_act_120 rfl (fun _ => ?_) (fun h9 => absurd (by decide) h9)
  refine lv_iconst (v := 0) hx hb dM_act_156 (by decide) ?_
  refine er_calli (va_runV (As := [.int 1, .int 0]) (rest := []) ⟨hx, hb, hml, hown, hts⟩ (r_refuses_a l D T X L tg _ hE A 0) (cwV 2 hts gM_152 rfl rfl rfl (by decide +kernel) ⟨Nat.le_of_ble_eq_true rfl, Nat.le_of_ble_eq_true rfl⟩) (er_preV hK hV hi0 (cR_0 _ _ _) rfl) rfl rfl hl.1 rfl (lv_room (Nat.le_of_ble_eq_true rfl)) dM_act_157 ⟨Nat.le_of_ble_eq_true rfl, Nat.le_of_ble_eq_true rfl⟩) hV hS hA (fun r u H locs hp hV hS => ?_)
  obtain ⟨rfl, rfl⟩ := hp
  refine lv_if_eq (tgt := 165) hx hb dM_act_160 rfl (fun h9 => absurd h9 (by decide)) (fun _ => ?_)
  refine lv_iconst (v := 0) hx hb dM_act_163 (by decide) ?_
  exact er_iret hx hb hr hlocks hV hS dM_act_164 ⟨rfl, rfl⟩
