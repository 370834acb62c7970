def s_act_nol (A : ew_R) (b : Int32) (ln : Int32) (step : Int32) (cc : Int32) : Int32 × ew_R :=
  if step < 0 then
    if step ≤ 6 then
      (0, up3 A 0 0 0 1)
    else
      if 15 ≤ step then
        (0, up3 A 0 0 0 1)
      else
        (0, up3 A 0 0 0 1)
  else
    if 7 ≤ step then
      if step ≤ 6 then
        (0, up3 A 0 0 0 1)
      else
        if 15 ≤ step then
          (0, up3 A 0 0 0 1)
        else
          (0, up3 A 0 0 0 1)
    else
      if step ≤ 6 then
        (0, up3 A 0 0 0 1)
      else
        if 15 ≤ step then
          (0, up3 A 0 0 0 1)
        else
          (0, up3 A 0 0 0 1)
set_option maxHeartbeats 4000000 in
set_option maxRecDepth 100000 in
theorem r_act_nol (l : Launch) (D : va_G) (T : Nat → ClassId) (X : Nat → Nat → Nat) (L : List Nat) (tg : Nat → Nat × Nat) (sz : Nat) (hE : eR_E X L tg) (A : ew_R) (b : Int32) (ln : Int32) (step : Int32) (cc : Int32) (hno : s_isLoan A ln = 0) : Met l yM_act wsM_act ({ frames := 5, cells := 0, slots := 0, locals := 114 }) (er_Pc D vwCl (tysA T) (cfR T) X L tg A sz [.ref (X 0 0), .int b, .int ln, .int step, .int cc]) (er_Qi D vwCl (cfR T) X L tg sz (fun r u => r = (s_act_nol A b ln step cc).1 ∧ u = (s_act_nol A b ln step cc).2)) 0 0 (ew_A L sz) := by
  refine er_met (by decide) rfl (Nat.le_of_ble_eq_true rfl) ?_
  intro p e s m below meth c ls hx hb hr hts hown hlocks hml hV hK hS hA hl hsz
  subst hsz
  have hi0 := hE 0 (by decide)
  have hl : lv_has ls 8 [(0, .ref (X 0 0)), (1, .int b), (2, .int ln), (3, .int step), (4, .int cc)] := hl
  refine lv_aload_n hx hb dM_act_0 rfl (lv_at hl 0 rfl) ?_
  refine lv_iload_n hx hb dM_act_1 rfl (lv_at hl 2 rfl) ?_
  refine er_calli (va_runV (As := [.int ln]) (rest := []) ⟨hx, hb, hml, hown, hts⟩ (r_isLoan l D T X L tg _ hE A ln) (cwV 1 hts gM_172 rfl rfl rfl (by decide +kernel) ⟨Nat.le_of_ble_eq_true rfl, Nat.le_of_ble_eq_true rfl⟩) (er_preV hK hV hi0 (cR_0 _ _ _) rfl) rfl rfl hl.1 rfl (lv_room (Nat.le_of_ble_eq_true rfl)) dM_act_2 ⟨Nat.le_of_ble_eq_true rfl, Nat.le_of_ble_eq_true rfl⟩) hV hS hA (fun r u H locs hp hV hS => ?_)
  obtain ⟨rfl, eu9⟩ := hp
  rw [eu9] at hV
  refine lv_toe (y := 0) hno ?_
  refine lv_if_eq (tgt := 29) hx hb dM_act_5 rfl (fun _ => ?_) (fun h9 => absurd (by decide) h9)
  refine lv_iconst (v := 0) hx hb dM_act_29 (by decide) ?_
  refine lv_istore (lv' := [(5, .int 0), (0, .ref (X 0 0)), (1, .int b), (2, .int ln), (3, .int step), (4, .int cc)]) hx hb dM_act_30 hl (by decide) rfl (fun ls hl => ?_)
  refine lv_aload_n hx hb dM_act_32 rfl (lv_at hl 1 rfl) ?_
  refine lv_iload_n hx hb dM_act_33 rfl (lv_at hl 3 rfl) ?_
  refine er_calli (va_runV (As := [.int ln]) (rest := []) ⟨hx, hb, hml, hown, hts⟩ (r_isLoan l D T X L tg _ hE A ln) (cwV 1 hts gM_172 rfl rfl rfl (by decide +kernel) ⟨Nat.le_of_ble_eq_true rfl, Nat.le_of_ble_eq_true rfl⟩) (er_preV hK hV hi0 (cR_0 _ _ _) rfl) rfl rfl hl.1 rfl (lv_room (Nat.le_of_ble_eq_true rfl)) dM_act_34 ⟨Nat.le_of_ble_eq_true rfl, Nat.le_of_ble_eq_true rfl⟩) hV hS hA (fun r u H locs hp hV hS => ?_)
  obtain ⟨rfl, eu9⟩ := hp
  rw [eu9] at hV
  refine lv_toe (y := 0) hno ?_
  refine lv_if_eq (tgt := 65) hx hb dM_act_37 rfl (fun _ => ?_) (fun h9 => absurd (by decide) h9)
  refine lv_iconst (v := 0) hx hb dM_act_65 (by decide) ?_
  refine lv_istore (lv' := [(6, .int 0), (5, .int 0), (0, .ref (X 0 0)), (1, .int b), (2, .int ln), (3, .int step), (4, .int cc)]) hx hb dM_act_66 hl (by decide) rfl (fun ls hl => ?_)
  refine lv_iload_n hx hb dM_act_68 rfl (lv_at hl 5 rfl) ?_
  refine lv_if_lt (tgt := 83) hx hb dM_act_69 rfl (fun h1 => ?_) (fun h1 => ?_)
  · refine lv_iload_n hx hb dM_act_83 rfl (lv_at hl 5 rfl) ?_
    refine lv_bipush (v := 6) hx hb dM_act_84 (by decide) ?_
    refine lv_icmp_le (tgt := 104) hx hb dM_act_86 rfl (fun h2 => ?_) (fun h2 => ?_)
    · refine lv_iconst (v := 0) hx hb dM_act_104 (by decide) ?_
      refine lv_istore (lv' := [(7, .int 0), (6, .int 0), (5, .int 0), (0, .ref (X 0 0)), (1, .int b), (2, .int ln), (3, .int step), (4, .int cc)]) hx hb dM_act_105 hl (by decide) rfl (fun ls hl => ?_)
      refine lv_aload_n hx hb dM_act_107 rfl (lv_at hl 3 rfl) ?_
      refine lv_iload hx hb dM_act_108 (lv_at hl 0 rfl) ?_
      refine lv_if_ne (tgt := 117) hx hb dM_act_110 rfl (fun h9 => absurd (by decide) h9) (fun _ => ?_)
      refine lv_iconst (v := 1) hx hb dM_act_113 (by decide) ?_
      refine lv_goto (tgt := 118) hx hb dM_act_114 rfl ?_
      refine lv_iload hx hb dM_act_118 (lv_at hl 0 rfl) ?_
      refine lv_if_eq (tgt := 156) hx hb dM_act_120 rfl (fun _ => ?_) (fun h9 => absurd (by decide) h9)
      refine lv_iconst (v := 0) hx hb dM_act_156 (by decide) ?_
      refine er_calli (va_runV (As := [.int 1, .int 0]) (rest := []) ⟨hx, hb, hml, hown, hts⟩ (r_refuses_a l D T X L tg _ hE A 0) (cwV 2 hts gM_152 rfl rfl rfl (by decide +kernel) ⟨Nat.le_of_ble_eq_true rfl, Nat.le_of_ble_eq_true rfl⟩) (er_preV hK hV hi0 (cR_0 _ _ _) rfl) rfl rfl hl.1 rfl (lv_room (Nat.le_of_ble_eq_true rfl)) dM_act_157 ⟨Nat.le_of_ble_eq_true rfl, Nat.le_of_ble_eq_true rfl⟩) hV hS hA (fun r u H locs hp hV hS => ?_)
      obtain ⟨rfl, rfl⟩ := hp
      refine lv_if_eq (tgt := 165) hx hb dM_act_160 rfl (fun h9 => absurd h9 (by decide)) (fun _ => ?_)
      refine lv_iconst (v := 0) hx hb dM_act_163 (by decide) ?_
      exact er_iret hx hb hr hlocks hV hS dM_act_164 ⟨Eq.symm (by unfold s_act_nol; simp only [if_pos h1, if_pos h2]), Eq.symm (by unfold s_act_nol; simp only [if_pos h1, if_pos h2])⟩
    · refine lv_iload_n hx hb dM_act_89 rfl (lv_at hl 5 rfl) ?_
      refine lv_bipush (v := 15) hx hb dM_act_90 (by decide) ?_
      refine lv_icmp_ge (tgt := 104) hx hb dM_act_92 rfl (fun h3 => ?_) (fun h3 => ?_)
      · refine lv_iconst (v := 0) hx hb dM_act_104 (by decide) ?_
        refine lv_istore (lv' := [(7, .int 0), (6, .int 0), (5, .int 0), (0, .ref (X 0 0)), (1, .int b), (2, .int ln), (3, .int step), (4, .int cc)]) hx hb dM_act_105 hl (by decide) rfl (fun ls hl => ?_)
        refine lv_aload_n hx hb dM_act_107 rfl (lv_at hl 3 rfl) ?_
        refine lv_iload hx hb dM_act_108 (lv_at hl 0 rfl) ?_
        refine lv_if_ne (tgt := 117) hx hb dM_act_110 rfl (fun h9 => absurd (by decide) h9) (fun _ => ?_)
        refine lv_iconst (v := 1) hx hb dM_act_113 (by decide) ?_
        refine lv_goto (tgt := 118) hx hb dM_act_114 rfl ?_
        refine lv_iload hx hb dM_act_118 (lv_at hl 0 rfl) ?_
        refine lv_if_eq (tgt := 156) hx hb dM_act_120 rfl (fun _ => ?_) (fun h9 => absurd (by decide) h9)
        refine lv_iconst (v := 0) hx hb dM_act_156 (by decide) ?_
        refine er_calli (va_runV (As := [.int 1, .int 0]) (rest := []) ⟨hx, hb, hml, hown, hts⟩ (r_refuses_a l D T X L tg _ hE A 0) (cwV 2 hts gM_152 rfl rfl rfl (by decide +kernel) ⟨Nat.le_of_ble_eq_true rfl, Nat.le_of_ble_eq_true rfl⟩) (er_preV hK hV hi0 (cR_0 _ _ _) rfl) rfl rfl hl.1 rfl (lv_room (Nat.le_of_ble_eq_true rfl)) dM_act_157 ⟨Nat.le_of_ble_eq_true rfl, Nat.le_of_ble_eq_true rfl⟩) hV hS hA (fun r u H locs hp hV hS => ?_)
        obtain ⟨rfl, rfl⟩ := hp
        refine lv_if_eq (tgt := 165) hx hb dM_act_160 rfl (fun h9 => absurd h9 (by decide)) (fun _ => ?_)
        refine lv_iconst (v := 0) hx hb dM_act_163 (by decide) ?_
        exact er_iret hx hb hr hlocks hV hS dM_act_164 ⟨Eq.symm (by unfold s_act_nol; simp only [if_pos h1, if_neg h2, if_pos h3]), Eq.symm (by unfold s_act_nol; simp only [if_pos h1, if_neg h2, if_pos h3])⟩
      · refine lv_iload hx hb dM_act_95 (lv_at hl 0 rfl) ?_
        refine lv_if_eq (tgt := 104) hx hb dM_act_97 rfl (fun _ => ?_) (fun h9 => absurd (by decide) h9)
        refine lv_iconst (v := 0) hx hb dM_act_104 (by decide) ?_
        refine lv_istore (lv' := [(7, .int 0), (6, .int 0), (5, .int 0), (0, .ref (X 0 0)), (1, .int b), (2, .int ln), (3, .int step), (4, .int cc)]) hx hb dM_act_105 hl (by decide) rfl (fun ls hl => ?_)
        refine lv_aload_n hx hb dM_act_107 rfl (lv_at hl 3 rfl) ?_
        refine lv_iload hx hb dM_act_108 (lv_at hl 0 rfl) ?_
        refine lv_if_ne (tgt := 117) hx hb dM_act_110 rfl (fun h9 => absurd (by decide) h9) (fun _ => ?_)
        refine lv_iconst (v := 1) hx hb dM_act_113 (by decide) ?_
        refine lv_goto (tgt := 118) hx hb dM_act_114 rfl ?_
        refine lv_iload hx hb dM_act_118 (lv_at hl 0 rfl) ?_
        refine lv_if_eq (tgt := 156) hx hb dM_act_120 rfl (fun _ => ?_) (fun h9 => absurd (by decide) h9)
        refine lv_iconst (v := 0) hx hb dM_act_156 (by decide) ?_
        refine er_calli (va_runV (As := [.int 1, .int 0]) (rest := []) ⟨hx, hb, hml, hown, hts⟩ (r_refuses_a l D T X L tg _ hE A 0) (cwV 2 hts gM_152 rfl rfl rfl (by decide +kernel) ⟨Nat.le_of_ble_eq_true rfl, Nat.le_of_ble_eq_true rfl⟩) (er_preV hK hV hi0 (cR_0 _ _ _) rfl) rfl rfl hl.1 rfl (lv_room (Nat.le_of_ble_eq_true rfl)) dM_act_157 ⟨Nat.le_of_ble_eq_true rfl, Nat.le_of_ble_eq_true rfl⟩) hV hS hA (fun r u H locs hp hV hS => ?_)
        obtain ⟨rfl, rfl⟩ := hp
        refine lv_if_eq (tgt := 165) hx hb dM_act_160 rfl (fun h9 => absurd h9 (by decide)) (fun _ => ?_)
        refine lv_iconst (v := 0) hx hb dM_act_163 (by decide) ?_
        exact er_iret hx hb hr hlocks hV hS dM_act_164 ⟨Eq.symm (by unfold s_act_nol; simp only [if_pos h1, if_neg h2, if_neg h3]), Eq.symm (by unfold s_act_nol; simp only [if_pos h1, if_neg h2, if_neg h3])⟩
  · refine lv_iload_n hx hb dM_act_72 rfl (lv_at hl 5 rfl) ?_
    refine lv_bipush (v := 7) hx hb dM_act_73 (by decide) ?_
    refine lv_icmp_ge (tgt := 83) hx hb dM_act_75 rfl (fun h4 => ?_) (fun h4 => ?_)
    · refine lv_iload_n hx hb dM_act_83 rfl (lv_at hl 5 rfl) ?_
      refine lv_bipush (v := 6) hx hb dM_act_84 (by decide) ?_
      refine lv_icmp_le (tgt := 104) hx hb dM_act_86 rfl (fun h5 => ?_) (fun h5 => ?_)
      · refine lv_iconst (v := 0) hx hb dM_act_104 (by decide) ?_
        refine lv_istore (lv' := [(7, .int 0), (6, .int 0), (5, .int 0), (0, .ref (X 0 0)), (1, .int b), (2, .int ln), (3, .int step), (4, .int cc)]) hx hb dM_act_105 hl (by decide) rfl (fun ls hl => ?_)
        refine lv_aload_n hx hb dM_act_107 rfl (lv_at hl 3 rfl) ?_
        refine lv_iload hx hb dM_act_108 (lv_at hl 0 rfl) ?_
        refine lv_if_ne (tgt := 117) hx hb dM_act_110 rfl (fun h9 => absurd (by decide) h9) (fun _ => ?_)
        refine lv_iconst (v := 1) hx hb dM_act_113 (by decide) ?_
        refine lv_goto (tgt := 118) hx hb dM_act_114 rfl ?_
        refine lv_iload hx hb dM_act_118 (lv_at hl 0 rfl) ?_
        refine lv_if_eq (tgt := 156) hx hb dM_act_120 rfl (fun _ => ?_) (fun h9 => absurd (by decide) h9)
        refine lv_iconst (v := 0) hx hb dM_act_156 (by decide) ?_
        refine er_calli (va_runV (As := [.int 1, .int 0]) (rest := []) ⟨hx, hb, hml, hown, hts⟩ (r_refuses_a l D T X L tg _ hE A 0) (cwV 2 hts gM_152 rfl rfl rfl (by decide +kernel) ⟨Nat.le_of_ble_eq_true rfl, Nat.le_of_ble_eq_true rfl⟩) (er_preV hK hV hi0 (cR_0 _ _ _) rfl) rfl rfl hl.1 rfl (lv_room (Nat.le_of_ble_eq_true rfl)) dM_act_157 ⟨Nat.le_of_ble_eq_true rfl, Nat.le_of_ble_eq_true rfl⟩) hV hS hA (fun r u H locs hp hV hS => ?_)
        obtain ⟨rfl, rfl⟩ := hp
        refine lv_if_eq (tgt := 165) hx hb dM_act_160 rfl (fun h9 => absurd h9 (by decide)) (fun _ => ?_)
        refine lv_iconst (v := 0) hx hb dM_act_163 (by decide) ?_
        exact er_iret hx hb hr hlocks hV hS dM_act_164 ⟨Eq.symm (by unfold s_act_nol; simp only [if_neg h1, if_pos h4, if_pos h5]), Eq.symm (by unfold s_act_nol; simp only [if_neg h1, if_pos h4, if_pos h5])⟩
      · refine lv_iload_n hx hb dM_act_89 rfl (lv_at hl 5 rfl) ?_
        refine lv_bipush (v := 15) hx hb dM_act_90 (by decide) ?_
        refine lv_icmp_ge (tgt := 104) hx hb dM_act_92 rfl (fun h6 => ?_) (fun h6 => ?_)
        · refine lv_iconst (v := 0) hx hb dM_act_104 (by decide) ?_
          refine lv_istore (lv' := [(7, .int 0), (6, .int 0), (5, .int 0), (0, .ref (X 0 0)), (1, .int b), (2, .int ln), (3, .int step), (4, .int cc)]) hx hb dM_act_105 hl (by decide) rfl (fun ls hl => ?_)
          refine lv_aload_n hx hb dM_act_107 rfl (lv_at hl 3 rfl) ?_
          refine lv_iload hx hb dM_act_108 (lv_at hl 0 rfl) ?_
          refine lv_if_ne (tgt := 117) hx hb dM_act_110 rfl (fun h9 => absurd (by decide) h9) (fun _ => ?_)
          refine lv_iconst (v := 1) hx hb dM_act_113 (by decide) ?_
          refine lv_goto (tgt := 118) hx hb dM_act_114 rfl ?_
          refine lv_iload hx hb dM_act_118 (lv_at hl 0 rfl) ?_
          refine lv_if_eq (tgt := 156) hx hb dM_act_120 rfl (fun _ => ?_) (fun h9 => absurd (by decide) h9)
          refine lv_iconst (v := 0) hx hb dM_act_156 (by decide) ?_
          refine er_calli (va_runV (As := [.int 1, .int 0]) (rest := []) ⟨hx, hb, hml, hown, hts⟩ (r_refuses_a l D T X L tg _ hE A 0) (cwV 2 hts gM_152 rfl rfl rfl (by decide +kernel) ⟨Nat.le_of_ble_eq_true rfl, Nat.le_of_ble_eq_true rfl⟩) (er_preV hK hV hi0 (cR_0 _ _ _) rfl) rfl rfl hl.1 rfl (lv_room (Nat.le_of_ble_eq_true rfl)) dM_act_157 ⟨Nat.le_of_ble_eq_true rfl, Nat.le_of_ble_eq_true rfl⟩) hV hS hA (fun r u H locs hp hV hS => ?_)
          obtain ⟨rfl, rfl⟩ := hp
          refine lv_if_eq (tgt := 165) hx hb dM_act_160 rfl (fun h9 => absurd h9 (by decide)) (fun _ => ?_)
          refine lv_iconst (v := 0) hx hb dM_act_163 (by decide) ?_
          exact er_iret hx hb hr hlocks hV hS dM_act_164 ⟨Eq.symm (by unfold s_act_nol; simp only [if_neg h1, if_pos h4, if_neg h5, if_pos h6]), Eq.symm (by unfold s_act_nol; simp only [if_neg h1, if_pos h4, if_neg h5, if_pos h6])⟩
        · refine lv_iload hx hb dM_act_95 (lv_at hl 0 rfl) ?_
          refine lv_if_eq (tgt := 104) hx hb dM_act_97 rfl (fun _ => ?_) (fun h9 => absurd (by decide) h9)
          refine lv_iconst (v := 0) hx hb dM_act_104 (by decide) ?_
          refine lv_istore (lv' := [(7, .int 0), (6, .int 0), (5, .int 0), (0, .ref (X 0 0)), (1, .int b), (2, .int ln), (3, .int step), (4, .int cc)]) hx hb dM_act_105 hl (by decide) rfl (fun ls hl => ?_)
          refine lv_aload_n hx hb dM_act_107 rfl (lv_at hl 3 rfl) ?_
          refine lv_iload hx hb dM_act_108 (lv_at hl 0 rfl) ?_
          refine lv_if_ne (tgt := 117) hx hb dM_act_110 rfl (fun h9 => absurd (by decide) h9) (fun _ => ?_)
          refine lv_iconst (v := 1) hx hb dM_act_113 (by decide) ?_
          refine lv_goto (tgt := 118) hx hb dM_act_114 rfl ?_
          refine lv_iload hx hb dM_act_118 (lv_at hl 0 rfl) ?_
          refine lv_if_eq (tgt := 156) hx hb dM_act_120 rfl (fun _ => ?_) (fun h9 => absurd (by decide) h9)
          refine lv_iconst (v := 0) hx hb dM_act_156 (by decide) ?_
          refine er_calli (va_runV (As := [.int 1, .int 0]) (rest := []) ⟨hx, hb, hml, hown, hts⟩ (r_refuses_a l D T X L tg _ hE A 0) (cwV 2 hts gM_152 rfl rfl rfl (by decide +kernel) ⟨Nat.le_of_ble_eq_true rfl, Nat.le_of_ble_eq_true rfl⟩) (er_preV hK hV hi0 (cR_0 _ _ _) rfl) rfl rfl hl.1 rfl (lv_room (Nat.le_of_ble_eq_true rfl)) dM_act_157 ⟨Nat.le_of_ble_eq_true rfl, Nat.le_of_ble_eq_true rfl⟩) hV hS hA (fun r u H locs hp hV hS => ?_)
          obtain ⟨rfl, rfl⟩ := hp
          refine lv_if_eq (tgt := 165) hx hb dM_act_160 rfl (fun h9 => absurd h9 (by decide)) (fun _ => ?_)
          refine lv_iconst (v := 0) hx hb dM_act_163 (by decide) ?_
          exact er_iret hx hb hr hlocks hV hS dM_act_164 ⟨Eq.symm (by unfold s_act_nol; simp only [if_neg h1, if_pos h4, if_neg h5, if_neg h6]), Eq.symm (by unfold s_act_nol; simp only [if_neg h1, if_pos h4, if_neg h5, if_neg h6])⟩
    · refine lv_iload hx hb dM_act_78 (lv_at hl 1 rfl) ?_
      refine lv_if_ne (tgt := 100) hx hb dM_act_80 rfl (fun h9 => absurd (by decide) h9) (fun _ => ?_)
      refine lv_iload_n hx hb dM_act_83 rfl (lv_at hl 5 rfl) ?_
      refine lv_bipush (v := 6) hx hb dM_act_84 (by decide) ?_
      refine lv_icmp_le (tgt := 104) hx hb dM_act_86 rfl (fun h7 => ?_) (fun h7 => ?_)
      · refine lv_iconst (v := 0) hx hb dM_act_104 (by decide) ?_
        refine lv_istore (lv' := [(7, .int 0), (6, .int 0), (5, .int 0), (0, .ref (X 0 0)), (1, .int b), (2, .int ln), (3, .int step), (4, .int cc)]) hx hb dM_act_105 hl (by decide) rfl (fun ls hl => ?_)
        refine lv_aload_n hx hb dM_act_107 rfl (lv_at hl 3 rfl) ?_
        refine lv_iload hx hb dM_act_108 (lv_at hl 0 rfl) ?_
        refine lv_if_ne (tgt := 117) hx hb dM_act_110 rfl (fun h9 => absurd (by decide) h9) (fun _ => ?_)
        refine lv_iconst (v := 1) hx hb dM_act_113 (by decide) ?_
        refine lv_goto (tgt := 118) hx hb dM_act_114 rfl ?_
        refine lv_iload hx hb dM_act_118 (lv_at hl 0 rfl) ?_
        refine lv_if_eq (tgt := 156) hx hb dM_act_120 rfl (fun _ => ?_) (fun h9 => absurd (by decide) h9)
        refine lv_iconst (v := 0) hx hb dM_act_156 (by decide) ?_
        refine er_calli (va_runV (As := [.int 1, .int 0]) (rest := []) ⟨hx, hb, hml, hown, hts⟩ (r_refuses_a l D T X L tg _ hE A 0) (cwV 2 hts gM_152 rfl rfl rfl (by decide +kernel) ⟨Nat.le_of_ble_eq_true rfl, Nat.le_of_ble_eq_true rfl⟩) (er_preV hK hV hi0 (cR_0 _ _ _) rfl) rfl rfl hl.1 rfl (lv_room (Nat.le_of_ble_eq_true rfl)) dM_act_157 ⟨Nat.le_of_ble_eq_true rfl, Nat.le_of_ble_eq_true rfl⟩) hV hS hA (fun r u H locs hp hV hS => ?_)
        obtain ⟨rfl, rfl⟩ := hp
        refine lv_if_eq (tgt := 165) hx hb dM_act_160 rfl (fun h9 => absurd h9 (by decide)) (fun _ => ?_)
        refine lv_iconst (v := 0) hx hb dM_act_163 (by decide) ?_
        exact er_iret hx hb hr hlocks hV hS dM_act_164 ⟨Eq.symm (by unfold s_act_nol; simp only [if_neg h1, if_neg h4, if_pos h7]), Eq.symm (by unfold s_act_nol; simp only [if_neg h1, if_neg h4, if_pos h7])⟩
      · refine lv_iload_n hx hb dM_act_89 rfl (lv_at hl 5 rfl) ?_
        refine lv_bipush (v := 15) hx hb dM_act_90 (by decide) ?_
        refine lv_icmp_ge (tgt := 104) hx hb dM_act_92 rfl (fun h8 => ?_) (fun h8 => ?_)
        · refine lv_iconst (v := 0) hx hb dM_act_104 (by decide) ?_
          refine lv_istore (lv' := [(7, .int 0), (6, .int 0), (5, .int 0), (0, .ref (X 0 0)), (1, .int b), (2, .int ln), (3, .int step), (4, .int cc)]) hx hb dM_act_105 hl (by decide) rfl (fun ls hl => ?_)
          refine lv_aload_n hx hb dM_act_107 rfl (lv_at hl 3 rfl) ?_
          refine lv_iload hx hb dM_act_108 (lv_at hl 0 rfl) ?_
          refine lv_if_ne (tgt := 117) hx hb dM_act_110 rfl (fun h9 => absurd (by decide) h9) (fun _ => ?_)
          refine lv_iconst (v := 1) hx hb dM_act_113 (by decide) ?_
          refine lv_goto (tgt := 118) hx hb dM_act_114 rfl ?_
          refine lv_iload hx hb dM_act_118 (lv_at hl 0 rfl) ?_
          refine lv_if_eq (tgt := 156) hx hb dM_act_120 rfl (fun _ => ?_) (fun h9 => absurd (by decide) h9)
          refine lv_iconst (v := 0) hx hb dM_act_156 (by decide) ?_
          refine er_calli (va_runV (As := [.int 1, .int 0]) (rest := []) ⟨hx, hb, hml, hown, hts⟩ (r_refuses_a l D T X L tg _ hE A 0) (cwV 2 hts gM_152 rfl rfl rfl (by decide +kernel) ⟨Nat.le_of_ble_eq_true rfl, Nat.le_of_ble_eq_true rfl⟩) (er_preV hK hV hi0 (cR_0 _ _ _) rfl) rfl rfl hl.1 rfl (lv_room (Nat.le_of_ble_eq_true rfl)) dM_act_157 ⟨Nat.le_of_ble_eq_true rfl, Nat.le_of_ble_eq_true rfl⟩) hV hS hA (fun r u H locs hp hV hS => ?_)
          obtain ⟨rfl, rfl⟩ := hp
          refine lv_if_eq (tgt := 165) hx hb dM_act_160 rfl (fun h9 => absurd h9 (by decide)) (fun _ => ?_)
          refine lv_iconst (v := 0) hx hb dM_act_163 (by decide) ?_
          exact er_iret hx hb hr hlocks hV hS dM_act_164 ⟨Eq.symm (by unfold s_act_nol; simp only [if_neg h1, if_neg h4, if_neg h7, if_pos h8]), Eq.symm (by unfold s_act_nol; simp only [if_neg h1, if_neg h4, if_neg h7, if_pos h8])⟩
        · refine lv_iload hx hb dM_act_95 (lv_at hl 0 rfl) ?_
          refine lv_if_eq (tgt := 104) hx hb dM_act_97 rfl (fun _ => ?_) (fun h9 => absurd (by decide) h9)
          refine lv_iconst (v := 0) hx hb dM_act_104 (by decide) ?_
          refine lv_istore (lv' := [(7, .int 0), (6, .int 0), (5, .int 0), (0, .ref (X 0 0)), (1, .int b), (2, .int ln), (3, .int step), (4, .int cc)]) hx hb dM_act_105 hl (by decide) rfl (fun ls hl => ?_)
          refine lv_aload_n hx hb dM_act_107 rfl (lv_at hl 3 rfl) ?_
          refine lv_iload hx hb dM_act_108 (lv_at hl 0 rfl) ?_
          refine lv_if_ne (tgt := 117) hx hb dM_act_110 rfl (fun h9 => absurd (by decide) h9) (fun _ => ?_)
          refine lv_iconst (v := 1) hx hb dM_act_113 (by decide) ?_
          refine lv_goto (tgt := 118) hx hb dM_act_114 rfl ?_
          refine lv_iload hx hb dM_act_118 (lv_at hl 0 rfl) ?_
          refine lv_if_eq (tgt := 156) hx hb dM_act_120 rfl (fun _ => ?_) (fun h9 => absurd (by decide) h9)
          refine lv_iconst (v := 0) hx hb dM_act_156 (by decide) ?_
          refine er_calli (va_runV (As := [.int 1, .int 0]) (rest := []) ⟨hx, hb, hml, hown, hts⟩ (r_refuses_a l D T X L tg _ hE A 0) (cwV 2 hts gM_152 rfl rfl rfl (by decide +kernel) ⟨Nat.le_of_ble_eq_true rfl, Nat.le_of_ble_eq_true rfl⟩) (er_preV hK hV hi0 (cR_0 _ _ _) rfl) rfl rfl hl.1 rfl (lv_room (Nat.le_of_ble_eq_true rfl)) dM_act_157 ⟨Nat.le_of_ble_eq_true rfl, Nat.le_of_ble_eq_true rfl⟩) hV hS hA (fun r u H locs hp hV hS => ?_)
          obtain ⟨rfl, rfl⟩ := hp
          refine lv_if_eq (tgt := 165) hx hb dM_act_160 rfl (fun h9 => absurd h9 (by decide)) (fun _ => ?_)
          refine lv_iconst (v := 0) hx hb dM_act_163 (by decide) ?_
          exact er_iret hx hb hr hlocks hV hS dM_act_164 ⟨Eq.symm (by unfold s_act_nol; simp only [if_neg h1, if_neg h4, if_neg h7, if_neg h8]), Eq.symm (by unfold s_act_nol; simp only [if_neg h1, if_neg h4, if_neg h7, if_neg h8])⟩

def s_act_nob (A : ew_R) (b : Int32) (ln : Nat) (step : Int32) (cc : Int32) (nl : Nat) : Int32 × ew_R :=
  if step < 0 then
    if step ≤ 6 then
      (0, up3 A 0 0 0 1)
    else
      if 15 ≤ step then
        (0, up3 A 0 0 0 1)
      else
        (0, up3 A 0 0 0 1)
  else
    if 7 ≤ step then
      if step ≤ 6 then
        (0, up3 A 0 0 0 1)
      else
        if 15 ≤ step then
          (0, up3 A 0 0 0 1)
        else
          (0, up3 A 0 0 0 1)
    else
      if step ≤ 6 then
        (0, up3 A 0 0 0 1)
      else
        if 15 ≤ step then
          (0, up3 A 0 0 0 1)
        else
          (0, up3 A 0 0 0 1)
set_option maxHeartbeats 4000000 in
set_option maxRecDepth 100000 in
theorem r_act_nob (l : Launch) (D : va_G) (T : Nat → ClassId) (X : Nat → Nat → Nat) (L : List Nat) (tg : Nat → Nat × Nat) (sz : Nat) (hE : eR_E X L tg) (A : ew_R) (b : Int32) (ln : Nat) (step : Int32) (cc : Int32) (nl : Nat) (hnl : ln < nl) (hn2 : nl ≤ 32) (q2 : A 0 0 2 = nI nl) (hnb : s_isLibrary b = 0) : Met l yM_act wsM_act ({ frames := 5, cells := 0, slots := 0, locals := 114 }) (er_Pc D vwCl (tysA T) (cfR T) X L tg A sz [.ref (X 0 0), .int b, .int (nI ln), .int step, .int cc]) (er_Qi D vwCl (cfR T) X L tg sz (fun r u => r = (s_act_nob A b ln step cc nl).1 ∧ u = (s_act_nob A b ln step cc nl).2)) 0 0 (ew_A L sz) := by
  refine er_met (by decide) rfl (Nat.le_of_ble_eq_true rfl) ?_
  intro p e s m below meth c ls hx hb hr hts hown hlocks hml hV hK hS hA hl hsz
  subst hsz
  have hi0 := hE 0 (by decide)
  have hl : lv_has ls 8 [(0, .ref (X 0 0)), (1, .int b), (2, .int (nI ln)), (3, .int step), (4, .int cc)] := hl
  refine lv_aload_n hx hb dM_act_0 rfl (lv_at hl 0 rfl) ?_
  refine lv_iload_n hx hb dM_act_1 rfl (lv_at hl 2 rfl) ?_
  refine er_calli (va_runV (As := [.int (nI ln)]) (rest := []) ⟨hx, hb, hml, hown, hts⟩ (r_isLoan l D T X L tg _ hE A (nI ln)) (cwV 1 hts gM_172 rfl rfl rfl (by decide +kernel) ⟨Nat.le_of_ble_eq_true rfl, Nat.le_of_ble_eq_true rfl⟩) (er_preV hK hV hi0 (cR_0 _ _ _) rfl) rfl rfl hl.1 rfl (lv_room (Nat.le_of_ble_eq_true rfl)) dM_act_2 ⟨Nat.le_of_ble_eq_true rfl, Nat.le_of_ble_eq_true rfl⟩) hV hS hA (fun r u H locs hp hV hS => ?_)
  obtain ⟨rfl, eu9⟩ := hp
  rw [eu9] at hV
  refine lv_toe (y := 1) (s_isLoan_1 q2 hnl hn2) ?_
  refine lv_if_eq (tgt := 29) hx hb dM_act_5 rfl (fun h9 => absurd h9 (by decide)) (fun _ => ?_)
  refine lv_iload_n hx hb dM_act_8 rfl (lv_at hl 1 rfl) ?_
  refine er_calli (va_runS (As := [.int b]) (rest := []) ⟨hx, hb, hml, hown, hts⟩ (r_isLibrary l D T X L tg _ hE A b) (cwS 1 hts gM_142 rfl rfl rfl (by decide +kernel) ⟨Nat.le_of_ble_eq_true rfl, Nat.le_of_ble_eq_true rfl⟩) (er_preS hK hV) rfl rfl hl.1 rfl (lv_room (Nat.le_of_ble_eq_true rfl)) dM_act_9 ⟨Nat.le_of_ble_eq_true rfl, Nat.le_of_ble_eq_true rfl⟩) hV hS hA (fun r u H locs hp hV hS => ?_)
  obtain ⟨rfl, eu9⟩ := hp
  rw [eu9] at hV
  refine lv_toe (y := 0) hnb ?_
  refine lv_if_eq (tgt := 29) hx hb dM_act_12 rfl (fun _ => ?_) (fun h9 => absurd (by decide) h9)
  refine lv_iconst (v := 0) hx hb dM_act_29 (by decide) ?_
  refine lv_istore (lv' := [(5, .int 0), (0, .ref (X 0 0)), (1, .int b), (2, .int (nI ln)), (3, .int step), (4, .int cc)]) hx hb dM_act_30 hl (by decide) rfl (fun ls hl => ?_)
  refine lv_aload_n hx hb dM_act_32 rfl (lv_at hl 1 rfl) ?_
  refine lv_iload_n hx hb dM_act_33 rfl (lv_at hl 3 rfl) ?_
  refine er_calli (va_runV (As := [.int (nI ln)]) (rest := []) ⟨hx, hb, hml, hown, hts⟩ (r_isLoan l D T X L tg _ hE A (nI ln)) (cwV 1 hts gM_172 rfl rfl rfl (by decide +kernel) ⟨Nat.le_of_ble_eq_true rfl, Nat.le_of_ble_eq_true rfl⟩) (er_preV hK hV hi0 (cR_0 _ _ _) rfl) rfl rfl hl.1 rfl (lv_room (Nat.le_of_ble_eq_true rfl)) dM_act_34 ⟨Nat.le_of_ble_eq_true rfl, Nat.le_of_ble_eq_true rfl⟩) hV hS hA (fun r u H locs hp hV hS => ?_)
  obtain ⟨rfl, eu9⟩ := hp
  rw [eu9] at hV
  refine lv_toe (y := 1) (s_isLoan_1 q2 hnl hn2) ?_
  refine lv_if_eq (tgt := 65) hx hb dM_act_37 rfl (fun h9 => absurd h9 (by decide)) (fun _ => ?_)
  refine lv_iload_n hx hb dM_act_40 rfl (lv_at hl 2 rfl) ?_
  refine er_calli (va_runS (As := [.int b]) (rest := []) ⟨hx, hb, hml, hown, hts⟩ (r_isLibrary l D T X L tg _ hE A b) (cwS 1 hts gM_142 rfl rfl rfl (by decide +kernel) ⟨Nat.le_of_ble_eq_true rfl, Nat.le_of_ble_eq_true rfl⟩) (er_preS hK hV) rfl rfl hl.1 rfl (lv_room (Nat.le_of_ble_eq_true rfl)) dM_act_41 ⟨Nat.le_of_ble_eq_true rfl, Nat.le_of_ble_eq_true rfl⟩) hV hS hA (fun r u H locs hp hV hS => ?_)
  obtain ⟨rfl, eu9⟩ := hp
  rw [eu9] at hV
  refine lv_toe (y := 0) hnb ?_
  refine lv_if_eq (tgt := 65) hx hb dM_act_44 rfl (fun _ => ?_) (fun h9 => absurd (by decide) h9)
  refine lv_iconst (v := 0) hx hb dM_act_65 (by decide) ?_
  refine lv_istore (lv' := [(6, .int 0), (5, .int 0), (0, .ref (X 0 0)), (1, .int b), (2, .int (nI ln)), (3, .int step), (4, .int cc)]) hx hb dM_act_66 hl (by decide) rfl (fun ls hl => ?_)
  refine lv_iload_n hx hb dM_act_68 rfl (lv_at hl 5 rfl) ?_
  refine lv_if_lt (tgt := 83) hx hb dM_act_69 rfl (fun h1 => ?_) (fun h1 => ?_)
  · refine lv_iload_n hx hb dM_act_83 rfl (lv_at hl 5 rfl) ?_
    refine lv_bipush (v := 6) hx hb dM_act_84 (by decide) ?_
    refine lv_icmp_le (tgt := 104) hx hb dM_act_86 rfl (fun h2 => ?_) (fun h2 => ?_)
    · refine lv_iconst (v := 0) hx hb dM_act_104 (by decide) ?_
      refine lv_istore (lv' := [(7, .int 0), (6, .int 0), (5, .int 0), (0, .ref (X 0 0)), (1, .int b), (2, .int (nI ln)), (3, .int step), (4, .int cc)]) hx hb dM_act_105 hl (by decide) rfl (fun ls hl => ?_)
      refine lv_aload_n hx hb dM_act_107 rfl (lv_at hl 3 rfl) ?_
      refine lv_iload hx hb dM_act_108 (lv_at hl 0 rfl) ?_
      refine lv_if_ne (tgt := 117) hx hb dM_act_110 rfl (fun h9 => absurd (by decide) h9) (fun _ => ?_)
      refine lv_iconst (v := 1) hx hb dM_act_113 (by decide) ?_
      refine lv_goto (tgt := 118) hx hb dM_act_114 rfl ?_
      refine lv_iload hx hb dM_act_118 (lv_at hl 0 rfl) ?_
      refine lv_if_eq (tgt := 156) hx hb dM_act_120 rfl (fun _ => ?_) (fun h9 => absurd (by decide) h9)
      refine lv_iconst (v := 0) hx hb dM_act_156 (by decide) ?_
      refine er_calli (va_runV (As := [.int 1, .int 0]) (rest := []) ⟨hx, hb, hml, hown, hts⟩ (r_refuses_a l D T X L tg _ hE A 0) (cwV 2 hts gM_152 rfl rfl rfl (by decide +kernel) ⟨Nat.le_of_ble_eq_true rfl, Nat.le_of_ble_eq_true rfl⟩) (er_preV hK hV hi0 (cR_0 _ _ _) rfl) rfl rfl hl.1 rfl (lv_room (Nat.le_of_ble_eq_true rfl)) dM_act_157 ⟨Nat.le_of_ble_eq_true rfl, Nat.le_of_ble_eq_true rfl⟩) hV hS hA (fun r u H locs hp hV hS => ?_)
      obtain ⟨rfl, rfl⟩ := hp
      refine lv_if_eq (tgt := 165) hx hb dM_act_160 rfl (fun h9 => absurd h9 (by decide)) (fun _ => ?_)
      refine lv_iconst (v := 0) hx hb dM_act_163 (by decide) ?_
      exact er_iret hx hb hr hlocks hV hS dM_act_164 ⟨Eq.symm (by unfold s_act_nob; simp only [if_pos h1, if_pos h2]), Eq.symm (by unfold s_act_nob; simp only [if_pos h1, if_pos h2])⟩
    · refine lv_iload_n hx hb dM_act_89 rfl (lv_at hl 5 rfl) ?_
      refine lv_bipush (v := 15) hx hb dM_act_90 (by decide) ?_
      refine lv_icmp_ge (tgt := 104) hx hb dM_act_92 rfl (fun h3 => ?_) (fun h3 => ?_)
      · refine lv_iconst (v := 0) hx hb dM_act_104 (by decide) ?_
        refine lv_istore (lv' := [(7, .int 0), (6, .int 0), (5, .int 0), (0, .ref (X 0 0)), (1, .int b), (2, .int (nI ln)), (3, .int step), (4, .int cc)]) hx hb dM_act_105 hl (by decide) rfl (fun ls hl => ?_)
        refine lv_aload_n hx hb dM_act_107 rfl (lv_at hl 3 rfl) ?_
        refine lv_iload hx hb dM_act_108 (lv_at hl 0 rfl) ?_
        refine lv_if_ne (tgt := 117) hx hb dM_act_110 rfl (fun h9 => absurd (by decide) h9) (fun _ => ?_)
        refine lv_iconst (v := 1) hx hb dM_act_113 (by decide) ?_
        refine lv_goto (tgt := 118) hx hb dM_act_114 rfl ?_
        refine lv_iload hx hb dM_act_118 (lv_at hl 0 rfl) ?_
        refine lv_if_eq (tgt := 156) hx hb dM_act_120 rfl (fun _ => ?_) (fun h9 => absurd (by decide) h9)
        refine lv_iconst (v := 0) hx hb dM_act_156 (by decide) ?_
        refine er_calli (va_runV (As := [.int 1, .int 0]) (rest := []) ⟨hx, hb, hml, hown, hts⟩ (r_refuses_a l D T X L tg _ hE A 0) (cwV 2 hts gM_152 rfl rfl rfl (by decide +kernel) ⟨Nat.le_of_ble_eq_true rfl, Nat.le_of_ble_eq_true rfl⟩) (er_preV hK hV hi0 (cR_0 _ _ _) rfl) rfl rfl hl.1 rfl (lv_room (Nat.le_of_ble_eq_true rfl)) dM_act_157 ⟨Nat.le_of_ble_eq_true rfl, Nat.le_of_ble_eq_true rfl⟩) hV hS hA (fun r u H locs hp hV hS => ?_)
        obtain ⟨rfl, rfl⟩ := hp
        refine lv_if_eq (tgt := 165) hx hb dM_act_160 rfl (fun h9 => absurd h9 (by decide)) (fun _ => ?_)
        refine lv_iconst (v := 0) hx hb dM_act_163 (by decide) ?_
        exact er_iret hx hb hr hlocks hV hS dM_act_164 ⟨Eq.symm (by unfold s_act_nob; simp only [if_pos h1, if_neg h2, if_pos h3]), Eq.symm (by unfold s_act_nob; simp only [if_pos h1, if_neg h2, if_pos h3])⟩
      · refine lv_iload hx hb dM_act_95 (lv_at hl 0 rfl) ?_
        refine lv_if_eq (tgt := 104) hx hb dM_act_97 rfl (fun _ => ?_) (fun h9 => absurd (by decide) h9)
        refine lv_iconst (v := 0) hx hb dM_act_104 (by decide) ?_
        refine lv_istore (lv' := [(7, .int 0), (6, .int 0), (5, .int 0), (0, .ref (X 0 0)), (1, .int b), (2, .int (nI ln)), (3, .int step), (4, .int cc)]) hx hb dM_act_105 hl (by decide) rfl (fun ls hl => ?_)
        refine lv_aload_n hx hb dM_act_107 rfl (lv_at hl 3 rfl) ?_
        refine lv_iload hx hb dM_act_108 (lv_at hl 0 rfl) ?_
        refine lv_if_ne (tgt := 117) hx hb dM_act_110 rfl (fun h9 => absurd (by decide) h9) (fun _ => ?_)
        refine lv_iconst (v := 1) hx hb dM_act_113 (by decide) ?_
        refine lv_goto (tgt := 118) hx hb dM_act_114 rfl ?_
        refine lv_iload hx hb dM_act_118 (lv_at hl 0 rfl) ?_
        refine lv_if_eq (tgt := 156) hx hb dM_act_120 rfl (fun _ => ?_) (fun h9 => absurd (by decide) h9)
        refine lv_iconst (v := 0) hx hb dM_act_156 (by decide) ?_
        refine er_calli (va_runV (As := [.int 1, .int 0]) (rest := []) ⟨hx, hb, hml, hown, hts⟩ (r_refuses_a l D T X L tg _ hE A 0) (cwV 2 hts gM_152 rfl rfl rfl (by decide +kernel) ⟨Nat.le_of_ble_eq_true rfl, Nat.le_of_ble_eq_true rfl⟩) (er_preV hK hV hi0 (cR_0 _ _ _) rfl) rfl rfl hl.1 rfl (lv_room (Nat.le_of_ble_eq_true rfl)) dM_act_157 ⟨Nat.le_of_ble_eq_true rfl, Nat.le_of_ble_eq_true rfl⟩) hV hS hA (fun r u H locs hp hV hS => ?_)
        obtain ⟨rfl, rfl⟩ := hp
        refine lv_if_eq (tgt := 165) hx hb dM_act_160 rfl (fun h9 => absurd h9 (by decide)) (fun _ => ?_)
        refine lv_iconst (v := 0) hx hb dM_act_163 (by decide) ?_
        exact er_iret hx hb hr hlocks hV hS dM_act_164 ⟨Eq.symm (by unfold s_act_nob; simp only [if_pos h1, if_neg h2, if_neg h3]), Eq.symm (by unfold s_act_nob; simp only [if_pos h1, if_neg h2, if_neg h3])⟩
  · refine lv_iload_n hx hb dM_act_72 rfl (lv_at hl 5 rfl) ?_
    refine lv_bipush (v := 7) hx hb dM_act_73 (by decide) ?_
    refine lv_icmp_ge (tgt := 83) hx hb dM_act_75 rfl (fun h4 => ?_) (fun h4 => ?_)
    · refine lv_iload_n hx hb dM_act_83 rfl (lv_at hl 5 rfl) ?_
      refine lv_bipush (v := 6) hx hb dM_act_84 (by decide) ?_
      refine lv_icmp_le (tgt := 104) hx hb dM_act_86 rfl (fun h5 => ?_) (fun h5 => ?_)
      · refine lv_iconst (v := 0) hx hb dM_act_104 (by decide) ?_
        refine lv_istore (lv' := [(7, .int 0), (6, .int 0), (5, .int 0), (0, .ref (X 0 0)), (1, .int b), (2, .int (nI ln)), (3, .int step), (4, .int cc)]) hx hb dM_act_105 hl (by decide) rfl (fun ls hl => ?_)
        refine lv_aload_n hx hb dM_act_107 rfl (lv_at hl 3 rfl) ?_
        refine lv_iload hx hb dM_act_108 (lv_at hl 0 rfl) ?_
        refine lv_if_ne (tgt := 117) hx hb dM_act_110 rfl (fun h9 => absurd (by decide) h9) (fun _ => ?_)
        refine lv_iconst (v := 1) hx hb dM_act_113 (by decide) ?_
        refine lv_goto (tgt := 118) hx hb dM_act_114 rfl ?_
        refine lv_iload hx hb dM_act_118 (lv_at hl 0 rfl) ?_
        refine lv_if_eq (tgt := 156) hx hb dM_act_120 rfl (fun _ => ?_) (fun h9 => absurd (by decide) h9)
        refine lv_iconst (v := 0) hx hb dM_act_156 (by decide) ?_
        refine er_calli (va_runV (As := [.int 1, .int 0]) (rest := []) ⟨hx, hb, hml, hown, hts⟩ (r_refuses_a l D T X L tg _ hE A 0) (cwV 2 hts gM_152 rfl rfl rfl (by decide +kernel) ⟨Nat.le_of_ble_eq_true rfl, Nat.le_of_ble_eq_true rfl⟩) (er_preV hK hV hi0 (cR_0 _ _ _) rfl) rfl rfl hl.1 rfl (lv_room (Nat.le_of_ble_eq_true rfl)) dM_act_157 ⟨Nat.le_of_ble_eq_true rfl, Nat.le_of_ble_eq_true rfl⟩) hV hS hA (fun r u H locs hp hV hS => ?_)
        obtain ⟨rfl, rfl⟩ := hp
        refine lv_if_eq (tgt := 165) hx hb dM_act_160 rfl (fun h9 => absurd h9 (by decide)) (fun _ => ?_)
        refine lv_iconst (v := 0) hx hb dM_act_163 (by decide) ?_
        exact er_iret hx hb hr hlocks hV hS dM_act_164 ⟨Eq.symm (by unfold s_act_nob; simp only [if_neg h1, if_pos h4, if_pos h5]), Eq.symm (by unfold s_act_nob; simp only [if_neg h1, if_pos h4, if_pos h5])⟩
      · refine lv_iload_n hx hb dM_act_89 rfl (lv_at hl 5 rfl) ?_
        refine lv_bipush (v := 15) hx hb dM_act_90 (by decide) ?_
        refine lv_icmp_ge (tgt := 104) hx hb dM_act_92 rfl (fun h6 => ?_) (fun h6 => ?_)
        · refine lv_iconst (v := 0) hx hb dM_act_104 (by decide) ?_
          refine lv_istore (lv' := [(7, .int 0), (6, .int 0), (5, .int 0), (0, .ref (X 0 0)), (1, .int b), (2, .int (nI ln)), (3, .int step), (4, .int cc)]) hx hb dM_act_105 hl (by decide) rfl (fun ls hl => ?_)
          refine lv_aload_n hx hb dM_act_107 rfl (lv_at hl 3 rfl) ?_
          refine lv_iload hx hb dM_act_108 (lv_at hl 0 rfl) ?_
          refine lv_if_ne (tgt := 117) hx hb dM_act_110 rfl (fun h9 => absurd (by decide) h9) (fun _ => ?_)
          refine lv_iconst (v := 1) hx hb dM_act_113 (by decide) ?_
          refine lv_goto (tgt := 118) hx hb dM_act_114 rfl ?_
          refine lv_iload hx hb dM_act_118 (lv_at hl 0 rfl) ?_
          refine lv_if_eq (tgt := 156) hx hb dM_act_120 rfl (fun _ => ?_) (fun h9 => absurd (by decide) h9)
          refine lv_iconst (v := 0) hx hb dM_act_156 (by decide) ?_
          refine er_calli (va_runV (As := [.int 1, .int 0]) (rest := []) ⟨hx, hb, hml, hown, hts⟩ (r_refuses_a l D T X L tg _ hE A 0) (cwV 2 hts gM_152 rfl rfl rfl (by decide +kernel) ⟨Nat.le_of_ble_eq_true rfl, Nat.le_of_ble_eq_true rfl⟩) (er_preV hK hV hi0 (cR_0 _ _ _) rfl) rfl rfl hl.1 rfl (lv_room (Nat.le_of_ble_eq_true rfl)) dM_act_157 ⟨Nat.le_of_ble_eq_true rfl, Nat.le_of_ble_eq_true rfl⟩) hV hS hA (fun r u H locs hp hV hS => ?_)
          obtain ⟨rfl, rfl⟩ := hp
          refine lv_if_eq (tgt := 165) hx hb dM_act_160 rfl (fun h9 => absurd h9 (by decide)) (fun _ => ?_)
          refine lv_iconst (v := 0) hx hb dM_act_163 (by decide) ?_
          exact er_iret hx hb hr hlocks hV hS dM_act_164 ⟨Eq.symm (by unfold s_act_nob; simp only [if_neg h1, if_pos h4, if_neg h5, if_pos h6]), Eq.symm (by unfold s_act_nob; simp only [if_neg h1, if_pos h4, if_neg h5, if_pos h6])⟩
        · refine lv_iload hx hb dM_act_95 (lv_at hl 0 rfl) ?_
          refine lv_if_eq (tgt := 104) hx hb dM_act_97 rfl (fun _ => ?_) (fun h9 => absurd (by decide) h9)
          refine lv_iconst (v := 0) hx hb dM_act_104 (by decide) ?_
          refine lv_istore (lv' := [(7, .int 0), (6, .int 0), (5, .int 0), (0, .ref (X 0 0)), (1, .int b), (2, .int (nI ln)), (3, .int step), (4, .int cc)]) hx hb dM_act_105 hl (by decide) rfl (fun ls hl => ?_)
          refine lv_aload_n hx hb dM_act_107 rfl (lv_at hl 3 rfl) ?_
          refine lv_iload hx hb dM_act_108 (lv_at hl 0 rfl) ?_
          refine lv_if_ne (tgt := 117) hx hb dM_act_110 rfl (fun h9 => absurd (by decide) h9) (fun _ => ?_)
          refine lv_iconst (v := 1) hx hb dM_act_113 (by decide) ?_
          refine lv_goto (tgt := 118) hx hb dM_act_114 rfl ?_
          refine lv_iload hx hb dM_act_118 (lv_at hl 0 rfl) ?_
          refine lv_if_eq (tgt := 156) hx hb dM_act_120 rfl (fun _ => ?_) (fun h9 => absurd (by decide) h9)
          refine lv_iconst (v := 0) hx hb dM_act_156 (by decide) ?_
          refine er_calli (va_runV (As := [.int 1, .int 0]) (rest := []) ⟨hx, hb, hml, hown, hts⟩ (r_refuses_a l D T X L tg _ hE A 0) (cwV 2 hts gM_152 rfl rfl rfl (by decide +kernel) ⟨Nat.le_of_ble_eq_true rfl, Nat.le_of_ble_eq_true rfl⟩) (er_preV hK hV hi0 (cR_0 _ _ _) rfl) rfl rfl hl.1 rfl (lv_room (Nat.le_of_ble_eq_true rfl)) dM_act_157 ⟨Nat.le_of_ble_eq_true rfl, Nat.le_of_ble_eq_true rfl⟩) hV hS hA (fun r u H locs hp hV hS => ?_)
          obtain ⟨rfl, rfl⟩ := hp
          refine lv_if_eq (tgt := 165) hx hb dM_act_160 rfl (fun h9 => absurd h9 (by decide)) (fun _ => ?_)
          refine lv_iconst (v := 0) hx hb dM_act_163 (by decide) ?_
          exact er_iret hx hb hr hlocks hV hS dM_act_164 ⟨Eq.symm (by unfold s_act_nob; simp only [if_neg h1, if_pos h4, if_neg h5, if_neg h6]), Eq.symm (by unfold s_act_nob; simp only [if_neg h1, if_pos h4, if_neg h5, if_neg h6])⟩
    · refine lv_iload hx hb dM_act_78 (lv_at hl 1 rfl) ?_
      refine lv_if_ne (tgt := 100) hx hb dM_act_80 rfl (fun h9 => absurd (by decide) h9) (fun _ => ?_)
      refine lv_iload_n hx hb dM_act_83 rfl (lv_at hl 5 rfl) ?_
      refine lv_bipush (v := 6) hx hb dM_act_84 (by decide) ?_
      refine lv_icmp_le (tgt := 104) hx hb dM_act_86 rfl (fun h7 => ?_) (fun h7 => ?_)
      · refine lv_iconst (v := 0) hx hb dM_act_104 (by decide) ?_
        refine lv_istore (lv' := [(7, .int 0), (6, .int 0), (5, .int 0), (0, .ref (X 0 0)), (1, .int b), (2, .int (nI ln)), (3, .int step), (4, .int cc)]) hx hb dM_act_105 hl (by decide) rfl (fun ls hl => ?_)
        refine lv_aload_n hx hb dM_act_107 rfl (lv_at hl 3 rfl) ?_
        refine lv_iload hx hb dM_act_108 (lv_at hl 0 rfl) ?_
        refine lv_if_ne (tgt := 117) hx hb dM_act_110 rfl (fun h9 => absurd (by decide) h9) (fun _ => ?_)
        refine lv_iconst (v := 1) hx hb dM_act_113 (by decide) ?_
        refine lv_goto (tgt := 118) hx hb dM_act_114 rfl ?_
        refine lv_iload hx hb dM_act_118 (lv_at hl 0 rfl) ?_
        refine lv_if_eq (tgt := 156) hx hb dM_act_120 rfl (fun _ => ?_) (fun h9 => absurd (by decide) h9)
        refine lv_iconst (v := 0) hx hb dM_act_156 (by decide) ?_
        refine er_calli (va_runV (As := [.int 1, .int 0]) (rest := []) ⟨hx, hb, hml, hown, hts⟩ (r_refuses_a l D T X L tg _ hE A 0) (cwV 2 hts gM_152 rfl rfl rfl (by decide +kernel) ⟨Nat.le_of_ble_eq_true rfl, Nat.le_of_ble_eq_true rfl⟩) (er_preV hK hV hi0 (cR_0 _ _ _) rfl) rfl rfl hl.1 rfl (lv_room (Nat.le_of_ble_eq_true rfl)) dM_act_157 ⟨Nat.le_of_ble_eq_true rfl, Nat.le_of_ble_eq_true rfl⟩) hV hS hA (fun r u H locs hp hV hS => ?_)
        obtain ⟨rfl, rfl⟩ := hp
        refine lv_if_eq (tgt := 165) hx hb dM_act_160 rfl (fun h9 => absurd h9 (by decide)) (fun _ => ?_)
        refine lv_iconst (v := 0) hx hb dM_act_163 (by decide) ?_
        exact er_iret hx hb hr hlocks hV hS dM_act_164 ⟨Eq.symm (by unfold s_act_nob; simp only [if_neg h1, if_neg h4, if_pos h7]), Eq.symm (by unfold s_act_nob; simp only [if_neg h1, if_neg h4, if_pos h7])⟩
      · refine lv_iload_n hx hb dM_act_89 rfl (lv_at hl 5 rfl) ?_
        refine lv_bipush (v := 15) hx hb dM_act_90 (by decide) ?_
        refine lv_icmp_ge (tgt := 104) hx hb dM_act_92 rfl (fun h8 => ?_) (fun h8 => ?_)
        · refine lv_iconst (v := 0) hx hb dM_act_104 (by decide) ?_
          refine lv_istore (lv' := [(7, .int 0), (6, .int 0), (5, .int 0), (0, .ref (X 0 0)), (1, .int b), (2, .int (nI ln)), (3, .int step), (4, .int cc)]) hx hb dM_act_105 hl (by decide) rfl (fun ls hl => ?_)
          refine lv_aload_n hx hb dM_act_107 rfl (lv_at hl 3 rfl) ?_
          refine lv_iload hx hb dM_act_108 (lv_at hl 0 rfl) ?_
          refine lv_if_ne (tgt := 117) hx hb dM_act_110 rfl (fun h9 => absurd (by decide) h9) (fun _ => ?_)
          refine lv_iconst (v := 1) hx hb dM_act_113 (by decide) ?_
          refine lv_goto (tgt := 118) hx hb dM_act_114 rfl ?_
          refine lv_iload hx hb dM_act_118 (lv_at hl 0 rfl) ?_
          refine lv_if_eq (tgt := 156) hx hb dM_act_120 rfl (fun _ => ?_) (fun h9 => absurd (by decide) h9)
          refine lv_iconst (v := 0) hx hb dM_act_156 (by decide) ?_
          refine er_calli (va_runV (As := [.int 1, .int 0]) (rest := []) ⟨hx, hb, hml, hown, hts⟩ (r_refuses_a l D T X L tg _ hE A 0) (cwV 2 hts gM_152 rfl rfl rfl (by decide +kernel) ⟨Nat.le_of_ble_eq_true rfl, Nat.le_of_ble_eq_true rfl⟩) (er_preV hK hV hi0 (cR_0 _ _ _) rfl) rfl rfl hl.1 rfl (lv_room (Nat.le_of_ble_eq_true rfl)) dM_act_157 ⟨Nat.le_of_ble_eq_true rfl, Nat.le_of_ble_eq_true rfl⟩) hV hS hA (fun r u H locs hp hV hS => ?_)
          obtain ⟨rfl, rfl⟩ := hp
          refine lv_if_eq (tgt := 165) hx hb dM_act_160 rfl (fun h9 => absurd h9 (by decide)) (fun _ => ?_)
          refine lv_iconst (v := 0) hx hb dM_act_163 (by decide) ?_
          exact er_iret hx hb hr hlocks hV hS dM_act_164 ⟨Eq.symm (by unfold s_act_nob; simp only [if_neg h1, if_neg h4, if_neg h7, if_pos h8]), Eq.symm (by unfold s_act_nob; simp only [if_neg h1, if_neg h4, if_neg h7, if_pos h8])⟩
        · refine lv_iload hx hb dM_act_95 (lv_at hl 0 rfl) ?_
          refine lv_if_eq (tgt := 104) hx hb dM_act_97 rfl (fun _ => ?_) (fun h9 => absurd (by decide) h9)
          refine lv_iconst (v := 0) hx hb dM_act_104 (by decide) ?_
          refine lv_istore (lv' := [(7, .int 0), (6, .int 0), (5, .int 0), (0, .ref (X 0 0)), (1, .int b), (2, .int (nI ln)), (3, .int step), (4, .int cc)]) hx hb dM_act_105 hl (by decide) rfl (fun ls hl => ?_)
          refine lv_aload_n hx hb dM_act_107 rfl (lv_at hl 3 rfl) ?_
          refine lv_iload hx hb dM_act_108 (lv_at hl 0 rfl) ?_
          refine lv_if_ne (tgt := 117) hx hb dM_act_110 rfl (fun h9 => absurd (by decide) h9) (fun _ => ?_)
          refine lv_iconst (v := 1) hx hb dM_act_113 (by decide) ?_
          refine lv_goto (tgt := 118) hx hb dM_act_114 rfl ?_
          refine lv_iload hx hb dM_act_118 (lv_at hl 0 rfl) ?_
          refine lv_if_eq (tgt := 156) hx hb dM_act_120 rfl (fun _ => ?_) (fun h9 => absurd (by decide) h9)
          refine lv_iconst (v := 0) hx hb dM_act_156 (by decide) ?_
          refine er_calli (va_runV (As := [.int 1, .int 0]) (rest := []) ⟨hx, hb, hml, hown, hts⟩ (r_refuses_a l D T X L tg _ hE A 0) (cwV 2 hts gM_152 rfl rfl rfl (by decide +kernel) ⟨Nat.le_of_ble_eq_true rfl, Nat.le_of_ble_eq_true rfl⟩) (er_preV hK hV hi0 (cR_0 _ _ _) rfl) rfl rfl hl.1 rfl (lv_room (Nat.le_of_ble_eq_true rfl)) dM_act_157 ⟨Nat.le_of_ble_eq_true rfl, Nat.le_of_ble_eq_true rfl⟩) hV hS hA (fun r u H locs hp hV hS => ?_)
          obtain ⟨rfl, rfl⟩ := hp
          refine lv_if_eq (tgt := 165) hx hb dM_act_160 rfl (fun h9 => absurd h9 (by decide)) (fun _ => ?_)
          refine lv_iconst (v := 0) hx hb dM_act_163 (by decide) ?_
          exact er_iret hx hb hr hlocks hV hS dM_act_164 ⟨Eq.symm (by unfold s_act_nob; simp only [if_neg h1, if_neg h4, if_neg h7, if_neg h8]), Eq.symm (by unfold s_act_nob; simp only [if_neg h1, if_neg h4, if_neg h7, if_neg h8])⟩

theorem i3_le6 {x : Int32} (h : x < 0) : x ≤ 6 := by
  rw [Int32.lt_iff_toInt_lt, Int32.toInt_zero] at h
  rw [Int32.le_iff_toInt_le, show (6 : Int32).toInt = 6 by decide]
  omega
theorem i3_g0 {x : Int32} (h : 15 ≤ x) : ¬ x < 0 := by
  rw [Int32.le_iff_toInt_le, show (15 : Int32).toInt = 15 by decide] at h
  rw [Int32.lt_iff_toInt_lt, Int32.toInt_zero]
  omega
theorem i3_g7 {x : Int32} (h : 15 ≤ x) : 7 ≤ x := by
  rw [Int32.le_iff_toInt_le, show (15 : Int32).toInt = 15 by decide] at h
  rw [Int32.le_iff_toInt_le, show (7 : Int32).toInt = 7 by decide]
  omega
theorem i3_g6 {x : Int32} (h : 15 ≤ x) : ¬ x ≤ 6 := by
  rw [Int32.le_iff_toInt_le, show (15 : Int32).toInt = 15 by decide] at h
  rw [Int32.le_iff_toInt_le, show (6 : Int32).toInt = 6 by decide]
  omega

def s_act_neg (A : ew_R) (b : Nat) (ln : Nat) (step : Int32) (cc : Int32) (nl : Nat) (rq : Nat) : Int32 × ew_R :=
  if b = rq then
    if A 22 0 ((6 * ln) + b) = 0 then
      (0, up3 A 0 0 0 1)
    else
      (0, up3 A 0 0 0 1)
  else
    if A 22 0 ((6 * ln) + b) = 0 then
      (0, up3 A 0 0 0 1)
    else
      (0, up3 A 0 0 0 1)
set_option maxHeartbeats 4000000 in
set_option maxRecDepth 100000 in
theorem r_act_neg (l : Launch) (D : va_G) (T : Nat → ClassId) (X : Nat → Nat → Nat) (L : List Nat) (tg : Nat → Nat × Nat) (sz : Nat) (hE : eR_E X L tg) (A : ew_R) (b : Nat) (ln : Nat) (step : Int32) (cc : Int32) (nl : Nat) (rq : Nat) (hb6 : b < 6) (hnl : ln < nl) (hn2 : nl ≤ 32) (q2 : A 0 0 2 = nI nl) (hrq : rq < 6) (q11 : A 11 0 ln = nI rq) (hs : step < 0) : Met l yM_act wsM_act ({ frames := 5, cells := 0, slots := 0, locals := 114 }) (er_Pc D vwCl (tysA T) (cfR T) X L tg A sz [.ref (X 0 0), .int (nI b), .int (nI ln), .int step, .int cc]) (er_Qi D vwCl (cfR T) X L tg sz (fun r u => r = (s_act_neg A b ln step cc nl rq).1 ∧ u = (s_act_neg A b ln step cc nl rq).2)) 0 0 (ew_A L sz) := by
  refine er_met (by decide) rfl (Nat.le_of_ble_eq_true rfl) ?_
  intro p e s m below meth c ls hx hb hr hts hown hlocks hml hV hK hS hA hl hsz
  subst hsz
  have hi0 := hE 0 (by decide)
  have hl : lv_has ls 8 [(0, .ref (X 0 0)), (1, .int (nI b)), (2, .int (nI ln)), (3, .int step), (4, .int cc)] := hl
  refine lv_aload_n hx hb dM_act_0 rfl (lv_at hl 0 rfl) ?_
  refine lv_iload_n hx hb dM_act_1 rfl (lv_at hl 2 rfl) ?_
  refine er_calli (va_runV (As := [.int (nI ln)]) (rest := []) ⟨hx, hb, hml, hown, hts⟩ (r_isLoan l D T X L tg _ hE A (nI ln)) (cwV 1 hts gM_172 rfl rfl rfl (by decide +kernel) ⟨Nat.le_of_ble_eq_true rfl, Nat.le_of_ble_eq_true rfl⟩) (er_preV hK hV hi0 (cR_0 _ _ _) rfl) rfl rfl hl.1 rfl (lv_room (Nat.le_of_ble_eq_true rfl)) dM_act_2 ⟨Nat.le_of_ble_eq_true rfl, Nat.le_of_ble_eq_true rfl⟩) hV hS hA (fun r u H locs hp hV hS => ?_)
  obtain ⟨rfl, eu9⟩ := hp
  rw [eu9] at hV
  refine lv_toe (y := 1) (s_isLoan_1 q2 hnl hn2) ?_
  refine lv_if_eq (tgt := 29) hx hb dM_act_5 rfl (fun h9 => absurd h9 (by decide)) (fun _ => ?_)
  refine lv_iload_n hx hb dM_act_8 rfl (lv_at hl 1 rfl) ?_
  refine er_calli (va_runS (As := [.int (nI b)]) (rest := []) ⟨hx, hb, hml, hown, hts⟩ (r_isLibrary l D T X L tg _ hE A (nI b)) (cwS 1 hts gM_142 rfl rfl rfl (by decide +kernel) ⟨Nat.le_of_ble_eq_true rfl, Nat.le_of_ble_eq_true rfl⟩) (er_preS hK hV) rfl rfl hl.1 rfl (lv_room (Nat.le_of_ble_eq_true rfl)) dM_act_9 ⟨Nat.le_of_ble_eq_true rfl, Nat.le_of_ble_eq_true rfl⟩) hV hS hA (fun r u H locs hp hV hS => ?_)
  obtain ⟨rfl, eu9⟩ := hp
  rw [eu9] at hV
  refine lv_toe (y := 1) (s_isLibrary_1 hb6) ?_
  refine lv_if_eq (tgt := 29) hx hb dM_act_12 rfl (fun h9 => absurd h9 (by decide)) (fun _ => ?_)
  refine lv_iload_n hx hb dM_act_15 rfl (lv_at hl 1 rfl) ?_
  refine lv_aload_n hx hb dM_act_16 rfl (lv_at hl 0 rfl) ?_
  refine ew_get (v := .ref (X 11 0)) hx hb hts hown hK hV fM_25 hi0 (cR_0 _ _ _) rfl dM_act_17 ?_
  refine lv_iload_n hx hb dM_act_20 rfl (lv_at hl 2 rfl) ?_
  refine ew_iald (v := A 11 0 ln) hx hb hK hV (hE 11 (by decide)) (cR_11 _ _ _) 0 rfl (vp_in_nI (by omega) (by decide)) (er_ix (by omega) rfl) dM_act_21 ?_
  refine lv_toe (y := nI rq) q11 ?_
  refine lv_icmp_ne (tgt := 29) hx hb dM_act_22 rfl (fun h1 => ?_) (fun h1 => ?_)
  · replace h1 : ¬ (b = rq) := fun z9 => h1 ((nI_eq (a := b) (b := rq) (by omega) (by omega)).mpr z9)
    refine lv_iconst (v := 0) hx hb dM_act_29 (by decide) ?_
    refine lv_istore (lv' := [(5, .int 0), (0, .ref (X 0 0)), (1, .int (nI b)), (2, .int (nI ln)), (3, .int step), (4, .int cc)]) hx hb dM_act_30 hl (by decide) rfl (fun ls hl => ?_)
    refine lv_aload_n hx hb dM_act_32 rfl (lv_at hl 1 rfl) ?_
    refine lv_iload_n hx hb dM_act_33 rfl (lv_at hl 3 rfl) ?_
    refine er_calli (va_runV (As := [.int (nI ln)]) (rest := []) ⟨hx, hb, hml, hown, hts⟩ (r_isLoan l D T X L tg _ hE A (nI ln)) (cwV 1 hts gM_172 rfl rfl rfl (by decide +kernel) ⟨Nat.le_of_ble_eq_true rfl, Nat.le_of_ble_eq_true rfl⟩) (er_preV hK hV hi0 (cR_0 _ _ _) rfl) rfl rfl hl.1 rfl (lv_room (Nat.le_of_ble_eq_true rfl)) dM_act_34 ⟨Nat.le_of_ble_eq_true rfl, Nat.le_of_ble_eq_true rfl⟩) hV hS hA (fun r u H locs hp hV hS => ?_)
    obtain ⟨rfl, eu9⟩ := hp
    rw [eu9] at hV
    refine lv_toe (y := 1) (s_isLoan_1 q2 hnl hn2) ?_
    refine lv_if_eq (tgt := 65) hx hb dM_act_37 rfl (fun h9 => absurd h9 (by decide)) (fun _ => ?_)
    refine lv_iload_n hx hb dM_act_40 rfl (lv_at hl 2 rfl) ?_
    refine er_calli (va_runS (As := [.int (nI b)]) (rest := []) ⟨hx, hb, hml, hown, hts⟩ (r_isLibrary l D T X L tg _ hE A (nI b)) (cwS 1 hts gM_142 rfl rfl rfl (by decide +kernel) ⟨Nat.le_of_ble_eq_true rfl, Nat.le_of_ble_eq_true rfl⟩) (er_preS hK hV) rfl rfl hl.1 rfl (lv_room (Nat.le_of_ble_eq_true rfl)) dM_act_41 ⟨Nat.le_of_ble_eq_true rfl, Nat.le_of_ble_eq_true rfl⟩) hV hS hA (fun r u H locs hp hV hS => ?_)
    obtain ⟨rfl, eu9⟩ := hp
    rw [eu9] at hV
    refine lv_toe (y := 1) (s_isLibrary_1 hb6) ?_
    refine lv_if_eq (tgt := 65) hx hb dM_act_44 rfl (fun h9 => absurd h9 (by decide)) (fun _ => ?_)
    refine lv_aload_n hx hb dM_act_47 rfl (lv_at hl 1 rfl) ?_
    refine ew_get (v := .ref (X 22 0)) hx hb hts hown hK hV fM_58 hi0 (cR_0 _ _ _) rfl dM_act_48 ?_
    refine lv_bipush (v := 6) hx hb dM_act_51 (by decide) ?_
    refine lv_iload_n hx hb dM_act_53 rfl (lv_at hl 3 rfl) ?_
    refine lv_imul hx hb dM_act_54 ?_
    refine lv_toe (y := nI (6 * ln)) (pk_mul 6 ln) ?_
    refine lv_iload_n hx hb dM_act_55 rfl (lv_at hl 2 rfl) ?_
    refine lv_iadd hx hb dM_act_56 ?_
    refine lv_toe (y := nI ((6 * ln) + b)) (nI_add (6 * ln) b) ?_
    refine ew_zald (v := A 22 0 ((6 * ln) + b)) hx hb hK hV (hE 22 (by decide)) (cR_22 _ _ _) 1 rfl (vp_in_nI (by omega) (by decide)) (er_ix (by omega) rfl) dM_act_57 ?_
    refine lv_if_eq (tgt := 65) hx hb dM_act_58 rfl (fun h2 => ?_) (fun h2 => ?_)
    · refine lv_iconst (v := 0) hx hb dM_act_65 (by decide) ?_
      refine lv_istore (lv' := [(6, .int 0), (5, .int 0), (0, .ref (X 0 0)), (1, .int (nI b)), (2, .int (nI ln)), (3, .int step), (4, .int cc)]) hx hb dM_act_66 hl (by decide) rfl (fun ls hl => ?_)
      refine lv_iload_n hx hb dM_act_68 rfl (lv_at hl 5 rfl) ?_
      refine lv_if_lt (tgt := 83) hx hb dM_act_69 rfl (fun _ => ?_) (fun h9 => absurd hs h9)
      refine lv_iload_n hx hb dM_act_83 rfl (lv_at hl 5 rfl) ?_
      refine lv_bipush (v := 6) hx hb dM_act_84 (by decide) ?_
      refine lv_icmp_le (tgt := 104) hx hb dM_act_86 rfl (fun _ => ?_) (fun h9 => absurd (i3_le6 hs) h9)
      refine lv_iconst (v := 0) hx hb dM_act_104 (by decide) ?_
      refine lv_istore (lv' := [(7, .int 0), (6, .int 0), (5, .int 0), (0, .ref (X 0 0)), (1, .int (nI b)), (2, .int (nI ln)), (3, .int step), (4, .int cc)]) hx hb dM_act_105 hl (by decide) rfl (fun ls hl => ?_)
      refine lv_aload_n hx hb dM_act_107 rfl (lv_at hl 3 rfl) ?_
      refine lv_iload hx hb dM_act_108 (lv_at hl 0 rfl) ?_
      refine lv_if_ne (tgt := 117) hx hb dM_act_110 rfl (fun h9 => absurd (by decide) h9) (fun _ => ?_)
      refine lv_iconst (v := 1) hx hb dM_act_113 (by decide) ?_
      refine lv_goto (tgt := 118) hx hb dM_act_114 rfl ?_
      refine lv_iload hx hb dM_act_118 (lv_at hl 0 rfl) ?_
      refine lv_if_eq (tgt := 156) hx hb dM_act_120 rfl (fun _ => ?_) (fun h9 => absurd (by decide) h9)
      refine lv_iconst (v := 0) hx hb dM_act_156 (by decide) ?_
      refine er_calli (va_runV (As := [.int 1, .int 0]) (rest := []) ⟨hx, hb, hml, hown, hts⟩ (r_refuses_a l D T X L tg _ hE A 0) (cwV 2 hts gM_152 rfl rfl rfl (by decide +kernel) ⟨Nat.le_of_ble_eq_true rfl, Nat.le_of_ble_eq_true rfl⟩) (er_preV hK hV hi0 (cR_0 _ _ _) rfl) rfl rfl hl.1 rfl (lv_room (Nat.le_of_ble_eq_true rfl)) dM_act_157 ⟨Nat.le_of_ble_eq_true rfl, Nat.le_of_ble_eq_true rfl⟩) hV hS hA (fun r u H locs hp hV hS => ?_)
      obtain ⟨rfl, rfl⟩ := hp
      refine lv_if_eq (tgt := 165) hx hb dM_act_160 rfl (fun h9 => absurd h9 (by decide)) (fun _ => ?_)
      refine lv_iconst (v := 0) hx hb dM_act_163 (by decide) ?_
      exact er_iret hx hb hr hlocks hV hS dM_act_164 ⟨Eq.symm (by unfold s_act_neg; simp only [if_neg h1, if_pos h2]), Eq.symm (by unfold s_act_neg; simp only [if_neg h1, if_pos h2])⟩
    · refine lv_iconst (v := 1) hx hb dM_act_61 (by decide) ?_
      refine lv_goto (tgt := 66) hx hb dM_act_62 rfl ?_
      refine lv_istore (lv' := [(6, .int 1), (5, .int 0), (0, .ref (X 0 0)), (1, .int (nI b)), (2, .int (nI ln)), (3, .int step), (4, .int cc)]) hx hb dM_act_66 hl (by decide) rfl (fun ls hl => ?_)
      refine lv_iload_n hx hb dM_act_68 rfl (lv_at hl 5 rfl) ?_
      refine lv_if_lt (tgt := 83) hx hb dM_act_69 rfl (fun _ => ?_) (fun h9 => absurd hs h9)
      refine lv_iload_n hx hb dM_act_83 rfl (lv_at hl 5 rfl) ?_
      refine lv_bipush (v := 6) hx hb dM_act_84 (by decide) ?_
      refine lv_icmp_le (tgt := 104) hx hb dM_act_86 rfl (fun _ => ?_) (fun h9 => absurd (i3_le6 hs) h9)
      refine lv_iconst (v := 0) hx hb dM_act_104 (by decide) ?_
      refine lv_istore (lv' := [(7, .int 0), (6, .int 1), (5, .int 0), (0, .ref (X 0 0)), (1, .int (nI b)), (2, .int (nI ln)), (3, .int step), (4, .int cc)]) hx hb dM_act_105 hl (by decide) rfl (fun ls hl => ?_)
      refine lv_aload_n hx hb dM_act_107 rfl (lv_at hl 3 rfl) ?_
      refine lv_iload hx hb dM_act_108 (lv_at hl 0 rfl) ?_
      refine lv_if_ne (tgt := 117) hx hb dM_act_110 rfl (fun h9 => absurd (by decide) h9) (fun _ => ?_)
      refine lv_iconst (v := 1) hx hb dM_act_113 (by decide) ?_
      refine lv_goto (tgt := 118) hx hb dM_act_114 rfl ?_
      refine lv_iload hx hb dM_act_118 (lv_at hl 0 rfl) ?_
      refine lv_if_eq (tgt := 156) hx hb dM_act_120 rfl (fun _ => ?_) (fun h9 => absurd (by decide) h9)
      refine lv_iconst (v := 0) hx hb dM_act_156 (by decide) ?_
      refine er_calli (va_runV (As := [.int 1, .int 0]) (rest := []) ⟨hx, hb, hml, hown, hts⟩ (r_refuses_a l D T X L tg _ hE A 0) (cwV 2 hts gM_152 rfl rfl rfl (by decide +kernel) ⟨Nat.le_of_ble_eq_true rfl, Nat.le_of_ble_eq_true rfl⟩) (er_preV hK hV hi0 (cR_0 _ _ _) rfl) rfl rfl hl.1 rfl (lv_room (Nat.le_of_ble_eq_true rfl)) dM_act_157 ⟨Nat.le_of_ble_eq_true rfl, Nat.le_of_ble_eq_true rfl⟩) hV hS hA (fun r u H locs hp hV hS => ?_)
      obtain ⟨rfl, rfl⟩ := hp
      refine lv_if_eq (tgt := 165) hx hb dM_act_160 rfl (fun h9 => absurd h9 (by decide)) (fun _ => ?_)
      refine lv_iconst (v := 0) hx hb dM_act_163 (by decide) ?_
      exact er_iret hx hb hr hlocks hV hS dM_act_164 ⟨Eq.symm (by unfold s_act_neg; simp only [if_neg h1, if_neg h2]), Eq.symm (by unfold s_act_neg; simp only [if_neg h1, if_neg h2])⟩
  · replace h1 := (nI_eq (a := b) (b := rq) (by omega) (by omega)).mp h1
    refine lv_iconst (v := 1) hx hb dM_act_25 (by decide) ?_
    refine lv_goto (tgt := 30) hx hb dM_act_26 rfl ?_
    refine lv_istore (lv' := [(5, .int 1), (0, .ref (X 0 0)), (1, .int (nI b)), (2, .int (nI ln)), (3, .int step), (4, .int cc)]) hx hb dM_act_30 hl (by decide) rfl (fun ls hl => ?_)
    refine lv_aload_n hx hb dM_act_32 rfl (lv_at hl 1 rfl) ?_
    refine lv_iload_n hx hb dM_act_33 rfl (lv_at hl 3 rfl) ?_
    refine er_calli (va_runV (As := [.int (nI ln)]) (rest := []) ⟨hx, hb, hml, hown, hts⟩ (r_isLoan l D T X L tg _ hE A (nI ln)) (cwV 1 hts gM_172 rfl rfl rfl (by decide +kernel) ⟨Nat.le_of_ble_eq_true rfl, Nat.le_of_ble_eq_true rfl⟩) (er_preV hK hV hi0 (cR_0 _ _ _) rfl) rfl rfl hl.1 rfl (lv_room (Nat.le_of_ble_eq_true rfl)) dM_act_34 ⟨Nat.le_of_ble_eq_true rfl, Nat.le_of_ble_eq_true rfl⟩) hV hS hA (fun r u H locs hp hV hS => ?_)
    obtain ⟨rfl, eu9⟩ := hp
    rw [eu9] at hV
    refine lv_toe (y := 1) (s_isLoan_1 q2 hnl hn2) ?_
    refine lv_if_eq (tgt := 65) hx hb dM_act_37 rfl (fun h9 => absurd h9 (by decide)) (fun _ => ?_)
    refine lv_iload_n hx hb dM_act_40 rfl (lv_at hl 2 rfl) ?_
    refine er_calli (va_runS (As := [.int (nI b)]) (rest := []) ⟨hx, hb, hml, hown, hts⟩ (r_isLibrary l D T X L tg _ hE A (nI b)) (cwS 1 hts gM_142 rfl rfl rfl (by decide +kernel) ⟨Nat.le_of_ble_eq_true rfl, Nat.le_of_ble_eq_true rfl⟩) (er_preS hK hV) rfl rfl hl.1 rfl (lv_room (Nat.le_of_ble_eq_true rfl)) dM_act_41 ⟨Nat.le_of_ble_eq_true rfl, Nat.le_of_ble_eq_true rfl⟩) hV hS hA (fun r u H locs hp hV hS => ?_)
    obtain ⟨rfl, eu9⟩ := hp
    rw [eu9] at hV
    refine lv_toe (y := 1) (s_isLibrary_1 hb6) ?_
    refine lv_if_eq (tgt := 65) hx hb dM_act_44 rfl (fun h9 => absurd h9 (by decide)) (fun _ => ?_)
    refine lv_aload_n hx hb dM_act_47 rfl (lv_at hl 1 rfl) ?_
    refine ew_get (v := .ref (X 22 0)) hx hb hts hown hK hV fM_58 hi0 (cR_0 _ _ _) rfl dM_act_48 ?_
    refine lv_bipush (v := 6) hx hb dM_act_51 (by decide) ?_
    refine lv_iload_n hx hb dM_act_53 rfl (lv_at hl 3 rfl) ?_
    refine lv_imul hx hb dM_act_54 ?_
    refine lv_toe (y := nI (6 * ln)) (pk_mul 6 ln) ?_
    refine lv_iload_n hx hb dM_act_55 rfl (lv_at hl 2 rfl) ?_
    refine lv_iadd hx hb dM_act_56 ?_
    refine lv_toe (y := nI ((6 * ln) + b)) (nI_add (6 * ln) b) ?_
    refine ew_zald (v := A 22 0 ((6 * ln) + b)) hx hb hK hV (hE 22 (by decide)) (cR_22 _ _ _) 1 rfl (vp_in_nI (by omega) (by decide)) (er_ix (by omega) rfl) dM_act_57 ?_
    refine lv_if_eq (tgt := 65) hx hb dM_act_58 rfl (fun h3 => ?_) (fun h3 => ?_)
    · refine lv_iconst (v := 0) hx hb dM_act_65 (by decide) ?_
      refine lv_istore (lv' := [(6, .int 0), (5, .int 1), (0, .ref (X 0 0)), (1, .int (nI b)), (2, .int (nI ln)), (3, .int step), (4, .int cc)]) hx hb dM_act_66 hl (by decide) rfl (fun ls hl => ?_)
      refine lv_iload_n hx hb dM_act_68 rfl (lv_at hl 5 rfl) ?_
      refine lv_if_lt (tgt := 83) hx hb dM_act_69 rfl (fun _ => ?_) (fun h9 => absurd hs h9)
      refine lv_iload_n hx hb dM_act_83 rfl (lv_at hl 5 rfl) ?_
      refine lv_bipush (v := 6) hx hb dM_act_84 (by decide) ?_
      refine lv_icmp_le (tgt := 104) hx hb dM_act_86 rfl (fun _ => ?_) (fun h9 => absurd (i3_le6 hs) h9)
      refine lv_iconst (v := 0) hx hb dM_act_104 (by decide) ?_
      refine lv_istore (lv' := [(7, .int 0), (6, .int 0), (5, .int 1), (0, .ref (X 0 0)), (1, .int (nI b)), (2, .int (nI ln)), (3, .int step), (4, .int cc)]) hx hb dM_act_105 hl (by decide) rfl (fun ls hl => ?_)
      refine lv_aload_n hx hb dM_act_107 rfl (lv_at hl 3 rfl) ?_
      refine lv_iload hx hb dM_act_108 (lv_at hl 0 rfl) ?_
      refine lv_if_ne (tgt := 117) hx hb dM_act_110 rfl (fun h9 => absurd (by decide) h9) (fun _ => ?_)
      refine lv_iconst (v := 1) hx hb dM_act_113 (by decide) ?_
      refine lv_goto (tgt := 118) hx hb dM_act_114 rfl ?_
      refine lv_iload hx hb dM_act_118 (lv_at hl 0 rfl) ?_
      refine lv_if_eq (tgt := 156) hx hb dM_act_120 rfl (fun _ => ?_) (fun h9 => absurd (by decide) h9)
      refine lv_iconst (v := 0) hx hb dM_act_156 (by decide) ?_
      refine er_calli (va_runV (As := [.int 1, .int 0]) (rest := []) ⟨hx, hb, hml, hown, hts⟩ (r_refuses_a l D T X L tg _ hE A 0) (cwV 2 hts gM_152 rfl rfl rfl (by decide +kernel) ⟨Nat.le_of_ble_eq_true rfl, Nat.le_of_ble_eq_true rfl⟩) (er_preV hK hV hi0 (cR_0 _ _ _) rfl) rfl rfl hl.1 rfl (lv_room (Nat.le_of_ble_eq_true rfl)) dM_act_157 ⟨Nat.le_of_ble_eq_true rfl, Nat.le_of_ble_eq_true rfl⟩) hV hS hA (fun r u H locs hp hV hS => ?_)
      obtain ⟨rfl, rfl⟩ := hp
      refine lv_if_eq (tgt := 165) hx hb dM_act_160 rfl (fun h9 => absurd h9 (by decide)) (fun _ => ?_)
      refine lv_iconst (v := 0) hx hb dM_act_163 (by decide) ?_
      exact er_iret hx hb hr hlocks hV hS dM_act_164 ⟨Eq.symm (by unfold s_act_neg; simp only [if_pos h1, if_pos h3]), Eq.symm (by unfold s_act_neg; simp only [if_pos h1, if_pos h3])⟩
    · refine lv_iconst (v := 1) hx hb dM_act_61 (by decide) ?_
      refine lv_goto (tgt := 66) hx hb dM_act_62 rfl ?_
      refine lv_istore (lv' := [(6, .int 1), (5, .int 1), (0, .ref (X 0 0)), (1, .int (nI b)), (2, .int (nI ln)), (3, .int step), (4, .int cc)]) hx hb dM_act_66 hl (by decide) rfl (fun ls hl => ?_)
      refine lv_iload_n hx hb dM_act_68 rfl (lv_at hl 5 rfl) ?_
      refine lv_if_lt (tgt := 83) hx hb dM_act_69 rfl (fun _ => ?_) (fun h9 => absurd hs h9)
      refine lv_iload_n hx hb dM_act_83 rfl (lv_at hl 5 rfl) ?_
      refine lv_bipush (v := 6) hx hb dM_act_84 (by decide) ?_
      refine lv_icmp_le (tgt := 104) hx hb dM_act_86 rfl (fun _ => ?_) (fun h9 => absurd (i3_le6 hs) h9)
      refine lv_iconst (v := 0) hx hb dM_act_104 (by decide) ?_
      refine lv_istore (lv' := [(7, .int 0), (6, .int 1), (5, .int 1), (0, .ref (X 0 0)), (1, .int (nI b)), (2, .int (nI ln)), (3, .int step), (4, .int cc)]) hx hb dM_act_105 hl (by decide) rfl (fun ls hl => ?_)
      refine lv_aload_n hx hb dM_act_107 rfl (lv_at hl 3 rfl) ?_
      refine lv_iload hx hb dM_act_108 (lv_at hl 0 rfl) ?_
      refine lv_if_ne (tgt := 117) hx hb dM_act_110 rfl (fun h9 => absurd (by decide) h9) (fun _ => ?_)
      refine lv_iconst (v := 1) hx hb dM_act_113 (by decide) ?_
      refine lv_goto (tgt := 118) hx hb dM_act_114 rfl ?_
      refine lv_iload hx hb dM_act_118 (lv_at hl 0 rfl) ?_
      refine lv_if_eq (tgt := 156) hx hb dM_act_120 rfl (fun _ => ?_) (fun h9 => absurd (by decide) h9)
      refine lv_iconst (v := 0) hx hb dM_act_156 (by decide) ?_
      refine er_calli (va_runV (As := [.int 1, .int 0]) (rest := []) ⟨hx, hb, hml, hown, hts⟩ (r_refuses_a l D T X L tg _ hE A 0) (cwV 2 hts gM_152 rfl rfl rfl (by decide +kernel) ⟨Nat.le_of_ble_eq_true rfl, Nat.le_of_ble_eq_true rfl⟩) (er_preV hK hV hi0 (cR_0 _ _ _) rfl) rfl rfl hl.1 rfl (lv_room (Nat.le_of_ble_eq_true rfl)) dM_act_157 ⟨Nat.le_of_ble_eq_true rfl, Nat.le_of_ble_eq_true rfl⟩) hV hS hA (fun r u H locs hp hV hS => ?_)
      obtain ⟨rfl, rfl⟩ := hp
      refine lv_if_eq (tgt := 165) hx hb dM_act_160 rfl (fun h9 => absurd h9 (by decide)) (fun _ => ?_)
      refine lv_iconst (v := 0) hx hb dM_act_163 (by decide) ?_
      exact er_iret hx hb hr hlocks hV hS dM_act_164 ⟨Eq.symm (by unfold s_act_neg; simp only [if_pos h1, if_neg h3]), Eq.symm (by unfold s_act_neg; simp only [if_pos h1, if_neg h3])⟩

def s_act_big (A : ew_R) (b : Nat) (ln : Nat) (step : Int32) (cc : Int32) (nl : Nat) (rq : Nat) : Int32 × ew_R :=
  if b = rq then
    if A 22 0 ((6 * ln) + b) = 0 then
      (0, up3 A 0 0 0 1)
    else
      (0, up3 A 0 0 0 1)
  else
    if A 22 0 ((6 * ln) + b) = 0 then
      (0, up3 A 0 0 0 1)
    else
      (0, up3 A 0 0 0 1)
set_option maxHeartbeats 4000000 in
set_option maxRecDepth 100000 in
theorem r_act_big (l : Launch) (D : va_G) (T : Nat → ClassId) (X : Nat → Nat → Nat) (L : List Nat) (tg : Nat → Nat × Nat) (sz : Nat) (hE : eR_E X L tg) (A : ew_R) (b : Nat) (ln : Nat) (step : Int32) (cc : Int32) (nl : Nat) (rq : Nat) (hb6 : b < 6) (hnl : ln < nl) (hn2 : nl ≤ 32) (q2 : A 0 0 2 = nI nl) (hrq : rq < 6) (q11 : A 11 0 ln = nI rq) (hs : 15 ≤ step) : Met l yM_act wsM_act ({ frames := 5, cells := 0, slots := 0, locals := 114 }) (er_Pc D vwCl (tysA T) (cfR T) X L tg A sz [.ref (X 0 0), .int (nI b), .int (nI ln), .int step, .int cc]) (er_Qi D vwCl (cfR T) X L tg sz (fun r u => r = (s_act_big A b ln step cc nl rq).1 ∧ u = (s_act_big A b ln step cc nl rq).2)) 0 0 (ew_A L sz) := by
  refine er_met (by decide) rfl (Nat.le_of_ble_eq_true rfl) ?_
  intro p e s m below meth c ls hx hb hr hts hown hlocks hml hV hK hS hA hl hsz
  subst hsz
  have hi0 := hE 0 (by decide)
  have hl : lv_has ls 8 [(0, .ref (X 0 0)), (1, .int (nI b)), (2, .int (nI ln)), (3, .int step), (4, .int cc)] := hl
  refine lv_aload_n hx hb dM_act_0 rfl (lv_at hl 0 rfl) ?_
  refine lv_iload_n hx hb dM_act_1 rfl (lv_at hl 2 rfl) ?_
  refine er_calli (va_runV (As := [.int (nI ln)]) (rest := []) ⟨hx, hb, hml, hown, hts⟩ (r_isLoan l D T X L tg _ hE A (nI ln)) (cwV 1 hts gM_172 rfl rfl rfl (by decide +kernel) ⟨Nat.le_of_ble_eq_true rfl, Nat.le_of_ble_eq_true rfl⟩) (er_preV hK hV hi0 (cR_0 _ _ _) rfl) rfl rfl hl.1 rfl (lv_room (Nat.le_of_ble_eq_true rfl)) dM_act_2 ⟨Nat.le_of_ble_eq_true rfl, Nat.le_of_ble_eq_true rfl⟩) hV hS hA (fun r u H locs hp hV hS => ?_)
  obtain ⟨rfl, eu9⟩ := hp
  rw [eu9] at hV
  refine lv_toe (y := 1) (s_isLoan_1 q2 hnl hn2) ?_
  refine lv_if_eq (tgt := 29) hx hb dM_act_5 rfl (fun h9 => absurd h9 (by decide)) (fun _ => ?_)
  refine lv_iload_n hx hb dM_act_8 rfl (lv_at hl 1 rfl) ?_
  refine er_calli (va_runS (As := [.int (nI b)]) (rest := []) ⟨hx, hb, hml, hown, hts⟩ (r_isLibrary l D T X L tg _ hE A (nI b)) (cwS 1 hts gM_142 rfl rfl rfl (by decide +kernel) ⟨Nat.le_of_ble_eq_true rfl, Nat.le_of_ble_eq_true rfl⟩) (er_preS hK hV) rfl rfl hl.1 rfl (lv_room (Nat.le_of_ble_eq_true rfl)) dM_act_9 ⟨Nat.le_of_ble_eq_true rfl, Nat.le_of_ble_eq_true rfl⟩) hV hS hA (fun r u H locs hp hV hS => ?_)
  obtain ⟨rfl, eu9⟩ := hp
  rw [eu9] at hV
  refine lv_toe (y := 1) (s_isLibrary_1 hb6) ?_
  refine lv_if_eq (tgt := 29) hx hb dM_act_12 rfl (fun h9 => absurd h9 (by decide)) (fun _ => ?_)
  refine lv_iload_n hx hb dM_act_15 rfl (lv_at hl 1 rfl) ?_
  refine lv_aload_n hx hb dM_act_16 rfl (lv_at hl 0 rfl) ?_
  refine ew_get (v := .ref (X 11 0)) hx hb hts hown hK hV fM_25 hi0 (cR_0 _ _ _) rfl dM_act_17 ?_
  refine lv_iload_n hx hb dM_act_20 rfl (lv_at hl 2 rfl) ?_
  refine ew_iald (v := A 11 0 ln) hx hb hK hV (hE 11 (by decide)) (cR_11 _ _ _) 0 rfl (vp_in_nI (by omega) (by decide)) (er_ix (by omega) rfl) dM_act_21 ?_
  refine lv_toe (y := nI rq) q11 ?_
  refine lv_icmp_ne (tgt := 29) hx hb dM_act_22 rfl (fun h1 => ?_) (fun h1 => ?_)
  · replace h1 : ¬ (b = rq) := fun z9 => h1 ((nI_eq (a := b) (b := rq) (by omega) (by omega)).mpr z9)
    refine lv_iconst (v := 0) hx hb dM_act_29 (by decide) ?_
    refine lv_istore (lv' := [(5, .int 0), (0, .ref (X 0 0)), (1, .int (nI b)), (2, .int (nI ln)), (3, .int step), (4, .int cc)]) hx hb dM_act_30 hl (by decide) rfl (fun ls hl => ?_)
    refine lv_aload_n hx hb dM_act_32 rfl (lv_at hl 1 rfl) ?_
    refine lv_iload_n hx hb dM_act_33 rfl (lv_at hl 3 rfl) ?_
    refine er_calli (va_runV (As := [.int (nI ln)]) (rest := []) ⟨hx, hb, hml, hown, hts⟩ (r_isLoan l D T X L tg _ hE A (nI ln)) (cwV 1 hts gM_172 rfl rfl rfl (by decide +kernel) ⟨Nat.le_of_ble_eq_true rfl, Nat.le_of_ble_eq_true rfl⟩) (er_preV hK hV hi0 (cR_0 _ _ _) rfl) rfl rfl hl.1 rfl (lv_room (Nat.le_of_ble_eq_true rfl)) dM_act_34 ⟨Nat.le_of_ble_eq_true rfl, Nat.le_of_ble_eq_true rfl⟩) hV hS hA (fun r u H locs hp hV hS => ?_)
    obtain ⟨rfl, eu9⟩ := hp
    rw [eu9] at hV
    refine lv_toe (y := 1) (s_isLoan_1 q2 hnl hn2) ?_
    refine lv_if_eq (tgt := 65) hx hb dM_act_37 rfl (fun h9 => absurd h9 (by decide)) (fun _ => ?_)
    refine lv_iload_n hx hb dM_act_40 rfl (lv_at hl 2 rfl) ?_
    refine er_calli (va_runS (As := [.int (nI b)]) (rest := []) ⟨hx, hb, hml, hown, hts⟩ (r_isLibrary l D T X L tg _ hE A (nI b)) (cwS 1 hts gM_142 rfl rfl rfl (by decide +kernel) ⟨Nat.le_of_ble_eq_true rfl, Nat.le_of_ble_eq_true rfl⟩) (er_preS hK hV) rfl rfl hl.1 rfl (lv_room (Nat.le_of_ble_eq_true rfl)) dM_act_41 ⟨Nat.le_of_ble_eq_true rfl, Nat.le_of_ble_eq_true rfl⟩) hV hS hA (fun r u H locs hp hV hS => ?_)
    obtain ⟨rfl, eu9⟩ := hp
    rw [eu9] at hV
    refine lv_toe (y := 1) (s_isLibrary_1 hb6) ?_
    refine lv_if_eq (tgt := 65) hx hb dM_act_44 rfl (fun h9 => absurd h9 (by decide)) (fun _ => ?_)
    refine lv_aload_n hx hb dM_act_47 rfl (lv_at hl 1 rfl) ?_
    refine ew_get (v := .ref (X 22 0)) hx hb hts hown hK hV fM_58 hi0 (cR_0 _ _ _) rfl dM_act_48 ?_
    refine lv_bipush (v := 6) hx hb dM_act_51 (by decide) ?_
    refine lv_iload_n hx hb dM_act_53 rfl (lv_at hl 3 rfl) ?_
    refine lv_imul hx hb dM_act_54 ?_
    refine lv_toe (y := nI (6 * ln)) (pk_mul 6 ln) ?_
    refine lv_iload_n hx hb dM_act_55 rfl (lv_at hl 2 rfl) ?_
    refine lv_iadd hx hb dM_act_56 ?_
    refine lv_toe (y := nI ((6 * ln) + b)) (nI_add (6 * ln) b) ?_
    refine ew_zald (v := A 22 0 ((6 * ln) + b)) hx hb hK hV (hE 22 (by decide)) (cR_22 _ _ _) 1 rfl (vp_in_nI (by omega) (by decide)) (er_ix (by omega) rfl) dM_act_57 ?_
    refine lv_if_eq (tgt := 65) hx hb dM_act_58 rfl (fun h2 => ?_) (fun h2 => ?_)
    · refine lv_iconst (v := 0) hx hb dM_act_65 (by decide) ?_
      refine lv_istore (lv' := [(6, .int 0), (5, .int 0), (0, .ref (X 0 0)), (1, .int (nI b)), (2, .int (nI ln)), (3, .int step), (4, .int cc)]) hx hb dM_act_66 hl (by decide) rfl (fun ls hl => ?_)
      refine lv_iload_n hx hb dM_act_68 rfl (lv_at hl 5 rfl) ?_
      refine lv_if_lt (tgt := 83) hx hb dM_act_69 rfl (fun h9 => absurd h9 (i3_g0 hs)) (fun _ => ?_)
      refine lv_iload_n hx hb dM_act_72 rfl (lv_at hl 5 rfl) ?_
      refine lv_bipush (v := 7) hx hb dM_act_73 (by decide) ?_
      refine lv_icmp_ge (tgt := 83) hx hb dM_act_75 rfl (fun _ => ?_) (fun h9 => absurd (i3_g7 hs) h9)
      refine lv_iload_n hx hb dM_act_83 rfl (lv_at hl 5 rfl) ?_
      refine lv_bipush (v := 6) hx hb dM_act_84 (by decide) ?_
      refine lv_icmp_le (tgt := 104) hx hb dM_act_86 rfl (fun h9 => absurd h9 (i3_g6 hs)) (fun _ => ?_)
      refine lv_iload_n hx hb dM_act_89 rfl (lv_at hl 5 rfl) ?_
      refine lv_bipush (v := 15) hx hb dM_act_90 (by decide) ?_
      refine lv_icmp_ge (tgt := 104) hx hb dM_act_92 rfl (fun _ => ?_) (fun h9 => absurd hs h9)
      refine lv_iconst (v := 0) hx hb dM_act_104 (by decide) ?_
      refine lv_istore (lv' := [(7, .int 0), (6, .int 0), (5, .int 0), (0, .ref (X 0 0)), (1, .int (nI b)), (2, .int (nI ln)), (3, .int step), (4, .int cc)]) hx hb dM_act_105 hl (by decide) rfl (fun ls hl => ?_)
      refine lv_aload_n hx hb dM_act_107 rfl (lv_at hl 3 rfl) ?_
      refine lv_iload hx hb dM_act_108 (lv_at hl 0 rfl) ?_
      refine lv_if_ne (tgt := 117) hx hb dM_act_110 rfl (fun h9 => absurd (by decide) h9) (fun _ => ?_)
      refine lv_iconst (v := 1) hx hb dM_act_113 (by decide) ?_
      refine lv_goto (tgt := 118) hx hb dM_act_114 rfl ?_
      refine lv_iload hx hb dM_act_118 (lv_at hl 0 rfl) ?_
      refine lv_if_eq (tgt := 156) hx hb dM_act_120 rfl (fun _ => ?_) (fun h9 => absurd (by decide) h9)
      refine lv_iconst (v := 0) hx hb dM_act_156 (by decide) ?_
      refine er_calli (va_runV (As := [.int 1, .int 0]) (rest := []) ⟨hx, hb, hml, hown, hts⟩ (r_refuses_a l D T X L tg _ hE A 0) (cwV 2 hts gM_152 rfl rfl rfl (by decide +kernel) ⟨Nat.le_of_ble_eq_true rfl, Nat.le_of_ble_eq_true rfl⟩) (er_preV hK hV hi0 (cR_0 _ _ _) rfl) rfl rfl hl.1 rfl (lv_room (Nat.le_of_ble_eq_true rfl)) dM_act_157 ⟨Nat.le_of_ble_eq_true rfl, Nat.le_of_ble_eq_true rfl⟩) hV hS hA (fun r u H locs hp hV hS => ?_)
      obtain ⟨rfl, rfl⟩ := hp
      refine lv_if_eq (tgt := 165) hx hb dM_act_160 rfl (fun h9 => absurd h9 (by decide)) (fun _ => ?_)
      refine lv_iconst (v := 0) hx hb dM_act_163 (by decide) ?_
      exact er_iret hx hb hr hlocks hV hS dM_act_164 ⟨Eq.symm (by unfold s_act_big; simp only [if_neg h1, if_pos h2]), Eq.symm (by unfold s_act_big; simp only [if_neg h1, if_pos h2])⟩
    · refine lv_iconst (v := 1) hx hb dM_act_61 (by decide) ?_
      refine lv_goto (tgt := 66) hx hb dM_act_62 rfl ?_
      refine lv_istore (lv' := [(6, .int 1), (5, .int 0), (0, .ref (X 0 0)), (1, .int (nI b)), (2, .int (nI ln)), (3, .int step), (4, .int cc)]) hx hb dM_act_66 hl (by decide) rfl (fun ls hl => ?_)
      refine lv_iload_n hx hb dM_act_68 rfl (lv_at hl 5 rfl) ?_
      refine lv_if_lt (tgt := 83) hx hb dM_act_69 rfl (fun h9 => absurd h9 (i3_g0 hs)) (fun _ => ?_)
      refine lv_iload_n hx hb dM_act_72 rfl (lv_at hl 5 rfl) ?_
      refine lv_bipush (v := 7) hx hb dM_act_73 (by decide) ?_
      refine lv_icmp_ge (tgt := 83) hx hb dM_act_75 rfl (fun _ => ?_) (fun h9 => absurd (i3_g7 hs) h9)
      refine lv_iload_n hx hb dM_act_83 rfl (lv_at hl 5 rfl) ?_
      refine lv_bipush (v := 6) hx hb dM_act_84 (by decide) ?_
      refine lv_icmp_le (tgt := 104) hx hb dM_act_86 rfl (fun h9 => absurd h9 (i3_g6 hs)) (fun _ => ?_)
      refine lv_iload_n hx hb dM_act_89 rfl (lv_at hl 5 rfl) ?_
      refine lv_bipush (v := 15) hx hb dM_act_90 (by decide) ?_
      refine lv_icmp_ge (tgt := 104) hx hb dM_act_92 rfl (fun _ => ?_) (fun h9 => absurd hs h9)
      refine lv_iconst (v := 0) hx hb dM_act_104 (by decide) ?_
      refine lv_istore (lv' := [(7, .int 0), (6, .int 1), (5, .int 0), (0, .ref (X 0 0)), (1, .int (nI b)), (2, .int (nI ln)), (3, .int step), (4, .int cc)]) hx hb dM_act_105 hl (by decide) rfl (fun ls hl => ?_)
      refine lv_aload_n hx hb dM_act_107 rfl (lv_at hl 3 rfl) ?_
      refine lv_iload hx hb dM_act_108 (lv_at hl 0 rfl) ?_
      refine lv_if_ne (tgt := 117) hx hb dM_act_110 rfl (fun h9 => absurd (by decide) h9) (fun _ => ?_)
      refine lv_iconst (v := 1) hx hb dM_act_113 (by decide) ?_
      refine lv_goto (tgt := 118) hx hb dM_act_114 rfl ?_
      refine lv_iload hx hb dM_act_118 (lv_at hl 0 rfl) ?_
      refine lv_if_eq (tgt := 156) hx hb dM_act_120 rfl (fun _ => ?_) (fun h9 => absurd (by decide) h9)
      refine lv_iconst (v := 0) hx hb dM_act_156 (by decide) ?_
      refine er_calli (va_runV (As := [.int 1, .int 0]) (rest := []) ⟨hx, hb, hml, hown, hts⟩ (r_refuses_a l D T X L tg _ hE A 0) (cwV 2 hts gM_152 rfl rfl rfl (by decide +kernel) ⟨Nat.le_of_ble_eq_true rfl, Nat.le_of_ble_eq_true rfl⟩) (er_preV hK hV hi0 (cR_0 _ _ _) rfl) rfl rfl hl.1 rfl (lv_room (Nat.le_of_ble_eq_true rfl)) dM_act_157 ⟨Nat.le_of_ble_eq_true rfl, Nat.le_of_ble_eq_true rfl⟩) hV hS hA (fun r u H locs hp hV hS => ?_)
      obtain ⟨rfl, rfl⟩ := hp
      refine lv_if_eq (tgt := 165) hx hb dM_act_160 rfl (fun h9 => absurd h9 (by decide)) (fun _ => ?_)
      refine lv_iconst (v := 0) hx hb dM_act_163 (by decide) ?_
      exact er_iret hx hb hr hlocks hV hS dM_act_164 ⟨Eq.symm (by unfold s_act_big; simp only [if_neg h1, if_neg h2]), Eq.symm (by unfold s_act_big; simp only [if_neg h1, if_neg h2])⟩
  · replace h1 := (nI_eq (a := b) (b := rq) (by omega) (by omega)).mp h1
    refine lv_iconst (v := 1) hx hb dM_act_25 (by decide) ?_
    refine lv_goto (tgt := 30) hx hb dM_act_26 rfl ?_
    refine lv_istore (lv' := [(5, .int 1), (0, .ref (X 0 0)), (1, .int (nI b)), (2, .int (nI ln)), (3, .int step), (4, .int cc)]) hx hb dM_act_30 hl (by decide) rfl (fun ls hl => ?_)
    refine lv_aload_n hx hb dM_act_32 rfl (lv_at hl 1 rfl) ?_
    refine lv_iload_n hx hb dM_act_33 rfl (lv_at hl 3 rfl) ?_
    refine er_calli (va_runV (As := [.int (nI ln)]) (rest := []) ⟨hx, hb, hml, hown, hts⟩ (r_isLoan l D T X L tg _ hE A (nI ln)) (cwV 1 hts gM_172 rfl rfl rfl (by decide +kernel) ⟨Nat.le_of_ble_eq_true rfl, Nat.le_of_ble_eq_true rfl⟩) (er_preV hK hV hi0 (cR_0 _ _ _) rfl) rfl rfl hl.1 rfl (lv_room (Nat.le_of_ble_eq_true rfl)) dM_act_34 ⟨Nat.le_of_ble_eq_true rfl, Nat.le_of_ble_eq_true rfl⟩) hV hS hA (fun r u H locs hp hV hS => ?_)
    obtain ⟨rfl, eu9⟩ := hp
    rw [eu9] at hV
    refine lv_toe (y := 1) (s_isLoan_1 q2 hnl hn2) ?_
    refine lv_if_eq (tgt := 65) hx hb dM_act_37 rfl (fun h9 => absurd h9 (by decide)) (fun _ => ?_)
    refine lv_iload_n hx hb dM_act_40 rfl (lv_at hl 2 rfl) ?_
    refine er_calli (va_runS (As := [.int (nI b)]) (rest := []) ⟨hx, hb, hml, hown, hts⟩ (r_isLibrary l D T X L tg _ hE A (nI b)) (cwS 1 hts gM_142 rfl rfl rfl (by decide +kernel) ⟨Nat.le_of_ble_eq_true rfl, Nat.le_of_ble_eq_true rfl⟩) (er_preS hK hV) rfl rfl hl.1 rfl (lv_room (Nat.le_of_ble_eq_true rfl)) dM_act_41 ⟨Nat.le_of_ble_eq_true rfl, Nat.le_of_ble_eq_true rfl⟩) hV hS hA (fun r u H locs hp hV hS => ?_)
    obtain ⟨rfl, eu9⟩ := hp
    rw [eu9] at hV
    refine lv_toe (y := 1) (s_isLibrary_1 hb6) ?_
    refine lv_if_eq (tgt := 65) hx hb dM_act_44 rfl (fun h9 => absurd h9 (by decide)) (fun _ => ?_)
    refine lv_aload_n hx hb dM_act_47 rfl (lv_at hl 1 rfl) ?_
    refine ew_get (v := .ref (X 22 0)) hx hb hts hown hK hV fM_58 hi0 (cR_0 _ _ _) rfl dM_act_48 ?_
    refine lv_bipush (v := 6) hx hb dM_act_51 (by decide) ?_
    refine lv_iload_n hx hb dM_act_53 rfl (lv_at hl 3 rfl) ?_
    refine lv_imul hx hb dM_act_54 ?_
    refine lv_toe (y := nI (6 * ln)) (pk_mul 6 ln) ?_
    refine lv_iload_n hx hb dM_act_55 rfl (lv_at hl 2 rfl) ?_
    refine lv_iadd hx hb dM_act_56 ?_
    refine lv_toe (y := nI ((6 * ln) + b)) (nI_add (6 * ln) b) ?_
    refine ew_zald (v := A 22 0 ((6 * ln) + b)) hx hb hK hV (hE 22 (by decide)) (cR_22 _ _ _) 1 rfl (vp_in_nI (by omega) (by decide)) (er_ix (by omega) rfl) dM_act_57 ?_
    refine lv_if_eq (tgt := 65) hx hb dM_act_58 rfl (fun h3 => ?_) (fun h3 => ?_)
    · refine lv_iconst (v := 0) hx hb dM_act_65 (by decide) ?_
      refine lv_istore (lv' := [(6, .int 0), (5, .int 1), (0, .ref (X 0 0)), (1, .int (nI b)), (2, .int (nI ln)), (3, .int step), (4, .int cc)]) hx hb dM_act_66 hl (by decide) rfl (fun ls hl => ?_)
      refine lv_iload_n hx hb dM_act_68 rfl (lv_at hl 5 rfl) ?_
      refine lv_if_lt (tgt := 83) hx hb dM_act_69 rfl (fun h9 => absurd h9 (i3_g0 hs)) (fun _ => ?_)
      refine lv_iload_n hx hb dM_act_72 rfl (lv_at hl 5 rfl) ?_
      refine lv_bipush (v := 7) hx hb dM_act_73 (by decide) ?_
      refine lv_icmp_ge (tgt := 83) hx hb dM_act_75 rfl (fun _ => ?_) (fun h9 => absurd (i3_g7 hs) h9)
      refine lv_iload_n hx hb dM_act_83 rfl (lv_at hl 5 rfl) ?_
      refine lv_bipush (v := 6) hx hb dM_act_84 (by decide) ?_
      refine lv_icmp_le (tgt := 104) hx hb dM_act_86 rfl (fun h9 => absurd h9 (i3_g6 hs)) (fun _ => ?_)
      refine lv_iload_n hx hb dM_act_89 rfl (lv_at hl 5 rfl) ?_
      refine lv_bipush (v := 15) hx hb dM_act_90 (by decide) ?_
      refine lv_icmp_ge (tgt := 104) hx hb dM_act_92 rfl (fun _ => ?_) (fun h9 => absurd hs h9)
      refine lv_iconst (v := 0) hx hb dM_act_104 (by decide) ?_
      refine lv_istore (lv' := [(7, .int 0), (6, .int 0), (5, .int 1), (0, .ref (X 0 0)), (1, .int (nI b)), (2, .int (nI ln)), (3, .int step), (4, .int cc)]) hx hb dM_act_105 hl (by decide) rfl (fun ls hl => ?_)
      refine lv_aload_n hx hb dM_act_107 rfl (lv_at hl 3 rfl) ?_
      refine lv_iload hx hb dM_act_108 (lv_at hl 0 rfl) ?_
      refine lv_if_ne (tgt := 117) hx hb dM_act_110 rfl (fun h9 => absurd (by decide) h9) (fun _ => ?_)
      refine lv_iconst (v := 1) hx hb dM_act_113 (by decide) ?_
      refine lv_goto (tgt := 118) hx hb dM_act_114 rfl ?_
      refine lv_iload hx hb dM_act_118 (lv_at hl 0 rfl) ?_
      refine lv_if_eq (tgt := 156) hx hb dM_act_120 rfl (fun _ => ?_) (fun h9 => absurd (by decide) h9)
      refine lv_iconst (v := 0) hx hb dM_act_156 (by decide) ?_
      refine er_calli (va_runV (As := [.int 1, .int 0]) (rest := []) ⟨hx, hb, hml, hown, hts⟩ (r_refuses_a l D T X L tg _ hE A 0) (cwV 2 hts gM_152 rfl rfl rfl (by decide +kernel) ⟨Nat.le_of_ble_eq_true rfl, Nat.le_of_ble_eq_true rfl⟩) (er_preV hK hV hi0 (cR_0 _ _ _) rfl) rfl rfl hl.1 rfl (lv_room (Nat.le_of_ble_eq_true rfl)) dM_act_157 ⟨Nat.le_of_ble_eq_true rfl, Nat.le_of_ble_eq_true rfl⟩) hV hS hA (fun r u H locs hp hV hS => ?_)
      obtain ⟨rfl, rfl⟩ := hp
      refine lv_if_eq (tgt := 165) hx hb dM_act_160 rfl (fun h9 => absurd h9 (by decide)) (fun _ => ?_)
      refine lv_iconst (v := 0) hx hb dM_act_163 (by decide) ?_
      exact er_iret hx hb hr hlocks hV hS dM_act_164 ⟨Eq.symm (by unfold s_act_big; simp only [if_pos h1, if_pos h3]), Eq.symm (by unfold s_act_big; simp only [if_pos h1, if_pos h3])⟩
    · refine lv_iconst (v := 1) hx hb dM_act_61 (by decide) ?_
      refine lv_goto (tgt := 66) hx hb dM_act_62 rfl ?_
      refine lv_istore (lv' := [(6, .int 1), (5, .int 1), (0, .ref (X 0 0)), (1, .int (nI b)), (2, .int (nI ln)), (3, .int step), (4, .int cc)]) hx hb dM_act_66 hl (by decide) rfl (fun ls hl => ?_)
      refine lv_iload_n hx hb dM_act_68 rfl (lv_at hl 5 rfl) ?_
      refine lv_if_lt (tgt := 83) hx hb dM_act_69 rfl (fun h9 => absurd h9 (i3_g0 hs)) (fun _ => ?_)
      refine lv_iload_n hx hb dM_act_72 rfl (lv_at hl 5 rfl) ?_
      refine lv_bipush (v := 7) hx hb dM_act_73 (by decide) ?_
      refine lv_icmp_ge (tgt := 83) hx hb dM_act_75 rfl (fun _ => ?_) (fun h9 => absurd (i3_g7 hs) h9)
      refine lv_iload_n hx hb dM_act_83 rfl (lv_at hl 5 rfl) ?_
      refine lv_bipush (v := 6) hx hb dM_act_84 (by decide) ?_
      refine lv_icmp_le (tgt := 104) hx hb dM_act_86 rfl (fun h9 => absurd h9 (i3_g6 hs)) (fun _ => ?_)
      refine lv_iload_n hx hb dM_act_89 rfl (lv_at hl 5 rfl) ?_
      refine lv_bipush (v := 15) hx hb dM_act_90 (by decide) ?_
      refine lv_icmp_ge (tgt := 104) hx hb dM_act_92 rfl (fun _ => ?_) (fun h9 => absurd hs h9)
      refine lv_iconst (v := 0) hx hb dM_act_104 (by decide) ?_
      refine lv_istore (lv' := [(7, .int 0), (6, .int 1), (5, .int 1), (0, .ref (X 0 0)), (1, .int (nI b)), (2, .int (nI ln)), (3, .int step), (4, .int cc)]) hx hb dM_act_105 hl (by decide) rfl (fun ls hl => ?_)
      refine lv_aload_n hx hb dM_act_107 rfl (lv_at hl 3 rfl) ?_
      refine lv_iload hx hb dM_act_108 (lv_at hl 0 rfl) ?_
      refine lv_if_ne (tgt := 117) hx hb dM_act_110 rfl (fun h9 => absurd (by decide) h9) (fun _ => ?_)
      refine lv_iconst (v := 1) hx hb dM_act_113 (by decide) ?_
      refine lv_goto (tgt := 118) hx hb dM_act_114 rfl ?_
      refine lv_iload hx hb dM_act_118 (lv_at hl 0 rfl) ?_
      refine lv_if_eq (tgt := 156) hx hb dM_act_120 rfl (fun _ => ?_) (fun h9 => absurd (by decide) h9)
      refine lv_iconst (v := 0) hx hb dM_act_156 (by decide) ?_
      refine er_calli (va_runV (As := [.int 1, .int 0]) (rest := []) ⟨hx, hb, hml, hown, hts⟩ (r_refuses_a l D T X L tg _ hE A 0) (cwV 2 hts gM_152 rfl rfl rfl (by decide +kernel) ⟨Nat.le_of_ble_eq_true rfl, Nat.le_of_ble_eq_true rfl⟩) (er_preV hK hV hi0 (cR_0 _ _ _) rfl) rfl rfl hl.1 rfl (lv_room (Nat.le_of_ble_eq_true rfl)) dM_act_157 ⟨Nat.le_of_ble_eq_true rfl, Nat.le_of_ble_eq_true rfl⟩) hV hS hA (fun r u H locs hp hV hS => ?_)
      obtain ⟨rfl, rfl⟩ := hp
      refine lv_if_eq (tgt := 165) hx hb dM_act_160 rfl (fun h9 => absurd h9 (by decide)) (fun _ => ?_)
      refine lv_iconst (v := 0) hx hb dM_act_163 (by decide) ?_
      exact er_iret hx hb hr hlocks hV hS dM_act_164 ⟨Eq.symm (by unfold s_act_big; simp only [if_pos h1, if_neg h3]), Eq.symm (by unfold s_act_big; simp only [if_pos h1, if_neg h3])⟩

def s_act_x0 (A : ew_R) (b : Nat) (ln : Nat) (cc : Int32) (nl : Nat) (rq : Nat) : Int32 × ew_R :=
  if A 22 0 ((6 * ln) + b) = 0 then
    (0, up3 A 0 0 0 1)
  else
    (0, up3 A 0 0 0 1)
set_option maxHeartbeats 4000000 in
set_option maxRecDepth 100000 in
theorem r_act_x0 (l : Launch) (D : va_G) (T : Nat → ClassId) (X : Nat → Nat → Nat) (L : List Nat) (tg : Nat → Nat × Nat) (sz : Nat) (hE : eR_E X L tg) (A : ew_R) (b : Nat) (ln : Nat) (cc : Int32) (nl : Nat) (rq : Nat) (hb6 : b < 6) (hnl : ln < nl) (hn2 : nl ≤ 32) (q2 : A 0 0 2 = nI nl) (hrq : rq < 6) (q11 : A 11 0 ln = nI rq) (hbr : ¬ b = rq) : Met l yM_act wsM_act ({ frames := 5, cells := 0, slots := 0, locals := 114 }) (er_Pc D vwCl (tysA T) (cfR T) X L tg A sz [.ref (X 0 0), .int (nI b), .int (nI ln), .int 0, .int cc]) (er_Qi D vwCl (cfR T) X L tg sz (fun r u => r = (s_act_x0 A b ln cc nl rq).1 ∧ u = (s_act_x0 A b ln cc nl rq).2)) 0 0 (ew_A L sz) := by
  refine er_met (by decide) rfl (Nat.le_of_ble_eq_true rfl) ?_
  intro p e s m below meth c ls hx hb hr hts hown hlocks hml hV hK hS hA hl hsz
  subst hsz
  have hi0 := hE 0 (by decide)
  have hl : lv_has ls 8 [(0, .ref (X 0 0)), (1, .int (nI b)), (2, .int (nI ln)), (3, .int 0), (4, .int cc)] := hl
  refine lv_aload_n hx hb dM_act_0 rfl (lv_at hl 0 rfl) ?_
  refine lv_iload_n hx hb dM_act_1 rfl (lv_at hl 2 rfl) ?_
  refine er_calli (va_runV (As := [.int (nI ln)]) (rest := []) ⟨hx, hb, hml, hown, hts⟩ (r_isLoan l D T X L tg _ hE A (nI ln)) (cwV 1 hts gM_172 rfl rfl rfl (by decide +kernel) ⟨Nat.le_of_ble_eq_true rfl, Nat.le_of_ble_eq_true rfl⟩) (er_preV hK hV hi0 (cR_0 _ _ _) rfl) rfl rfl hl.1 rfl (lv_room (Nat.le_of_ble_eq_true rfl)) dM_act_2 ⟨Nat.le_of_ble_eq_true rfl, Nat.le_of_ble_eq_true rfl⟩) hV hS hA (fun r u H locs hp hV hS => ?_)
  obtain ⟨rfl, eu9⟩ := hp
  rw [eu9] at hV
  refine lv_toe (y := 1) (s_isLoan_1 q2 hnl hn2) ?_
  refine lv_if_eq (tgt := 29) hx hb dM_act_5 rfl (fun h9 => absurd h9 (by decide)) (fun _ => ?_)
  refine lv_iload_n hx hb dM_act_8 rfl (lv_at hl 1 rfl) ?_
  refine er_calli (va_runS (As := [.int (nI b)]) (rest := []) ⟨hx, hb, hml, hown, hts⟩ (r_isLibrary l D T X L tg _ hE A (nI b)) (cwS 1 hts gM_142 rfl rfl rfl (by decide +kernel) ⟨Nat.le_of_ble_eq_true rfl, Nat.le_of_ble_eq_true rfl⟩) (er_preS hK hV) rfl rfl hl.1 rfl (lv_room (Nat.le_of_ble_eq_true rfl)) dM_act_9 ⟨Nat.le_of_ble_eq_true rfl, Nat.le_of_ble_eq_true rfl⟩) hV hS hA (fun r u H locs hp hV hS => ?_)
  obtain ⟨rfl, eu9⟩ := hp
  rw [eu9] at hV
  refine lv_toe (y := 1) (s_isLibrary_1 hb6) ?_
  refine lv_if_eq (tgt := 29) hx hb dM_act_12 rfl (fun h9 => absurd h9 (by decide)) (fun _ => ?_)
  refine lv_iload_n hx hb dM_act_15 rfl (lv_at hl 1 rfl) ?_
  refine lv_aload_n hx hb dM_act_16 rfl (lv_at hl 0 rfl) ?_
  refine ew_get (v := .ref (X 11 0)) hx hb hts hown hK hV fM_25 hi0 (cR_0 _ _ _) rfl dM_act_17 ?_
  refine lv_iload_n hx hb dM_act_20 rfl (lv_at hl 2 rfl) ?_
  refine ew_iald (v := A 11 0 ln) hx hb hK hV (hE 11 (by decide)) (cR_11 _ _ _) 0 rfl (vp_in_nI (by omega) (by decide)) (er_ix (by omega) rfl) dM_act_21 ?_
  refine lv_toe (y := nI rq) q11 ?_
  refine lv_icmp_ne (tgt := 29) hx hb dM_act_22 rfl (fun _ => ?_) (fun h9 => absurd h9 (fun z9 => hbr ((nI_eq (a := b) (b := rq) (by omega) (by omega)).mp z9)))
  refine lv_iconst (v := 0) hx hb dM_act_29 (by decide) ?_
  refine lv_istore (lv' := [(5, .int 0), (0, .ref (X 0 0)), (1, .int (nI b)), (2, .int (nI ln)), (3, .int 0), (4, .int cc)]) hx hb dM_act_30 hl (by decide) rfl (fun ls hl => ?_)
  refine lv_aload_n hx hb dM_act_32 rfl (lv_at hl 1 rfl) ?_
  refine lv_iload_n hx hb dM_act_33 rfl (lv_at hl 3 rfl) ?_
  refine er_calli (va_runV (As := [.int (nI ln)]) (rest := []) ⟨hx, hb, hml, hown, hts⟩ (r_isLoan l D T X L tg _ hE A (nI ln)) (cwV 1 hts gM_172 rfl rfl rfl (by decide +kernel) ⟨Nat.le_of_ble_eq_true rfl, Nat.le_of_ble_eq_true rfl⟩) (er_preV hK hV hi0 (cR_0 _ _ _) rfl) rfl rfl hl.1 rfl (lv_room (Nat.le_of_ble_eq_true rfl)) dM_act_34 ⟨Nat.le_of_ble_eq_true rfl, Nat.le_of_ble_eq_true rfl⟩) hV hS hA (fun r u H locs hp hV hS => ?_)
  obtain ⟨rfl, eu9⟩ := hp
  rw [eu9] at hV
  refine lv_toe (y := 1) (s_isLoan_1 q2 hnl hn2) ?_
  refine lv_if_eq (tgt := 65) hx hb dM_act_37 rfl (fun h9 => absurd h9 (by decide)) (fun _ => ?_)
  refine lv_iload_n hx hb dM_act_40 rfl (lv_at hl 2 rfl) ?_
  refine er_calli (va_runS (As := [.int (nI b)]) (rest := []) ⟨hx, hb, hml, hown, hts⟩ (r_isLibrary l D T X L tg _ hE A (nI b)) (cwS 1 hts gM_142 rfl rfl rfl (by decide +kernel) ⟨Nat.le_of_ble_eq_true rfl, Nat.le_of_ble_eq_true rfl⟩) (er_preS hK hV) rfl rfl hl.1 rfl (lv_room (Nat.le_of_ble_eq_true rfl)) dM_act_41 ⟨Nat.le_of_ble_eq_true rfl, Nat.le_of_ble_eq_true rfl⟩) hV hS hA (fun r u H locs hp hV hS => ?_)
  obtain ⟨rfl, eu9⟩ := hp
  rw [eu9] at hV
  refine lv_toe (y := 1) (s_isLibrary_1 hb6) ?_
  refine lv_if_eq (tgt := 65) hx hb dM_act_44 rfl (fun h9 => absurd h9 (by decide)) (fun _ => ?_)
  refine lv_aload_n hx hb dM_act_47 rfl (lv_at hl 1 rfl) ?_
  refine ew_get (v := .ref (X 22 0)) hx hb hts hown hK hV fM_58 hi0 (cR_0 _ _ _) rfl dM_act_48 ?_
  refine lv_bipush (v := 6) hx hb dM_act_51 (by decide) ?_
  refine lv_iload_n hx hb dM_act_53 rfl (lv_at hl 3 rfl) ?_
  refine lv_imul hx hb dM_act_54 ?_
  refine lv_toe (y := nI (6 * ln)) (pk_mul 6 ln) ?_
  refine lv_iload_n hx hb dM_act_55 rfl (lv_at hl 2 rfl) ?_
  refine lv_iadd hx hb dM_act_56 ?_
  refine lv_toe (y := nI ((6 * ln) + b)) (nI_add (6 * ln) b) ?_
  refine ew_zald (v := A 22 0 ((6 * ln) + b)) hx hb hK hV (hE 22 (by decide)) (cR_22 _ _ _) 1 rfl (vp_in_nI (by omega) (by decide)) (er_ix (by omega) rfl) dM_act_57 ?_
  refine lv_if_eq (tgt := 65) hx hb dM_act_58 rfl (fun h1 => ?_) (fun h1 => ?_)
  · refine lv_iconst (v := 0) hx hb dM_act_65 (by decide) ?_
    refine lv_istore (lv' := [(6, .int 0), (5, .int 0), (0, .ref (X 0 0)), (1, .int (nI b)), (2, .int (nI ln)), (3, .int 0), (4, .int cc)]) hx hb dM_act_66 hl (by decide) rfl (fun ls hl => ?_)
    refine lv_iload_n hx hb dM_act_68 rfl (lv_at hl 5 rfl) ?_
    refine lv_if_lt (tgt := 83) hx hb dM_act_69 rfl (fun h9 => absurd h9 (by decide)) (fun _ => ?_)
    refine lv_iload_n hx hb dM_act_72 rfl (lv_at hl 5 rfl) ?_
    refine lv_bipush (v := 7) hx hb dM_act_73 (by decide) ?_
    refine lv_icmp_ge (tgt := 83) hx hb dM_act_75 rfl (fun h9 => absurd h9 (by decide)) (fun _ => ?_)
    refine lv_iload hx hb dM_act_78 (lv_at hl 1 rfl) ?_
    refine lv_if_ne (tgt := 100) hx hb dM_act_80 rfl (fun h9 => absurd (by decide) h9) (fun _ => ?_)
    refine lv_iload_n hx hb dM_act_83 rfl (lv_at hl 5 rfl) ?_
    refine lv_bipush (v := 6) hx hb dM_act_84 (by decide) ?_
    refine lv_icmp_le (tgt := 104) hx hb dM_act_86 rfl (fun _ => ?_) (fun h9 => absurd (by decide) h9)
    refine lv_iconst (v := 0) hx hb dM_act_104 (by decide) ?_
    refine lv_istore (lv' := [(7, .int 0), (6, .int 0), (5, .int 0), (0, .ref (X 0 0)), (1, .int (nI b)), (2, .int (nI ln)), (3, .int 0), (4, .int cc)]) hx hb dM_act_105 hl (by decide) rfl (fun ls hl => ?_)
    refine lv_aload_n hx hb dM_act_107 rfl (lv_at hl 3 rfl) ?_
    refine lv_iload hx hb dM_act_108 (lv_at hl 0 rfl) ?_
    refine lv_if_ne (tgt := 117) hx hb dM_act_110 rfl (fun h9 => absurd (by decide) h9) (fun _ => ?_)
    refine lv_iconst (v := 1) hx hb dM_act_113 (by decide) ?_
    refine lv_goto (tgt := 118) hx hb dM_act_114 rfl ?_
    refine lv_iload hx hb dM_act_118 (lv_at hl 0 rfl) ?_
    refine lv_if_eq (tgt := 156) hx hb dM_act_120 rfl (fun _ => ?_) (fun h9 => absurd (by decide) h9)
    refine lv_iconst (v := 0) hx hb dM_act_156 (by decide) ?_
    refine er_calli (va_runV (As := [.int 1, .int 0]) (rest := []) ⟨hx, hb, hml, hown, hts⟩ (r_refuses_a l D T X L tg _ hE A 0) (cwV 2 hts gM_152 rfl rfl rfl (by decide +kernel) ⟨Nat.le_of_ble_eq_true rfl, Nat.le_of_ble_eq_true rfl⟩) (er_preV hK hV hi0 (cR_0 _ _ _) rfl) rfl rfl hl.1 rfl (lv_room (Nat.le_of_ble_eq_true rfl)) dM_act_157 ⟨Nat.le_of_ble_eq_true rfl, Nat.le_of_ble_eq_true rfl⟩) hV hS hA (fun r u H locs hp hV hS => ?_)
    obtain ⟨rfl, rfl⟩ := hp
    refine lv_if_eq (tgt := 165) hx hb dM_act_160 rfl (fun h9 => absurd h9 (by decide)) (fun _ => ?_)
    refine lv_iconst (v := 0) hx hb dM_act_163 (by decide) ?_
    exact er_iret hx hb hr hlocks hV hS dM_act_164 ⟨Eq.symm (by unfold s_act_x0; simp only [if_pos h1]), Eq.symm (by unfold s_act_x0; simp only [if_pos h1])⟩
  · refine lv_iconst (v := 1) hx hb dM_act_61 (by decide) ?_
    refine lv_goto (tgt := 66) hx hb dM_act_62 rfl ?_
    refine lv_istore (lv' := [(6, .int 1), (5, .int 0), (0, .ref (X 0 0)), (1, .int (nI b)), (2, .int (nI ln)), (3, .int 0), (4, .int cc)]) hx hb dM_act_66 hl (by decide) rfl (fun ls hl => ?_)
    refine lv_iload_n hx hb dM_act_68 rfl (lv_at hl 5 rfl) ?_
    refine lv_if_lt (tgt := 83) hx hb dM_act_69 rfl (fun h9 => absurd h9 (by decide)) (fun _ => ?_)
    refine lv_iload_n hx hb dM_act_72 rfl (lv_at hl 5 rfl) ?_
    refine lv_bipush (v := 7) hx hb dM_act_73 (by decide) ?_
    refine lv_icmp_ge (tgt := 83) hx hb dM_act_75 rfl (fun h9 => absurd h9 (by decide)) (fun _ => ?_)
    refine lv_iload hx hb dM_act_78 (lv_at hl 1 rfl) ?_
    refine lv_if_ne (tgt := 100) hx hb dM_act_80 rfl (fun h9 => absurd (by decide) h9) (fun _ => ?_)
    refine lv_iload_n hx hb dM_act_83 rfl (lv_at hl 5 rfl) ?_
    refine lv_bipush (v := 6) hx hb dM_act_84 (by decide) ?_
    refine lv_icmp_le (tgt := 104) hx hb dM_act_86 rfl (fun _ => ?_) (fun h9 => absurd (by decide) h9)
    refine lv_iconst (v := 0) hx hb dM_act_104 (by decide) ?_
    refine lv_istore (lv' := [(7, .int 0), (6, .int 1), (5, .int 0), (0, .ref (X 0 0)), (1, .int (nI b)), (2, .int (nI ln)), (3, .int 0), (4, .int cc)]) hx hb dM_act_105 hl (by decide) rfl (fun ls hl => ?_)
    refine lv_aload_n hx hb dM_act_107 rfl (lv_at hl 3 rfl) ?_
    refine lv_iload hx hb dM_act_108 (lv_at hl 0 rfl) ?_
    refine lv_if_ne (tgt := 117) hx hb dM_act_110 rfl (fun h9 => absurd (by decide) h9) (fun _ => ?_)
    refine lv_iconst (v := 1) hx hb dM_act_113 (by decide) ?_
    refine lv_goto (tgt := 118) hx hb dM_act_114 rfl ?_
    refine lv_iload hx hb dM_act_118 (lv_at hl 0 rfl) ?_
    refine lv_if_eq (tgt := 156) hx hb dM_act_120 rfl (fun _ => ?_) (fun h9 => absurd (by decide) h9)
    refine lv_iconst (v := 0) hx hb dM_act_156 (by decide) ?_
    refine er_calli (va_runV (As := [.int 1, .int 0]) (rest := []) ⟨hx, hb, hml, hown, hts⟩ (r_refuses_a l D T X L tg _ hE A 0) (cwV 2 hts gM_152 rfl rfl rfl (by decide +kernel) ⟨Nat.le_of_ble_eq_true rfl, Nat.le_of_ble_eq_true rfl⟩) (er_preV hK hV hi0 (cR_0 _ _ _) rfl) rfl rfl hl.1 rfl (lv_room (Nat.le_of_ble_eq_true rfl)) dM_act_157 ⟨Nat.le_of_ble_eq_true rfl, Nat.le_of_ble_eq_true rfl⟩) hV hS hA (fun r u H locs hp hV hS => ?_)
    obtain ⟨rfl, rfl⟩ := hp
    refine lv_if_eq (tgt := 165) hx hb dM_act_160 rfl (fun h9 => absurd h9 (by decide)) (fun _ => ?_)
    refine lv_iconst (v := 0) hx hb dM_act_163 (by decide) ?_
    exact er_iret hx hb hr hlocks hV hS dM_act_164 ⟨Eq.symm (by unfold s_act_x0; simp only [if_neg h1]), Eq.symm (by unfold s_act_x0; simp only [if_neg h1])⟩

def s_act_x1 (A : ew_R) (b : Nat) (ln : Nat) (cc : Int32) (nl : Nat) (rq : Nat) : Int32 × ew_R :=
  if A 22 0 ((6 * ln) + b) = 0 then
    (0, up3 A 0 0 0 1)
  else
    (0, up3 A 0 0 0 1)
set_option maxHeartbeats 4000000 in
set_option maxRecDepth 100000 in
theorem r_act_x1 (l : Launch) (D : va_G) (T : Nat → ClassId) (X : Nat → Nat → Nat) (L : List Nat) (tg : Nat → Nat × Nat) (sz : Nat) (hE : eR_E X L tg) (A : ew_R) (b : Nat) (ln : Nat) (cc : Int32) (nl : Nat) (rq : Nat) (hb6 : b < 6) (hnl : ln < nl) (hn2 : nl ≤ 32) (q2 : A 0 0 2 = nI nl) (hrq : rq < 6) (q11 : A 11 0 ln = nI rq) (hbr : ¬ b = rq) : Met l yM_act wsM_act ({ frames := 5, cells := 0, slots := 0, locals := 114 }) (er_Pc D vwCl (tysA T) (cfR T) X L tg A sz [.ref (X 0 0), .int (nI b), .int (nI ln), .int 1, .int cc]) (er_Qi D vwCl (cfR T) X L tg sz (fun r u => r = (s_act_x1 A b ln cc nl rq).1 ∧ u = (s_act_x1 A b ln cc nl rq).2)) 0 0 (ew_A L sz) := by
  refine er_met (by decide) rfl (Nat.le_of_ble_eq_true rfl) ?_
  intro p e s m below meth c ls hx hb hr hts hown hlocks hml hV hK hS hA hl hsz
  subst hsz
  have hi0 := hE 0 (by decide)
  have hl : lv_has ls 8 [(0, .ref (X 0 0)), (1, .int (nI b)), (2, .int (nI ln)), (3, .int 1), (4, .int cc)] := hl
  refine lv_aload_n hx hb dM_act_0 rfl (lv_at hl 0 rfl) ?_
  refine lv_iload_n hx hb dM_act_1 rfl (lv_at hl 2 rfl) ?_
  refine er_calli (va_runV (As := [.int (nI ln)]) (rest := []) ⟨hx, hb, hml, hown, hts⟩ (r_isLoan l D T X L tg _ hE A (nI ln)) (cwV 1 hts gM_172 rfl rfl rfl (by decide +kernel) ⟨Nat.le_of_ble_eq_true rfl, Nat.le_of_ble_eq_true rfl⟩) (er_preV hK hV hi0 (cR_0 _ _ _) rfl) rfl rfl hl.1 rfl (lv_room (Nat.le_of_ble_eq_true rfl)) dM_act_2 ⟨Nat.le_of_ble_eq_true rfl, Nat.le_of_ble_eq_true rfl⟩) hV hS hA (fun r u H locs hp hV hS => ?_)
  obtain ⟨rfl, eu9⟩ := hp
  rw [eu9] at hV
  refine lv_toe (y := 1) (s_isLoan_1 q2 hnl hn2) ?_
  refine lv_if_eq (tgt := 29) hx hb dM_act_5 rfl (fun h9 => absurd h9 (by decide)) (fun _ => ?_)
  refine lv_iload_n hx hb dM_act_8 rfl (lv_at hl 1 rfl) ?_
  refine er_calli (va_runS (As := [.int (nI b)]) (rest := []) ⟨hx, hb, hml, hown, hts⟩ (r_isLibrary l D T X L tg _ hE A (nI b)) (cwS 1 hts gM_142 rfl rfl rfl (by decide +kernel) ⟨Nat.le_of_ble_eq_true rfl, Nat.le_of_ble_eq_true rfl⟩) (er_preS hK hV) rfl rfl hl.1 rfl (lv_room (Nat.le_of_ble_eq_true rfl)) dM_act_9 ⟨Nat.le_of_ble_eq_true rfl, Nat.le_of_ble_eq_true rfl⟩) hV hS hA (fun r u H locs hp hV hS => ?_)
  obtain ⟨rfl, eu9⟩ := hp
  rw [eu9] at hV
  refine lv_toe (y := 1) (s_isLibrary_1 hb6) ?_
  refine lv_if_eq (tgt := 29) hx hb dM_act_12 rfl (fun h9 => absurd h9 (by decide)) (fun _ => ?_)
  refine lv_iload_n hx hb dM_act_15 rfl (lv_at hl 1 rfl) ?_
  refine lv_aload_n hx hb dM_act_16 rfl (lv_at hl 0 rfl) ?_
  refine ew_get (v := .ref (X 11 0)) hx hb hts hown hK hV fM_25 hi0 (cR_0 _ _ _) rfl dM_act_17 ?_
  refine lv_iload_n hx hb dM_act_20 rfl (lv_at hl 2 rfl) ?_
  refine ew_iald (v := A 11 0 ln) hx hb hK hV (hE 11 (by decide)) (cR_11 _ _ _) 0 rfl (vp_in_nI (by omega) (by decide)) (er_ix (by omega) rfl) dM_act_21 ?_
  refine lv_toe (y := nI rq) q11 ?_
  refine lv_icmp_ne (tgt := 29) hx hb dM_act_22 rfl (fun _ => ?_) (fun h9 => absurd h9 (fun z9 => hbr ((nI_eq (a := b) (b := rq) (by omega) (by omega)).mp z9)))
  refine lv_iconst (v := 0) hx hb dM_act_29 (by decide) ?_
  refine lv_istore (lv' := [(5, .int 0), (0, .ref (X 0 0)), (1, .int (nI b)), (2, .int (nI ln)), (3, .int 1), (4, .int cc)]) hx hb dM_act_30 hl (by decide) rfl (fun ls hl => ?_)
  refine lv_aload_n hx hb dM_act_32 rfl (lv_at hl 1 rfl) ?_
  refine lv_iload_n hx hb dM_act_33 rfl (lv_at hl 3 rfl) ?_
  refine er_calli (va_runV (As := [.int (nI ln)]) (rest := []) ⟨hx, hb, hml, hown, hts⟩ (r_isLoan l D T X L tg _ hE A (nI ln)) (cwV 1 hts gM_172 rfl rfl rfl (by decide +kernel) ⟨Nat.le_of_ble_eq_true rfl, Nat.le_of_ble_eq_true rfl⟩) (er_preV hK hV hi0 (cR_0 _ _ _) rfl) rfl rfl hl.1 rfl (lv_room (Nat.le_of_ble_eq_true rfl)) dM_act_34 ⟨Nat.le_of_ble_eq_true rfl, Nat.le_of_ble_eq_true rfl⟩) hV hS hA (fun r u H locs hp hV hS => ?_)
  obtain ⟨rfl, eu9⟩ := hp
  rw [eu9] at hV
  refine lv_toe (y := 1) (s_isLoan_1 q2 hnl hn2) ?_
  refine lv_if_eq (tgt := 65) hx hb dM_act_37 rfl (fun h9 => absurd h9 (by decide)) (fun _ => ?_)
  refine lv_iload_n hx hb dM_act_40 rfl (lv_at hl 2 rfl) ?_
  refine er_calli (va_runS (As := [.int (nI b)]) (rest := []) ⟨hx, hb, hml, hown, hts⟩ (r_isLibrary l D T X L tg _ hE A (nI b)) (cwS 1 hts gM_142 rfl rfl rfl (by decide +kernel) ⟨Nat.le_of_ble_eq_true rfl, Nat.le_of_ble_eq_true rfl⟩) (er_preS hK hV) rfl rfl hl.1 rfl (lv_room (Nat.le_of_ble_eq_true rfl)) dM_act_41 ⟨Nat.le_of_ble_eq_true rfl, Nat.le_of_ble_eq_true rfl⟩) hV hS hA (fun r u H locs hp hV hS => ?_)
  obtain ⟨rfl, eu9⟩ := hp
  rw [eu9] at hV
  refine lv_toe (y := 1) (s_isLibrary_1 hb6) ?_
  refine lv_if_eq (tgt := 65) hx hb dM_act_44 rfl (fun h9 => absurd h9 (by decide)) (fun _ => ?_)
  refine lv_aload_n hx hb dM_act_47 rfl (lv_at hl 1 rfl) ?_
  refine ew_get (v := .ref (X 22 0)) hx hb hts hown hK hV fM_58 hi0 (cR_0 _ _ _) rfl dM_act_48 ?_
  refine lv_bipush (v := 6) hx hb dM_act_51 (by decide) ?_
  refine lv_iload_n hx hb dM_act_53 rfl (lv_at hl 3 rfl) ?_
  refine lv_imul hx hb dM_act_54 ?_
  refine lv_toe (y := nI (6 * ln)) (pk_mul 6 ln) ?_
  refine lv_iload_n hx hb dM_act_55 rfl (lv_at hl 2 rfl) ?_
  refine lv_iadd hx hb dM_act_56 ?_
  refine lv_toe (y := nI ((6 * ln) + b)) (nI_add (6 * ln) b) ?_
  refine ew_zald (v := A 22 0 ((6 * ln) + b)) hx hb hK hV (hE 22 (by decide)) (cR_22 _ _ _) 1 rfl (vp_in_nI (by omega) (by decide)) (er_ix (by omega) rfl) dM_act_57 ?_
  refine lv_if_eq (tgt := 65) hx hb dM_act_58 rfl (fun h1 => ?_) (fun h1 => ?_)
  · refine lv_iconst (v := 0) hx hb dM_act_65 (by decide) ?_
    refine lv_istore (lv' := [(6, .int 0), (5, .int 0), (0, .ref (X 0 0)), (1, .int (nI b)), (2, .int (nI ln)), (3, .int 1), (4, .int cc)]) hx hb dM_act_66 hl (by decide) rfl (fun ls hl => ?_)
    refine lv_iload_n hx hb dM_act_68 rfl (lv_at hl 5 rfl) ?_
    refine lv_if_lt (tgt := 83) hx hb dM_act_69 rfl (fun h9 => absurd h9 (by decide)) (fun _ => ?_)
    refine lv_iload_n hx hb dM_act_72 rfl (lv_at hl 5 rfl) ?_
    refine lv_bipush (v := 7) hx hb dM_act_73 (by decide) ?_
    refine lv_icmp_ge (tgt := 83) hx hb dM_act_75 rfl (fun h9 => absurd h9 (by decide)) (fun _ => ?_)
    refine lv_iload hx hb dM_act_78 (lv_at hl 1 rfl) ?_
    refine lv_if_ne (tgt := 100) hx hb dM_act_80 rfl (fun h9 => absurd (by decide) h9) (fun _ => ?_)
    refine lv_iload_n hx hb dM_act_83 rfl (lv_at hl 5 rfl) ?_
    refine lv_bipush (v := 6) hx hb dM_act_84 (by decide) ?_
    refine lv_icmp_le (tgt := 104) hx hb dM_act_86 rfl (fun _ => ?_) (fun h9 => absurd (by decide) h9)
    refine lv_iconst (v := 0) hx hb dM_act_104 (by decide) ?_
    refine lv_istore (lv' := [(7, .int 0), (6, .int 0), (5, .int 0), (0, .ref (X 0 0)), (1, .int (nI b)), (2, .int (nI ln)), (3, .int 1), (4, .int cc)]) hx hb dM_act_105 hl (by decide) rfl (fun ls hl => ?_)
    refine lv_aload_n hx hb dM_act_107 rfl (lv_at hl 3 rfl) ?_
    refine lv_iload hx hb dM_act_108 (lv_at hl 0 rfl) ?_
    refine lv_if_ne (tgt := 117) hx hb dM_act_110 rfl (fun h9 => absurd (by decide) h9) (fun _ => ?_)
    refine lv_iconst (v := 1) hx hb dM_act_113 (by decide) ?_
    refine lv_goto (tgt := 118) hx hb dM_act_114 rfl ?_
    refine lv_iload hx hb dM_act_118 (lv_at hl 0 rfl) ?_
    refine lv_if_eq (tgt := 156) hx hb dM_act_120 rfl (fun _ => ?_) (fun h9 => absurd (by decide) h9)
    refine lv_iconst (v := 0) hx hb dM_act_156 (by decide) ?_
    refine er_calli (va_runV (As := [.int 1, .int 0]) (rest := []) ⟨hx, hb, hml, hown, hts⟩ (r_refuses_a l D T X L tg _ hE A 0) (cwV 2 hts gM_152 rfl rfl rfl (by decide +kernel) ⟨Nat.le_of_ble_eq_true rfl, Nat.le_of_ble_eq_true rfl⟩) (er_preV hK hV hi0 (cR_0 _ _ _) rfl) rfl rfl hl.1 rfl (lv_room (Nat.le_of_ble_eq_true rfl)) dM_act_157 ⟨Nat.le_of_ble_eq_true rfl, Nat.le_of_ble_eq_true rfl⟩) hV hS hA (fun r u H locs hp hV hS => ?_)
    obtain ⟨rfl, rfl⟩ := hp
    refine lv_if_eq (tgt := 165) hx hb dM_act_160 rfl (fun h9 => absurd h9 (by decide)) (fun _ => ?_)
    refine lv_iconst (v := 0) hx hb dM_act_163 (by decide) ?_
    exact er_iret hx hb hr hlocks hV hS dM_act_164 ⟨Eq.symm (by unfold s_act_x1; simp only [if_pos h1]), Eq.symm (by unfold s_act_x1; simp only [if_pos h1])⟩
  · refine lv_iconst (v := 1) hx hb dM_act_61 (by decide) ?_
    refine lv_goto (tgt := 66) hx hb dM_act_62 rfl ?_
    refine lv_istore (lv' := [(6, .int 1), (5, .int 0), (0, .ref (X 0 0)), (1, .int (nI b)), (2, .int (nI ln)), (3, .int 1), (4, .int cc)]) hx hb dM_act_66 hl (by decide) rfl (fun ls hl => ?_)
    refine lv_iload_n hx hb dM_act_68 rfl (lv_at hl 5 rfl) ?_
    refine lv_if_lt (tgt := 83) hx hb dM_act_69 rfl (fun h9 => absurd h9 (by decide)) (fun _ => ?_)
    refine lv_iload_n hx hb dM_act_72 rfl (lv_at hl 5 rfl) ?_
    refine lv_bipush (v := 7) hx hb dM_act_73 (by decide) ?_
    refine lv_icmp_ge (tgt := 83) hx hb dM_act_75 rfl (fun h9 => absurd h9 (by decide)) (fun _ => ?_)
    refine lv_iload hx hb dM_act_78 (lv_at hl 1 rfl) ?_
    refine lv_if_ne (tgt := 100) hx hb dM_act_80 rfl (fun h9 => absurd (by decide) h9) (fun _ => ?_)
    refine lv_iload_n hx hb dM_act_83 rfl (lv_at hl 5 rfl) ?_
    refine lv_bipush (v := 6) hx hb dM_act_84 (by decide) ?_
    refine lv_icmp_le (tgt := 104) hx hb dM_act_86 rfl (fun _ => ?_) (fun h9 => absurd (by decide) h9)
    refine lv_iconst (v := 0) hx hb dM_act_104 (by decide) ?_
    refine lv_istore (lv' := [(7, .int 0), (6, .int 1), (5, .int 0), (0, .ref (X 0 0)), (1, .int (nI b)), (2, .int (nI ln)), (3, .int 1), (4, .int cc)]) hx hb dM_act_105 hl (by decide) rfl (fun ls hl => ?_)
    refine lv_aload_n hx hb dM_act_107 rfl (lv_at hl 3 rfl) ?_
    refine lv_iload hx hb dM_act_108 (lv_at hl 0 rfl) ?_
    refine lv_if_ne (tgt := 117) hx hb dM_act_110 rfl (fun h9 => absurd (by decide) h9) (fun _ => ?_)
    refine lv_iconst (v := 1) hx hb dM_act_113 (by decide) ?_
    refine lv_goto (tgt := 118) hx hb dM_act_114 rfl ?_
    refine lv_iload hx hb dM_act_118 (lv_at hl 0 rfl) ?_
    refine lv_if_eq (tgt := 156) hx hb dM_act_120 rfl (fun _ => ?_) (fun h9 => absurd (by decide) h9)
    refine lv_iconst (v := 0) hx hb dM_act_156 (by decide) ?_
    refine er_calli (va_runV (As := [.int 1, .int 0]) (rest := []) ⟨hx, hb, hml, hown, hts⟩ (r_refuses_a l D T X L tg _ hE A 0) (cwV 2 hts gM_152 rfl rfl rfl (by decide +kernel) ⟨Nat.le_of_ble_eq_true rfl, Nat.le_of_ble_eq_true rfl⟩) (er_preV hK hV hi0 (cR_0 _ _ _) rfl) rfl rfl hl.1 rfl (lv_room (Nat.le_of_ble_eq_true rfl)) dM_act_157 ⟨Nat.le_of_ble_eq_true rfl, Nat.le_of_ble_eq_true rfl⟩) hV hS hA (fun r u H locs hp hV hS => ?_)
    obtain ⟨rfl, rfl⟩ := hp
    refine lv_if_eq (tgt := 165) hx hb dM_act_160 rfl (fun h9 => absurd h9 (by decide)) (fun _ => ?_)
    refine lv_iconst (v := 0) hx hb dM_act_163 (by decide) ?_
    exact er_iret hx hb hr hlocks hV hS dM_act_164 ⟨Eq.symm (by unfold s_act_x1; simp only [if_neg h1]), Eq.symm (by unfold s_act_x1; simp only [if_neg h1])⟩

def s_act_x2 (A : ew_R) (b : Nat) (ln : Nat) (cc : Int32) (nl : Nat) (rq : Nat) : Int32 × ew_R :=
  if A 22 0 ((6 * ln) + b) = 0 then
    (0, up3 A 0 0 0 1)
  else
    (0, up3 A 0 0 0 1)
set_option maxHeartbeats 4000000 in
set_option maxRecDepth 100000 in
theorem r_act_x2 (l : Launch) (D : va_G) (T : Nat → ClassId) (X : Nat → Nat → Nat) (L : List Nat) (tg : Nat → Nat × Nat) (sz : Nat) (hE : eR_E X L tg) (A : ew_R) (b : Nat) (ln : Nat) (cc : Int32) (nl : Nat) (rq : Nat) (hb6 : b < 6) (hnl : ln < nl) (hn2 : nl ≤ 32) (q2 : A 0 0 2 = nI nl) (hrq : rq < 6) (q11 : A 11 0 ln = nI rq) (hbr : ¬ b = rq) : Met l yM_act wsM_act ({ frames := 5, cells := 0, slots := 0, locals := 114 }) (er_Pc D vwCl (tysA T) (cfR T) X L tg A sz [.ref (X 0 0), .int (nI b), .int (nI ln), .int 2, .int cc]) (er_Qi D vwCl (cfR T) X L tg sz (fun r u => r = (s_act_x2 A b ln cc nl rq).1 ∧ u = (s_act_x2 A b ln cc nl rq).2)) 0 0 (ew_A L sz) := by
  refine er_met (by decide) rfl (Nat.le_of_ble_eq_true rfl) ?_
  intro p e s m below meth c ls hx hb hr hts hown hlocks hml hV hK hS hA hl hsz
  subst hsz
  have hi0 := hE 0 (by decide)
  have hl : lv_has ls 8 [(0, .ref (X 0 0)), (1, .int (nI b)), (2, .int (nI ln)), (3, .int 2), (4, .int cc)] := hl
  refine lv_aload_n hx hb dM_act_0 rfl (lv_at hl 0 rfl) ?_
  refine lv_iload_n hx hb dM_act_1 rfl (lv_at hl 2 rfl) ?_
  refine er_calli (va_runV (As := [.int (nI ln)]) (rest := []) ⟨hx, hb, hml, hown, hts⟩ (r_isLoan l D T X L tg _ hE A (nI ln)) (cwV 1 hts gM_172 rfl rfl rfl (by decide +kernel) ⟨Nat.le_of_ble_eq_true rfl, Nat.le_of_ble_eq_true rfl⟩) (er_preV hK hV hi0 (cR_0 _ _ _) rfl) rfl rfl hl.1 rfl (lv_room (Nat.le_of_ble_eq_true rfl)) dM_act_2 ⟨Nat.le_of_ble_eq_true rfl, Nat.le_of_ble_eq_true rfl⟩) hV hS hA (fun r u H locs hp hV hS => ?_)
  obtain ⟨rfl, eu9⟩ := hp
  rw [eu9] at hV
  refine lv_toe (y := 1) (s_isLoan_1 q2 hnl hn2) ?_
  refine lv_if_eq (tgt := 29) hx hb dM_act_5 rfl (fun h9 => absurd h9 (by decide)) (fun _ => ?_)
  refine lv_iload_n hx hb dM_act_8 rfl (lv_at hl 1 rfl) ?_
  refine er_calli (va_runS (As := [.int (nI b)]) (rest := []) ⟨hx, hb, hml, hown, hts⟩ (r_isLibrary l D T X L tg _ hE A (nI b)) (cwS 1 hts gM_142 rfl rfl rfl (by decide +kernel) ⟨Nat.le_of_ble_eq_true rfl, Nat.le_of_ble_eq_true rfl⟩) (er_preS hK hV) rfl rfl hl.1 rfl (lv_room (Nat.le_of_ble_eq_true rfl)) dM_act_9 ⟨Nat.le_of_ble_eq_true rfl, Nat.le_of_ble_eq_true rfl⟩) hV hS hA (fun r u H locs hp hV hS => ?_)
  obtain ⟨rfl, eu9⟩ := hp
  rw [eu9] at hV
  refine lv_toe (y := 1) (s_isLibrary_1 hb6) ?_
  refine lv_if_eq (tgt := 29) hx hb dM_act_12 rfl (fun h9 => absurd h9 (by decide)) (fun _ => ?_)
  refine lv_iload_n hx hb dM_act_15 rfl (lv_at hl 1 rfl) ?_
  refine lv_aload_n hx hb dM_act_16 rfl (lv_at hl 0 rfl) ?_
  refine ew_get (v := .ref (X 11 0)) hx hb hts hown hK hV fM_25 hi0 (cR_0 _ _ _) rfl dM_act_17 ?_
  refine lv_iload_n hx hb dM_act_20 rfl (lv_at hl 2 rfl) ?_
  refine ew_iald (v := A 11 0 ln) hx hb hK hV (hE 11 (by decide)) (cR_11 _ _ _) 0 rfl (vp_in_nI (by omega) (by decide)) (er_ix (by omega) rfl) dM_act_21 ?_
  refine lv_toe (y := nI rq) q11 ?_
  refine lv_icmp_ne (tgt := 29) hx hb dM_act_22 rfl (fun _ => ?_) (fun h9 => absurd h9 (fun z9 => hbr ((nI_eq (a := b) (b := rq) (by omega) (by omega)).mp z9)))
  refine lv_iconst (v := 0) hx hb dM_act_29 (by decide) ?_
  refine lv_istore (lv' := [(5, .int 0), (0, .ref (X 0 0)), (1, .int (nI b)), (2, .int (nI ln)), (3, .int 2), (4, .int cc)]) hx hb dM_act_30 hl (by decide) rfl (fun ls hl => ?_)
  refine lv_aload_n hx hb dM_act_32 rfl (lv_at hl 1 rfl) ?_
  refine lv_iload_n hx hb dM_act_33 rfl (lv_at hl 3 rfl) ?_
  refine er_calli (va_runV (As := [.int (nI ln)]) (rest := []) ⟨hx, hb, hml, hown, hts⟩ (r_isLoan l D T X L tg _ hE A (nI ln)) (cwV 1 hts gM_172 rfl rfl rfl (by decide +kernel) ⟨Nat.le_of_ble_eq_true rfl, Nat.le_of_ble_eq_true rfl⟩) (er_preV hK hV hi0 (cR_0 _ _ _) rfl) rfl rfl hl.1 rfl (lv_room (Nat.le_of_ble_eq_true rfl)) dM_act_34 ⟨Nat.le_of_ble_eq_true rfl, Nat.le_of_ble_eq_true rfl⟩) hV hS hA (fun r u H locs hp hV hS => ?_)
  obtain ⟨rfl, eu9⟩ := hp
  rw [eu9] at hV
  refine lv_toe (y := 1) (s_isLoan_1 q2 hnl hn2) ?_
  refine lv_if_eq (tgt := 65) hx hb dM_act_37 rfl (fun h9 => absurd h9 (by decide)) (fun _ => ?_)
  refine lv_iload_n hx hb dM_act_40 rfl (lv_at hl 2 rfl) ?_
  refine er_calli (va_runS (As := [.int (nI b)]) (rest := []) ⟨hx, hb, hml, hown, hts⟩ (r_isLibrary l D T X L tg _ hE A (nI b)) (cwS 1 hts gM_142 rfl rfl rfl (by decide +kernel) ⟨Nat.le_of_ble_eq_true rfl, Nat.le_of_ble_eq_true rfl⟩) (er_preS hK hV) rfl rfl hl.1 rfl (lv_room (Nat.le_of_ble_eq_true rfl)) dM_act_41 ⟨Nat.le_of_ble_eq_true rfl, Nat.le_of_ble_eq_true rfl⟩) hV hS hA (fun r u H locs hp hV hS => ?_)
  obtain ⟨rfl, eu9⟩ := hp
  rw [eu9] at hV
  refine lv_toe (y := 1) (s_isLibrary_1 hb6) ?_
  refine lv_if_eq (tgt := 65) hx hb dM_act_44 rfl (fun h9 => absurd h9 (by decide)) (fun _ => ?_)
  refine lv_aload_n hx hb dM_act_47 rfl (lv_at hl 1 rfl) ?_
  refine ew_get (v := .ref (X 22 0)) hx hb hts hown hK hV fM_58 hi0 (cR_0 _ _ _) rfl dM_act_48 ?_
  refine lv_bipush (v := 6) hx hb dM_act_51 (by decide) ?_
  refine lv_iload_n hx hb dM_act_53 rfl (lv_at hl 3 rfl) ?_
  refine lv_imul hx hb dM_act_54 ?_
  refine lv_toe (y := nI (6 * ln)) (pk_mul 6 ln) ?_
  refine lv_iload_n hx hb dM_act_55 rfl (lv_at hl 2 rfl) ?_
  refine lv_iadd hx hb dM_act_56 ?_
  refine lv_toe (y := nI ((6 * ln) + b)) (nI_add (6 * ln) b) ?_
  refine ew_zald (v := A 22 0 ((6 * ln) + b)) hx hb hK hV (hE 22 (by decide)) (cR_22 _ _ _) 1 rfl (vp_in_nI (by omega) (by decide)) (er_ix (by omega) rfl) dM_act_57 ?_
  refine lv_if_eq (tgt := 65) hx hb dM_act_58 rfl (fun h1 => ?_) (fun h1 => ?_)
  · refine lv_iconst (v := 0) hx hb dM_act_65 (by decide) ?_
    refine lv_istore (lv' := [(6, .int 0), (5, .int 0), (0, .ref (X 0 0)), (1, .int (nI b)), (2, .int (nI ln)), (3, .int 2), (4, .int cc)]) hx hb dM_act_66 hl (by decide) rfl (fun ls hl => ?_)
    refine lv_iload_n hx hb dM_act_68 rfl (lv_at hl 5 rfl) ?_
    refine lv_if_lt (tgt := 83) hx hb dM_act_69 rfl (fun h9 => absurd h9 (by decide)) (fun _ => ?_)
    refine lv_iload_n hx hb dM_act_72 rfl (lv_at hl 5 rfl) ?_
    refine lv_bipush (v := 7) hx hb dM_act_73 (by decide) ?_
    refine lv_icmp_ge (tgt := 83) hx hb dM_act_75 rfl (fun h9 => absurd h9 (by decide)) (fun _ => ?_)
    refine lv_iload hx hb dM_act_78 (lv_at hl 1 rfl) ?_
    refine lv_if_ne (tgt := 100) hx hb dM_act_80 rfl (fun h9 => absurd (by decide) h9) (fun _ => ?_)
    refine lv_iload_n hx hb dM_act_83 rfl (lv_at hl 5 rfl) ?_
    refine lv_bipush (v := 6) hx hb dM_act_84 (by decide) ?_
    refine lv_icmp_le (tgt := 104) hx hb dM_act_86 rfl (fun _ => ?_) (fun h9 => absurd (by decide) h9)
    refine lv_iconst (v := 0) hx hb dM_act_104 (by decide) ?_
    refine lv_istore (lv' := [(7, .int 0), (6, .int 0), (5, .int 0), (0, .ref (X 0 0)), (1, .int (nI b)), (2, .int (nI ln)), (3, .int 2), (4, .int cc)]) hx hb dM_act_105 hl (by decide) rfl (fun ls hl => ?_)
    refine lv_aload_n hx hb dM_act_107 rfl (lv_at hl 3 rfl) ?_
    refine lv_iload hx hb dM_act_108 (lv_at hl 0 rfl) ?_
    refine lv_if_ne (tgt := 117) hx hb dM_act_110 rfl (fun h9 => absurd (by decide) h9) (fun _ => ?_)
    refine lv_iconst (v := 1) hx hb dM_act_113 (by decide) ?_
    refine lv_goto (tgt := 118) hx hb dM_act_114 rfl ?_
    refine lv_iload hx hb dM_act_118 (lv_at hl 0 rfl) ?_
    refine lv_if_eq (tgt := 156) hx hb dM_act_120 rfl (fun _ => ?_) (fun h9 => absurd (by decide) h9)
    refine lv_iconst (v := 0) hx hb dM_act_156 (by decide) ?_
    refine er_calli (va_runV (As := [.int 1, .int 0]) (rest := []) ⟨hx, hb, hml, hown, hts⟩ (r_refuses_a l D T X L tg _ hE A 0) (cwV 2 hts gM_152 rfl rfl rfl (by decide +kernel) ⟨Nat.le_of_ble_eq_true rfl, Nat.le_of_ble_eq_true rfl⟩) (er_preV hK hV hi0 (cR_0 _ _ _) rfl) rfl rfl hl.1 rfl (lv_room (Nat.le_of_ble_eq_true rfl)) dM_act_157 ⟨Nat.le_of_ble_eq_true rfl, Nat.le_of_ble_eq_true rfl⟩) hV hS hA (fun r u H locs hp hV hS => ?_)
    obtain ⟨rfl, rfl⟩ := hp
    refine lv_if_eq (tgt := 165) hx hb dM_act_160 rfl (fun h9 => absurd h9 (by decide)) (fun _ => ?_)
    refine lv_iconst (v := 0) hx hb dM_act_163 (by decide) ?_
    exact er_iret hx hb hr hlocks hV hS dM_act_164 ⟨Eq.symm (by unfold s_act_x2; simp only [if_pos h1]), Eq.symm (by unfold s_act_x2; simp only [if_pos h1])⟩
  · refine lv_iconst (v := 1) hx hb dM_act_61 (by decide) ?_
    refine lv_goto (tgt := 66) hx hb dM_act_62 rfl ?_
    refine lv_istore (lv' := [(6, .int 1), (5, .int 0), (0, .ref (X 0 0)), (1, .int (nI b)), (2, .int (nI ln)), (3, .int 2), (4, .int cc)]) hx hb dM_act_66 hl (by decide) rfl (fun ls hl => ?_)
    refine lv_iload_n hx hb dM_act_68 rfl (lv_at hl 5 rfl) ?_
    refine lv_if_lt (tgt := 83) hx hb dM_act_69 rfl (fun h9 => absurd h9 (by decide)) (fun _ => ?_)
    refine lv_iload_n hx hb dM_act_72 rfl (lv_at hl 5 rfl) ?_
    refine lv_bipush (v := 7) hx hb dM_act_73 (by decide) ?_
    refine lv_icmp_ge (tgt := 83) hx hb dM_act_75 rfl (fun h9 => absurd h9 (by decide)) (fun _ => ?_)
    refine lv_iload hx hb dM_act_78 (lv_at hl 1 rfl) ?_
    refine lv_if_ne (tgt := 100) hx hb dM_act_80 rfl (fun h9 => absurd (by decide) h9) (fun _ => ?_)
    refine lv_iload_n hx hb dM_act_83 rfl (lv_at hl 5 rfl) ?_
    refine lv_bipush (v := 6) hx hb dM_act_84 (by decide) ?_
    refine lv_icmp_le (tgt := 104) hx hb dM_act_86 rfl (fun _ => ?_) (fun h9 => absurd (by decide) h9)
    refine lv_iconst (v := 0) hx hb dM_act_104 (by decide) ?_
    refine lv_istore (lv' := [(7, .int 0), (6, .int 1), (5, .int 0), (0, .ref (X 0 0)), (1, .int (nI b)), (2, .int (nI ln)), (3, .int 2), (4, .int cc)]) hx hb dM_act_105 hl (by decide) rfl (fun ls hl => ?_)
    refine lv_aload_n hx hb dM_act_107 rfl (lv_at hl 3 rfl) ?_
    refine lv_iload hx hb dM_act_108 (lv_at hl 0 rfl) ?_
    refine lv_if_ne (tgt := 117) hx hb dM_act_110 rfl (fun h9 => absurd (by decide) h9) (fun _ => ?_)
    refine lv_iconst (v := 1) hx hb dM_act_113 (by decide) ?_
    refine lv_goto (tgt := 118) hx hb dM_act_114 rfl ?_
    refine lv_iload hx hb dM_act_118 (lv_at hl 0 rfl) ?_
    refine lv_if_eq (tgt := 156) hx hb dM_act_120 rfl (fun _ => ?_) (fun h9 => absurd (by decide) h9)
    refine lv_iconst (v := 0) hx hb dM_act_156 (by decide) ?_
    refine er_calli (va_runV (As := [.int 1, .int 0]) (rest := []) ⟨hx, hb, hml, hown, hts⟩ (r_refuses_a l D T X L tg _ hE A 0) (cwV 2 hts gM_152 rfl rfl rfl (by decide +kernel) ⟨Nat.le_of_ble_eq_true rfl, Nat.le_of_ble_eq_true rfl⟩) (er_preV hK hV hi0 (cR_0 _ _ _) rfl) rfl rfl hl.1 rfl (lv_room (Nat.le_of_ble_eq_true rfl)) dM_act_157 ⟨Nat.le_of_ble_eq_true rfl, Nat.le_of_ble_eq_true rfl⟩) hV hS hA (fun r u H locs hp hV hS => ?_)
    obtain ⟨rfl, rfl⟩ := hp
    refine lv_if_eq (tgt := 165) hx hb dM_act_160 rfl (fun h9 => absurd h9 (by decide)) (fun _ => ?_)
    refine lv_iconst (v := 0) hx hb dM_act_163 (by decide) ?_
    exact er_iret hx hb hr hlocks hV hS dM_act_164 ⟨Eq.symm (by unfold s_act_x2; simp only [if_neg h1]), Eq.symm (by unfold s_act_x2; simp only [if_neg h1])⟩

def s_act_x3 (A : ew_R) (b : Nat) (ln : Nat) (cc : Int32) (nl : Nat) (rq : Nat) : Int32 × ew_R :=
  if A 22 0 ((6 * ln) + b) = 0 then
    (0, up3 A 0 0 0 1)
  else
    (0, up3 A 0 0 0 1)
set_option maxHeartbeats 4000000 in
set_option maxRecDepth 100000 in
theorem r_act_x3 (l : Launch) (D : va_G) (T : Nat → ClassId) (X : Nat → Nat → Nat) (L : List Nat) (tg : Nat → Nat × Nat) (sz : Nat) (hE : eR_E X L tg) (A : ew_R) (b : Nat) (ln : Nat) (cc : Int32) (nl : Nat) (rq : Nat) (hb6 : b < 6) (hnl : ln < nl) (hn2 : nl ≤ 32) (q2 : A 0 0 2 = nI nl) (hrq : rq < 6) (q11 : A 11 0 ln = nI rq) (hbr : ¬ b = rq) : Met l yM_act wsM_act ({ frames := 5, cells := 0, slots := 0, locals := 114 }) (er_Pc D vwCl (tysA T) (cfR T) X L tg A sz [.ref (X 0 0), .int (nI b), .int (nI ln), .int 3, .int cc]) (er_Qi D vwCl (cfR T) X L tg sz (fun r u => r = (s_act_x3 A b ln cc nl rq).1 ∧ u = (s_act_x3 A b ln cc nl rq).2)) 0 0 (ew_A L sz) := by
  refine er_met (by decide) rfl (Nat.le_of_ble_eq_true rfl) ?_
  intro p e s m below meth c ls hx hb hr hts hown hlocks hml hV hK hS hA hl hsz
  subst hsz
  have hi0 := hE 0 (by decide)
  have hl : lv_has ls 8 [(0, .ref (X 0 0)), (1, .int (nI b)), (2, .int (nI ln)), (3, .int 3), (4, .int cc)] := hl
  refine lv_aload_n hx hb dM_act_0 rfl (lv_at hl 0 rfl) ?_
  refine lv_iload_n hx hb dM_act_1 rfl (lv_at hl 2 rfl) ?_
  refine er_calli (va_runV (As := [.int (nI ln)]) (rest := []) ⟨hx, hb, hml, hown, hts⟩ (r_isLoan l D T X L tg _ hE A (nI ln)) (cwV 1 hts gM_172 rfl rfl rfl (by decide +kernel) ⟨Nat.le_of_ble_eq_true rfl, Nat.le_of_ble_eq_true rfl⟩) (er_preV hK hV hi0 (cR_0 _ _ _) rfl) rfl rfl hl.1 rfl (lv_room (Nat.le_of_ble_eq_true rfl)) dM_act_2 ⟨Nat.le_of_ble_eq_true rfl, Nat.le_of_ble_eq_true rfl⟩) hV hS hA (fun r u H locs hp hV hS => ?_)
  obtain ⟨rfl, eu9⟩ := hp
  rw [eu9] at hV
  refine lv_toe (y := 1) (s_isLoan_1 q2 hnl hn2) ?_
  refine lv_if_eq (tgt := 29) hx hb dM_act_5 rfl (fun h9 => absurd h9 (by decide)) (fun _ => ?_)
  refine lv_iload_n hx hb dM_act_8 rfl (lv_at hl 1 rfl) ?_
  refine er_calli (va_runS (As := [.int (nI b)]) (rest := []) ⟨hx, hb, hml, hown, hts⟩ (r_isLibrary l D T X L tg _ hE A (nI b)) (cwS 1 hts gM_142 rfl rfl rfl (by decide +kernel) ⟨Nat.le_of_ble_eq_true rfl, Nat.le_of_ble_eq_true rfl⟩) (er_preS hK hV) rfl rfl hl.1 rfl (lv_room (Nat.le_of_ble_eq_true rfl)) dM_act_9 ⟨Nat.le_of_ble_eq_true rfl, Nat.le_of_ble_eq_true rfl⟩) hV hS hA (fun r u H locs hp hV hS => ?_)
  obtain ⟨rfl, eu9⟩ := hp
  rw [eu9] at hV
  refine lv_toe (y := 1) (s_isLibrary_1 hb6) ?_
  refine lv_if_eq (tgt := 29) hx hb dM_act_12 rfl (fun h9 => absurd h9 (by decide)) (fun _ => ?_)
  refine lv_iload_n hx hb dM_act_15 rfl (lv_at hl 1 rfl) ?_
  refine lv_aload_n hx hb dM_act_16 rfl (lv_at hl 0 rfl) ?_
  refine ew_get (v := .ref (X 11 0)) hx hb hts hown hK hV fM_25 hi0 (cR_0 _ _ _) rfl dM_act_17 ?_
  refine lv_iload_n hx hb dM_act_20 rfl (lv_at hl 2 rfl) ?_
  refine ew_iald (v := A 11 0 ln) hx hb hK hV (hE 11 (by decide)) (cR_11 _ _ _) 0 rfl (vp_in_nI (by omega) (by decide)) (er_ix (by omega) rfl) dM_act_21 ?_
  refine lv_toe (y := nI rq) q11 ?_
  refine lv_icmp_ne (tgt := 29) hx hb dM_act_22 rfl (fun _ => ?_) (fun h9 => absurd h9 (fun z9 => hbr ((nI_eq (a := b) (b := rq) (by omega) (by omega)).mp z9)))
  refine lv_iconst (v := 0) hx hb dM_act_29 (by decide) ?_
  refine lv_istore (lv' := [(5, .int 0), (0, .ref (X 0 0)), (1, .int (nI b)), (2, .int (nI ln)), (3, .int 3), (4, .int cc)]) hx hb dM_act_30 hl (by decide) rfl (fun ls hl => ?_)
  refine lv_aload_n hx hb dM_act_32 rfl (lv_at hl 1 rfl) ?_
  refine lv_iload_n hx hb dM_act_33 rfl (lv_at hl 3 rfl) ?_
  refine er_calli (va_runV (As := [.int (nI ln)]) (rest := []) ⟨hx, hb, hml, hown, hts⟩ (r_isLoan l D T X L tg _ hE A (nI ln)) (cwV 1 hts gM_172 rfl rfl rfl (by decide +kernel) ⟨Nat.le_of_ble_eq_true rfl, Nat.le_of_ble_eq_true rfl⟩) (er_preV hK hV hi0 (cR_0 _ _ _) rfl) rfl rfl hl.1 rfl (lv_room (Nat.le_of_ble_eq_true rfl)) dM_act_34 ⟨Nat.le_of_ble_eq_true rfl, Nat.le_of_ble_eq_true rfl⟩) hV hS hA (fun r u H locs hp hV hS => ?_)
  obtain ⟨rfl, eu9⟩ := hp
  rw [eu9] at hV
  refine lv_toe (y := 1) (s_isLoan_1 q2 hnl hn2) ?_
  refine lv_if_eq (tgt := 65) hx hb dM_act_37 rfl (fun h9 => absurd h9 (by decide)) (fun _ => ?_)
  refine lv_iload_n hx hb dM_act_40 rfl (lv_at hl 2 rfl) ?_
  refine er_calli (va_runS (As := [.int (nI b)]) (rest := []) ⟨hx, hb, hml, hown, hts⟩ (r_isLibrary l D T X L tg _ hE A (nI b)) (cwS 1 hts gM_142 rfl rfl rfl (by decide +kernel) ⟨Nat.le_of_ble_eq_true rfl, Nat.le_of_ble_eq_true rfl⟩) (er_preS hK hV) rfl rfl hl.1 rfl (lv_room (Nat.le_of_ble_eq_true rfl)) dM_act_41 ⟨Nat.le_of_ble_eq_true rfl, Nat.le_of_ble_eq_true rfl⟩) hV hS hA (fun r u H locs hp hV hS => ?_)
  obtain ⟨rfl, eu9⟩ := hp
  rw [eu9] at hV
  refine lv_toe (y := 1) (s_isLibrary_1 hb6) ?_
  refine lv_if_eq (tgt := 65) hx hb dM_act_44 rfl (fun h9 => absurd h9 (by decide)) (fun _ => ?_)
  refine lv_aload_n hx hb dM_act_47 rfl (lv_at hl 1 rfl) ?_
  refine ew_get (v := .ref (X 22 0)) hx hb hts hown hK hV fM_58 hi0 (cR_0 _ _ _) rfl dM_act_48 ?_
  refine lv_bipush (v := 6) hx hb dM_act_51 (by decide) ?_
  refine lv_iload_n hx hb dM_act_53 rfl (lv_at hl 3 rfl) ?_
  refine lv_imul hx hb dM_act_54 ?_
  refine lv_toe (y := nI (6 * ln)) (pk_mul 6 ln) ?_
  refine lv_iload_n hx hb dM_act_55 rfl (lv_at hl 2 rfl) ?_
  refine lv_iadd hx hb dM_act_56 ?_
  refine lv_toe (y := nI ((6 * ln) + b)) (nI_add (6 * ln) b) ?_
  refine ew_zald (v := A 22 0 ((6 * ln) + b)) hx hb hK hV (hE 22 (by decide)) (cR_22 _ _ _) 1 rfl (vp_in_nI (by omega) (by decide)) (er_ix (by omega) rfl) dM_act_57 ?_
  refine lv_if_eq (tgt := 65) hx hb dM_act_58 rfl (fun h1 => ?_) (fun h1 => ?_)
  · refine lv_iconst (v := 0) hx hb dM_act_65 (by decide) ?_
    refine lv_istore (lv' := [(6, .int 0), (5, .int 0), (0, .ref (X 0 0)), (1, .int (nI b)), (2, .int (nI ln)), (3, .int 3), (4, .int cc)]) hx hb dM_act_66 hl (by decide) rfl (fun ls hl => ?_)
    refine lv_iload_n hx hb dM_act_68 rfl (lv_at hl 5 rfl) ?_
    refine lv_if_lt (tgt := 83) hx hb dM_act_69 rfl (fun h9 => absurd h9 (by decide)) (fun _ => ?_)
    refine lv_iload_n hx hb dM_act_72 rfl (lv_at hl 5 rfl) ?_
    refine lv_bipush (v := 7) hx hb dM_act_73 (by decide) ?_
    refine lv_icmp_ge (tgt := 83) hx hb dM_act_75 rfl (fun h9 => absurd h9 (by decide)) (fun _ => ?_)
    refine lv_iload hx hb dM_act_78 (lv_at hl 1 rfl) ?_
    refine lv_if_ne (tgt := 100) hx hb dM_act_80 rfl (fun h9 => absurd (by decide) h9) (fun _ => ?_)
    refine lv_iload_n hx hb dM_act_83 rfl (lv_at hl 5 rfl) ?_
    refine lv_bipush (v := 6) hx hb dM_act_84 (by decide) ?_
    refine lv_icmp_le (tgt := 104) hx hb dM_act_86 rfl (fun _ => ?_) (fun h9 => absurd (by decide) h9)
    refine lv_iconst (v := 0) hx hb dM_act_104 (by decide) ?_
    refine lv_istore (lv' := [(7, .int 0), (6, .int 0), (5, .int 0), (0, .ref (X 0 0)), (1, .int (nI b)), (2, .int (nI ln)), (3, .int 3), (4, .int cc)]) hx hb dM_act_105 hl (by decide) rfl (fun ls hl => ?_)
    refine lv_aload_n hx hb dM_act_107 rfl (lv_at hl 3 rfl) ?_
    refine lv_iload hx hb dM_act_108 (lv_at hl 0 rfl) ?_
    refine lv_if_ne (tgt := 117) hx hb dM_act_110 rfl (fun h9 => absurd (by decide) h9) (fun _ => ?_)
    refine lv_iconst (v := 1) hx hb dM_act_113 (by decide) ?_
    refine lv_goto (tgt := 118) hx hb dM_act_114 rfl ?_
    refine lv_iload hx hb dM_act_118 (lv_at hl 0 rfl) ?_
    refine lv_if_eq (tgt := 156) hx hb dM_act_120 rfl (fun _ => ?_) (fun h9 => absurd (by decide) h9)
    refine lv_iconst (v := 0) hx hb dM_act_156 (by decide) ?_
    refine er_calli (va_runV (As := [.int 1, .int 0]) (rest := []) ⟨hx, hb, hml, hown, hts⟩ (r_refuses_a l D T X L tg _ hE A 0) (cwV 2 hts gM_152 rfl rfl rfl (by decide +kernel) ⟨Nat.le_of_ble_eq_true rfl, Nat.le_of_ble_eq_true rfl⟩) (er_preV hK hV hi0 (cR_0 _ _ _) rfl) rfl rfl hl.1 rfl (lv_room (Nat.le_of_ble_eq_true rfl)) dM_act_157 ⟨Nat.le_of_ble_eq_true rfl, Nat.le_of_ble_eq_true rfl⟩) hV hS hA (fun r u H locs hp hV hS => ?_)
    obtain ⟨rfl, rfl⟩ := hp
    refine lv_if_eq (tgt := 165) hx hb dM_act_160 rfl (fun h9 => absurd h9 (by decide)) (fun _ => ?_)
    refine lv_iconst (v := 0) hx hb dM_act_163 (by decide) ?_
    exact er_iret hx hb hr hlocks hV hS dM_act_164 ⟨Eq.symm (by unfold s_act_x3; simp only [if_pos h1]), Eq.symm (by unfold s_act_x3; simp only [if_pos h1])⟩
  · refine lv_iconst (v := 1) hx hb dM_act_61 (by decide) ?_
    refine lv_goto (tgt := 66) hx hb dM_act_62 rfl ?_
    refine lv_istore (lv' := [(6, .int 1), (5, .int 0), (0, .ref (X 0 0)), (1, .int (nI b)), (2, .int (nI ln)), (3, .int 3), (4, .int cc)]) hx hb dM_act_66 hl (by decide) rfl (fun ls hl => ?_)
    refine lv_iload_n hx hb dM_act_68 rfl (lv_at hl 5 rfl) ?_
    refine lv_if_lt (tgt := 83) hx hb dM_act_69 rfl (fun h9 => absurd h9 (by decide)) (fun _ => ?_)
    refine lv_iload_n hx hb dM_act_72 rfl (lv_at hl 5 rfl) ?_
    refine lv_bipush (v := 7) hx hb dM_act_73 (by decide) ?_
    refine lv_icmp_ge (tgt := 83) hx hb dM_act_75 rfl (fun h9 => absurd h9 (by decide)) (fun _ => ?_)
    refine lv_iload hx hb dM_act_78 (lv_at hl 1 rfl) ?_
    refine lv_if_ne (tgt := 100) hx hb dM_act_80 rfl (fun h9 => absurd (by decide) h9) (fun _ => ?_)
    refine lv_iload_n hx hb dM_act_83 rfl (lv_at hl 5 rfl) ?_
    refine lv_bipush (v := 6) hx hb dM_act_84 (by decide) ?_
    refine lv_icmp_le (tgt := 104) hx hb dM_act_86 rfl (fun _ => ?_) (fun h9 => absurd (by decide) h9)
    refine lv_iconst (v := 0) hx hb dM_act_104 (by decide) ?_
    refine lv_istore (lv' := [(7, .int 0), (6, .int 1), (5, .int 0), (0, .ref (X 0 0)), (1, .int (nI b)), (2, .int (nI ln)), (3, .int 3), (4, .int cc)]) hx hb dM_act_105 hl (by decide) rfl (fun ls hl => ?_)
    refine lv_aload_n hx hb dM_act_107 rfl (lv_at hl 3 rfl) ?_
    refine lv_iload hx hb dM_act_108 (lv_at hl 0 rfl) ?_
    refine lv_if_ne (tgt := 117) hx hb dM_act_110 rfl (fun h9 => absurd (by decide) h9) (fun _ => ?_)
    refine lv_iconst (v := 1) hx hb dM_act_113 (by decide) ?_
    refine lv_goto (tgt := 118) hx hb dM_act_114 rfl ?_
    refine lv_iload hx hb dM_act_118 (lv_at hl 0 rfl) ?_
    refine lv_if_eq (tgt := 156) hx hb dM_act_120 rfl (fun _ => ?_) (fun h9 => absurd (by decide) h9)
    refine lv_iconst (v := 0) hx hb dM_act_156 (by decide) ?_
    refine er_calli (va_runV (As := [.int 1, .int 0]) (rest := []) ⟨hx, hb, hml, hown, hts⟩ (r_refuses_a l D T X L tg _ hE A 0) (cwV 2 hts gM_152 rfl rfl rfl (by decide +kernel) ⟨Nat.le_of_ble_eq_true rfl, Nat.le_of_ble_eq_true rfl⟩) (er_preV hK hV hi0 (cR_0 _ _ _) rfl) rfl rfl hl.1 rfl (lv_room (Nat.le_of_ble_eq_true rfl)) dM_act_157 ⟨Nat.le_of_ble_eq_true rfl, Nat.le_of_ble_eq_true rfl⟩) hV hS hA (fun r u H locs hp hV hS => ?_)
    obtain ⟨rfl, rfl⟩ := hp
    refine lv_if_eq (tgt := 165) hx hb dM_act_160 rfl (fun h9 => absurd h9 (by decide)) (fun _ => ?_)
    refine lv_iconst (v := 0) hx hb dM_act_163 (by decide) ?_
    exact er_iret hx hb hr hlocks hV hS dM_act_164 ⟨Eq.symm (by unfold s_act_x3; simp only [if_neg h1]), Eq.symm (by unfold s_act_x3; simp only [if_neg h1])⟩

def s_act_x4 (A : ew_R) (b : Nat) (ln : Nat) (cc : Int32) (nl : Nat) (rq : Nat) : Int32 × ew_R :=
  if A 22 0 ((6 * ln) + b) = 0 then
    (0, up3 A 0 0 0 1)
  else
    (0, up3 A 0 0 0 1)
set_option maxHeartbeats 4000000 in
set_option maxRecDepth 100000 in
theorem r_act_x4 (l : Launch) (D : va_G) (T : Nat → ClassId) (X : Nat → Nat → Nat) (L : List Nat) (tg : Nat → Nat × Nat) (sz : Nat) (hE : eR_E X L tg) (A : ew_R) (b : Nat) (ln : Nat) (cc : Int32) (nl : Nat) (rq : Nat) (hb6 : b < 6) (hnl : ln < nl) (hn2 : nl ≤ 32) (q2 : A 0 0 2 = nI nl) (hrq : rq < 6) (q11 : A 11 0 ln = nI rq) (hbr : ¬ b = rq) : Met l yM_act wsM_act ({ frames := 5, cells := 0, slots := 0, locals := 114 }) (er_Pc D vwCl (tysA T) (cfR T) X L tg A sz [.ref (X 0 0), .int (nI b), .int (nI ln), .int 4, .int cc]) (er_Qi D vwCl (cfR T) X L tg sz (fun r u => r = (s_act_x4 A b ln cc nl rq).1 ∧ u = (s_act_x4 A b ln cc nl rq).2)) 0 0 (ew_A L sz) := by
  refine er_met (by decide) rfl (Nat.le_of_ble_eq_true rfl) ?_
  intro p e s m below meth c ls hx hb hr hts hown hlocks hml hV hK hS hA hl hsz
  subst hsz
  have hi0 := hE 0 (by decide)
  have hl : lv_has ls 8 [(0, .ref (X 0 0)), (1, .int (nI b)), (2, .int (nI ln)), (3, .int 4), (4, .int cc)] := hl
  refine lv_aload_n hx hb dM_act_0 rfl (lv_at hl 0 rfl) ?_
  refine lv_iload_n hx hb dM_act_1 rfl (lv_at hl 2 rfl) ?_
  refine er_calli (va_runV (As := [.int (nI ln)]) (rest := []) ⟨hx, hb, hml, hown, hts⟩ (r_isLoan l D T X L tg _ hE A (nI ln)) (cwV 1 hts gM_172 rfl rfl rfl (by decide +kernel) ⟨Nat.le_of_ble_eq_true rfl, Nat.le_of_ble_eq_true rfl⟩) (er_preV hK hV hi0 (cR_0 _ _ _) rfl) rfl rfl hl.1 rfl (lv_room (Nat.le_of_ble_eq_true rfl)) dM_act_2 ⟨Nat.le_of_ble_eq_true rfl, Nat.le_of_ble_eq_true rfl⟩) hV hS hA (fun r u H locs hp hV hS => ?_)
  obtain ⟨rfl, eu9⟩ := hp
  rw [eu9] at hV
  refine lv_toe (y := 1) (s_isLoan_1 q2 hnl hn2) ?_
  refine lv_if_eq (tgt := 29) hx hb dM_act_5 rfl (fun h9 => absurd h9 (by decide)) (fun _ => ?_)
  refine lv_iload_n hx hb dM_act_8 rfl (lv_at hl 1 rfl) ?_
  refine er_calli (va_runS (As := [.int (nI b)]) (rest := []) ⟨hx, hb, hml, hown, hts⟩ (r_isLibrary l D T X L tg _ hE A (nI b)) (cwS 1 hts gM_142 rfl rfl rfl (by decide +kernel) ⟨Nat.le_of_ble_eq_true rfl, Nat.le_of_ble_eq_true rfl⟩) (er_preS hK hV) rfl rfl hl.1 rfl (lv_room (Nat.le_of_ble_eq_true rfl)) dM_act_9 ⟨Nat.le_of_ble_eq_true rfl, Nat.le_of_ble_eq_true rfl⟩) hV hS hA (fun r u H locs hp hV hS => ?_)
  obtain ⟨rfl, eu9⟩ := hp
  rw [eu9] at hV
  refine lv_toe (y := 1) (s_isLibrary_1 hb6) ?_
  refine lv_if_eq (tgt := 29) hx hb dM_act_12 rfl (fun h9 => absurd h9 (by decide)) (fun _ => ?_)
  refine lv_iload_n hx hb dM_act_15 rfl (lv_at hl 1 rfl) ?_
  refine lv_aload_n hx hb dM_act_16 rfl (lv_at hl 0 rfl) ?_
  refine ew_get (v := .ref (X 11 0)) hx hb hts hown hK hV fM_25 hi0 (cR_0 _ _ _) rfl dM_act_17 ?_
  refine lv_iload_n hx hb dM_act_20 rfl (lv_at hl 2 rfl) ?_
  refine ew_iald (v := A 11 0 ln) hx hb hK hV (hE 11 (by decide)) (cR_11 _ _ _) 0 rfl (vp_in_nI (by omega) (by decide)) (er_ix (by omega) rfl) dM_act_21 ?_
  refine lv_toe (y := nI rq) q11 ?_
  refine lv_icmp_ne (tgt := 29) hx hb dM_act_22 rfl (fun _ => ?_) (fun h9 => absurd h9 (fun z9 => hbr ((nI_eq (a := b) (b := rq) (by omega) (by omega)).mp z9)))
  refine lv_iconst (v := 0) hx hb dM_act_29 (by decide) ?_
  refine lv_istore (lv' := [(5, .int 0), (0, .ref (X 0 0)), (1, .int (nI b)), (2, .int (nI ln)), (3, .int 4), (4, .int cc)]) hx hb dM_act_30 hl (by decide) rfl (fun ls hl => ?_)
  refine lv_aload_n hx hb dM_act_32 rfl (lv_at hl 1 rfl) ?_
  refine lv_iload_n hx hb dM_act_33 rfl (lv_at hl 3 rfl) ?_
  refine er_calli (va_runV (As := [.int (nI ln)]) (rest := []) ⟨hx, hb, hml, hown, hts⟩ (r_isLoan l D T X L tg _ hE A (nI ln)) (cwV 1 hts gM_172 rfl rfl rfl (by decide +kernel) ⟨Nat.le_of_ble_eq_true rfl, Nat.le_of_ble_eq_true rfl⟩) (er_preV hK hV hi0 (cR_0 _ _ _) rfl) rfl rfl hl.1 rfl (lv_room (Nat.le_of_ble_eq_true rfl)) dM_act_34 ⟨Nat.le_of_ble_eq_true rfl, Nat.le_of_ble_eq_true rfl⟩) hV hS hA (fun r u H locs hp hV hS => ?_)
  obtain ⟨rfl, eu9⟩ := hp
  rw [eu9] at hV
  refine lv_toe (y := 1) (s_isLoan_1 q2 hnl hn2) ?_
  refine lv_if_eq (tgt := 65) hx hb dM_act_37 rfl (fun h9 => absurd h9 (by decide)) (fun _ => ?_)
  refine lv_iload_n hx hb dM_act_40 rfl (lv_at hl 2 rfl) ?_
  refine er_calli (va_runS (As := [.int (nI b)]) (rest := []) ⟨hx, hb, hml, hown, hts⟩ (r_isLibrary l D T X L tg _ hE A (nI b)) (cwS 1 hts gM_142 rfl rfl rfl (by decide +kernel) ⟨Nat.le_of_ble_eq_true rfl, Nat.le_of_ble_eq_true rfl⟩) (er_preS hK hV) rfl rfl hl.1 rfl (lv_room (Nat.le_of_ble_eq_true rfl)) dM_act_41 ⟨Nat.le_of_ble_eq_true rfl, Nat.le_of_ble_eq_true rfl⟩) hV hS hA (fun r u H locs hp hV hS => ?_)
  obtain ⟨rfl, eu9⟩ := hp
  rw [eu9] at hV
  refine lv_toe (y := 1) (s_isLibrary_1 hb6) ?_
  refine lv_if_eq (tgt := 65) hx hb dM_act_44 rfl (fun h9 => absurd h9 (by decide)) (fun _ => ?_)
  refine lv_aload_n hx hb dM_act_47 rfl (lv_at hl 1 rfl) ?_
  refine ew_get (v := .ref (X 22 0)) hx hb hts hown hK hV fM_58 hi0 (cR_0 _ _ _) rfl dM_act_48 ?_
  refine lv_bipush (v := 6) hx hb dM_act_51 (by decide) ?_
  refine lv_iload_n hx hb dM_act_53 rfl (lv_at hl 3 rfl) ?_
  refine lv_imul hx hb dM_act_54 ?_
  refine lv_toe (y := nI (6 * ln)) (pk_mul 6 ln) ?_
  refine lv_iload_n hx hb dM_act_55 rfl (lv_at hl 2 rfl) ?_
  refine lv_iadd hx hb dM_act_56 ?_
  refine lv_toe (y := nI ((6 * ln) + b)) (nI_add (6 * ln) b) ?_
  refine ew_zald (v := A 22 0 ((6 * ln) + b)) hx hb hK hV (hE 22 (by decide)) (cR_22 _ _ _) 1 rfl (vp_in_nI (by omega) (by decide)) (er_ix (by omega) rfl) dM_act_57 ?_
  refine lv_if_eq (tgt := 65) hx hb dM_act_58 rfl (fun h1 => ?_) (fun h1 => ?_)
  · refine lv_iconst (v := 0) hx hb dM_act_65 (by decide) ?_
    refine lv_istore (lv' := [(6, .int 0), (5, .int 0), (0, .ref (X 0 0)), (1, .int (nI b)), (2, .int (nI ln)), (3, .int 4), (4, .int cc)]) hx hb dM_act_66 hl (by decide) rfl (fun ls hl => ?_)
    refine lv_iload_n hx hb dM_act_68 rfl (lv_at hl 5 rfl) ?_
    refine lv_if_lt (tgt := 83) hx hb dM_act_69 rfl (fun h9 => absurd h9 (by decide)) (fun _ => ?_)
    refine lv_iload_n hx hb dM_act_72 rfl (lv_at hl 5 rfl) ?_
    refine lv_bipush (v := 7) hx hb dM_act_73 (by decide) ?_
    refine lv_icmp_ge (tgt := 83) hx hb dM_act_75 rfl (fun h9 => absurd h9 (by decide)) (fun _ => ?_)
    refine lv_iload hx hb dM_act_78 (lv_at hl 1 rfl) ?_
    refine lv_if_ne (tgt := 100) hx hb dM_act_80 rfl (fun h9 => absurd (by decide) h9) (fun _ => ?_)
    refine lv_iload_n hx hb dM_act_83 rfl (lv_at hl 5 rfl) ?_
    refine lv_bipush (v := 6) hx hb dM_act_84 (by decide) ?_
    refine lv_icmp_le (tgt := 104) hx hb dM_act_86 rfl (fun _ => ?_) (fun h9 => absurd (by decide) h9)
    refine lv_iconst (v := 0) hx hb dM_act_104 (by decide) ?_
    refine lv_istore (lv' := [(7, .int 0), (6, .int 0), (5, .int 0), (0, .ref (X 0 0)), (1, .int (nI b)), (2, .int (nI ln)), (3, .int 4), (4, .int cc)]) hx hb dM_act_105 hl (by decide) rfl (fun ls hl => ?_)
    refine lv_aload_n hx hb dM_act_107 rfl (lv_at hl 3 rfl) ?_
    refine lv_iload hx hb dM_act_108 (lv_at hl 0 rfl) ?_
    refine lv_if_ne (tgt := 117) hx hb dM_act_110 rfl (fun h9 => absurd (by decide) h9) (fun _ => ?_)
    refine lv_iconst (v := 1) hx hb dM_act_113 (by decide) ?_
    refine lv_goto (tgt := 118) hx hb dM_act_114 rfl ?_
    refine lv_iload hx hb dM_act_118 (lv_at hl 0 rfl) ?_
    refine lv_if_eq (tgt := 156) hx hb dM_act_120 rfl (fun _ => ?_) (fun h9 => absurd (by decide) h9)
    refine lv_iconst (v := 0) hx hb dM_act_156 (by decide) ?_
    refine er_calli (va_runV (As := [.int 1, .int 0]) (rest := []) ⟨hx, hb, hml, hown, hts⟩ (r_refuses_a l D T X L tg _ hE A 0) (cwV 2 hts gM_152 rfl rfl rfl (by decide +kernel) ⟨Nat.le_of_ble_eq_true rfl, Nat.le_of_ble_eq_true rfl⟩) (er_preV hK hV hi0 (cR_0 _ _ _) rfl) rfl rfl hl.1 rfl (lv_room (Nat.le_of_ble_eq_true rfl)) dM_act_157 ⟨Nat.le_of_ble_eq_true rfl, Nat.le_of_ble_eq_true rfl⟩) hV hS hA (fun r u H locs hp hV hS => ?_)
    obtain ⟨rfl, rfl⟩ := hp
    refine lv_if_eq (tgt := 165) hx hb dM_act_160 rfl (fun h9 => absurd h9 (by decide)) (fun _ => ?_)
    refine lv_iconst (v := 0) hx hb dM_act_163 (by decide) ?_
    exact er_iret hx hb hr hlocks hV hS dM_act_164 ⟨Eq.symm (by unfold s_act_x4; simp only [if_pos h1]), Eq.symm (by unfold s_act_x4; simp only [if_pos h1])⟩
  · refine lv_iconst (v := 1) hx hb dM_act_61 (by decide) ?_
    refine lv_goto (tgt := 66) hx hb dM_act_62 rfl ?_
    refine lv_istore (lv' := [(6, .int 1), (5, .int 0), (0, .ref (X 0 0)), (1, .int (nI b)), (2, .int (nI ln)), (3, .int 4), (4, .int cc)]) hx hb dM_act_66 hl (by decide) rfl (fun ls hl => ?_)
    refine lv_iload_n hx hb dM_act_68 rfl (lv_at hl 5 rfl) ?_
    refine lv_if_lt (tgt := 83) hx hb dM_act_69 rfl (fun h9 => absurd h9 (by decide)) (fun _ => ?_)
    refine lv_iload_n hx hb dM_act_72 rfl (lv_at hl 5 rfl) ?_
    refine lv_bipush (v := 7) hx hb dM_act_73 (by decide) ?_
    refine lv_icmp_ge (tgt := 83) hx hb dM_act_75 rfl (fun h9 => absurd h9 (by decide)) (fun _ => ?_)
    refine lv_iload hx hb dM_act_78 (lv_at hl 1 rfl) ?_
    refine lv_if_ne (tgt := 100) hx hb dM_act_80 rfl (fun h9 => absurd (by decide) h9) (fun _ => ?_)
    refine lv_iload_n hx hb dM_act_83 rfl (lv_at hl 5 rfl) ?_
    refine lv_bipush (v := 6) hx hb dM_act_84 (by decide) ?_
    refine lv_icmp_le (tgt := 104) hx hb dM_act_86 rfl (fun _ => ?_) (fun h9 => absurd (by decide) h9)
    refine lv_iconst (v := 0) hx hb dM_act_104 (by decide) ?_
    refine lv_istore (lv' := [(7, .int 0), (6, .int 1), (5, .int 0), (0, .ref (X 0 0)), (1, .int (nI b)), (2, .int (nI ln)), (3, .int 4), (4, .int cc)]) hx hb dM_act_105 hl (by decide) rfl (fun ls hl => ?_)
    refine lv_aload_n hx hb dM_act_107 rfl (lv_at hl 3 rfl) ?_
    refine lv_iload hx hb dM_act_108 (lv_at hl 0 rfl) ?_
    refine lv_if_ne (tgt := 117) hx hb dM_act_110 rfl (fun h9 => absurd (by decide) h9) (fun _ => ?_)
    refine lv_iconst (v := 1) hx hb dM_act_113 (by decide) ?_
    refine lv_goto (tgt := 118) hx hb dM_act_114 rfl ?_
    refine lv_iload hx hb dM_act_118 (lv_at hl 0 rfl) ?_
    refine lv_if_eq (tgt := 156) hx hb dM_act_120 rfl (fun _ => ?_) (fun h9 => absurd (by decide) h9)
    refine lv_iconst (v := 0) hx hb dM_act_156 (by decide) ?_
    refine er_calli (va_runV (As := [.int 1, .int 0]) (rest := []) ⟨hx, hb, hml, hown, hts⟩ (r_refuses_a l D T X L tg _ hE A 0) (cwV 2 hts gM_152 rfl rfl rfl (by decide +kernel) ⟨Nat.le_of_ble_eq_true rfl, Nat.le_of_ble_eq_true rfl⟩) (er_preV hK hV hi0 (cR_0 _ _ _) rfl) rfl rfl hl.1 rfl (lv_room (Nat.le_of_ble_eq_true rfl)) dM_act_157 ⟨Nat.le_of_ble_eq_true rfl, Nat.le_of_ble_eq_true rfl⟩) hV hS hA (fun r u H locs hp hV hS => ?_)
    obtain ⟨rfl, rfl⟩ := hp
    refine lv_if_eq (tgt := 165) hx hb dM_act_160 rfl (fun h9 => absurd h9 (by decide)) (fun _ => ?_)
    refine lv_iconst (v := 0) hx hb dM_act_163 (by decide) ?_
    exact er_iret hx hb hr hlocks hV hS dM_act_164 ⟨Eq.symm (by unfold s_act_x4; simp only [if_neg h1]), Eq.symm (by unfold s_act_x4; simp only [if_neg h1])⟩

def s_act_x5 (A : ew_R) (b : Nat) (ln : Nat) (cc : Int32) (nl : Nat) (rq : Nat) : Int32 × ew_R :=
  if A 22 0 ((6 * ln) + b) = 0 then
    (0, up3 A 0 0 0 1)
  else
    (0, up3 A 0 0 0 1)
set_option maxHeartbeats 4000000 in
set_option maxRecDepth 100000 in
theorem r_act_x5 (l : Launch) (D : va_G) (T : Nat → ClassId) (X : Nat → Nat → Nat) (L : List Nat) (tg : Nat → Nat × Nat) (sz : Nat) (hE : eR_E X L tg) (A : ew_R) (b : Nat) (ln : Nat) (cc : Int32) (nl : Nat) (rq : Nat) (hb6 : b < 6) (hnl : ln < nl) (hn2 : nl ≤ 32) (q2 : A 0 0 2 = nI nl) (hrq : rq < 6) (q11 : A 11 0 ln = nI rq) (hbr : ¬ b = rq) : Met l yM_act wsM_act ({ frames := 5, cells := 0, slots := 0, locals := 114 }) (er_Pc D vwCl (tysA T) (cfR T) X L tg A sz [.ref (X 0 0), .int (nI b), .int (nI ln), .int 5, .int cc]) (er_Qi D vwCl (cfR T) X L tg sz (fun r u => r = (s_act_x5 A b ln cc nl rq).1 ∧ u = (s_act_x5 A b ln cc nl rq).2)) 0 0 (ew_A L sz) := by
  refine er_met (by decide) rfl (Nat.le_of_ble_eq_true rfl) ?_
  intro p e s m below meth c ls hx hb hr hts hown hlocks hml hV hK hS hA hl hsz
  subst hsz
  have hi0 := hE 0 (by decide)
  have hl : lv_has ls 8 [(0, .ref (X 0 0)), (1, .int (nI b)), (2, .int (nI ln)), (3, .int 5), (4, .int cc)] := hl
  refine lv_aload_n hx hb dM_act_0 rfl (lv_at hl 0 rfl) ?_
  refine lv_iload_n hx hb dM_act_1 rfl (lv_at hl 2 rfl) ?_
  refine er_calli (va_runV (As := [.int (nI ln)]) (rest := []) ⟨hx, hb, hml, hown, hts⟩ (r_isLoan l D T X L tg _ hE A (nI ln)) (cwV 1 hts gM_172 rfl rfl rfl (by decide +kernel) ⟨Nat.le_of_ble_eq_true rfl, Nat.le_of_ble_eq_true rfl⟩) (er_preV hK hV hi0 (cR_0 _ _ _) rfl) rfl rfl hl.1 rfl (lv_room (Nat.le_of_ble_eq_true rfl)) dM_act_2 ⟨Nat.le_of_ble_eq_true rfl, Nat.le_of_ble_eq_true rfl⟩) hV hS hA (fun r u H locs hp hV hS => ?_)
  obtain ⟨rfl, eu9⟩ := hp
  rw [eu9] at hV
  refine lv_toe (y := 1) (s_isLoan_1 q2 hnl hn2) ?_
  refine lv_if_eq (tgt := 29) hx hb dM_act_5 rfl (fun h9 => absurd h9 (by decide)) (fun _ => ?_)
  refine lv_iload_n hx hb dM_act_8 rfl (lv_at hl 1 rfl) ?_
  refine er_calli (va_runS (As := [.int (nI b)]) (rest := []) ⟨hx, hb, hml, hown, hts⟩ (r_isLibrary l D T X L tg _ hE A (nI b)) (cwS 1 hts gM_142 rfl rfl rfl (by decide +kernel) ⟨Nat.le_of_ble_eq_true rfl, Nat.le_of_ble_eq_true rfl⟩) (er_preS hK hV) rfl rfl hl.1 rfl (lv_room (Nat.le_of_ble_eq_true rfl)) dM_act_9 ⟨Nat.le_of_ble_eq_true rfl, Nat.le_of_ble_eq_true rfl⟩) hV hS hA (fun r u H locs hp hV hS => ?_)
  obtain ⟨rfl, eu9⟩ := hp
  rw [eu9] at hV
  refine lv_toe (y := 1) (s_isLibrary_1 hb6) ?_
  refine lv_if_eq (tgt := 29) hx hb dM_act_12 rfl (fun h9 => absurd h9 (by decide)) (fun _ => ?_)
  refine lv_iload_n hx hb dM_act_15 rfl (lv_at hl 1 rfl) ?_
  refine lv_aload_n hx hb dM_act_16 rfl (lv_at hl 0 rfl) ?_
  refine ew_get (v := .ref (X 11 0)) hx hb hts hown hK hV fM_25 hi0 (cR_0 _ _ _) rfl dM_act_17 ?_
  refine lv_iload_n hx hb dM_act_20 rfl (lv_at hl 2 rfl) ?_
  refine ew_iald (v := A 11 0 ln) hx hb hK hV (hE 11 (by decide)) (cR_11 _ _ _) 0 rfl (vp_in_nI (by omega) (by decide)) (er_ix (by omega) rfl) dM_act_21 ?_
  refine lv_toe (y := nI rq) q11 ?_
  refine lv_icmp_ne (tgt := 29) hx hb dM_act_22 rfl (fun _ => ?_) (fun h9 => absurd h9 (fun z9 => hbr ((nI_eq (a := b) (b := rq) (by omega) (by omega)).mp z9)))
  refine lv_iconst (v := 0) hx hb dM_act_29 (by decide) ?_
  refine lv_istore (lv' := [(5, .int 0), (0, .ref (X 0 0)), (1, .int (nI b)), (2, .int (nI ln)), (3, .int 5), (4, .int cc)]) hx hb dM_act_30 hl (by decide) rfl (fun ls hl => ?_)
  refine lv_aload_n hx hb dM_act_32 rfl (lv_at hl 1 rfl) ?_
  refine lv_iload_n hx hb dM_act_33 rfl (lv_at hl 3 rfl) ?_
  refine er_calli (va_runV (As := [.int (nI ln)]) (rest := []) ⟨hx, hb, hml, hown, hts⟩ (r_isLoan l D T X L tg _ hE A (nI ln)) (cwV 1 hts gM_172 rfl rfl rfl (by decide +kernel) ⟨Nat.le_of_ble_eq_true rfl, Nat.le_of_ble_eq_true rfl⟩) (er_preV hK hV hi0 (cR_0 _ _ _) rfl) rfl rfl hl.1 rfl (lv_room (Nat.le_of_ble_eq_true rfl)) dM_act_34 ⟨Nat.le_of_ble_eq_true rfl, Nat.le_of_ble_eq_true rfl⟩) hV hS hA (fun r u H locs hp hV hS => ?_)
  obtain ⟨rfl, eu9⟩ := hp
  rw [eu9] at hV
  refine lv_toe (y := 1) (s_isLoan_1 q2 hnl hn2) ?_
  refine lv_if_eq (tgt := 65) hx hb dM_act_37 rfl (fun h9 => absurd h9 (by decide)) (fun _ => ?_)
  refine lv_iload_n hx hb dM_act_40 rfl (lv_at hl 2 rfl) ?_
  refine er_calli (va_runS (As := [.int (nI b)]) (rest := []) ⟨hx, hb, hml, hown, hts⟩ (r_isLibrary l D T X L tg _ hE A (nI b)) (cwS 1 hts gM_142 rfl rfl rfl (by decide +kernel) ⟨Nat.le_of_ble_eq_true rfl, Nat.le_of_ble_eq_true rfl⟩) (er_preS hK hV) rfl rfl hl.1 rfl (lv_room (Nat.le_of_ble_eq_true rfl)) dM_act_41 ⟨Nat.le_of_ble_eq_true rfl, Nat.le_of_ble_eq_true rfl⟩) hV hS hA (fun r u H locs hp hV hS => ?_)
  obtain ⟨rfl, eu9⟩ := hp
  rw [eu9] at hV
  refine lv_toe (y := 1) (s_isLibrary_1 hb6) ?_
  refine lv_if_eq (tgt := 65) hx hb dM_act_44 rfl (fun h9 => absurd h9 (by decide)) (fun _ => ?_)
  refine lv_aload_n hx hb dM_act_47 rfl (lv_at hl 1 rfl) ?_
  refine ew_get (v := .ref (X 22 0)) hx hb hts hown hK hV fM_58 hi0 (cR_0 _ _ _) rfl dM_act_48 ?_
  refine lv_bipush (v := 6) hx hb dM_act_51 (by decide) ?_
  refine lv_iload_n hx hb dM_act_53 rfl (lv_at hl 3 rfl) ?_
  refine lv_imul hx hb dM_act_54 ?_
  refine lv_toe (y := nI (6 * ln)) (pk_mul 6 ln) ?_
  refine lv_iload_n hx hb dM_act_55 rfl (lv_at hl 2 rfl) ?_
  refine lv_iadd hx hb dM_act_56 ?_
  refine lv_toe (y := nI ((6 * ln) + b)) (nI_add (6 * ln) b) ?_
  refine ew_zald (v := A 22 0 ((6 * ln) + b)) hx hb hK hV (hE 22 (by decide)) (cR_22 _ _ _) 1 rfl (vp_in_nI (by omega) (by decide)) (er_ix (by omega) rfl) dM_act_57 ?_
  refine lv_if_eq (tgt := 65) hx hb dM_act_58 rfl (fun h1 => ?_) (fun h1 => ?_)
  · refine lv_iconst (v := 0) hx hb dM_act_65 (by decide) ?_
    refine lv_istore (lv' := [(6, .int 0), (5, .int 0), (0, .ref (X 0 0)), (1, .int (nI b)), (2, .int (nI ln)), (3, .int 5), (4, .int cc)]) hx hb dM_act_66 hl (by decide) rfl (fun ls hl => ?_)
    refine lv_iload_n hx hb dM_act_68 rfl (lv_at hl 5 rfl) ?_
    refine lv_if_lt (tgt := 83) hx hb dM_act_69 rfl (fun h9 => absurd h9 (by decide)) (fun _ => ?_)
    refine lv_iload_n hx hb dM_act_72 rfl (lv_at hl 5 rfl) ?_
    refine lv_bipush (v := 7) hx hb dM_act_73 (by decide) ?_
    refine lv_icmp_ge (tgt := 83) hx hb dM_act_75 rfl (fun h9 => absurd h9 (by decide)) (fun _ => ?_)
    refine lv_iload hx hb dM_act_78 (lv_at hl 1 rfl) ?_
    refine lv_if_ne (tgt := 100) hx hb dM_act_80 rfl (fun h9 => absurd (by decide) h9) (fun _ => ?_)
    refine lv_iload_n hx hb dM_act_83 rfl (lv_at hl 5 rfl) ?_
    refine lv_bipush (v := 6) hx hb dM_act_84 (by decide) ?_
    refine lv_icmp_le (tgt := 104) hx hb dM_act_86 rfl (fun _ => ?_) (fun h9 => absurd (by decide) h9)
    refine lv_iconst (v := 0) hx hb dM_act_104 (by decide) ?_
    refine lv_istore (lv' := [(7, .int 0), (6, .int 0), (5, .int 0), (0, .ref (X 0 0)), (1, .int (nI b)), (2, .int (nI ln)), (3, .int 5), (4, .int cc)]) hx hb dM_act_105 hl (by decide) rfl (fun ls hl => ?_)
    refine lv_aload_n hx hb dM_act_107 rfl (lv_at hl 3 rfl) ?_
    refine lv_iload hx hb dM_act_108 (lv_at hl 0 rfl) ?_
    refine lv_if_ne (tgt := 117) hx hb dM_act_110 rfl (fun h9 => absurd (by decide) h9) (fun _ => ?_)
    refine lv_iconst (v := 1) hx hb dM_act_113 (by decide) ?_
    refine lv_goto (tgt := 118) hx hb dM_act_114 rfl ?_
    refine lv_iload hx hb dM_act_118 (lv_at hl 0 rfl) ?_
    refine lv_if_eq (tgt := 156) hx hb dM_act_120 rfl (fun _ => ?_) (fun h9 => absurd (by decide) h9)
    refine lv_iconst (v := 0) hx hb dM_act_156 (by decide) ?_
    refine er_calli (va_runV (As := [.int 1, .int 0]) (rest := []) ⟨hx, hb, hml, hown, hts⟩ (r_refuses_a l D T X L tg _ hE A 0) (cwV 2 hts gM_152 rfl rfl rfl (by decide +kernel) ⟨Nat.le_of_ble_eq_true rfl, Nat.le_of_ble_eq_true rfl⟩) (er_preV hK hV hi0 (cR_0 _ _ _) rfl) rfl rfl hl.1 rfl (lv_room (Nat.le_of_ble_eq_true rfl)) dM_act_157 ⟨Nat.le_of_ble_eq_true rfl, Nat.le_of_ble_eq_true rfl⟩) hV hS hA (fun r u H locs hp hV hS => ?_)
    obtain ⟨rfl, rfl⟩ := hp
    refine lv_if_eq (tgt := 165) hx hb dM_act_160 rfl (fun h9 => absurd h9 (by decide)) (fun _ => ?_)
    refine lv_iconst (v := 0) hx hb dM_act_163 (by decide) ?_
    exact er_iret hx hb hr hlocks hV hS dM_act_164 ⟨Eq.symm (by unfold s_act_x5; simp only [if_pos h1]), Eq.symm (by unfold s_act_x5; simp only [if_pos h1])⟩
  · refine lv_iconst (v := 1) hx hb dM_act_61 (by decide) ?_
    refine lv_goto (tgt := 66) hx hb dM_act_62 rfl ?_
    refine lv_istore (lv' := [(6, .int 1), (5, .int 0), (0, .ref (X 0 0)), (1, .int (nI b)), (2, .int (nI ln)), (3, .int 5), (4, .int cc)]) hx hb dM_act_66 hl (by decide) rfl (fun ls hl => ?_)
    refine lv_iload_n hx hb dM_act_68 rfl (lv_at hl 5 rfl) ?_
    refine lv_if_lt (tgt := 83) hx hb dM_act_69 rfl (fun h9 => absurd h9 (by decide)) (fun _ => ?_)
    refine lv_iload_n hx hb dM_act_72 rfl (lv_at hl 5 rfl) ?_
    refine lv_bipush (v := 7) hx hb dM_act_73 (by decide) ?_
    refine lv_icmp_ge (tgt := 83) hx hb dM_act_75 rfl (fun h9 => absurd h9 (by decide)) (fun _ => ?_)
    refine lv_iload hx hb dM_act_78 (lv_at hl 1 rfl) ?_
    refine lv_if_ne (tgt := 100) hx hb dM_act_80 rfl (fun h9 => absurd (by decide) h9) (fun _ => ?_)
    refine lv_iload_n hx hb dM_act_83 rfl (lv_at hl 5 rfl) ?_
    refine lv_bipush (v := 6) hx hb dM_act_84 (by decide) ?_
    refine lv_icmp_le (tgt := 104) hx hb dM_act_86 rfl (fun _ => ?_) (fun h9 => absurd (by decide) h9)
    refine lv_iconst (v := 0) hx hb dM_act_104 (by decide) ?_
    refine lv_istore (lv' := [(7, .int 0), (6, .int 1), (5, .int 0), (0, .ref (X 0 0)), (1, .int (nI b)), (2, .int (nI ln)), (3, .int 5), (4, .int cc)]) hx hb dM_act_105 hl (by decide) rfl (fun ls hl => ?_)
    refine lv_aload_n hx hb dM_act_107 rfl (lv_at hl 3 rfl) ?_
    refine lv_iload hx hb dM_act_108 (lv_at hl 0 rfl) ?_
    refine lv_if_ne (tgt := 117) hx hb dM_act_110 rfl (fun h9 => absurd (by decide) h9) (fun _ => ?_)
    refine lv_iconst (v := 1) hx hb dM_act_113 (by decide) ?_
    refine lv_goto (tgt := 118) hx hb dM_act_114 rfl ?_
    refine lv_iload hx hb dM_act_118 (lv_at hl 0 rfl) ?_
    refine lv_if_eq (tgt := 156) hx hb dM_act_120 rfl (fun _ => ?_) (fun h9 => absurd (by decide) h9)
    refine lv_iconst (v := 0) hx hb dM_act_156 (by decide) ?_
    refine er_calli (va_runV (As := [.int 1, .int 0]) (rest := []) ⟨hx, hb, hml, hown, hts⟩ (r_refuses_a l D T X L tg _ hE A 0) (cwV 2 hts gM_152 rfl rfl rfl (by decide +kernel) ⟨Nat.le_of_ble_eq_true rfl, Nat.le_of_ble_eq_true rfl⟩) (er_preV hK hV hi0 (cR_0 _ _ _) rfl) rfl rfl hl.1 rfl (lv_room (Nat.le_of_ble_eq_true rfl)) dM_act_157 ⟨Nat.le_of_ble_eq_true rfl, Nat.le_of_ble_eq_true rfl⟩) hV hS hA (fun r u H locs hp hV hS => ?_)
    obtain ⟨rfl, rfl⟩ := hp
    refine lv_if_eq (tgt := 165) hx hb dM_act_160 rfl (fun h9 => absurd h9 (by decide)) (fun _ => ?_)
    refine lv_iconst (v := 0) hx hb dM_act_163 (by decide) ?_
    exact er_iret hx hb hr hlocks hV hS dM_act_164 ⟨Eq.symm (by unfold s_act_x5; simp only [if_neg h1]), Eq.symm (by unfold s_act_x5; simp only [if_neg h1])⟩

def s_act_x6 (A : ew_R) (b : Nat) (ln : Nat) (cc : Int32) (nl : Nat) (rq : Nat) : Int32 × ew_R :=
  if A 22 0 ((6 * ln) + b) = 0 then
    (0, up3 A 0 0 0 1)
  else
    (0, up3 A 0 0 0 1)
set_option maxHeartbeats 4000000 in
set_option maxRecDepth 100000 in
theorem r_act_x6 (l : Launch) (D : va_G) (T : Nat → ClassId) (X : Nat → Nat → Nat) (L : List Nat) (tg : Nat → Nat × Nat) (sz : Nat) (hE : eR_E X L tg) (A : ew_R) (b : Nat) (ln : Nat) (cc : Int32) (nl : Nat) (rq : Nat) (hb6 : b < 6) (hnl : ln < nl) (hn2 : nl ≤ 32) (q2 : A 0 0 2 = nI nl) (hrq : rq < 6) (q11 : A 11 0 ln = nI rq) (hbr : ¬ b = rq) : Met l yM_act wsM_act ({ frames := 5, cells := 0, slots := 0, locals := 114 }) (er_Pc D vwCl (tysA T) (cfR T) X L tg A sz [.ref (X 0 0), .int (nI b), .int (nI ln), .int 6, .int cc]) (er_Qi D vwCl (cfR T) X L tg sz (fun r u => r = (s_act_x6 A b ln cc nl rq).1 ∧ u = (s_act_x6 A b ln cc nl rq).2)) 0 0 (ew_A L sz) := by
  refine er_met (by decide) rfl (Nat.le_of_ble_eq_true rfl) ?_
  intro p e s m below meth c ls hx hb hr hts hown hlocks hml hV hK hS hA hl hsz
  subst hsz
  have hi0 := hE 0 (by decide)
  have hl : lv_has ls 8 [(0, .ref (X 0 0)), (1, .int (nI b)), (2, .int (nI ln)), (3, .int 6), (4, .int cc)] := hl
  refine lv_aload_n hx hb dM_act_0 rfl (lv_at hl 0 rfl) ?_
  refine lv_iload_n hx hb dM_act_1 rfl (lv_at hl 2 rfl) ?_
  refine er_calli (va_runV (As := [.int (nI ln)]) (rest := []) ⟨hx, hb, hml, hown, hts⟩ (r_isLoan l D T X L tg _ hE A (nI ln)) (cwV 1 hts gM_172 rfl rfl rfl (by decide +kernel) ⟨Nat.le_of_ble_eq_true rfl, Nat.le_of_ble_eq_true rfl⟩) (er_preV hK hV hi0 (cR_0 _ _ _) rfl) rfl rfl hl.1 rfl (lv_room (Nat.le_of_ble_eq_true rfl)) dM_act_2 ⟨Nat.le_of_ble_eq_true rfl, Nat.le_of_ble_eq_true rfl⟩) hV hS hA (fun r u H locs hp hV hS => ?_)
  obtain ⟨rfl, eu9⟩ := hp
  rw [eu9] at hV
  refine lv_toe (y := 1) (s_isLoan_1 q2 hnl hn2) ?_
  refine lv_if_eq (tgt := 29) hx hb dM_act_5 rfl (fun h9 => absurd h9 (by decide)) (fun _ => ?_)
  refine lv_iload_n hx hb dM_act_8 rfl (lv_at hl 1 rfl) ?_
  refine er_calli (va_runS (As := [.int (nI b)]) (rest := []) ⟨hx, hb, hml, hown, hts⟩ (r_isLibrary l D T X L tg _ hE A (nI b)) (cwS 1 hts gM_142 rfl rfl rfl (by decide +kernel) ⟨Nat.le_of_ble_eq_true rfl, Nat.le_of_ble_eq_true rfl⟩) (er_preS hK hV) rfl rfl hl.1 rfl (lv_room (Nat.le_of_ble_eq_true rfl)) dM_act_9 ⟨Nat.le_of_ble_eq_true rfl, Nat.le_of_ble_eq_true rfl⟩) hV hS hA (fun r u H locs hp hV hS => ?_)
  obtain ⟨rfl, eu9⟩ := hp
  rw [eu9] at hV
  refine lv_toe (y := 1) (s_isLibrary_1 hb6) ?_
  refine lv_if_eq (tgt := 29) hx hb dM_act_12 rfl (fun h9 => absurd h9 (by decide)) (fun _ => ?_)
  refine lv_iload_n hx hb dM_act_15 rfl (lv_at hl 1 rfl) ?_
  refine lv_aload_n hx hb dM_act_16 rfl (lv_at hl 0 rfl) ?_
  refine ew_get (v := .ref (X 11 0)) hx hb hts hown hK hV fM_25 hi0 (cR_0 _ _ _) rfl dM_act_17 ?_
  refine lv_iload_n hx hb dM_act_20 rfl (lv_at hl 2 rfl) ?_
  refine ew_iald (v := A 11 0 ln) hx hb hK hV (hE 11 (by decide)) (cR_11 _ _ _) 0 rfl (vp_in_nI (by omega) (by decide)) (er_ix (by omega) rfl) dM_act_21 ?_
  refine lv_toe (y := nI rq) q11 ?_
  refine lv_icmp_ne (tgt := 29) hx hb dM_act_22 rfl (fun _ => ?_) (fun h9 => absurd h9 (fun z9 => hbr ((nI_eq (a := b) (b := rq) (by omega) (by omega)).mp z9)))
  refine lv_iconst (v := 0) hx hb dM_act_29 (by decide) ?_
  refine lv_istore (lv' := [(5, .int 0), (0, .ref (X 0 0)), (1, .int (nI b)), (2, .int (nI ln)), (3, .int 6), (4, .int cc)]) hx hb dM_act_30 hl (by decide) rfl (fun ls hl => ?_)
  refine lv_aload_n hx hb dM_act_32 rfl (lv_at hl 1 rfl) ?_
  refine lv_iload_n hx hb dM_act_33 rfl (lv_at hl 3 rfl) ?_
  refine er_calli (va_runV (As := [.int (nI ln)]) (rest := []) ⟨hx, hb, hml, hown, hts⟩ (r_isLoan l D T X L tg _ hE A (nI ln)) (cwV 1 hts gM_172 rfl rfl rfl (by decide +kernel) ⟨Nat.le_of_ble_eq_true rfl, Nat.le_of_ble_eq_true rfl⟩) (er_preV hK hV hi0 (cR_0 _ _ _) rfl) rfl rfl hl.1 rfl (lv_room (Nat.le_of_ble_eq_true rfl)) dM_act_34 ⟨Nat.le_of_ble_eq_true rfl, Nat.le_of_ble_eq_true rfl⟩) hV hS hA (fun r u H locs hp hV hS => ?_)
  obtain ⟨rfl, eu9⟩ := hp
  rw [eu9] at hV
  refine lv_toe (y := 1) (s_isLoan_1 q2 hnl hn2) ?_
  refine lv_if_eq (tgt := 65) hx hb dM_act_37 rfl (fun h9 => absurd h9 (by decide)) (fun _ => ?_)
  refine lv_iload_n hx hb dM_act_40 rfl (lv_at hl 2 rfl) ?_
  refine er_calli (va_runS (As := [.int (nI b)]) (rest := []) ⟨hx, hb, hml, hown, hts⟩ (r_isLibrary l D T X L tg _ hE A (nI b)) (cwS 1 hts gM_142 rfl rfl rfl (by decide +kernel) ⟨Nat.le_of_ble_eq_true rfl, Nat.le_of_ble_eq_true rfl⟩) (er_preS hK hV) rfl rfl hl.1 rfl (lv_room (Nat.le_of_ble_eq_true rfl)) dM_act_41 ⟨Nat.le_of_ble_eq_true rfl, Nat.le_of_ble_eq_true rfl⟩) hV hS hA (fun r u H locs hp hV hS => ?_)
  obtain ⟨rfl, eu9⟩ := hp
  rw [eu9] at hV
  refine lv_toe (y := 1) (s_isLibrary_1 hb6) ?_
  refine lv_if_eq (tgt := 65) hx hb dM_act_44 rfl (fun h9 => absurd h9 (by decide)) (fun _ => ?_)
  refine lv_aload_n hx hb dM_act_47 rfl (lv_at hl 1 rfl) ?_
  refine ew_get (v := .ref (X 22 0)) hx hb hts hown hK hV fM_58 hi0 (cR_0 _ _ _) rfl dM_act_48 ?_
  refine lv_bipush (v := 6) hx hb dM_act_51 (by decide) ?_
  refine lv_iload_n hx hb dM_act_53 rfl (lv_at hl 3 rfl) ?_
  refine lv_imul hx hb dM_act_54 ?_
  refine lv_toe (y := nI (6 * ln)) (pk_mul 6 ln) ?_
  refine lv_iload_n hx hb dM_act_55 rfl (lv_at hl 2 rfl) ?_
  refine lv_iadd hx hb dM_act_56 ?_
  refine lv_toe (y := nI ((6 * ln) + b)) (nI_add (6 * ln) b) ?_
  refine ew_zald (v := A 22 0 ((6 * ln) + b)) hx hb hK hV (hE 22 (by decide)) (cR_22 _ _ _) 1 rfl (vp_in_nI (by omega) (by decide)) (er_ix (by omega) rfl) dM_act_57 ?_
  refine lv_if_eq (tgt := 65) hx hb dM_act_58 rfl (fun h1 => ?_) (fun h1 => ?_)
  · refine lv_iconst (v := 0) hx hb dM_act_65 (by decide) ?_
    refine lv_istore (lv' := [(6, .int 0), (5, .int 0), (0, .ref (X 0 0)), (1, .int (nI b)), (2, .int (nI ln)), (3, .int 6), (4, .int cc)]) hx hb dM_act_66 hl (by decide) rfl (fun ls hl => ?_)
    refine lv_iload_n hx hb dM_act_68 rfl (lv_at hl 5 rfl) ?_
    refine lv_if_lt (tgt := 83) hx hb dM_act_69 rfl (fun h9 => absurd h9 (by decide)) (fun _ => ?_)
    refine lv_iload_n hx hb dM_act_72 rfl (lv_at hl 5 rfl) ?_
    refine lv_bipush (v := 7) hx hb dM_act_73 (by decide) ?_
    refine lv_icmp_ge (tgt := 83) hx hb dM_act_75 rfl (fun h9 => absurd h9 (by decide)) (fun _ => ?_)
    refine lv_iload hx hb dM_act_78 (lv_at hl 1 rfl) ?_
    refine lv_if_ne (tgt := 100) hx hb dM_act_80 rfl (fun h9 => absurd (by decide) h9) (fun _ => ?_)
    refine lv_iload_n hx hb dM_act_83 rfl (lv_at hl 5 rfl) ?_
    refine lv_bipush (v := 6) hx hb dM_act_84 (by decide) ?_
    refine lv_icmp_le (tgt := 104) hx hb dM_act_86 rfl (fun _ => ?_) (fun h9 => absurd (by decide) h9)
    refine lv_iconst (v := 0) hx hb dM_act_104 (by decide) ?_
    refine lv_istore (lv' := [(7, .int 0), (6, .int 0), (5, .int 0), (0, .ref (X 0 0)), (1, .int (nI b)), (2, .int (nI ln)), (3, .int 6), (4, .int cc)]) hx hb dM_act_105 hl (by decide) rfl (fun ls hl => ?_)
    refine lv_aload_n hx hb dM_act_107 rfl (lv_at hl 3 rfl) ?_
    refine lv_iload hx hb dM_act_108 (lv_at hl 0 rfl) ?_
    refine lv_if_ne (tgt := 117) hx hb dM_act_110 rfl (fun h9 => absurd (by decide) h9) (fun _ => ?_)
    refine lv_iconst (v := 1) hx hb dM_act_113 (by decide) ?_
    refine lv_goto (tgt := 118) hx hb dM_act_114 rfl ?_
    refine lv_iload hx hb dM_act_118 (lv_at hl 0 rfl) ?_
    refine lv_if_eq (tgt := 156) hx hb dM_act_120 rfl (fun _ => ?_) (fun h9 => absurd (by decide) h9)
    refine lv_iconst (v := 0) hx hb dM_act_156 (by decide) ?_
    refine er_calli (va_runV (As := [.int 1, .int 0]) (rest := []) ⟨hx, hb, hml, hown, hts⟩ (r_refuses_a l D T X L tg _ hE A 0) (cwV 2 hts gM_152 rfl rfl rfl (by decide +kernel) ⟨Nat.le_of_ble_eq_true rfl, Nat.le_of_ble_eq_true rfl⟩) (er_preV hK hV hi0 (cR_0 _ _ _) rfl) rfl rfl hl.1 rfl (lv_room (Nat.le_of_ble_eq_true rfl)) dM_act_157 ⟨Nat.le_of_ble_eq_true rfl, Nat.le_of_ble_eq_true rfl⟩) hV hS hA (fun r u H locs hp hV hS => ?_)
    obtain ⟨rfl, rfl⟩ := hp
    refine lv_if_eq (tgt := 165) hx hb dM_act_160 rfl (fun h9 => absurd h9 (by decide)) (fun _ => ?_)
    refine lv_iconst (v := 0) hx hb dM_act_163 (by decide) ?_
    exact er_iret hx hb hr hlocks hV hS dM_act_164 ⟨Eq.symm (by unfold s_act_x6; simp only [if_pos h1]), Eq.symm (by unfold s_act_x6; simp only [if_pos h1])⟩
  · refine lv_iconst (v := 1) hx hb dM_act_61 (by decide) ?_
    refine lv_goto (tgt := 66) hx hb dM_act_62 rfl ?_
    refine lv_istore (lv' := [(6, .int 1), (5, .int 0), (0, .ref (X 0 0)), (1, .int (nI b)), (2, .int (nI ln)), (3, .int 6), (4, .int cc)]) hx hb dM_act_66 hl (by decide) rfl (fun ls hl => ?_)
    refine lv_iload_n hx hb dM_act_68 rfl (lv_at hl 5 rfl) ?_
    refine lv_if_lt (tgt := 83) hx hb dM_act_69 rfl (fun h9 => absurd h9 (by decide)) (fun _ => ?_)
    refine lv_iload_n hx hb dM_act_72 rfl (lv_at hl 5 rfl) ?_
    refine lv_bipush (v := 7) hx hb dM_act_73 (by decide) ?_
    refine lv_icmp_ge (tgt := 83) hx hb dM_act_75 rfl (fun h9 => absurd h9 (by decide)) (fun _ => ?_)
    refine lv_iload hx hb dM_act_78 (lv_at hl 1 rfl) ?_
    refine lv_if_ne (tgt := 100) hx hb dM_act_80 rfl (fun h9 => absurd (by decide) h9) (fun _ => ?_)
    refine lv_iload_n hx hb dM_act_83 rfl (lv_at hl 5 rfl) ?_
    refine lv_bipush (v := 6) hx hb dM_act_84 (by decide) ?_
    refine lv_icmp_le (tgt := 104) hx hb dM_act_86 rfl (fun _ => ?_) (fun h9 => absurd (by decide) h9)
    refine lv_iconst (v := 0) hx hb dM_act_104 (by decide) ?_
    refine lv_istore (lv' := [(7, .int 0), (6, .int 1), (5, .int 0), (0, .ref (X 0 0)), (1, .int (nI b)), (2, .int (nI ln)), (3, .int 6), (4, .int cc)]) hx hb dM_act_105 hl (by decide) rfl (fun ls hl => ?_)
    refine lv_aload_n hx hb dM_act_107 rfl (lv_at hl 3 rfl) ?_
    refine lv_iload hx hb dM_act_108 (lv_at hl 0 rfl) ?_
    refine lv_if_ne (tgt := 117) hx hb dM_act_110 rfl (fun h9 => absurd (by decide) h9) (fun _ => ?_)
    refine lv_iconst (v := 1) hx hb dM_act_113 (by decide) ?_
    refine lv_goto (tgt := 118) hx hb dM_act_114 rfl ?_
    refine lv_iload hx hb dM_act_118 (lv_at hl 0 rfl) ?_
    refine lv_if_eq (tgt := 156) hx hb dM_act_120 rfl (fun _ => ?_) (fun h9 => absurd (by decide) h9)
    refine lv_iconst (v := 0) hx hb dM_act_156 (by decide) ?_
    refine er_calli (va_runV (As := [.int 1, .int 0]) (rest := []) ⟨hx, hb, hml, hown, hts⟩ (r_refuses_a l D T X L tg _ hE A 0) (cwV 2 hts gM_152 rfl rfl rfl (by decide +kernel) ⟨Nat.le_of_ble_eq_true rfl, Nat.le_of_ble_eq_true rfl⟩) (er_preV hK hV hi0 (cR_0 _ _ _) rfl) rfl rfl hl.1 rfl (lv_room (Nat.le_of_ble_eq_true rfl)) dM_act_157 ⟨Nat.le_of_ble_eq_true rfl, Nat.le_of_ble_eq_true rfl⟩) hV hS hA (fun r u H locs hp hV hS => ?_)
    obtain ⟨rfl, rfl⟩ := hp
    refine lv_if_eq (tgt := 165) hx hb dM_act_160 rfl (fun h9 => absurd h9 (by decide)) (fun _ => ?_)
    refine lv_iconst (v := 0) hx hb dM_act_163 (by decide) ?_
    exact er_iret hx hb hr hlocks hV hS dM_act_164 ⟨Eq.symm (by unfold s_act_x6; simp only [if_neg h1]), Eq.symm (by unfold s_act_x6; simp only [if_neg h1])⟩

def s_act_0 (A : ew_R) (rq : Nat) (ln : Nat) (cc : Int32) (nl : Nat) (pk : Nat) (w : Nat) (lg : Nat) : Int32 × ew_R :=
  if s_mayRequester_0 A ln = 0 then
    (0, up3 A 0 0 0 2)
  else
    ((s_stepRequester_0 (up3 A 0 0 0 0) ln pk w lg) 18 0 ln, (s_stepRequester_0 (up3 A 0 0 0 0) ln pk w lg))
set_option maxHeartbeats 4000000 in
set_option maxRecDepth 100000 in
theorem r_act_0 (l : Launch) (D : va_G) (T : Nat → ClassId) (X : Nat → Nat → Nat) (L : List Nat) (tg : Nat → Nat × Nat) (sz : Nat) (hE : eR_E X L tg) (A : ew_R) (rq : Nat) (ln : Nat) (cc : Int32) (nl : Nat) (pk : Nat) (w : Nat) (lg : Nat) (hnl : ln < nl) (hn2 : nl ≤ 32) (q2 : A 0 0 2 = nI nl) (hrq : rq < 6) (q11 : A 11 0 ln = nI rq) (q22 : A 22 0 (6 * ln + rq) = 0) (hpk : pk < 6) (q16 : A 16 0 ln = nI pk) (hw : w ≤ 64) (hq : A 0 0 4 = nI w) (hlg : lg < 3000) (hg : A 0 0 5 = nI lg) : Met l yM_act wsM_act ({ frames := 5, cells := 0, slots := 0, locals := 114 }) (er_Pc D vwCl (tysA T) (cfR T) X L tg A sz [.ref (X 0 0), .int (nI rq), .int (nI ln), .int 0, .int cc]) (er_Qi D vwCl (cfR T) X L tg sz (fun r u => r = (s_act_0 A rq ln cc nl pk w lg).1 ∧ u = (s_act_0 A rq ln cc nl pk w lg).2)) 0 0 (ew_A L sz) := by
  refine er_met (by decide) rfl (Nat.le_of_ble_eq_true rfl) ?_
  intro p e s m below meth c ls hx hb hr hts hown hlocks hml hV hK hS hA hl hsz
  subst hsz
  have hi0 := hE 0 (by decide)
  have hl : lv_has ls 8 [(0, .ref (X 0 0)), (1, .int (nI rq)), (2, .int (nI ln)), (3, .int 0), (4, .int cc)] := hl
  refine lv_aload_n hx hb dM_act_0 rfl (lv_at hl 0 rfl) ?_
  refine lv_iload_n hx hb dM_act_1 rfl (lv_at hl 2 rfl) ?_
  refine er_calli (va_runV (As := [.int (nI ln)]) (rest := []) ⟨hx, hb, hml, hown, hts⟩ (r_isLoan l D T X L tg _ hE A (nI ln)) (cwV 1 hts gM_172 rfl rfl rfl (by decide +kernel) ⟨Nat.le_of_ble_eq_true rfl, Nat.le_of_ble_eq_true rfl⟩) (er_preV hK hV hi0 (cR_0 _ _ _) rfl) rfl rfl hl.1 rfl (lv_room (Nat.le_of_ble_eq_true rfl)) dM_act_2 ⟨Nat.le_of_ble_eq_true rfl, Nat.le_of_ble_eq_true rfl⟩) hV hS hA (fun r u H locs hp hV hS => ?_)
  obtain ⟨rfl, eu9⟩ := hp
  rw [eu9] at hV
  refine lv_toe (y := 1) (s_isLoan_1 q2 hnl hn2) ?_
  refine lv_if_eq (tgt := 29) hx hb dM_act_5 rfl (fun h9 => absurd h9 (by decide)) (fun _ => ?_)
  refine lv_iload_n hx hb dM_act_8 rfl (lv_at hl 1 rfl) ?_
  refine er_calli (va_runS (As := [.int (nI rq)]) (rest := []) ⟨hx, hb, hml, hown, hts⟩ (r_isLibrary l D T X L tg _ hE A (nI rq)) (cwS 1 hts gM_142 rfl rfl rfl (by decide +kernel) ⟨Nat.le_of_ble_eq_true rfl, Nat.le_of_ble_eq_true rfl⟩) (er_preS hK hV) rfl rfl hl.1 rfl (lv_room (Nat.le_of_ble_eq_true rfl)) dM_act_9 ⟨Nat.le_of_ble_eq_true rfl, Nat.le_of_ble_eq_true rfl⟩) hV hS hA (fun r u H locs hp hV hS => ?_)
  obtain ⟨rfl, eu9⟩ := hp
  rw [eu9] at hV
  refine lv_toe (y := 1) (s_isLibrary_1 hrq) ?_
  refine lv_if_eq (tgt := 29) hx hb dM_act_12 rfl (fun h9 => absurd h9 (by decide)) (fun _ => ?_)
  refine lv_iload_n hx hb dM_act_15 rfl (lv_at hl 1 rfl) ?_
  refine lv_aload_n hx hb dM_act_16 rfl (lv_at hl 0 rfl) ?_
  refine ew_get (v := .ref (X 11 0)) hx hb hts hown hK hV fM_25 hi0 (cR_0 _ _ _) rfl dM_act_17 ?_
  refine lv_iload_n hx hb dM_act_20 rfl (lv_at hl 2 rfl) ?_
  refine ew_iald (v := A 11 0 ln) hx hb hK hV (hE 11 (by decide)) (cR_11 _ _ _) 0 rfl (vp_in_nI (by omega) (by decide)) (er_ix (by omega) rfl) dM_act_21 ?_
  refine lv_toe (y := nI rq) q11 ?_
  refine lv_icmp_ne (tgt := 29) hx hb dM_act_22 rfl (fun h9 => absurd ((nI_eq (a := rq) (b := rq) (by omega) (by omega)).mpr rfl) h9) (fun _ => ?_)
  refine lv_iconst (v := 1) hx hb dM_act_25 (by decide) ?_
  refine lv_goto (tgt := 30) hx hb dM_act_26 rfl ?_
  refine lv_istore (lv' := [(5, .int 1), (0, .ref (X 0 0)), (1, .int (nI rq)), (2, .int (nI ln)), (3, .int 0), (4, .int cc)]) hx hb dM_act_30 hl (by decide) rfl (fun ls hl => ?_)
  refine lv_aload_n hx hb dM_act_32 rfl (lv_at hl 1 rfl) ?_
  refine lv_iload_n hx hb dM_act_33 rfl (lv_at hl 3 rfl) ?_
  refine er_calli (va_runV (As := [.int (nI ln)]) (rest := []) ⟨hx, hb, hml, hown, hts⟩ (r_isLoan l D T X L tg _ hE A (nI ln)) (cwV 1 hts gM_172 rfl rfl rfl (by decide +kernel) ⟨Nat.le_of_ble_eq_true rfl, Nat.le_of_ble_eq_true rfl⟩) (er_preV hK hV hi0 (cR_0 _ _ _) rfl) rfl rfl hl.1 rfl (lv_room (Nat.le_of_ble_eq_true rfl)) dM_act_34 ⟨Nat.le_of_ble_eq_true rfl, Nat.le_of_ble_eq_true rfl⟩) hV hS hA (fun r u H locs hp hV hS => ?_)
  obtain ⟨rfl, eu9⟩ := hp
  rw [eu9] at hV
  refine lv_toe (y := 1) (s_isLoan_1 q2 hnl hn2) ?_
  refine lv_if_eq (tgt := 65) hx hb dM_act_37 rfl (fun h9 => absurd h9 (by decide)) (fun _ => ?_)
  refine lv_iload_n hx hb dM_act_40 rfl (lv_at hl 2 rfl) ?_
  refine er_calli (va_runS (As := [.int (nI rq)]) (rest := []) ⟨hx, hb, hml, hown, hts⟩ (r_isLibrary l D T X L tg _ hE A (nI rq)) (cwS 1 hts gM_142 rfl rfl rfl (by decide +kernel) ⟨Nat.le_of_ble_eq_true rfl, Nat.le_of_ble_eq_true rfl⟩) (er_preS hK hV) rfl rfl hl.1 rfl (lv_room (Nat.le_of_ble_eq_true rfl)) dM_act_41 ⟨Nat.le_of_ble_eq_true rfl, Nat.le_of_ble_eq_true rfl⟩) hV hS hA (fun r u H locs hp hV hS => ?_)
  obtain ⟨rfl, eu9⟩ := hp
  rw [eu9] at hV
  refine lv_toe (y := 1) (s_isLibrary_1 hrq) ?_
  refine lv_if_eq (tgt := 65) hx hb dM_act_44 rfl (fun h9 => absurd h9 (by decide)) (fun _ => ?_)
  refine lv_aload_n hx hb dM_act_47 rfl (lv_at hl 1 rfl) ?_
  refine ew_get (v := .ref (X 22 0)) hx hb hts hown hK hV fM_58 hi0 (cR_0 _ _ _) rfl dM_act_48 ?_
  refine lv_bipush (v := 6) hx hb dM_act_51 (by decide) ?_
  refine lv_iload_n hx hb dM_act_53 rfl (lv_at hl 3 rfl) ?_
  refine lv_imul hx hb dM_act_54 ?_
  refine lv_toe (y := nI (6 * ln)) (pk_mul 6 ln) ?_
  refine lv_iload_n hx hb dM_act_55 rfl (lv_at hl 2 rfl) ?_
  refine lv_iadd hx hb dM_act_56 ?_
  refine lv_toe (y := nI ((6 * ln) + rq)) (nI_add (6 * ln) rq) ?_
  refine ew_zald (v := A 22 0 ((6 * ln) + rq)) hx hb hK hV (hE 22 (by decide)) (cR_22 _ _ _) 1 rfl (vp_in_nI (by omega) (by decide)) (er_ix (by omega) rfl) dM_act_57 ?_
  refine lv_if_eq (tgt := 65) hx hb dM_act_58 rfl (fun _ => ?_) (fun h9 => absurd q22 h9)
  refine lv_iconst (v := 0) hx hb dM_act_65 (by decide) ?_
  refine lv_istore (lv' := [(6, .int 0), (5, .int 1), (0, .ref (X 0 0)), (1, .int (nI rq)), (2, .int (nI ln)), (3, .int 0), (4, .int cc)]) hx hb dM_act_66 hl (by decide) rfl (fun ls hl => ?_)
  refine lv_iload_n hx hb dM_act_68 rfl (lv_at hl 5 rfl) ?_
  refine lv_if_lt (tgt := 83) hx hb dM_act_69 rfl (fun h9 => absurd h9 (by decide)) (fun _ => ?_)
  refine lv_iload_n hx hb dM_act_72 rfl (lv_at hl 5 rfl) ?_
  refine lv_bipush (v := 7) hx hb dM_act_73 (by decide) ?_
  refine lv_icmp_ge (tgt := 83) hx hb dM_act_75 rfl (fun h9 => absurd h9 (by decide)) (fun _ => ?_)
  refine lv_iload hx hb dM_act_78 (lv_at hl 1 rfl) ?_
  refine lv_if_ne (tgt := 100) hx hb dM_act_80 rfl (fun _ => ?_) (fun h9 => absurd h9 (by decide))
  refine lv_iconst (v := 1) hx hb dM_act_100 (by decide) ?_
  refine lv_goto (tgt := 105) hx hb dM_act_101 rfl ?_
  refine lv_istore (lv' := [(7, .int 1), (6, .int 0), (5, .int 1), (0, .ref (X 0 0)), (1, .int (nI rq)), (2, .int (nI ln)), (3, .int 0), (4, .int cc)]) hx hb dM_act_105 hl (by decide) rfl (fun ls hl => ?_)
  refine lv_aload_n hx hb dM_act_107 rfl (lv_at hl 3 rfl) ?_
  refine lv_iload hx hb dM_act_108 (lv_at hl 0 rfl) ?_
  refine lv_if_ne (tgt := 117) hx hb dM_act_110 rfl (fun _ => ?_) (fun h9 => absurd h9 (by decide))
  refine lv_iconst (v := 0) hx hb dM_act_117 (by decide) ?_
  refine lv_iload hx hb dM_act_118 (lv_at hl 0 rfl) ?_
  refine lv_if_eq (tgt := 156) hx hb dM_act_120 rfl (fun h9 => absurd h9 (by decide)) (fun _ => ?_)
  refine lv_iload hx hb dM_act_123 (lv_at hl 2 rfl) ?_
  refine lv_if_eq (tgt := 140) hx hb dM_act_125 rfl (fun h9 => absurd h9 (by decide)) (fun _ => ?_)
  refine lv_aload_n hx hb dM_act_128 rfl (lv_at hl 3 rfl) ?_
  refine lv_iload_n hx hb dM_act_129 rfl (lv_at hl 5 rfl) ?_
  refine lv_iload_n hx hb dM_act_130 rfl (lv_at hl 6 rfl) ?_
  refine er_calli (va_runV (As := [.int (nI ln), .int 0]) (rest := [.int 0, .ref (X 0 0)]) ⟨hx, hb, hml, hown, hts⟩ (r_mayRequester_0 l D T X L tg _ hE A ln (by omega)) (cwV 2 hts gM_175 rfl rfl rfl (by decide +kernel) ⟨Nat.le_of_ble_eq_true rfl, Nat.le_of_ble_eq_true rfl⟩) (er_preV hK hV hi0 (cR_0 _ _ _) rfl) rfl rfl hl.1 rfl (lv_room (Nat.le_of_ble_eq_true rfl)) dM_act_131 ⟨Nat.le_of_ble_eq_true rfl, Nat.le_of_ble_eq_true rfl⟩) hV hS hA (fun r u H locs hp hV hS => ?_)
  obtain ⟨rfl, eu9⟩ := hp
  rw [eu9] at hV
  refine lv_if_ne (tgt := 156) hx hb dM_act_134 rfl (fun h1 => ?_) (fun h1 => ?_)
  · refine lv_iconst (v := 0) hx hb dM_act_156 (by decide) ?_
    refine er_calli (va_runV (As := [.int 0, .int 0]) (rest := []) ⟨hx, hb, hml, hown, hts⟩ (r_refuses_c l D T X L tg _ hE A) (cwV 2 hts gM_152 rfl rfl rfl (by decide +kernel) ⟨Nat.le_of_ble_eq_true rfl, Nat.le_of_ble_eq_true rfl⟩) (er_preV hK hV hi0 (cR_0 _ _ _) rfl) rfl rfl hl.1 rfl (lv_room (Nat.le_of_ble_eq_true rfl)) dM_act_157 ⟨Nat.le_of_ble_eq_true rfl, Nat.le_of_ble_eq_true rfl⟩) hV hS hA (fun r u H locs hp hV hS => ?_)
    obtain ⟨rfl, rfl⟩ := hp
    refine lv_if_eq (tgt := 165) hx hb dM_act_160 rfl (fun _ => ?_) (fun h9 => absurd (by decide) h9)
    refine lv_iload hx hb dM_act_165 (lv_at hl 2 rfl) ?_
    refine lv_if_eq (tgt := 179) hx hb dM_act_167 rfl (fun h9 => absurd h9 (by decide)) (fun _ => ?_)
    refine lv_aload_n hx hb dM_act_170 rfl (lv_at hl 3 rfl) ?_
    refine lv_iload_n hx hb dM_act_171 rfl (lv_at hl 5 rfl) ?_
    refine lv_iload_n hx hb dM_act_172 rfl (lv_at hl 6 rfl) ?_
    refine er_callv (va_runV (As := [.int (nI ln), .int 0]) (rest := []) ⟨hx, hb, hml, hown, hts⟩ (r_stepRequester_0 l D T X L tg _ hE (up3 A 0 0 0 0) ln pk w lg (by omega) hpk q16 hw hq hlg hg) (cwV 2 hts gM_183 rfl rfl rfl (by decide +kernel) ⟨Nat.le_of_ble_eq_true rfl, Nat.le_of_ble_eq_true rfl⟩) (er_preV hK hV hi0 (cR_0 _ _ _) rfl) rfl rfl hl.1 rfl (lv_room (Nat.le_of_ble_eq_true rfl)) dM_act_173 ⟨Nat.le_of_ble_eq_true rfl, Nat.le_of_ble_eq_true rfl⟩) hV hS hA (fun u2 H locs eu2 hV hS => ?_)
    have eu2 : u2 = s_stepRequester_0 (up3 A 0 0 0 0) ln pk w lg := eu2
    refine lv_goto (tgt := 188) hx hb dM_act_176 rfl ?_
    refine lv_iload hx hb dM_act_188 (lv_at hl 2 rfl) ?_
    refine lv_if_eq (tgt := 202) hx hb dM_act_190 rfl (fun h9 => absurd h9 (by decide)) (fun _ => ?_)
    refine lv_aload_n hx hb dM_act_193 rfl (lv_at hl 3 rfl) ?_
    refine ew_get (v := .ref (X 18 0)) hx hb hts hown hK hV fM_46 hi0 (cR_0 _ _ _) rfl dM_act_194 ?_
    refine lv_iload_n hx hb dM_act_197 rfl (lv_at hl 5 rfl) ?_
    refine ew_iald (v := u2 18 0 ln) hx hb hK hV (hE 18 (by decide)) (cR_18 _ _ _) 0 rfl (vp_in_nI (by omega) (by decide)) (er_ix (by omega) rfl) dM_act_198 ?_
    refine lv_goto (tgt := 213) hx hb dM_act_199 rfl ?_
    subst eu2
    exact er_iret hx hb hr hlocks hV hS dM_act_213 ⟨Eq.symm (by unfold s_act_0; simp only [if_neg h1]), Eq.symm (by unfold s_act_0; simp only [if_neg h1])⟩
  · refine lv_goto (tgt := 152) hx hb dM_act_137 rfl ?_
    refine lv_iconst (v := 1) hx hb dM_act_152 (by decide) ?_
    refine lv_goto (tgt := 157) hx hb dM_act_153 rfl ?_
    refine er_calli (va_runV (As := [.int 0, .int 1]) (rest := []) ⟨hx, hb, hml, hown, hts⟩ (r_refuses_b l D T X L tg _ hE A) (cwV 2 hts gM_152 rfl rfl rfl (by decide +kernel) ⟨Nat.le_of_ble_eq_true rfl, Nat.le_of_ble_eq_true rfl⟩) (er_preV hK hV hi0 (cR_0 _ _ _) rfl) rfl rfl hl.1 rfl (lv_room (Nat.le_of_ble_eq_true rfl)) dM_act_157 ⟨Nat.le_of_ble_eq_true rfl, Nat.le_of_ble_eq_true rfl⟩) hV hS hA (fun r u H locs hp hV hS => ?_)
    obtain ⟨rfl, rfl⟩ := hp
    refine lv_if_eq (tgt := 165) hx hb dM_act_160 rfl (fun h9 => absurd h9 (by decide)) (fun _ => ?_)
    refine lv_iconst (v := 0) hx hb dM_act_163 (by decide) ?_
    exact er_iret hx hb hr hlocks hV hS dM_act_164 ⟨Eq.symm (by unfold s_act_0; simp only [if_pos h1]), Eq.symm (by unfold s_act_0; simp only [if_pos h1])⟩

def s_act_1 (A : ew_R) (rq : Nat) (ln : Nat) (cc : Int32) (nl : Nat) (pk : Nat) (st : Nat) (ak : Nat) (w : Nat) (lg : Nat) : Int32 × ew_R :=
  if s_mayRequester_1 A ln = 0 then
    (0, up3 A 0 0 0 2)
  else
    ((s_stepRequester_1 (up3 A 0 0 0 0) ln pk st ak rq w lg) 18 0 ln, (s_stepRequester_1 (up3 A 0 0 0 0) ln pk st ak rq w lg))
set_option maxHeartbeats 4000000 in
set_option maxRecDepth 100000 in
theorem r_act_1 (l : Launch) (D : va_G) (T : Nat → ClassId) (X : Nat → Nat → Nat) (L : List Nat) (tg : Nat → Nat × Nat) (sz : Nat) (hE : eR_E X L tg) (A : ew_R) (rq : Nat) (ln : Nat) (cc : Int32) (nl : Nat) (pk : Nat) (st : Nat) (ak : Nat) (w : Nat) (lg : Nat) (hnl : ln < nl) (hn2 : nl ≤ 32) (q2 : A 0 0 2 = nI nl) (hrq : rq < 6) (q11 : A 11 0 ln = nI rq) (q22 : A 22 0 (6 * ln + rq) = 0) (hpk : pk < 6) (q16 : A 16 0 ln = nI pk) (hst : st < 6) (hak : ak ≤ 8) (q14 : A 14 0 ln = nI st) (q15 : A 15 0 ln = nI ak) (hw : w ≤ 64) (hq : A 0 0 4 = nI w) (hg : A 0 0 5 = nI lg) (hlg : lg + 1 < 3000) : Met l yM_act wsM_act ({ frames := 5, cells := 0, slots := 0, locals := 114 }) (er_Pc D vwCl (tysA T) (cfR T) X L tg A sz [.ref (X 0 0), .int (nI rq), .int (nI ln), .int 1, .int cc]) (er_Qi D vwCl (cfR T) X L tg sz (fun r u => r = (s_act_1 A rq ln cc nl pk st ak w lg).1 ∧ u = (s_act_1 A rq ln cc nl pk st ak w lg).2)) 0 0 (ew_A L sz) := by
  refine er_met (by decide) rfl (Nat.le_of_ble_eq_true rfl) ?_
  intro p e s m below meth c ls hx hb hr hts hown hlocks hml hV hK hS hA hl hsz
  subst hsz
  have hi0 := hE 0 (by decide)
  have hl : lv_has ls 8 [(0, .ref (X 0 0)), (1, .int (nI rq)), (2, .int (nI ln)), (3, .int 1), (4, .int cc)] := hl
  refine lv_aload_n hx hb dM_act_0 rfl (lv_at hl 0 rfl) ?_
  refine lv_iload_n hx hb dM_act_1 rfl (lv_at hl 2 rfl) ?_
  refine er_calli (va_runV (As := [.int (nI ln)]) (rest := []) ⟨hx, hb, hml, hown, hts⟩ (r_isLoan l D T X L tg _ hE A (nI ln)) (cwV 1 hts gM_172 rfl rfl rfl (by decide +kernel) ⟨Nat.le_of_ble_eq_true rfl, Nat.le_of_ble_eq_true rfl⟩) (er_preV hK hV hi0 (cR_0 _ _ _) rfl) rfl rfl hl.1 rfl (lv_room (Nat.le_of_ble_eq_true rfl)) dM_act_2 ⟨Nat.le_of_ble_eq_true rfl, Nat.le_of_ble_eq_true rfl⟩) hV hS hA (fun r u H locs hp hV hS => ?_)
  obtain ⟨rfl, eu9⟩ := hp
  rw [eu9] at hV
  refine lv_toe (y := 1) (s_isLoan_1 q2 hnl hn2) ?_
  refine lv_if_eq (tgt := 29) hx hb dM_act_5 rfl (fun h9 => absurd h9 (by decide)) (fun _ => ?_)
  refine lv_iload_n hx hb dM_act_8 rfl (lv_at hl 1 rfl) ?_
  refine er_calli (va_runS (As := [.int (nI rq)]) (rest := []) ⟨hx, hb, hml, hown, hts⟩ (r_isLibrary l D T X L tg _ hE A (nI rq)) (cwS 1 hts gM_142 rfl rfl rfl (by decide +kernel) ⟨Nat.le_of_ble_eq_true rfl, Nat.le_of_ble_eq_true rfl⟩) (er_preS hK hV) rfl rfl hl.1 rfl (lv_room (Nat.le_of_ble_eq_true rfl)) dM_act_9 ⟨Nat.le_of_ble_eq_true rfl, Nat.le_of_ble_eq_true rfl⟩) hV hS hA (fun r u H locs hp hV hS => ?_)
  obtain ⟨rfl, eu9⟩ := hp
  rw [eu9] at hV
  refine lv_toe (y := 1) (s_isLibrary_1 hrq) ?_
  refine lv_if_eq (tgt := 29) hx hb dM_act_12 rfl (fun h9 => absurd h9 (by decide)) (fun _ => ?_)
  refine lv_iload_n hx hb dM_act_15 rfl (lv_at hl 1 rfl) ?_
  refine lv_aload_n hx hb dM_act_16 rfl (lv_at hl 0 rfl) ?_
  refine ew_get (v := .ref (X 11 0)) hx hb hts hown hK hV fM_25 hi0 (cR_0 _ _ _) rfl dM_act_17 ?_
  refine lv_iload_n hx hb dM_act_20 rfl (lv_at hl 2 rfl) ?_
  refine ew_iald (v := A 11 0 ln) hx hb hK hV (hE 11 (by decide)) (cR_11 _ _ _) 0 rfl (vp_in_nI (by omega) (by decide)) (er_ix (by omega) rfl) dM_act_21 ?_
  refine lv_toe (y := nI rq) q11 ?_
  refine lv_icmp_ne (tgt := 29) hx hb dM_act_22 rfl (fun h9 => absurd ((nI_eq (a := rq) (b := rq) (by omega) (by omega)).mpr rfl) h9) (fun _ => ?_)
  refine lv_iconst (v := 1) hx hb dM_act_25 (by decide) ?_
  refine lv_goto (tgt := 30) hx hb dM_act_26 rfl ?_
  refine lv_istore (lv' := [(5, .int 1), (0, .ref (X 0 0)), (1, .int (nI rq)), (2, .int (nI ln)), (3, .int 1), (4, .int cc)]) hx hb dM_act_30 hl (by decide) rfl (fun ls hl => ?_)
  refine lv_aload_n hx hb dM_act_32 rfl (lv_at hl 1 rfl) ?_
  refine lv_iload_n hx hb dM_act_33 rfl (lv_at hl 3 rfl) ?_
  refine er_calli (va_runV (As := [.int (nI ln)]) (rest := []) ⟨hx, hb, hml, hown, hts⟩ (r_isLoan l D T X L tg _ hE A (nI ln)) (cwV 1 hts gM_172 rfl rfl rfl (by decide +kernel) ⟨Nat.le_of_ble_eq_true rfl, Nat.le_of_ble_eq_true rfl⟩) (er_preV hK hV hi0 (cR_0 _ _ _) rfl) rfl rfl hl.1 rfl (lv_room (Nat.le_of_ble_eq_true rfl)) dM_act_34 ⟨Nat.le_of_ble_eq_true rfl, Nat.le_of_ble_eq_true rfl⟩) hV hS hA (fun r u H locs hp hV hS => ?_)
  obtain ⟨rfl, eu9⟩ := hp
  rw [eu9] at hV
  refine lv_toe (y := 1) (s_isLoan_1 q2 hnl hn2) ?_
  refine lv_if_eq (tgt := 65) hx hb dM_act_37 rfl (fun h9 => absurd h9 (by decide)) (fun _ => ?_)
  refine lv_iload_n hx hb dM_act_40 rfl (lv_at hl 2 rfl) ?_
  refine er_calli (va_runS (As := [.int (nI rq)]) (rest := []) ⟨hx, hb, hml, hown, hts⟩ (r_isLibrary l D T X L tg _ hE A (nI rq)) (cwS 1 hts gM_142 rfl rfl rfl (by decide +kernel) ⟨Nat.le_of_ble_eq_true rfl, Nat.le_of_ble_eq_true rfl⟩) (er_preS hK hV) rfl rfl hl.1 rfl (lv_room (Nat.le_of_ble_eq_true rfl)) dM_act_41 ⟨Nat.le_of_ble_eq_true rfl, Nat.le_of_ble_eq_true rfl⟩) hV hS hA (fun r u H locs hp hV hS => ?_)
  obtain ⟨rfl, eu9⟩ := hp
  rw [eu9] at hV
  refine lv_toe (y := 1) (s_isLibrary_1 hrq) ?_
  refine lv_if_eq (tgt := 65) hx hb dM_act_44 rfl (fun h9 => absurd h9 (by decide)) (fun _ => ?_)
  refine lv_aload_n hx hb dM_act_47 rfl (lv_at hl 1 rfl) ?_
  refine ew_get (v := .ref (X 22 0)) hx hb hts hown hK hV fM_58 hi0 (cR_0 _ _ _) rfl dM_act_48 ?_
  refine lv_bipush (v := 6) hx hb dM_act_51 (by decide) ?_
  refine lv_iload_n hx hb dM_act_53 rfl (lv_at hl 3 rfl) ?_
  refine lv_imul hx hb dM_act_54 ?_
  refine lv_toe (y := nI (6 * ln)) (pk_mul 6 ln) ?_
  refine lv_iload_n hx hb dM_act_55 rfl (lv_at hl 2 rfl) ?_
  refine lv_iadd hx hb dM_act_56 ?_
  refine lv_toe (y := nI ((6 * ln) + rq)) (nI_add (6 * ln) rq) ?_
  refine ew_zald (v := A 22 0 ((6 * ln) + rq)) hx hb hK hV (hE 22 (by decide)) (cR_22 _ _ _) 1 rfl (vp_in_nI (by omega) (by decide)) (er_ix (by omega) rfl) dM_act_57 ?_
  refine lv_if_eq (tgt := 65) hx hb dM_act_58 rfl (fun _ => ?_) (fun h9 => absurd q22 h9)
  refine lv_iconst (v := 0) hx hb dM_act_65 (by decide) ?_
  refine lv_istore (lv' := [(6, .int 0), (5, .int 1), (0, .ref (X 0 0)), (1, .int (nI rq)), (2, .int (nI ln)), (3, .int 1), (4, .int cc)]) hx hb dM_act_66 hl (by decide) rfl (fun ls hl => ?_)
  refine lv_iload_n hx hb dM_act_68 rfl (lv_at hl 5 rfl) ?_
  refine lv_if_lt (tgt := 83) hx hb dM_act_69 rfl (fun h9 => absurd h9 (by decide)) (fun _ => ?_)
  refine lv_iload_n hx hb dM_act_72 rfl (lv_at hl 5 rfl) ?_
  refine lv_bipush (v := 7) hx hb dM_act_73 (by decide) ?_
  refine lv_icmp_ge (tgt := 83) hx hb dM_act_75 rfl (fun h9 => absurd h9 (by decide)) (fun _ => ?_)
  refine lv_iload hx hb dM_act_78 (lv_at hl 1 rfl) ?_
  refine lv_if_ne (tgt := 100) hx hb dM_act_80 rfl (fun _ => ?_) (fun h9 => absurd h9 (by decide))
  refine lv_iconst (v := 1) hx hb dM_act_100 (by decide) ?_
  refine lv_goto (tgt := 105) hx hb dM_act_101 rfl ?_
  refine lv_istore (lv' := [(7, .int 1), (6, .int 0), (5, .int 1), (0, .ref (X 0 0)), (1, .int (nI rq)), (2, .int (nI ln)), (3, .int 1), (4, .int cc)]) hx hb dM_act_105 hl (by decide) rfl (fun ls hl => ?_)
  refine lv_aload_n hx hb dM_act_107 rfl (lv_at hl 3 rfl) ?_
  refine lv_iload hx hb dM_act_108 (lv_at hl 0 rfl) ?_
  refine lv_if_ne (tgt := 117) hx hb dM_act_110 rfl (fun _ => ?_) (fun h9 => absurd h9 (by decide))
  refine lv_iconst (v := 0) hx hb dM_act_117 (by decide) ?_
  refine lv_iload hx hb dM_act_118 (lv_at hl 0 rfl) ?_
  refine lv_if_eq (tgt := 156) hx hb dM_act_120 rfl (fun h9 => absurd h9 (by decide)) (fun _ => ?_)
  refine lv_iload hx hb dM_act_123 (lv_at hl 2 rfl) ?_
  refine lv_if_eq (tgt := 140) hx hb dM_act_125 rfl (fun h9 => absurd h9 (by decide)) (fun _ => ?_)
  refine lv_aload_n hx hb dM_act_128 rfl (lv_at hl 3 rfl) ?_
  refine lv_iload_n hx hb dM_act_129 rfl (lv_at hl 5 rfl) ?_
  refine lv_iload_n hx hb dM_act_130 rfl (lv_at hl 6 rfl) ?_
  refine er_calli (va_runV (As := [.int (nI ln), .int 1]) (rest := [.int 0, .ref (X 0 0)]) ⟨hx, hb, hml, hown, hts⟩ (r_mayRequester_1 l D T X L tg _ hE A ln (by omega)) (cwV 2 hts gM_175 rfl rfl rfl (by decide +kernel) ⟨Nat.le_of_ble_eq_true rfl, Nat.le_of_ble_eq_true rfl⟩) (er_preV hK hV hi0 (cR_0 _ _ _) rfl) rfl rfl hl.1 rfl (lv_room (Nat.le_of_ble_eq_true rfl)) dM_act_131 ⟨Nat.le_of_ble_eq_true rfl, Nat.le_of_ble_eq_true rfl⟩) hV hS hA (fun r u H locs hp hV hS => ?_)
  obtain ⟨rfl, eu9⟩ := hp
  rw [eu9] at hV
  refine lv_if_ne (tgt := 156) hx hb dM_act_134 rfl (fun h1 => ?_) (fun h1 => ?_)
  · refine lv_iconst (v := 0) hx hb dM_act_156 (by decide) ?_
    refine er_calli (va_runV (As := [.int 0, .int 0]) (rest := []) ⟨hx, hb, hml, hown, hts⟩ (r_refuses_c l D T X L tg _ hE A) (cwV 2 hts gM_152 rfl rfl rfl (by decide +kernel) ⟨Nat.le_of_ble_eq_true rfl, Nat.le_of_ble_eq_true rfl⟩) (er_preV hK hV hi0 (cR_0 _ _ _) rfl) rfl rfl hl.1 rfl (lv_room (Nat.le_of_ble_eq_true rfl)) dM_act_157 ⟨Nat.le_of_ble_eq_true rfl, Nat.le_of_ble_eq_true rfl⟩) hV hS hA (fun r u H locs hp hV hS => ?_)
    obtain ⟨rfl, rfl⟩ := hp
    refine lv_if_eq (tgt := 165) hx hb dM_act_160 rfl (fun _ => ?_) (fun h9 => absurd (by decide) h9)
    refine lv_iload hx hb dM_act_165 (lv_at hl 2 rfl) ?_
    refine lv_if_eq (tgt := 179) hx hb dM_act_167 rfl (fun h9 => absurd h9 (by decide)) (fun _ => ?_)
    refine lv_aload_n hx hb dM_act_170 rfl (lv_at hl 3 rfl) ?_
    refine lv_iload_n hx hb dM_act_171 rfl (lv_at hl 5 rfl) ?_
    refine lv_iload_n hx hb dM_act_172 rfl (lv_at hl 6 rfl) ?_
    refine er_callv (va_runV (As := [.int (nI ln), .int 1]) (rest := []) ⟨hx, hb, hml, hown, hts⟩ (r_stepRequester_1 l D T X L tg _ hE (up3 A 0 0 0 0) ln pk st ak rq w lg (by omega) hpk q16 hst hak hrq q14 q15 q11 hw hq hg hlg) (cwV 2 hts gM_183 rfl rfl rfl (by decide +kernel) ⟨Nat.le_of_ble_eq_true rfl, Nat.le_of_ble_eq_true rfl⟩) (er_preV hK hV hi0 (cR_0 _ _ _) rfl) rfl rfl hl.1 rfl (lv_room (Nat.le_of_ble_eq_true rfl)) dM_act_173 ⟨Nat.le_of_ble_eq_true rfl, Nat.le_of_ble_eq_true rfl⟩) hV hS hA (fun u2 H locs eu2 hV hS => ?_)
    have eu2 : u2 = s_stepRequester_1 (up3 A 0 0 0 0) ln pk st ak rq w lg := eu2
    refine lv_goto (tgt := 188) hx hb dM_act_176 rfl ?_
    refine lv_iload hx hb dM_act_188 (lv_at hl 2 rfl) ?_
    refine lv_if_eq (tgt := 202) hx hb dM_act_190 rfl (fun h9 => absurd h9 (by decide)) (fun _ => ?_)
    refine lv_aload_n hx hb dM_act_193 rfl (lv_at hl 3 rfl) ?_
    refine ew_get (v := .ref (X 18 0)) hx hb hts hown hK hV fM_46 hi0 (cR_0 _ _ _) rfl dM_act_194 ?_
    refine lv_iload_n hx hb dM_act_197 rfl (lv_at hl 5 rfl) ?_
    refine ew_iald (v := u2 18 0 ln) hx hb hK hV (hE 18 (by decide)) (cR_18 _ _ _) 0 rfl (vp_in_nI (by omega) (by decide)) (er_ix (by omega) rfl) dM_act_198 ?_
    refine lv_goto (tgt := 213) hx hb dM_act_199 rfl ?_
    subst eu2
    exact er_iret hx hb hr hlocks hV hS dM_act_213 ⟨Eq.symm (by unfold s_act_1; simp only [if_neg h1]), Eq.symm (by unfold s_act_1; simp only [if_neg h1])⟩
  · refine lv_goto (tgt := 152) hx hb dM_act_137 rfl ?_
    refine lv_iconst (v := 1) hx hb dM_act_152 (by decide) ?_
    refine lv_goto (tgt := 157) hx hb dM_act_153 rfl ?_
    refine er_calli (va_runV (As := [.int 0, .int 1]) (rest := []) ⟨hx, hb, hml, hown, hts⟩ (r_refuses_b l D T X L tg _ hE A) (cwV 2 hts gM_152 rfl rfl rfl (by decide +kernel) ⟨Nat.le_of_ble_eq_true rfl, Nat.le_of_ble_eq_true rfl⟩) (er_preV hK hV hi0 (cR_0 _ _ _) rfl) rfl rfl hl.1 rfl (lv_room (Nat.le_of_ble_eq_true rfl)) dM_act_157 ⟨Nat.le_of_ble_eq_true rfl, Nat.le_of_ble_eq_true rfl⟩) hV hS hA (fun r u H locs hp hV hS => ?_)
    obtain ⟨rfl, rfl⟩ := hp
    refine lv_if_eq (tgt := 165) hx hb dM_act_160 rfl (fun h9 => absurd h9 (by decide)) (fun _ => ?_)
    refine lv_iconst (v := 0) hx hb dM_act_163 (by decide) ?_
    exact er_iret hx hb hr hlocks hV hS dM_act_164 ⟨Eq.symm (by unfold s_act_1; simp only [if_pos h1]), Eq.symm (by unfold s_act_1; simp only [if_pos h1])⟩

def s_act_2 (A : ew_R) (rq : Nat) (ln : Nat) (cc : Int32) (nl : Nat) (pk : Nat) (w : Nat) (lg : Nat) : Int32 × ew_R :=
  if s_mayRequester_2 A ln = 0 then
    (0, up3 A 0 0 0 2)
  else
    ((s_stepRequester_2 (up3 A 0 0 0 0) ln pk w lg) 18 0 ln, (s_stepRequester_2 (up3 A 0 0 0 0) ln pk w lg))
set_option maxHeartbeats 4000000 in
set_option maxRecDepth 100000 in
theorem r_act_2 (l : Launch) (D : va_G) (T : Nat → ClassId) (X : Nat → Nat → Nat) (L : List Nat) (tg : Nat → Nat × Nat) (sz : Nat) (hE : eR_E X L tg) (A : ew_R) (rq : Nat) (ln : Nat) (cc : Int32) (nl : Nat) (pk : Nat) (w : Nat) (lg : Nat) (hnl : ln < nl) (hn2 : nl ≤ 32) (q2 : A 0 0 2 = nI nl) (hrq : rq < 6) (q11 : A 11 0 ln = nI rq) (q22 : A 22 0 (6 * ln + rq) = 0) (hpk : pk < 6) (q16 : A 16 0 ln = nI pk) (hw : w ≤ 64) (hq : A 0 0 4 = nI w) (hlg : lg < 3000) (hg : A 0 0 5 = nI lg) : Met l yM_act wsM_act ({ frames := 5, cells := 0, slots := 0, locals := 114 }) (er_Pc D vwCl (tysA T) (cfR T) X L tg A sz [.ref (X 0 0), .int (nI rq), .int (nI ln), .int 2, .int cc]) (er_Qi D vwCl (cfR T) X L tg sz (fun r u => r = (s_act_2 A rq ln cc nl pk w lg).1 ∧ u = (s_act_2 A rq ln cc nl pk w lg).2)) 0 0 (ew_A L sz) := by
  refine er_met (by decide) rfl (Nat.le_of_ble_eq_true rfl) ?_
  intro p e s m below meth c ls hx hb hr hts hown hlocks hml hV hK hS hA hl hsz
  subst hsz
  have hi0 := hE 0 (by decide)
  have hl : lv_has ls 8 [(0, .ref (X 0 0)), (1, .int (nI rq)), (2, .int (nI ln)), (3, .int 2), (4, .int cc)] := hl
  refine lv_aload_n hx hb dM_act_0 rfl (lv_at hl 0 rfl) ?_
  refine lv_iload_n hx hb dM_act_1 rfl (lv_at hl 2 rfl) ?_
  refine er_calli (va_runV (As := [.int (nI ln)]) (rest := []) ⟨hx, hb, hml, hown, hts⟩ (r_isLoan l D T X L tg _ hE A (nI ln)) (cwV 1 hts gM_172 rfl rfl rfl (by decide +kernel) ⟨Nat.le_of_ble_eq_true rfl, Nat.le_of_ble_eq_true rfl⟩) (er_preV hK hV hi0 (cR_0 _ _ _) rfl) rfl rfl hl.1 rfl (lv_room (Nat.le_of_ble_eq_true rfl)) dM_act_2 ⟨Nat.le_of_ble_eq_true rfl, Nat.le_of_ble_eq_true rfl⟩) hV hS hA (fun r u H locs hp hV hS => ?_)
  obtain ⟨rfl, eu9⟩ := hp
  rw [eu9] at hV
  refine lv_toe (y := 1) (s_isLoan_1 q2 hnl hn2) ?_
  refine lv_if_eq (tgt := 29) hx hb dM_act_5 rfl (fun h9 => absurd h9 (by decide)) (fun _ => ?_)
  refine lv_iload_n hx hb dM_act_8 rfl (lv_at hl 1 rfl) ?_
  refine er_calli (va_runS (As := [.int (nI rq)]) (rest := []) ⟨hx, hb, hml, hown, hts⟩ (r_isLibrary l D T X L tg _ hE A (nI rq)) (cwS 1 hts gM_142 rfl rfl rfl (by decide +kernel) ⟨Nat.le_of_ble_eq_true rfl, Nat.le_of_ble_eq_true rfl⟩) (er_preS hK hV) rfl rfl hl.1 rfl (lv_room (Nat.le_of_ble_eq_true rfl)) dM_act_9 ⟨Nat.le_of_ble_eq_true rfl, Nat.le_of_ble_eq_true rfl⟩) hV hS hA (fun r u H locs hp hV hS => ?_)
  obtain ⟨rfl, eu9⟩ := hp
  rw [eu9] at hV
  refine lv_toe (y := 1) (s_isLibrary_1 hrq) ?_
  refine lv_if_eq (tgt := 29) hx hb dM_act_12 rfl (fun h9 => absurd h9 (by decide)) (fun _ => ?_)
  refine lv_iload_n hx hb dM_act_15 rfl (lv_at hl 1 rfl) ?_
  refine lv_aload_n hx hb dM_act_16 rfl (lv_at hl 0 rfl) ?_
  refine ew_get (v := .ref (X 11 0)) hx hb hts hown hK hV fM_25 hi0 (cR_0 _ _ _) rfl dM_act_17 ?_
  refine lv_iload_n hx hb dM_act_20 rfl (lv_at hl 2 rfl) ?_
  refine ew_iald (v := A 11 0 ln) hx hb hK hV (hE 11 (by decide)) (cR_11 _ _ _) 0 rfl (vp_in_nI (by omega) (by decide)) (er_ix (by omega) rfl) dM_act_21 ?_
  refine lv_toe (y := nI rq) q11 ?_
  refine lv_icmp_ne (tgt := 29) hx hb dM_act_22 rfl (fun h9 => absurd ((nI_eq (a := rq) (b := rq) (by omega) (by omega)).mpr rfl) h9) (fun _ => ?_)
  refine lv_iconst (v := 1) hx hb dM_act_25 (by decide) ?_
  refine lv_goto (tgt := 30) hx hb dM_act_26 rfl ?_
  refine lv_istore (lv' := [(5, .int 1), (0, .ref (X 0 0)), (1, .int (nI rq)), (2, .int (nI ln)), (3, .int 2), (4, .int cc)]) hx hb dM_act_30 hl (by decide) rfl (fun ls hl => ?_)
  refine lv_aload_n hx hb dM_act_32 rfl (lv_at hl 1 rfl) ?_
  refine lv_iload_n hx hb dM_act_33 rfl (lv_at hl 3 rfl) ?_
  refine er_calli (va_runV (As := [.int (nI ln)]) (rest := []) ⟨hx, hb, hml, hown, hts⟩ (r_isLoan l D T X L tg _ hE A (nI ln)) (cwV 1 hts gM_172 rfl rfl rfl (by decide +kernel) ⟨Nat.le_of_ble_eq_true rfl, Nat.le_of_ble_eq_true rfl⟩) (er_preV hK hV hi0 (cR_0 _ _ _) rfl) rfl rfl hl.1 rfl (lv_room (Nat.le_of_ble_eq_true rfl)) dM_act_34 ⟨Nat.le_of_ble_eq_true rfl, Nat.le_of_ble_eq_true rfl⟩) hV hS hA (fun r u H locs hp hV hS => ?_)
  obtain ⟨rfl, eu9⟩ := hp
  rw [eu9] at hV
  refine lv_toe (y := 1) (s_isLoan_1 q2 hnl hn2) ?_
  refine lv_if_eq (tgt := 65) hx hb dM_act_37 rfl (fun h9 => absurd h9 (by decide)) (fun _ => ?_)
  refine lv_iload_n hx hb dM_act_40 rfl (lv_at hl 2 rfl) ?_
  refine er_calli (va_runS (As := [.int (nI rq)]) (rest := []) ⟨hx, hb, hml, hown, hts⟩ (r_isLibrary l D T X L tg _ hE A (nI rq)) (cwS 1 hts gM_142 rfl rfl rfl (by decide +kernel) ⟨Nat.le_of_ble_eq_true rfl, Nat.le_of_ble_eq_true rfl⟩) (er_preS hK hV) rfl rfl hl.1 rfl (lv_room (Nat.le_of_ble_eq_true rfl)) dM_act_41 ⟨Nat.le_of_ble_eq_true rfl, Nat.le_of_ble_eq_true rfl⟩) hV hS hA (fun r u H locs hp hV hS => ?_)
  obtain ⟨rfl, eu9⟩ := hp
  rw [eu9] at hV
  refine lv_toe (y := 1) (s_isLibrary_1 hrq) ?_
  refine lv_if_eq (tgt := 65) hx hb dM_act_44 rfl (fun h9 => absurd h9 (by decide)) (fun _ => ?_)
  refine lv_aload_n hx hb dM_act_47 rfl (lv_at hl 1 rfl) ?_
  refine ew_get (v := .ref (X 22 0)) hx hb hts hown hK hV fM_58 hi0 (cR_0 _ _ _) rfl dM_act_48 ?_
  refine lv_bipush (v := 6) hx hb dM_act_51 (by decide) ?_
  refine lv_iload_n hx hb dM_act_53 rfl (lv_at hl 3 rfl) ?_
  refine lv_imul hx hb dM_act_54 ?_
  refine lv_toe (y := nI (6 * ln)) (pk_mul 6 ln) ?_
  refine lv_iload_n hx hb dM_act_55 rfl (lv_at hl 2 rfl) ?_
  refine lv_iadd hx hb dM_act_56 ?_
  refine lv_toe (y := nI ((6 * ln) + rq)) (nI_add (6 * ln) rq) ?_
  refine ew_zald (v := A 22 0 ((6 * ln) + rq)) hx hb hK hV (hE 22 (by decide)) (cR_22 _ _ _) 1 rfl (vp_in_nI (by omega) (by decide)) (er_ix (by omega) rfl) dM_act_57 ?_
  refine lv_if_eq (tgt := 65) hx hb dM_act_58 rfl (fun _ => ?_) (fun h9 => absurd q22 h9)
  refine lv_iconst (v := 0) hx hb dM_act_65 (by decide) ?_
  refine lv_istore (lv' := [(6, .int 0), (5, .int 1), (0, .ref (X 0 0)), (1, .int (nI rq)), (2, .int (nI ln)), (3, .int 2), (4, .int cc)]) hx hb dM_act_66 hl (by decide) rfl (fun ls hl => ?_)
  refine lv_iload_n hx hb dM_act_68 rfl (lv_at hl 5 rfl) ?_
  refine lv_if_lt (tgt := 83) hx hb dM_act_69 rfl (fun h9 => absurd h9 (by decide)) (fun _ => ?_)
  refine lv_iload_n hx hb dM_act_72 rfl (lv_at hl 5 rfl) ?_
  refine lv_bipush (v := 7) hx hb dM_act_73 (by decide) ?_
  refine lv_icmp_ge (tgt := 83) hx hb dM_act_75 rfl (fun h9 => absurd h9 (by decide)) (fun _ => ?_)
  refine lv_iload hx hb dM_act_78 (lv_at hl 1 rfl) ?_
  refine lv_if_ne (tgt := 100) hx hb dM_act_80 rfl (fun _ => ?_) (fun h9 => absurd h9 (by decide))
  refine lv_iconst (v := 1) hx hb dM_act_100 (by decide) ?_
  refine lv_goto (tgt := 105) hx hb dM_act_101 rfl ?_
  refine lv_istore (lv' := [(7, .int 1), (6, .int 0), (5, .int 1), (0, .ref (X 0 0)), (1, .int (nI rq)), (2, .int (nI ln)), (3, .int 2), (4, .int cc)]) hx hb dM_act_105 hl (by decide) rfl (fun ls hl => ?_)
  refine lv_aload_n hx hb dM_act_107 rfl (lv_at hl 3 rfl) ?_
  refine lv_iload hx hb dM_act_108 (lv_at hl 0 rfl) ?_
  refine lv_if_ne (tgt := 117) hx hb dM_act_110 rfl (fun _ => ?_) (fun h9 => absurd h9 (by decide))
  refine lv_iconst (v := 0) hx hb dM_act_117 (by decide) ?_
  refine lv_iload hx hb dM_act_118 (lv_at hl 0 rfl) ?_
  refine lv_if_eq (tgt := 156) hx hb dM_act_120 rfl (fun h9 => absurd h9 (by decide)) (fun _ => ?_)
  refine lv_iload hx hb dM_act_123 (lv_at hl 2 rfl) ?_
  refine lv_if_eq (tgt := 140) hx hb dM_act_125 rfl (fun h9 => absurd h9 (by decide)) (fun _ => ?_)
  refine lv_aload_n hx hb dM_act_128 rfl (lv_at hl 3 rfl) ?_
  refine lv_iload_n hx hb dM_act_129 rfl (lv_at hl 5 rfl) ?_
  refine lv_iload_n hx hb dM_act_130 rfl (lv_at hl 6 rfl) ?_
  refine er_calli (va_runV (As := [.int (nI ln), .int 2]) (rest := [.int 0, .ref (X 0 0)]) ⟨hx, hb, hml, hown, hts⟩ (r_mayRequester_2 l D T X L tg _ hE A ln (by omega)) (cwV 2 hts gM_175 rfl rfl rfl (by decide +kernel) ⟨Nat.le_of_ble_eq_true rfl, Nat.le_of_ble_eq_true rfl⟩) (er_preV hK hV hi0 (cR_0 _ _ _) rfl) rfl rfl hl.1 rfl (lv_room (Nat.le_of_ble_eq_true rfl)) dM_act_131 ⟨Nat.le_of_ble_eq_true rfl, Nat.le_of_ble_eq_true rfl⟩) hV hS hA (fun r u H locs hp hV hS => ?_)
  obtain ⟨rfl, eu9⟩ := hp
  rw [eu9] at hV
  refine lv_if_ne (tgt := 156) hx hb dM_act_134 rfl (fun h1 => ?_) (fun h1 => ?_)
  · refine lv_iconst (v := 0) hx hb dM_act_156 (by decide) ?_
    refine er_calli (va_runV (As := [.int 0, .int 0]) (rest := []) ⟨hx, hb, hml, hown, hts⟩ (r_refuses_c l D T X L tg _ hE A) (cwV 2 hts gM_152 rfl rfl rfl (by decide +kernel) ⟨Nat.le_of_ble_eq_true rfl, Nat.le_of_ble_eq_true rfl⟩) (er_preV hK hV hi0 (cR_0 _ _ _) rfl) rfl rfl hl.1 rfl (lv_room (Nat.le_of_ble_eq_true rfl)) dM_act_157 ⟨Nat.le_of_ble_eq_true rfl, Nat.le_of_ble_eq_true rfl⟩) hV hS hA (fun r u H locs hp hV hS => ?_)
    obtain ⟨rfl, rfl⟩ := hp
    refine lv_if_eq (tgt := 165) hx hb dM_act_160 rfl (fun _ => ?_) (fun h9 => absurd (by decide) h9)
    refine lv_iload hx hb dM_act_165 (lv_at hl 2 rfl) ?_
    refine lv_if_eq (tgt := 179) hx hb dM_act_167 rfl (fun h9 => absurd h9 (by decide)) (fun _ => ?_)
    refine lv_aload_n hx hb dM_act_170 rfl (lv_at hl 3 rfl) ?_
    refine lv_iload_n hx hb dM_act_171 rfl (lv_at hl 5 rfl) ?_
    refine lv_iload_n hx hb dM_act_172 rfl (lv_at hl 6 rfl) ?_
    refine er_callv (va_runV (As := [.int (nI ln), .int 2]) (rest := []) ⟨hx, hb, hml, hown, hts⟩ (r_stepRequester_2 l D T X L tg _ hE (up3 A 0 0 0 0) ln pk w lg (by omega) hpk q16 hw hq hlg hg) (cwV 2 hts gM_183 rfl rfl rfl (by decide +kernel) ⟨Nat.le_of_ble_eq_true rfl, Nat.le_of_ble_eq_true rfl⟩) (er_preV hK hV hi0 (cR_0 _ _ _) rfl) rfl rfl hl.1 rfl (lv_room (Nat.le_of_ble_eq_true rfl)) dM_act_173 ⟨Nat.le_of_ble_eq_true rfl, Nat.le_of_ble_eq_true rfl⟩) hV hS hA (fun u2 H locs eu2 hV hS => ?_)
    have eu2 : u2 = s_stepRequester_2 (up3 A 0 0 0 0) ln pk w lg := eu2
    refine lv_goto (tgt := 188) hx hb dM_act_176 rfl ?_
    refine lv_iload hx hb dM_act_188 (lv_at hl 2 rfl) ?_
    refine lv_if_eq (tgt := 202) hx hb dM_act_190 rfl (fun h9 => absurd h9 (by decide)) (fun _ => ?_)
    refine lv_aload_n hx hb dM_act_193 rfl (lv_at hl 3 rfl) ?_
    refine ew_get (v := .ref (X 18 0)) hx hb hts hown hK hV fM_46 hi0 (cR_0 _ _ _) rfl dM_act_194 ?_
    refine lv_iload_n hx hb dM_act_197 rfl (lv_at hl 5 rfl) ?_
    refine ew_iald (v := u2 18 0 ln) hx hb hK hV (hE 18 (by decide)) (cR_18 _ _ _) 0 rfl (vp_in_nI (by omega) (by decide)) (er_ix (by omega) rfl) dM_act_198 ?_
    refine lv_goto (tgt := 213) hx hb dM_act_199 rfl ?_
    subst eu2
    exact er_iret hx hb hr hlocks hV hS dM_act_213 ⟨Eq.symm (by unfold s_act_2; simp only [if_neg h1]), Eq.symm (by unfold s_act_2; simp only [if_neg h1])⟩
  · refine lv_goto (tgt := 152) hx hb dM_act_137 rfl ?_
    refine lv_iconst (v := 1) hx hb dM_act_152 (by decide) ?_
    refine lv_goto (tgt := 157) hx hb dM_act_153 rfl ?_
    refine er_calli (va_runV (As := [.int 0, .int 1]) (rest := []) ⟨hx, hb, hml, hown, hts⟩ (r_refuses_b l D T X L tg _ hE A) (cwV 2 hts gM_152 rfl rfl rfl (by decide +kernel) ⟨Nat.le_of_ble_eq_true rfl, Nat.le_of_ble_eq_true rfl⟩) (er_preV hK hV hi0 (cR_0 _ _ _) rfl) rfl rfl hl.1 rfl (lv_room (Nat.le_of_ble_eq_true rfl)) dM_act_157 ⟨Nat.le_of_ble_eq_true rfl, Nat.le_of_ble_eq_true rfl⟩) hV hS hA (fun r u H locs hp hV hS => ?_)
    obtain ⟨rfl, rfl⟩ := hp
    refine lv_if_eq (tgt := 165) hx hb dM_act_160 rfl (fun h9 => absurd h9 (by decide)) (fun _ => ?_)
    refine lv_iconst (v := 0) hx hb dM_act_163 (by decide) ?_
    exact er_iret hx hb hr hlocks hV hS dM_act_164 ⟨Eq.symm (by unfold s_act_2; simp only [if_pos h1]), Eq.symm (by unfold s_act_2; simp only [if_pos h1])⟩

def s_act_3 (A : ew_R) (rq : Nat) (ln : Nat) (cc : Int32) (nl : Nat) (pk : Nat) (cp : Nat) (w : Nat) (lg : Nat) : Int32 × ew_R :=
  if s_mayRequester_3 A ln = 0 then
    (0, up3 A 0 0 0 2)
  else
    ((s_stepRequester_3 (up3 A 0 0 0 0) ln pk cp w lg) 18 0 ln, (s_stepRequester_3 (up3 A 0 0 0 0) ln pk cp w lg))
set_option maxHeartbeats 4000000 in
set_option maxRecDepth 100000 in
theorem r_act_3 (l : Launch) (D : va_G) (T : Nat → ClassId) (X : Nat → Nat → Nat) (L : List Nat) (tg : Nat → Nat × Nat) (sz : Nat) (hE : eR_E X L tg) (A : ew_R) (rq : Nat) (ln : Nat) (cc : Int32) (nl : Nat) (pk : Nat) (cp : Nat) (w : Nat) (lg : Nat) (hnl : ln < nl) (hn2 : nl ≤ 32) (q2 : A 0 0 2 = nI nl) (hrq : rq < 6) (q11 : A 11 0 ln = nI rq) (q22 : A 22 0 (6 * ln + rq) = 0) (hpk : pk < 6) (q16 : A 16 0 ln = nI pk) (hcp : cp < 32) (q17 : A 17 0 ln = nI cp) (hw : w ≤ 64) (hq : A 0 0 4 = nI w) (hlg : lg < 3000) (hg : A 0 0 5 = nI lg) : Met l yM_act wsM_act ({ frames := 5, cells := 0, slots := 0, locals := 114 }) (er_Pc D vwCl (tysA T) (cfR T) X L tg A sz [.ref (X 0 0), .int (nI rq), .int (nI ln), .int 3, .int cc]) (er_Qi D vwCl (cfR T) X L tg sz (fun r u => r = (s_act_3 A rq ln cc nl pk cp w lg).1 ∧ u = (s_act_3 A rq ln cc nl pk cp w lg).2)) 0 0 (ew_A L sz) := by
  refine er_met (by decide) rfl (Nat.le_of_ble_eq_true rfl) ?_
  intro p e s m below meth c ls hx hb hr hts hown hlocks hml hV hK hS hA hl hsz
  subst hsz
  have hi0 := hE 0 (by decide)
  have hl : lv_has ls 8 [(0, .ref (X 0 0)), (1, .int (nI rq)), (2, .int (nI ln)), (3, .int 3), (4, .int cc)] := hl
  refine lv_aload_n hx hb dM_act_0 rfl (lv_at hl 0 rfl) ?_
  refine lv_iload_n hx hb dM_act_1 rfl (lv_at hl 2 rfl) ?_
  refine er_calli (va_runV (As := [.int (nI ln)]) (rest := []) ⟨hx, hb, hml, hown, hts⟩ (r_isLoan l D T X L tg _ hE A (nI ln)) (cwV 1 hts gM_172 rfl rfl rfl (by decide +kernel) ⟨Nat.le_of_ble_eq_true rfl, Nat.le_of_ble_eq_true rfl⟩) (er_preV hK hV hi0 (cR_0 _ _ _) rfl) rfl rfl hl.1 rfl (lv_room (Nat.le_of_ble_eq_true rfl)) dM_act_2 ⟨Nat.le_of_ble_eq_true rfl, Nat.le_of_ble_eq_true rfl⟩) hV hS hA (fun r u H locs hp hV hS => ?_)
  obtain ⟨rfl, eu9⟩ := hp
  rw [eu9] at hV
  refine lv_toe (y := 1) (s_isLoan_1 q2 hnl hn2) ?_
  refine lv_if_eq (tgt := 29) hx hb dM_act_5 rfl (fun h9 => absurd h9 (by decide)) (fun _ => ?_)
  refine lv_iload_n hx hb dM_act_8 rfl (lv_at hl 1 rfl) ?_
  refine er_calli (va_runS (As := [.int (nI rq)]) (rest := []) ⟨hx, hb, hml, hown, hts⟩ (r_isLibrary l D T X L tg _ hE A (nI rq)) (cwS 1 hts gM_142 rfl rfl rfl (by decide +kernel) ⟨Nat.le_of_ble_eq_true rfl, Nat.le_of_ble_eq_true rfl⟩) (er_preS hK hV) rfl rfl hl.1 rfl (lv_room (Nat.le_of_ble_eq_true rfl)) dM_act_9 ⟨Nat.le_of_ble_eq_true rfl, Nat.le_of_ble_eq_true rfl⟩) hV hS hA (fun r u H locs hp hV hS => ?_)
  obtain ⟨rfl, eu9⟩ := hp
  rw [eu9] at hV
  refine lv_toe (y := 1) (s_isLibrary_1 hrq) ?_
  refine lv_if_eq (tgt := 29) hx hb dM_act_12 rfl (fun h9 => absurd h9 (by decide)) (fun _ => ?_)
  refine lv_iload_n hx hb dM_act_15 rfl (lv_at hl 1 rfl) ?_
  refine lv_aload_n hx hb dM_act_16 rfl (lv_at hl 0 rfl) ?_
  refine ew_get (v := .ref (X 11 0)) hx hb hts hown hK hV fM_25 hi0 (cR_0 _ _ _) rfl dM_act_17 ?_
  refine lv_iload_n hx hb dM_act_20 rfl (lv_at hl 2 rfl) ?_
  refine ew_iald (v := A 11 0 ln) hx hb hK hV (hE 11 (by decide)) (cR_11 _ _ _) 0 rfl (vp_in_nI (by omega) (by decide)) (er_ix (by omega) rfl) dM_act_21 ?_
  refine lv_toe (y := nI rq) q11 ?_
  refine lv_icmp_ne (tgt := 29) hx hb dM_act_22 rfl (fun h9 => absurd ((nI_eq (a := rq) (b := rq) (by omega) (by omega)).mpr rfl) h9) (fun _ => ?_)
  refine lv_iconst (v := 1) hx hb dM_act_25 (by decide) ?_
  refine lv_goto (tgt := 30) hx hb dM_act_26 rfl ?_
  refine lv_istore (lv' := [(5, .int 1), (0, .ref (X 0 0)), (1, .int (nI rq)), (2, .int (nI ln)), (3, .int 3), (4, .int cc)]) hx hb dM_act_30 hl (by decide) rfl (fun ls hl => ?_)
  refine lv_aload_n hx hb dM_act_32 rfl (lv_at hl 1 rfl) ?_
  refine lv_iload_n hx hb dM_act_33 rfl (lv_at hl 3 rfl) ?_
  refine er_calli (va_runV (As := [.int (nI ln)]) (rest := []) ⟨hx, hb, hml, hown, hts⟩ (r_isLoan l D T X L tg _ hE A (nI ln)) (cwV 1 hts gM_172 rfl rfl rfl (by decide +kernel) ⟨Nat.le_of_ble_eq_true rfl, Nat.le_of_ble_eq_true rfl⟩) (er_preV hK hV hi0 (cR_0 _ _ _) rfl) rfl rfl hl.1 rfl (lv_room (Nat.le_of_ble_eq_true rfl)) dM_act_34 ⟨Nat.le_of_ble_eq_true rfl, Nat.le_of_ble_eq_true rfl⟩) hV hS hA (fun r u H locs hp hV hS => ?_)
  obtain ⟨rfl, eu9⟩ := hp
  rw [eu9] at hV
  refine lv_toe (y := 1) (s_isLoan_1 q2 hnl hn2) ?_
  refine lv_if_eq (tgt := 65) hx hb dM_act_37 rfl (fun h9 => absurd h9 (by decide)) (fun _ => ?_)
  refine lv_iload_n hx hb dM_act_40 rfl (lv_at hl 2 rfl) ?_
  refine er_calli (va_runS (As := [.int (nI rq)]) (rest := []) ⟨hx, hb, hml, hown, hts⟩ (r_isLibrary l D T X L tg _ hE A (nI rq)) (cwS 1 hts gM_142 rfl rfl rfl (by decide +kernel) ⟨Nat.le_of_ble_eq_true rfl, Nat.le_of_ble_eq_true rfl⟩) (er_preS hK hV) rfl rfl hl.1 rfl (lv_room (Nat.le_of_ble_eq_true rfl)) dM_act_41 ⟨Nat.le_of_ble_eq_true rfl, Nat.le_of_ble_eq_true rfl⟩) hV hS hA (fun r u H locs hp hV hS => ?_)
  obtain ⟨rfl, eu9⟩ := hp
  rw [eu9] at hV
  refine lv_toe (y := 1) (s_isLibrary_1 hrq) ?_
  refine lv_if_eq (tgt := 65) hx hb dM_act_44 rfl (fun h9 => absurd h9 (by decide)) (fun _ => ?_)
  refine lv_aload_n hx hb dM_act_47 rfl (lv_at hl 1 rfl) ?_
  refine ew_get (v := .ref (X 22 0)) hx hb hts hown hK hV fM_58 hi0 (cR_0 _ _ _) rfl dM_act_48 ?_
  refine lv_bipush (v := 6) hx hb dM_act_51 (by decide) ?_
  refine lv_iload_n hx hb dM_act_53 rfl (lv_at hl 3 rfl) ?_
  refine lv_imul hx hb dM_act_54 ?_
  refine lv_toe (y := nI (6 * ln)) (pk_mul 6 ln) ?_
  refine lv_iload_n hx hb dM_act_55 rfl (lv_at hl 2 rfl) ?_
  refine lv_iadd hx hb dM_act_56 ?_
  refine lv_toe (y := nI ((6 * ln) + rq)) (nI_add (6 * ln) rq) ?_
  refine ew_zald (v := A 22 0 ((6 * ln) + rq)) hx hb hK hV (hE 22 (by decide)) (cR_22 _ _ _) 1 rfl (vp_in_nI (by omega) (by decide)) (er_ix (by omega) rfl) dM_act_57 ?_
  refine lv_if_eq (tgt := 65) hx hb dM_act_58 rfl (fun _ => ?_) (fun h9 => absurd q22 h9)
  refine lv_iconst (v := 0) hx hb dM_act_65 (by decide) ?_
  refine lv_istore (lv' := [(6, .int 0), (5, .int 1), (0, .ref (X 0 0)), (1, .int (nI rq)), (2, .int (nI ln)), (3, .int 3), (4, .int cc)]) hx hb dM_act_66 hl (by decide) rfl (fun ls hl => ?_)
  refine lv_iload_n hx hb dM_act_68 rfl (lv_at hl 5 rfl) ?_
  refine lv_if_lt (tgt := 83) hx hb dM_act_69 rfl (fun h9 => absurd h9 (by decide)) (fun _ => ?_)
  refine lv_iload_n hx hb dM_act_72 rfl (lv_at hl 5 rfl) ?_
  refine lv_bipush (v := 7) hx hb dM_act_73 (by decide) ?_
  refine lv_icmp_ge (tgt := 83) hx hb dM_act_75 rfl (fun h9 => absurd h9 (by decide)) (fun _ => ?_)
  refine lv_iload hx hb dM_act_78 (lv_at hl 1 rfl) ?_
  refine lv_if_ne (tgt := 100) hx hb dM_act_80 rfl (fun _ => ?_) (fun h9 => absurd h9 (by decide))
  refine lv_iconst (v := 1) hx hb dM_act_100 (by decide) ?_
  refine lv_goto (tgt := 105) hx hb dM_act_101 rfl ?_
  refine lv_istore (lv' := [(7, .int 1), (6, .int 0), (5, .int 1), (0, .ref (X 0 0)), (1, .int (nI rq)), (2, .int (nI ln)), (3, .int 3), (4, .int cc)]) hx hb dM_act_105 hl (by decide) rfl (fun ls hl => ?_)
  refine lv_aload_n hx hb dM_act_107 rfl (lv_at hl 3 rfl) ?_
  refine lv_iload hx hb dM_act_108 (lv_at hl 0 rfl) ?_
  refine lv_if_ne (tgt := 117) hx hb dM_act_110 rfl (fun _ => ?_) (fun h9 => absurd h9 (by decide))
  refine lv_iconst (v := 0) hx hb dM_act_117 (by decide) ?_
  refine lv_iload hx hb dM_act_118 (lv_at hl 0 rfl) ?_
  refine lv_if_eq (tgt := 156) hx hb dM_act_120 rfl (fun h9 => absurd h9 (by decide)) (fun _ => ?_)
  refine lv_iload hx hb dM_act_123 (lv_at hl 2 rfl) ?_
  refine lv_if_eq (tgt := 140) hx hb dM_act_125 rfl (fun h9 => absurd h9 (by decide)) (fun _ => ?_)
  refine lv_aload_n hx hb dM_act_128 rfl (lv_at hl 3 rfl) ?_
  refine lv_iload_n hx hb dM_act_129 rfl (lv_at hl 5 rfl) ?_
  refine lv_iload_n hx hb dM_act_130 rfl (lv_at hl 6 rfl) ?_
  refine er_calli (va_runV (As := [.int (nI ln), .int 3]) (rest := [.int 0, .ref (X 0 0)]) ⟨hx, hb, hml, hown, hts⟩ (r_mayRequester_3 l D T X L tg _ hE A ln (by omega)) (cwV 2 hts gM_175 rfl rfl rfl (by decide +kernel) ⟨Nat.le_of_ble_eq_true rfl, Nat.le_of_ble_eq_true rfl⟩) (er_preV hK hV hi0 (cR_0 _ _ _) rfl) rfl rfl hl.1 rfl (lv_room (Nat.le_of_ble_eq_true rfl)) dM_act_131 ⟨Nat.le_of_ble_eq_true rfl, Nat.le_of_ble_eq_true rfl⟩) hV hS hA (fun r u H locs hp hV hS => ?_)
  obtain ⟨rfl, eu9⟩ := hp
  rw [eu9] at hV
  refine lv_if_ne (tgt := 156) hx hb dM_act_134 rfl (fun h1 => ?_) (fun h1 => ?_)
  · refine lv_iconst (v := 0) hx hb dM_act_156 (by decide) ?_
    refine er_calli (va_runV (As := [.int 0, .int 0]) (rest := []) ⟨hx, hb, hml, hown, hts⟩ (r_refuses_c l D T X L tg _ hE A) (cwV 2 hts gM_152 rfl rfl rfl (by decide +kernel) ⟨Nat.le_of_ble_eq_true rfl, Nat.le_of_ble_eq_true rfl⟩) (er_preV hK hV hi0 (cR_0 _ _ _) rfl) rfl rfl hl.1 rfl (lv_room (Nat.le_of_ble_eq_true rfl)) dM_act_157 ⟨Nat.le_of_ble_eq_true rfl, Nat.le_of_ble_eq_true rfl⟩) hV hS hA (fun r u H locs hp hV hS => ?_)
    obtain ⟨rfl, rfl⟩ := hp
    refine lv_if_eq (tgt := 165) hx hb dM_act_160 rfl (fun _ => ?_) (fun h9 => absurd (by decide) h9)
    refine lv_iload hx hb dM_act_165 (lv_at hl 2 rfl) ?_
    refine lv_if_eq (tgt := 179) hx hb dM_act_167 rfl (fun h9 => absurd h9 (by decide)) (fun _ => ?_)
    refine lv_aload_n hx hb dM_act_170 rfl (lv_at hl 3 rfl) ?_
    refine lv_iload_n hx hb dM_act_171 rfl (lv_at hl 5 rfl) ?_
    refine lv_iload_n hx hb dM_act_172 rfl (lv_at hl 6 rfl) ?_
    refine er_callv (va_runV (As := [.int (nI ln), .int 3]) (rest := []) ⟨hx, hb, hml, hown, hts⟩ (r_stepRequester_3 l D T X L tg _ hE (up3 A 0 0 0 0) ln pk cp w lg (by omega) hpk q16 hcp q17 hw hq hlg hg) (cwV 2 hts gM_183 rfl rfl rfl (by decide +kernel) ⟨Nat.le_of_ble_eq_true rfl, Nat.le_of_ble_eq_true rfl⟩) (er_preV hK hV hi0 (cR_0 _ _ _) rfl) rfl rfl hl.1 rfl (lv_room (Nat.le_of_ble_eq_true rfl)) dM_act_173 ⟨Nat.le_of_ble_eq_true rfl, Nat.le_of_ble_eq_true rfl⟩) hV hS hA (fun u2 H locs eu2 hV hS => ?_)
    have eu2 : u2 = s_stepRequester_3 (up3 A 0 0 0 0) ln pk cp w lg := eu2
    refine lv_goto (tgt := 188) hx hb dM_act_176 rfl ?_
    refine lv_iload hx hb dM_act_188 (lv_at hl 2 rfl) ?_
    refine lv_if_eq (tgt := 202) hx hb dM_act_190 rfl (fun h9 => absurd h9 (by decide)) (fun _ => ?_)
    refine lv_aload_n hx hb dM_act_193 rfl (lv_at hl 3 rfl) ?_
    refine ew_get (v := .ref (X 18 0)) hx hb hts hown hK hV fM_46 hi0 (cR_0 _ _ _) rfl dM_act_194 ?_
    refine lv_iload_n hx hb dM_act_197 rfl (lv_at hl 5 rfl) ?_
    refine ew_iald (v := u2 18 0 ln) hx hb hK hV (hE 18 (by decide)) (cR_18 _ _ _) 0 rfl (vp_in_nI (by omega) (by decide)) (er_ix (by omega) rfl) dM_act_198 ?_
    refine lv_goto (tgt := 213) hx hb dM_act_199 rfl ?_
    subst eu2
    exact er_iret hx hb hr hlocks hV hS dM_act_213 ⟨Eq.symm (by unfold s_act_3; simp only [if_neg h1]), Eq.symm (by unfold s_act_3; simp only [if_neg h1])⟩
  · refine lv_goto (tgt := 152) hx hb dM_act_137 rfl ?_
    refine lv_iconst (v := 1) hx hb dM_act_152 (by decide) ?_
    refine lv_goto (tgt := 157) hx hb dM_act_153 rfl ?_
    refine er_calli (va_runV (As := [.int 0, .int 1]) (rest := []) ⟨hx, hb, hml, hown, hts⟩ (r_refuses_b l D T X L tg _ hE A) (cwV 2 hts gM_152 rfl rfl rfl (by decide +kernel) ⟨Nat.le_of_ble_eq_true rfl, Nat.le_of_ble_eq_true rfl⟩) (er_preV hK hV hi0 (cR_0 _ _ _) rfl) rfl rfl hl.1 rfl (lv_room (Nat.le_of_ble_eq_true rfl)) dM_act_157 ⟨Nat.le_of_ble_eq_true rfl, Nat.le_of_ble_eq_true rfl⟩) hV hS hA (fun r u H locs hp hV hS => ?_)
    obtain ⟨rfl, rfl⟩ := hp
    refine lv_if_eq (tgt := 165) hx hb dM_act_160 rfl (fun h9 => absurd h9 (by decide)) (fun _ => ?_)
    refine lv_iconst (v := 0) hx hb dM_act_163 (by decide) ?_
    exact er_iret hx hb hr hlocks hV hS dM_act_164 ⟨Eq.symm (by unfold s_act_3; simp only [if_pos h1]), Eq.symm (by unfold s_act_3; simp only [if_pos h1])⟩

def s_act_4 (A : ew_R) (rq : Nat) (ln : Nat) (cc : Int32) (nl : Nat) (pk : Nat) (w : Nat) (lg : Nat) : Int32 × ew_R :=
  if s_mayRequester_4 A ln = 0 then
    (0, up3 A 0 0 0 2)
  else
    ((s_stepRequester_4 (up3 A 0 0 0 0) ln pk w lg) 18 0 ln, (s_stepRequester_4 (up3 A 0 0 0 0) ln pk w lg))
set_option maxHeartbeats 4000000 in
set_option maxRecDepth 100000 in
theorem r_act_4 (l : Launch) (D : va_G) (T : Nat → ClassId) (X : Nat → Nat → Nat) (L : List Nat) (tg : Nat → Nat × Nat) (sz : Nat) (hE : eR_E X L tg) (A : ew_R) (rq : Nat) (ln : Nat) (cc : Int32) (nl : Nat) (pk : Nat) (w : Nat) (lg : Nat) (hnl : ln < nl) (hn2 : nl ≤ 32) (q2 : A 0 0 2 = nI nl) (hrq : rq < 6) (q11 : A 11 0 ln = nI rq) (q22 : A 22 0 (6 * ln + rq) = 0) (hpk : pk < 6) (q16 : A 16 0 ln = nI pk) (hw : w ≤ 64) (hq : A 0 0 4 = nI w) (hlg : lg < 3000) (hg : A 0 0 5 = nI lg) : Met l yM_act wsM_act ({ frames := 5, cells := 0, slots := 0, locals := 114 }) (er_Pc D vwCl (tysA T) (cfR T) X L tg A sz [.ref (X 0 0), .int (nI rq), .int (nI ln), .int 4, .int cc]) (er_Qi D vwCl (cfR T) X L tg sz (fun r u => r = (s_act_4 A rq ln cc nl pk w lg).1 ∧ u = (s_act_4 A rq ln cc nl pk w lg).2)) 0 0 (ew_A L sz) := by
  refine er_met (by decide) rfl (Nat.le_of_ble_eq_true rfl) ?_
  intro p e s m below meth c ls hx hb hr hts hown hlocks hml hV hK hS hA hl hsz
  subst hsz
  have hi0 := hE 0 (by decide)
  have hl : lv_has ls 8 [(0, .ref (X 0 0)), (1, .int (nI rq)), (2, .int (nI ln)), (3, .int 4), (4, .int cc)] := hl
  refine lv_aload_n hx hb dM_act_0 rfl (lv_at hl 0 rfl) ?_
  refine lv_iload_n hx hb dM_act_1 rfl (lv_at hl 2 rfl) ?_
  refine er_calli (va_runV (As := [.int (nI ln)]) (rest := []) ⟨hx, hb, hml, hown, hts⟩ (r_isLoan l D T X L tg _ hE A (nI ln)) (cwV 1 hts gM_172 rfl rfl rfl (by decide +kernel) ⟨Nat.le_of_ble_eq_true rfl, Nat.le_of_ble_eq_true rfl⟩) (er_preV hK hV hi0 (cR_0 _ _ _) rfl) rfl rfl hl.1 rfl (lv_room (Nat.le_of_ble_eq_true rfl)) dM_act_2 ⟨Nat.le_of_ble_eq_true rfl, Nat.le_of_ble_eq_true rfl⟩) hV hS hA (fun r u H locs hp hV hS => ?_)
  obtain ⟨rfl, eu9⟩ := hp
  rw [eu9] at hV
  refine lv_toe (y := 1) (s_isLoan_1 q2 hnl hn2) ?_
  refine lv_if_eq (tgt := 29) hx hb dM_act_5 rfl (fun h9 => absurd h9 (by decide)) (fun _ => ?_)
  refine lv_iload_n hx hb dM_act_8 rfl (lv_at hl 1 rfl) ?_
  refine er_calli (va_runS (As := [.int (nI rq)]) (rest := []) ⟨hx, hb, hml, hown, hts⟩ (r_isLibrary l D T X L tg _ hE A (nI rq)) (cwS 1 hts gM_142 rfl rfl rfl (by decide +kernel) ⟨Nat.le_of_ble_eq_true rfl, Nat.le_of_ble_eq_true rfl⟩) (er_preS hK hV) rfl rfl hl.1 rfl (lv_room (Nat.le_of_ble_eq_true rfl)) dM_act_9 ⟨Nat.le_of_ble_eq_true rfl, Nat.le_of_ble_eq_true rfl⟩) hV hS hA (fun r u H locs hp hV hS => ?_)
  obtain ⟨rfl, eu9⟩ := hp
  rw [eu9] at hV
  refine lv_toe (y := 1) (s_isLibrary_1 hrq) ?_
  refine lv_if_eq (tgt := 29) hx hb dM_act_12 rfl (fun h9 => absurd h9 (by decide)) (fun _ => ?_)
  refine lv_iload_n hx hb dM_act_15 rfl (lv_at hl 1 rfl) ?_
  refine lv_aload_n hx hb dM_act_16 rfl (lv_at hl 0 rfl) ?_
  refine ew_get (v := .ref (X 11 0)) hx hb hts hown hK hV fM_25 hi0 (cR_0 _ _ _) rfl dM_act_17 ?_
  refine lv_iload_n hx hb dM_act_20 rfl (lv_at hl 2 rfl) ?_
  refine ew_iald (v := A 11 0 ln) hx hb hK hV (hE 11 (by decide)) (cR_11 _ _ _) 0 rfl (vp_in_nI (by omega) (by decide)) (er_ix (by omega) rfl) dM_act_21 ?_
  refine lv_toe (y := nI rq) q11 ?_
  refine lv_icmp_ne (tgt := 29) hx hb dM_act_22 rfl (fun h9 => absurd ((nI_eq (a := rq) (b := rq) (by omega) (by omega)).mpr rfl) h9) (fun _ => ?_)
  refine lv_iconst (v := 1) hx hb dM_act_25 (by decide) ?_
  refine lv_goto (tgt := 30) hx hb dM_act_26 rfl ?_
  refine lv_istore (lv' := [(5, .int 1), (0, .ref (X 0 0)), (1, .int (nI rq)), (2, .int (nI ln)), (3, .int 4), (4, .int cc)]) hx hb dM_act_30 hl (by decide) rfl (fun ls hl => ?_)
  refine lv_aload_n hx hb dM_act_32 rfl (lv_at hl 1 rfl) ?_
  refine lv_iload_n hx hb dM_act_33 rfl (lv_at hl 3 rfl) ?_
  refine er_calli (va_runV (As := [.int (nI ln)]) (rest := []) ⟨hx, hb, hml, hown, hts⟩ (r_isLoan l D T X L tg _ hE A (nI ln)) (cwV 1 hts gM_172 rfl rfl rfl (by decide +kernel) ⟨Nat.le_of_ble_eq_true rfl, Nat.le_of_ble_eq_true rfl⟩) (er_preV hK hV hi0 (cR_0 _ _ _) rfl) rfl rfl hl.1 rfl (lv_room (Nat.le_of_ble_eq_true rfl)) dM_act_34 ⟨Nat.le_of_ble_eq_true rfl, Nat.le_of_ble_eq_true rfl⟩) hV hS hA (fun r u H locs hp hV hS => ?_)
  obtain ⟨rfl, eu9⟩ := hp
  rw [eu9] at hV
  refine lv_toe (y := 1) (s_isLoan_1 q2 hnl hn2) ?_
  refine lv_if_eq (tgt := 65) hx hb dM_act_37 rfl (fun h9 => absurd h9 (by decide)) (fun _ => ?_)
  refine lv_iload_n hx hb dM_act_40 rfl (lv_at hl 2 rfl) ?_
  refine er_calli (va_runS (As := [.int (nI rq)]) (rest := []) ⟨hx, hb, hml, hown, hts⟩ (r_isLibrary l D T X L tg _ hE A (nI rq)) (cwS 1 hts gM_142 rfl rfl rfl (by decide +kernel) ⟨Nat.le_of_ble_eq_true rfl, Nat.le_of_ble_eq_true rfl⟩) (er_preS hK hV) rfl rfl hl.1 rfl (lv_room (Nat.le_of_ble_eq_true rfl)) dM_act_41 ⟨Nat.le_of_ble_eq_true rfl, Nat.le_of_ble_eq_true rfl⟩) hV hS hA (fun r u H locs hp hV hS => ?_)
  obtain ⟨rfl, eu9⟩ := hp
  rw [eu9] at hV
  refine lv_toe (y := 1) (s_isLibrary_1 hrq) ?_
  refine lv_if_eq (tgt := 65) hx hb dM_act_44 rfl (fun h9 => absurd h9 (by decide)) (fun _ => ?_)
  refine lv_aload_n hx hb dM_act_47 rfl (lv_at hl 1 rfl) ?_
  refine ew_get (v := .ref (X 22 0)) hx hb hts hown hK hV fM_58 hi0 (cR_0 _ _ _) rfl dM_act_48 ?_
  refine lv_bipush (v := 6) hx hb dM_act_51 (by decide) ?_
  refine lv_iload_n hx hb dM_act_53 rfl (lv_at hl 3 rfl) ?_
  refine lv_imul hx hb dM_act_54 ?_
  refine lv_toe (y := nI (6 * ln)) (pk_mul 6 ln) ?_
  refine lv_iload_n hx hb dM_act_55 rfl (lv_at hl 2 rfl) ?_
  refine lv_iadd hx hb dM_act_56 ?_
  refine lv_toe (y := nI ((6 * ln) + rq)) (nI_add (6 * ln) rq) ?_
  refine ew_zald (v := A 22 0 ((6 * ln) + rq)) hx hb hK hV (hE 22 (by decide)) (cR_22 _ _ _) 1 rfl (vp_in_nI (by omega) (by decide)) (er_ix (by omega) rfl) dM_act_57 ?_
  refine lv_if_eq (tgt := 65) hx hb dM_act_58 rfl (fun _ => ?_) (fun h9 => absurd q22 h9)
  refine lv_iconst (v := 0) hx hb dM_act_65 (by decide) ?_
  refine lv_istore (lv' := [(6, .int 0), (5, .int 1), (0, .ref (X 0 0)), (1, .int (nI rq)), (2, .int (nI ln)), (3, .int 4), (4, .int cc)]) hx hb dM_act_66 hl (by decide) rfl (fun ls hl => ?_)
  refine lv_iload_n hx hb dM_act_68 rfl (lv_at hl 5 rfl) ?_
  refine lv_if_lt (tgt := 83) hx hb dM_act_69 rfl (fun h9 => absurd h9 (by decide)) (fun _ => ?_)
  refine lv_iload_n hx hb dM_act_72 rfl (lv_at hl 5 rfl) ?_
  refine lv_bipush (v := 7) hx hb dM_act_73 (by decide) ?_
  refine lv_icmp_ge (tgt := 83) hx hb dM_act_75 rfl (fun h9 => absurd h9 (by decide)) (fun _ => ?_)
  refine lv_iload hx hb dM_act_78 (lv_at hl 1 rfl) ?_
  refine lv_if_ne (tgt := 100) hx hb dM_act_80 rfl (fun _ => ?_) (fun h9 => absurd h9 (by decide))
  refine lv_iconst (v := 1) hx hb dM_act_100 (by decide) ?_
  refine lv_goto (tgt := 105) hx hb dM_act_101 rfl ?_
  refine lv_istore (lv' := [(7, .int 1), (6, .int 0), (5, .int 1), (0, .ref (X 0 0)), (1, .int (nI rq)), (2, .int (nI ln)), (3, .int 4), (4, .int cc)]) hx hb dM_act_105 hl (by decide) rfl (fun ls hl => ?_)
  refine lv_aload_n hx hb dM_act_107 rfl (lv_at hl 3 rfl) ?_
  refine lv_iload hx hb dM_act_108 (lv_at hl 0 rfl) ?_
  refine lv_if_ne (tgt := 117) hx hb dM_act_110 rfl (fun _ => ?_) (fun h9 => absurd h9 (by decide))
  refine lv_iconst (v := 0) hx hb dM_act_117 (by decide) ?_
  refine lv_iload hx hb dM_act_118 (lv_at hl 0 rfl) ?_
  refine lv_if_eq (tgt := 156) hx hb dM_act_120 rfl (fun h9 => absurd h9 (by decide)) (fun _ => ?_)
  refine lv_iload hx hb dM_act_123 (lv_at hl 2 rfl) ?_
  refine lv_if_eq (tgt := 140) hx hb dM_act_125 rfl (fun h9 => absurd h9 (by decide)) (fun _ => ?_)
  refine lv_aload_n hx hb dM_act_128 rfl (lv_at hl 3 rfl) ?_
  refine lv_iload_n hx hb dM_act_129 rfl (lv_at hl 5 rfl) ?_
  refine lv_iload_n hx hb dM_act_130 rfl (lv_at hl 6 rfl) ?_
  refine er_calli (va_runV (As := [.int (nI ln), .int 4]) (rest := [.int 0, .ref (X 0 0)]) ⟨hx, hb, hml, hown, hts⟩ (r_mayRequester_4 l D T X L tg _ hE A ln (by omega)) (cwV 2 hts gM_175 rfl rfl rfl (by decide +kernel) ⟨Nat.le_of_ble_eq_true rfl, Nat.le_of_ble_eq_true rfl⟩) (er_preV hK hV hi0 (cR_0 _ _ _) rfl) rfl rfl hl.1 rfl (lv_room (Nat.le_of_ble_eq_true rfl)) dM_act_131 ⟨Nat.le_of_ble_eq_true rfl, Nat.le_of_ble_eq_true rfl⟩) hV hS hA (fun r u H locs hp hV hS => ?_)
  obtain ⟨rfl, eu9⟩ := hp
  rw [eu9] at hV
  refine lv_if_ne (tgt := 156) hx hb dM_act_134 rfl (fun h1 => ?_) (fun h1 => ?_)
  · refine lv_iconst (v := 0) hx hb dM_act_156 (by decide) ?_
    refine er_calli (va_runV (As := [.int 0, .int 0]) (rest := []) ⟨hx, hb, hml, hown, hts⟩ (r_refuses_c l D T X L tg _ hE A) (cwV 2 hts gM_152 rfl rfl rfl (by decide +kernel) ⟨Nat.le_of_ble_eq_true rfl, Nat.le_of_ble_eq_true rfl⟩) (er_preV hK hV hi0 (cR_0 _ _ _) rfl) rfl rfl hl.1 rfl (lv_room (Nat.le_of_ble_eq_true rfl)) dM_act_157 ⟨Nat.le_of_ble_eq_true rfl, Nat.le_of_ble_eq_true rfl⟩) hV hS hA (fun r u H locs hp hV hS => ?_)
    obtain ⟨rfl, rfl⟩ := hp
    refine lv_if_eq (tgt := 165) hx hb dM_act_160 rfl (fun _ => ?_) (fun h9 => absurd (by decide) h9)
    refine lv_iload hx hb dM_act_165 (lv_at hl 2 rfl) ?_
    refine lv_if_eq (tgt := 179) hx hb dM_act_167 rfl (fun h9 => absurd h9 (by decide)) (fun _ => ?_)
    refine lv_aload_n hx hb dM_act_170 rfl (lv_at hl 3 rfl) ?_
    refine lv_iload_n hx hb dM_act_171 rfl (lv_at hl 5 rfl) ?_
    refine lv_iload_n hx hb dM_act_172 rfl (lv_at hl 6 rfl) ?_
    refine er_callv (va_runV (As := [.int (nI ln), .int 4]) (rest := []) ⟨hx, hb, hml, hown, hts⟩ (r_stepRequester_4 l D T X L tg _ hE (up3 A 0 0 0 0) ln pk w lg (by omega) hpk q16 hw hq hlg hg) (cwV 2 hts gM_183 rfl rfl rfl (by decide +kernel) ⟨Nat.le_of_ble_eq_true rfl, Nat.le_of_ble_eq_true rfl⟩) (er_preV hK hV hi0 (cR_0 _ _ _) rfl) rfl rfl hl.1 rfl (lv_room (Nat.le_of_ble_eq_true rfl)) dM_act_173 ⟨Nat.le_of_ble_eq_true rfl, Nat.le_of_ble_eq_true rfl⟩) hV hS hA (fun u2 H locs eu2 hV hS => ?_)
    have eu2 : u2 = s_stepRequester_4 (up3 A 0 0 0 0) ln pk w lg := eu2
    refine lv_goto (tgt := 188) hx hb dM_act_176 rfl ?_
    refine lv_iload hx hb dM_act_188 (lv_at hl 2 rfl) ?_
    refine lv_if_eq (tgt := 202) hx hb dM_act_190 rfl (fun h9 => absurd h9 (by decide)) (fun _ => ?_)
    refine lv_aload_n hx hb dM_act_193 rfl (lv_at hl 3 rfl) ?_
    refine ew_get (v := .ref (X 18 0)) hx hb hts hown hK hV fM_46 hi0 (cR_0 _ _ _) rfl dM_act_194 ?_
    refine lv_iload_n hx hb dM_act_197 rfl (lv_at hl 5 rfl) ?_
    refine ew_iald (v := u2 18 0 ln) hx hb hK hV (hE 18 (by decide)) (cR_18 _ _ _) 0 rfl (vp_in_nI (by omega) (by decide)) (er_ix (by omega) rfl) dM_act_198 ?_
    refine lv_goto (tgt := 213) hx hb dM_act_199 rfl ?_
    subst eu2
    exact er_iret hx hb hr hlocks hV hS dM_act_213 ⟨Eq.symm (by unfold s_act_4; simp only [if_neg h1]), Eq.symm (by unfold s_act_4; simp only [if_neg h1])⟩
  · refine lv_goto (tgt := 152) hx hb dM_act_137 rfl ?_
    refine lv_iconst (v := 1) hx hb dM_act_152 (by decide) ?_
    refine lv_goto (tgt := 157) hx hb dM_act_153 rfl ?_
    refine er_calli (va_runV (As := [.int 0, .int 1]) (rest := []) ⟨hx, hb, hml, hown, hts⟩ (r_refuses_b l D T X L tg _ hE A) (cwV 2 hts gM_152 rfl rfl rfl (by decide +kernel) ⟨Nat.le_of_ble_eq_true rfl, Nat.le_of_ble_eq_true rfl⟩) (er_preV hK hV hi0 (cR_0 _ _ _) rfl) rfl rfl hl.1 rfl (lv_room (Nat.le_of_ble_eq_true rfl)) dM_act_157 ⟨Nat.le_of_ble_eq_true rfl, Nat.le_of_ble_eq_true rfl⟩) hV hS hA (fun r u H locs hp hV hS => ?_)
    obtain ⟨rfl, rfl⟩ := hp
    refine lv_if_eq (tgt := 165) hx hb dM_act_160 rfl (fun h9 => absurd h9 (by decide)) (fun _ => ?_)
    refine lv_iconst (v := 0) hx hb dM_act_163 (by decide) ?_
    exact er_iret hx hb hr hlocks hV hS dM_act_164 ⟨Eq.symm (by unfold s_act_4; simp only [if_pos h1]), Eq.symm (by unfold s_act_4; simp only [if_pos h1])⟩

def s_act_5 (A : ew_R) (rq : Nat) (ln : Nat) (cc : Int32) (nl : Nat) (pk : Nat) (cp : Nat) (w : Nat) (lg : Nat) : Int32 × ew_R :=
  if s_mayRequester_5 A ln = 0 then
    (0, up3 A 0 0 0 2)
  else
    ((s_stepRequester_5 (up3 A 0 0 0 0) ln pk cp w lg) 18 0 ln, (s_stepRequester_5 (up3 A 0 0 0 0) ln pk cp w lg))
set_option maxHeartbeats 4000000 in
set_option maxRecDepth 100000 in
theorem r_act_5 (l : Launch) (D : va_G) (T : Nat → ClassId) (X : Nat → Nat → Nat) (L : List Nat) (tg : Nat → Nat × Nat) (sz : Nat) (hE : eR_E X L tg) (A : ew_R) (rq : Nat) (ln : Nat) (cc : Int32) (nl : Nat) (pk : Nat) (cp : Nat) (w : Nat) (lg : Nat) (hnl : ln < nl) (hn2 : nl ≤ 32) (q2 : A 0 0 2 = nI nl) (hrq : rq < 6) (q11 : A 11 0 ln = nI rq) (q22 : A 22 0 (6 * ln + rq) = 0) (hpk : pk < 6) (q16 : A 16 0 ln = nI pk) (hcp : cp < 32) (q17 : A 17 0 ln = nI cp) (hw : w ≤ 64) (hq : A 0 0 4 = nI w) (hlg : lg < 3000) (hg : A 0 0 5 = nI lg) : Met l yM_act wsM_act ({ frames := 5, cells := 0, slots := 0, locals := 114 }) (er_Pc D vwCl (tysA T) (cfR T) X L tg A sz [.ref (X 0 0), .int (nI rq), .int (nI ln), .int 5, .int cc]) (er_Qi D vwCl (cfR T) X L tg sz (fun r u => r = (s_act_5 A rq ln cc nl pk cp w lg).1 ∧ u = (s_act_5 A rq ln cc nl pk cp w lg).2)) 0 0 (ew_A L sz) := by
  refine er_met (by decide) rfl (Nat.le_of_ble_eq_true rfl) ?_
  intro p e s m below meth c ls hx hb hr hts hown hlocks hml hV hK hS hA hl hsz
  subst hsz
  have hi0 := hE 0 (by decide)
  have hl : lv_has ls 8 [(0, .ref (X 0 0)), (1, .int (nI rq)), (2, .int (nI ln)), (3, .int 5), (4, .int cc)] := hl
  refine lv_aload_n hx hb dM_act_0 rfl (lv_at hl 0 rfl) ?_
  refine lv_iload_n hx hb dM_act_1 rfl (lv_at hl 2 rfl) ?_
  refine er_calli (va_runV (As := [.int (nI ln)]) (rest := []) ⟨hx, hb, hml, hown, hts⟩ (r_isLoan l D T X L tg _ hE A (nI ln)) (cwV 1 hts gM_172 rfl rfl rfl (by decide +kernel) ⟨Nat.le_of_ble_eq_true rfl, Nat.le_of_ble_eq_true rfl⟩) (er_preV hK hV hi0 (cR_0 _ _ _) rfl) rfl rfl hl.1 rfl (lv_room (Nat.le_of_ble_eq_true rfl)) dM_act_2 ⟨Nat.le_of_ble_eq_true rfl, Nat.le_of_ble_eq_true rfl⟩) hV hS hA (fun r u H locs hp hV hS => ?_)
  obtain ⟨rfl, eu9⟩ := hp
  rw [eu9] at hV
  refine lv_toe (y := 1) (s_isLoan_1 q2 hnl hn2) ?_
  refine lv_if_eq (tgt := 29) hx hb dM_act_5 rfl (fun h9 => absurd h9 (by decide)) (fun _ => ?_)
  refine lv_iload_n hx hb dM_act_8 rfl (lv_at hl 1 rfl) ?_
  refine er_calli (va_runS (As := [.int (nI rq)]) (rest := []) ⟨hx, hb, hml, hown, hts⟩ (r_isLibrary l D T X L tg _ hE A (nI rq)) (cwS 1 hts gM_142 rfl rfl rfl (by decide +kernel) ⟨Nat.le_of_ble_eq_true rfl, Nat.le_of_ble_eq_true rfl⟩) (er_preS hK hV) rfl rfl hl.1 rfl (lv_room (Nat.le_of_ble_eq_true rfl)) dM_act_9 ⟨Nat.le_of_ble_eq_true rfl, Nat.le_of_ble_eq_true rfl⟩) hV hS hA (fun r u H locs hp hV hS => ?_)
  obtain ⟨rfl, eu9⟩ := hp
  rw [eu9] at hV
  refine lv_toe (y := 1) (s_isLibrary_1 hrq) ?_
  refine lv_if_eq (tgt := 29) hx hb dM_act_12 rfl (fun h9 => absurd h9 (by decide)) (fun _ => ?_)
  refine lv_iload_n hx hb dM_act_15 rfl (lv_at hl 1 rfl) ?_
  refine lv_aload_n hx hb dM_act_16 rfl (lv_at hl 0 rfl) ?_
  refine ew_get (v := .ref (X 11 0)) hx hb hts hown hK hV fM_25 hi0 (cR_0 _ _ _) rfl dM_act_17 ?_
  refine lv_iload_n hx hb dM_act_20 rfl (lv_at hl 2 rfl) ?_
  refine ew_iald (v := A 11 0 ln) hx hb hK hV (hE 11 (by decide)) (cR_11 _ _ _) 0 rfl (vp_in_nI (by omega) (by decide)) (er_ix (by omega) rfl) dM_act_21 ?_
  refine lv_toe (y := nI rq) q11 ?_
  refine lv_icmp_ne (tgt := 29) hx hb dM_act_22 rfl (fun h9 => absurd ((nI_eq (a := rq) (b := rq) (by omega) (by omega)).mpr rfl) h9) (fun _ => ?_)
  refine lv_iconst (v := 1) hx hb dM_act_25 (by decide) ?_
  refine lv_goto (tgt := 30) hx hb dM_act_26 rfl ?_
  refine lv_istore (lv' := [(5, .int 1), (0, .ref (X 0 0)), (1, .int (nI rq)), (2, .int (nI ln)), (3, .int 5), (4, .int cc)]) hx hb dM_act_30 hl (by decide) rfl (fun ls hl => ?_)
  refine lv_aload_n hx hb dM_act_32 rfl (lv_at hl 1 rfl) ?_
  refine lv_iload_n hx hb dM_act_33 rfl (lv_at hl 3 rfl) ?_
  refine er_calli (va_runV (As := [.int (nI ln)]) (rest := []) ⟨hx, hb, hml, hown, hts⟩ (r_isLoan l D T X L tg _ hE A (nI ln)) (cwV 1 hts gM_172 rfl rfl rfl (by decide +kernel) ⟨Nat.le_of_ble_eq_true rfl, Nat.le_of_ble_eq_true rfl⟩) (er_preV hK hV hi0 (cR_0 _ _ _) rfl) rfl rfl hl.1 rfl (lv_room (Nat.le_of_ble_eq_true rfl)) dM_act_34 ⟨Nat.le_of_ble_eq_true rfl, Nat.le_of_ble_eq_true rfl⟩) hV hS hA (fun r u H locs hp hV hS => ?_)
  obtain ⟨rfl, eu9⟩ := hp
  rw [eu9] at hV
  refine lv_toe (y := 1) (s_isLoan_1 q2 hnl hn2) ?_
  refine lv_if_eq (tgt := 65) hx hb dM_act_37 rfl (fun h9 => absurd h9 (by decide)) (fun _ => ?_)
  refine lv_iload_n hx hb dM_act_40 rfl (lv_at hl 2 rfl) ?_
  refine er_calli (va_runS (As := [.int (nI rq)]) (rest := []) ⟨hx, hb, hml, hown, hts⟩ (r_isLibrary l D T X L tg _ hE A (nI rq)) (cwS 1 hts gM_142 rfl rfl rfl (by decide +kernel) ⟨Nat.le_of_ble_eq_true rfl, Nat.le_of_ble_eq_true rfl⟩) (er_preS hK hV) rfl rfl hl.1 rfl (lv_room (Nat.le_of_ble_eq_true rfl)) dM_act_41 ⟨Nat.le_of_ble_eq_true rfl, Nat.le_of_ble_eq_true rfl⟩) hV hS hA (fun r u H locs hp hV hS => ?_)
  obtain ⟨rfl, eu9⟩ := hp
  rw [eu9] at hV
  refine lv_toe (y := 1) (s_isLibrary_1 hrq) ?_
  refine lv_if_eq (tgt := 65) hx hb dM_act_44 rfl (fun h9 => absurd h9 (by decide)) (fun _ => ?_)
  refine lv_aload_n hx hb dM_act_47 rfl (lv_at hl 1 rfl) ?_
  refine ew_get (v := .ref (X 22 0)) hx hb hts hown hK hV fM_58 hi0 (cR_0 _ _ _) rfl dM_act_48 ?_
  refine lv_bipush (v := 6) hx hb dM_act_51 (by decide) ?_
  refine lv_iload_n hx hb dM_act_53 rfl (lv_at hl 3 rfl) ?_
  refine lv_imul hx hb dM_act_54 ?_
  refine lv_toe (y := nI (6 * ln)) (pk_mul 6 ln) ?_
  refine lv_iload_n hx hb dM_act_55 rfl (lv_at hl 2 rfl) ?_
  refine lv_iadd hx hb dM_act_56 ?_
  refine lv_toe (y := nI ((6 * ln) + rq)) (nI_add (6 * ln) rq) ?_
  refine ew_zald (v := A 22 0 ((6 * ln) + rq)) hx hb hK hV (hE 22 (by decide)) (cR_22 _ _ _) 1 rfl (vp_in_nI (by omega) (by decide)) (er_ix (by omega) rfl) dM_act_57 ?_
  refine lv_if_eq (tgt := 65) hx hb dM_act_58 rfl (fun _ => ?_) (fun h9 => absurd q22 h9)
  refine lv_iconst (v := 0) hx hb dM_act_65 (by decide) ?_
  refine lv_istore (lv' := [(6, .int 0), (5, .int 1), (0, .ref (X 0 0)), (1, .int (nI rq)), (2, .int (nI ln)), (3, .int 5), (4, .int cc)]) hx hb dM_act_66 hl (by decide) rfl (fun ls hl => ?_)
  refine lv_iload_n hx hb dM_act_68 rfl (lv_at hl 5 rfl) ?_
  refine lv_if_lt (tgt := 83) hx hb dM_act_69 rfl (fun h9 => absurd h9 (by decide)) (fun _ => ?_)
  refine lv_iload_n hx hb dM_act_72 rfl (lv_at hl 5 rfl) ?_
  refine lv_bipush (v := 7) hx hb dM_act_73 (by decide) ?_
  refine lv_icmp_ge (tgt := 83) hx hb dM_act_75 rfl (fun h9 => absurd h9 (by decide)) (fun _ => ?_)
  refine lv_iload hx hb dM_act_78 (lv_at hl 1 rfl) ?_
  refine lv_if_ne (tgt := 100) hx hb dM_act_80 rfl (fun _ => ?_) (fun h9 => absurd h9 (by decide))
  refine lv_iconst (v := 1) hx hb dM_act_100 (by decide) ?_
  refine lv_goto (tgt := 105) hx hb dM_act_101 rfl ?_
  refine lv_istore (lv' := [(7, .int 1), (6, .int 0), (5, .int 1), (0, .ref (X 0 0)), (1, .int (nI rq)), (2, .int (nI ln)), (3, .int 5), (4, .int cc)]) hx hb dM_act_105 hl (by decide) rfl (fun ls hl => ?_)
  refine lv_aload_n hx hb dM_act_107 rfl (lv_at hl 3 rfl) ?_
  refine lv_iload hx hb dM_act_108 (lv_at hl 0 rfl) ?_
  refine lv_if_ne (tgt := 117) hx hb dM_act_110 rfl (fun _ => ?_) (fun h9 => absurd h9 (by decide))
  refine lv_iconst (v := 0) hx hb dM_act_117 (by decide) ?_
  refine lv_iload hx hb dM_act_118 (lv_at hl 0 rfl) ?_
  refine lv_if_eq (tgt := 156) hx hb dM_act_120 rfl (fun h9 => absurd h9 (by decide)) (fun _ => ?_)
  refine lv_iload hx hb dM_act_123 (lv_at hl 2 rfl) ?_
  refine lv_if_eq (tgt := 140) hx hb dM_act_125 rfl (fun h9 => absurd h9 (by decide)) (fun _ => ?_)
  refine lv_aload_n hx hb dM_act_128 rfl (lv_at hl 3 rfl) ?_
  refine lv_iload_n hx hb dM_act_129 rfl (lv_at hl 5 rfl) ?_
  refine lv_iload_n hx hb dM_act_130 rfl (lv_at hl 6 rfl) ?_
  refine er_calli (va_runV (As := [.int (nI ln), .int 5]) (rest := [.int 0, .ref (X 0 0)]) ⟨hx, hb, hml, hown, hts⟩ (r_mayRequester_5 l D T X L tg _ hE A ln (by omega)) (cwV 2 hts gM_175 rfl rfl rfl (by decide +kernel) ⟨Nat.le_of_ble_eq_true rfl, Nat.le_of_ble_eq_true rfl⟩) (er_preV hK hV hi0 (cR_0 _ _ _) rfl) rfl rfl hl.1 rfl (lv_room (Nat.le_of_ble_eq_true rfl)) dM_act_131 ⟨Nat.le_of_ble_eq_true rfl, Nat.le_of_ble_eq_true rfl⟩) hV hS hA (fun r u H locs hp hV hS => ?_)
  obtain ⟨rfl, eu9⟩ := hp
  rw [eu9] at hV
  refine lv_if_ne (tgt := 156) hx hb dM_act_134 rfl (fun h1 => ?_) (fun h1 => ?_)
  · refine lv_iconst (v := 0) hx hb dM_act_156 (by decide) ?_
    refine er_calli (va_runV (As := [.int 0, .int 0]) (rest := []) ⟨hx, hb, hml, hown, hts⟩ (r_refuses_c l D T X L tg _ hE A) (cwV 2 hts gM_152 rfl rfl rfl (by decide +kernel) ⟨Nat.le_of_ble_eq_true rfl, Nat.le_of_ble_eq_true rfl⟩) (er_preV hK hV hi0 (cR_0 _ _ _) rfl) rfl rfl hl.1 rfl (lv_room (Nat.le_of_ble_eq_true rfl)) dM_act_157 ⟨Nat.le_of_ble_eq_true rfl, Nat.le_of_ble_eq_true rfl⟩) hV hS hA (fun r u H locs hp hV hS => ?_)
    obtain ⟨rfl, rfl⟩ := hp
    refine lv_if_eq (tgt := 165) hx hb dM_act_160 rfl (fun _ => ?_) (fun h9 => absurd (by decide) h9)
    refine lv_iload hx hb dM_act_165 (lv_at hl 2 rfl) ?_
    refine lv_if_eq (tgt := 179) hx hb dM_act_167 rfl (fun h9 => absurd h9 (by decide)) (fun _ => ?_)
    refine lv_aload_n hx hb dM_act_170 rfl (lv_at hl 3 rfl) ?_
    refine lv_iload_n hx hb dM_act_171 rfl (lv_at hl 5 rfl) ?_
    refine lv_iload_n hx hb dM_act_172 rfl (lv_at hl 6 rfl) ?_
    refine er_callv (va_runV (As := [.int (nI ln), .int 5]) (rest := []) ⟨hx, hb, hml, hown, hts⟩ (r_stepRequester_5 l D T X L tg _ hE (up3 A 0 0 0 0) ln pk cp w lg (by omega) hpk q16 hcp q17 hw hq hlg hg) (cwV 2 hts gM_183 rfl rfl rfl (by decide +kernel) ⟨Nat.le_of_ble_eq_true rfl, Nat.le_of_ble_eq_true rfl⟩) (er_preV hK hV hi0 (cR_0 _ _ _) rfl) rfl rfl hl.1 rfl (lv_room (Nat.le_of_ble_eq_true rfl)) dM_act_173 ⟨Nat.le_of_ble_eq_true rfl, Nat.le_of_ble_eq_true rfl⟩) hV hS hA (fun u2 H locs eu2 hV hS => ?_)
    have eu2 : u2 = s_stepRequester_5 (up3 A 0 0 0 0) ln pk cp w lg := eu2
    refine lv_goto (tgt := 188) hx hb dM_act_176 rfl ?_
    refine lv_iload hx hb dM_act_188 (lv_at hl 2 rfl) ?_
    refine lv_if_eq (tgt := 202) hx hb dM_act_190 rfl (fun h9 => absurd h9 (by decide)) (fun _ => ?_)
    refine lv_aload_n hx hb dM_act_193 rfl (lv_at hl 3 rfl) ?_
    refine ew_get (v := .ref (X 18 0)) hx hb hts hown hK hV fM_46 hi0 (cR_0 _ _ _) rfl dM_act_194 ?_
    refine lv_iload_n hx hb dM_act_197 rfl (lv_at hl 5 rfl) ?_
    refine ew_iald (v := u2 18 0 ln) hx hb hK hV (hE 18 (by decide)) (cR_18 _ _ _) 0 rfl (vp_in_nI (by omega) (by decide)) (er_ix (by omega) rfl) dM_act_198 ?_
    refine lv_goto (tgt := 213) hx hb dM_act_199 rfl ?_
    subst eu2
    exact er_iret hx hb hr hlocks hV hS dM_act_213 ⟨Eq.symm (by unfold s_act_5; simp only [if_neg h1]), Eq.symm (by unfold s_act_5; simp only [if_neg h1])⟩
  · refine lv_goto (tgt := 152) hx hb dM_act_137 rfl ?_
    refine lv_iconst (v := 1) hx hb dM_act_152 (by decide) ?_
    refine lv_goto (tgt := 157) hx hb dM_act_153 rfl ?_
    refine er_calli (va_runV (As := [.int 0, .int 1]) (rest := []) ⟨hx, hb, hml, hown, hts⟩ (r_refuses_b l D T X L tg _ hE A) (cwV 2 hts gM_152 rfl rfl rfl (by decide +kernel) ⟨Nat.le_of_ble_eq_true rfl, Nat.le_of_ble_eq_true rfl⟩) (er_preV hK hV hi0 (cR_0 _ _ _) rfl) rfl rfl hl.1 rfl (lv_room (Nat.le_of_ble_eq_true rfl)) dM_act_157 ⟨Nat.le_of_ble_eq_true rfl, Nat.le_of_ble_eq_true rfl⟩) hV hS hA (fun r u H locs hp hV hS => ?_)
    obtain ⟨rfl, rfl⟩ := hp
    refine lv_if_eq (tgt := 165) hx hb dM_act_160 rfl (fun h9 => absurd h9 (by decide)) (fun _ => ?_)
    refine lv_iconst (v := 0) hx hb dM_act_163 (by decide) ?_
    exact er_iret hx hb hr hlocks hV hS dM_act_164 ⟨Eq.symm (by unfold s_act_5; simp only [if_pos h1]), Eq.symm (by unfold s_act_5; simp only [if_pos h1])⟩

def s_act_6 (A : ew_R) (rq : Nat) (ln : Nat) (cc : Int32) (nl : Nat) (pk : Nat) (cp : Nat) (w : Nat) (lg : Nat) : Int32 × ew_R :=
  if s_mayRequester_6 A ln = 0 then
    (0, up3 A 0 0 0 2)
  else
    ((s_stepRequester_6 (up3 A 0 0 0 0) ln pk cp rq w lg) 18 0 ln, (s_stepRequester_6 (up3 A 0 0 0 0) ln pk cp rq w lg))
set_option maxHeartbeats 4000000 in
set_option maxRecDepth 100000 in
theorem r_act_6 (l : Launch) (D : va_G) (T : Nat → ClassId) (X : Nat → Nat → Nat) (L : List Nat) (tg : Nat → Nat × Nat) (sz : Nat) (hE : eR_E X L tg) (A : ew_R) (rq : Nat) (ln : Nat) (cc : Int32) (nl : Nat) (pk : Nat) (cp : Nat) (w : Nat) (lg : Nat) (hnl : ln < nl) (hn2 : nl ≤ 32) (q2 : A 0 0 2 = nI nl) (hrq : rq < 6) (q11 : A 11 0 ln = nI rq) (q22 : A 22 0 (6 * ln + rq) = 0) (hpk : pk < 6) (q16 : A 16 0 ln = nI pk) (hcp : cp < 32) (q17 : A 17 0 ln = nI cp) (hw : w ≤ 64) (hq : A 0 0 4 = nI w) (hlg : lg < 3000) (hg : A 0 0 5 = nI lg) : Met l yM_act wsM_act ({ frames := 5, cells := 0, slots := 0, locals := 114 }) (er_Pc D vwCl (tysA T) (cfR T) X L tg A sz [.ref (X 0 0), .int (nI rq), .int (nI ln), .int 6, .int cc]) (er_Qi D vwCl (cfR T) X L tg sz (fun r u => r = (s_act_6 A rq ln cc nl pk cp w lg).1 ∧ u = (s_act_6 A rq ln cc nl pk cp w lg).2)) 0 0 (ew_A L sz) := by
  refine er_met (by decide) rfl (Nat.le_of_ble_eq_true rfl) ?_
  intro p e s m below meth c ls hx hb hr hts hown hlocks hml hV hK hS hA hl hsz
  subst hsz
  have hi0 := hE 0 (by decide)
  have hl : lv_has ls 8 [(0, .ref (X 0 0)), (1, .int (nI rq)), (2, .int (nI ln)), (3, .int 6), (4, .int cc)] := hl
  refine lv_aload_n hx hb dM_act_0 rfl (lv_at hl 0 rfl) ?_
  refine lv_iload_n hx hb dM_act_1 rfl (lv_at hl 2 rfl) ?_
  refine er_calli (va_runV (As := [.int (nI ln)]) (rest := []) ⟨hx, hb, hml, hown, hts⟩ (r_isLoan l D T X L tg _ hE A (nI ln)) (cwV 1 hts gM_172 rfl rfl rfl (by decide +kernel) ⟨Nat.le_of_ble_eq_true rfl, Nat.le_of_ble_eq_true rfl⟩) (er_preV hK hV hi0 (cR_0 _ _ _) rfl) rfl rfl hl.1 rfl (lv_room (Nat.le_of_ble_eq_true rfl)) dM_act_2 ⟨Nat.le_of_ble_eq_true rfl, Nat.le_of_ble_eq_true rfl⟩) hV hS hA (fun r u H locs hp hV hS => ?_)
  obtain ⟨rfl, eu9⟩ := hp
  rw [eu9] at hV
  refine lv_toe (y := 1) (s_isLoan_1 q2 hnl hn2) ?_
  refine lv_if_eq (tgt := 29) hx hb dM_act_5 rfl (fun h9 => absurd h9 (by decide)) (fun _ => ?_)
  refine lv_iload_n hx hb dM_act_8 rfl (lv_at hl 1 rfl) ?_
  refine er_calli (va_runS (As := [.int (nI rq)]) (rest := []) ⟨hx, hb, hml, hown, hts⟩ (r_isLibrary l D T X L tg _ hE A (nI rq)) (cwS 1 hts gM_142 rfl rfl rfl (by decide +kernel) ⟨Nat.le_of_ble_eq_true rfl, Nat.le_of_ble_eq_true rfl⟩) (er_preS hK hV) rfl rfl hl.1 rfl (lv_room (Nat.le_of_ble_eq_true rfl)) dM_act_9 ⟨Nat.le_of_ble_eq_true rfl, Nat.le_of_ble_eq_true rfl⟩) hV hS hA (fun r u H locs hp hV hS => ?_)
  obtain ⟨rfl, eu9⟩ := hp
  rw [eu9] at hV
  refine lv_toe (y := 1) (s_isLibrary_1 hrq) ?_
  refine lv_if_eq (tgt := 29) hx hb dM_act_12 rfl (fun h9 => absurd h9 (by decide)) (fun _ => ?_)
  refine lv_iload_n hx hb dM_act_15 rfl (lv_at hl 1 rfl) ?_
  refine lv_aload_n hx hb dM_act_16 rfl (lv_at hl 0 rfl) ?_
  refine ew_get (v := .ref (X 11 0)) hx hb hts hown hK hV fM_25 hi0 (cR_0 _ _ _) rfl dM_act_17 ?_
  refine lv_iload_n hx hb dM_act_20 rfl (lv_at hl 2 rfl) ?_
  refine ew_iald (v := A 11 0 ln) hx hb hK hV (hE 11 (by decide)) (cR_11 _ _ _) 0 rfl (vp_in_nI (by omega) (by decide)) (er_ix (by omega) rfl) dM_act_21 ?_
  refine lv_toe (y := nI rq) q11 ?_
  refine lv_icmp_ne (tgt := 29) hx hb dM_act_22 rfl (fun h9 => absurd ((nI_eq (a := rq) (b := rq) (by omega) (by omega)).mpr rfl) h9) (fun _ => ?_)
  refine lv_iconst (v := 1) hx hb dM_act_25 (by decide) ?_
  refine lv_goto (tgt := 30) hx hb dM_act_26 rfl ?_
  refine lv_istore (lv' := [(5, .int 1), (0, .ref (X 0 0)), (1, .int (nI rq)), (2, .int (nI ln)), (3, .int 6), (4, .int cc)]) hx hb dM_act_30 hl (by decide) rfl (fun ls hl => ?_)
  refine lv_aload_n hx hb dM_act_32 rfl (lv_at hl 1 rfl) ?_
  refine lv_iload_n hx hb dM_act_33 rfl (lv_at hl 3 rfl) ?_
  refine er_calli (va_runV (As := [.int (nI ln)]) (rest := []) ⟨hx, hb, hml, hown, hts⟩ (r_isLoan l D T X L tg _ hE A (nI ln)) (cwV 1 hts gM_172 rfl rfl rfl (by decide +kernel) ⟨Nat.le_of_ble_eq_true rfl, Nat.le_of_ble_eq_true rfl⟩) (er_preV hK hV hi0 (cR_0 _ _ _) rfl) rfl rfl hl.1 rfl (lv_room (Nat.le_of_ble_eq_true rfl)) dM_act_34 ⟨Nat.le_of_ble_eq_true rfl, Nat.le_of_ble_eq_true rfl⟩) hV hS hA (fun r u H locs hp hV hS => ?_)
  obtain ⟨rfl, eu9⟩ := hp
  rw [eu9] at hV
  refine lv_toe (y := 1) (s_isLoan_1 q2 hnl hn2) ?_
  refine lv_if_eq (tgt := 65) hx hb dM_act_37 rfl (fun h9 => absurd h9 (by decide)) (fun _ => ?_)
  refine lv_iload_n hx hb dM_act_40 rfl (lv_at hl 2 rfl) ?_
  refine er_calli (va_runS (As := [.int (nI rq)]) (rest := []) ⟨hx, hb, hml, hown, hts⟩ (r_isLibrary l D T X L tg _ hE A (nI rq)) (cwS 1 hts gM_142 rfl rfl rfl (by decide +kernel) ⟨Nat.le_of_ble_eq_true rfl, Nat.le_of_ble_eq_true rfl⟩) (er_preS hK hV) rfl rfl hl.1 rfl (lv_room (Nat.le_of_ble_eq_true rfl)) dM_act_41 ⟨Nat.le_of_ble_eq_true rfl, Nat.le_of_ble_eq_true rfl⟩) hV hS hA (fun r u H locs hp hV hS => ?_)
  obtain ⟨rfl, eu9⟩ := hp
  rw [eu9] at hV
  refine lv_toe (y := 1) (s_isLibrary_1 hrq) ?_
  refine lv_if_eq (tgt := 65) hx hb dM_act_44 rfl (fun h9 => absurd h9 (by decide)) (fun _ => ?_)
  refine lv_aload_n hx hb dM_act_47 rfl (lv_at hl 1 rfl) ?_
  refine ew_get (v := .ref (X 22 0)) hx hb hts hown hK hV fM_58 hi0 (cR_0 _ _ _) rfl dM_act_48 ?_
  refine lv_bipush (v := 6) hx hb dM_act_51 (by decide) ?_
  refine lv_iload_n hx hb dM_act_53 rfl (lv_at hl 3 rfl) ?_
  refine lv_imul hx hb dM_act_54 ?_
  refine lv_toe (y := nI (6 * ln)) (pk_mul 6 ln) ?_
  refine lv_iload_n hx hb dM_act_55 rfl (lv_at hl 2 rfl) ?_
  refine lv_iadd hx hb dM_act_56 ?_
  refine lv_toe (y := nI ((6 * ln) + rq)) (nI_add (6 * ln) rq) ?_
  refine ew_zald (v := A 22 0 ((6 * ln) + rq)) hx hb hK hV (hE 22 (by decide)) (cR_22 _ _ _) 1 rfl (vp_in_nI (by omega) (by decide)) (er_ix (by omega) rfl) dM_act_57 ?_
  refine lv_if_eq (tgt := 65) hx hb dM_act_58 rfl (fun _ => ?_) (fun h9 => absurd q22 h9)
  refine lv_iconst (v := 0) hx hb dM_act_65 (by decide) ?_
  refine lv_istore (lv' := [(6, .int 0), (5, .int 1), (0, .ref (X 0 0)), (1, .int (nI rq)), (2, .int (nI ln)), (3, .int 6), (4, .int cc)]) hx hb dM_act_66 hl (by decide) rfl (fun ls hl => ?_)
  refine lv_iload_n hx hb dM_act_68 rfl (lv_at hl 5 rfl) ?_
  refine lv_if_lt (tgt := 83) hx hb dM_act_69 rfl (fun h9 => absurd h9 (by decide)) (fun _ => ?_)
  refine lv_iload_n hx hb dM_act_72 rfl (lv_at hl 5 rfl) ?_
  refine lv_bipush (v := 7) hx hb dM_act_73 (by decide) ?_
  refine lv_icmp_ge (tgt := 83) hx hb dM_act_75 rfl (fun h9 => absurd h9 (by decide)) (fun _ => ?_)
  refine lv_iload hx hb dM_act_78 (lv_at hl 1 rfl) ?_
  refine lv_if_ne (tgt := 100) hx hb dM_act_80 rfl (fun _ => ?_) (fun h9 => absurd h9 (by decide))
  refine lv_iconst (v := 1) hx hb dM_act_100 (by decide) ?_
  refine lv_goto (tgt := 105) hx hb dM_act_101 rfl ?_
  refine lv_istore (lv' := [(7, .int 1), (6, .int 0), (5, .int 1), (0, .ref (X 0 0)), (1, .int (nI rq)), (2, .int (nI ln)), (3, .int 6), (4, .int cc)]) hx hb dM_act_105 hl (by decide) rfl (fun ls hl => ?_)
  refine lv_aload_n hx hb dM_act_107 rfl (lv_at hl 3 rfl) ?_
  refine lv_iload hx hb dM_act_108 (lv_at hl 0 rfl) ?_
  refine lv_if_ne (tgt := 117) hx hb dM_act_110 rfl (fun _ => ?_) (fun h9 => absurd h9 (by decide))
  refine lv_iconst (v := 0) hx hb dM_act_117 (by decide) ?_
  refine lv_iload hx hb dM_act_118 (lv_at hl 0 rfl) ?_
  refine lv_if_eq (tgt := 156) hx hb dM_act_120 rfl (fun h9 => absurd h9 (by decide)) (fun _ => ?_)
  refine lv_iload hx hb dM_act_123 (lv_at hl 2 rfl) ?_
  refine lv_if_eq (tgt := 140) hx hb dM_act_125 rfl (fun h9 => absurd h9 (by decide)) (fun _ => ?_)
  refine lv_aload_n hx hb dM_act_128 rfl (lv_at hl 3 rfl) ?_
  refine lv_iload_n hx hb dM_act_129 rfl (lv_at hl 5 rfl) ?_
  refine lv_iload_n hx hb dM_act_130 rfl (lv_at hl 6 rfl) ?_
  refine er_calli (va_runV (As := [.int (nI ln), .int 6]) (rest := [.int 0, .ref (X 0 0)]) ⟨hx, hb, hml, hown, hts⟩ (r_mayRequester_6 l D T X L tg _ hE A ln (by omega)) (cwV 2 hts gM_175 rfl rfl rfl (by decide +kernel) ⟨Nat.le_of_ble_eq_true rfl, Nat.le_of_ble_eq_true rfl⟩) (er_preV hK hV hi0 (cR_0 _ _ _) rfl) rfl rfl hl.1 rfl (lv_room (Nat.le_of_ble_eq_true rfl)) dM_act_131 ⟨Nat.le_of_ble_eq_true rfl, Nat.le_of_ble_eq_true rfl⟩) hV hS hA (fun r u H locs hp hV hS => ?_)
  obtain ⟨rfl, eu9⟩ := hp
  rw [eu9] at hV
  refine lv_if_ne (tgt := 156) hx hb dM_act_134 rfl (fun h1 => ?_) (fun h1 => ?_)
  · refine lv_iconst (v := 0) hx hb dM_act_156 (by decide) ?_
    refine er_calli (va_runV (As := [.int 0, .int 0]) (rest := []) ⟨hx, hb, hml, hown, hts⟩ (r_refuses_c l D T X L tg _ hE A) (cwV 2 hts gM_152 rfl rfl rfl (by decide +kernel) ⟨Nat.le_of_ble_eq_true rfl, Nat.le_of_ble_eq_true rfl⟩) (er_preV hK hV hi0 (cR_0 _ _ _) rfl) rfl rfl hl.1 rfl (lv_room (Nat.le_of_ble_eq_true rfl)) dM_act_157 ⟨Nat.le_of_ble_eq_true rfl, Nat.le_of_ble_eq_true rfl⟩) hV hS hA (fun r u H locs hp hV hS => ?_)
    obtain ⟨rfl, rfl⟩ := hp
    refine lv_if_eq (tgt := 165) hx hb dM_act_160 rfl (fun _ => ?_) (fun h9 => absurd (by decide) h9)
    refine lv_iload hx hb dM_act_165 (lv_at hl 2 rfl) ?_
    refine lv_if_eq (tgt := 179) hx hb dM_act_167 rfl (fun h9 => absurd h9 (by decide)) (fun _ => ?_)
    refine lv_aload_n hx hb dM_act_170 rfl (lv_at hl 3 rfl) ?_
    refine lv_iload_n hx hb dM_act_171 rfl (lv_at hl 5 rfl) ?_
    refine lv_iload_n hx hb dM_act_172 rfl (lv_at hl 6 rfl) ?_
    refine er_callv (va_runV (As := [.int (nI ln), .int 6]) (rest := []) ⟨hx, hb, hml, hown, hts⟩ (r_stepRequester_6 l D T X L tg _ hE (up3 A 0 0 0 0) ln pk cp rq w lg (by omega) hpk q16 hcp q17 hrq q11 hw hq hlg hg) (cwV 2 hts gM_183 rfl rfl rfl (by decide +kernel) ⟨Nat.le_of_ble_eq_true rfl, Nat.le_of_ble_eq_true rfl⟩) (er_preV hK hV hi0 (cR_0 _ _ _) rfl) rfl rfl hl.1 rfl (lv_room (Nat.le_of_ble_eq_true rfl)) dM_act_173 ⟨Nat.le_of_ble_eq_true rfl, Nat.le_of_ble_eq_true rfl⟩) hV hS hA (fun u2 H locs eu2 hV hS => ?_)
    have eu2 : u2 = s_stepRequester_6 (up3 A 0 0 0 0) ln pk cp rq w lg := eu2
    refine lv_goto (tgt := 188) hx hb dM_act_176 rfl ?_
    refine lv_iload hx hb dM_act_188 (lv_at hl 2 rfl) ?_
    refine lv_if_eq (tgt := 202) hx hb dM_act_190 rfl (fun h9 => absurd h9 (by decide)) (fun _ => ?_)
    refine lv_aload_n hx hb dM_act_193 rfl (lv_at hl 3 rfl) ?_
    refine ew_get (v := .ref (X 18 0)) hx hb hts hown hK hV fM_46 hi0 (cR_0 _ _ _) rfl dM_act_194 ?_
    refine lv_iload_n hx hb dM_act_197 rfl (lv_at hl 5 rfl) ?_
    refine ew_iald (v := u2 18 0 ln) hx hb hK hV (hE 18 (by decide)) (cR_18 _ _ _) 0 rfl (vp_in_nI (by omega) (by decide)) (er_ix (by omega) rfl) dM_act_198 ?_
    refine lv_goto (tgt := 213) hx hb dM_act_199 rfl ?_
    subst eu2
    exact er_iret hx hb hr hlocks hV hS dM_act_213 ⟨Eq.symm (by unfold s_act_6; simp only [if_neg h1]), Eq.symm (by unfold s_act_6; simp only [if_neg h1])⟩
  · refine lv_goto (tgt := 152) hx hb dM_act_137 rfl ?_
    refine lv_iconst (v := 1) hx hb dM_act_152 (by decide) ?_
    refine lv_goto (tgt := 157) hx hb dM_act_153 rfl ?_
    refine er_calli (va_runV (As := [.int 0, .int 1]) (rest := []) ⟨hx, hb, hml, hown, hts⟩ (r_refuses_b l D T X L tg _ hE A) (cwV 2 hts gM_152 rfl rfl rfl (by decide +kernel) ⟨Nat.le_of_ble_eq_true rfl, Nat.le_of_ble_eq_true rfl⟩) (er_preV hK hV hi0 (cR_0 _ _ _) rfl) rfl rfl hl.1 rfl (lv_room (Nat.le_of_ble_eq_true rfl)) dM_act_157 ⟨Nat.le_of_ble_eq_true rfl, Nat.le_of_ble_eq_true rfl⟩) hV hS hA (fun r u H locs hp hV hS => ?_)
    obtain ⟨rfl, rfl⟩ := hp
    refine lv_if_eq (tgt := 165) hx hb dM_act_160 rfl (fun h9 => absurd h9 (by decide)) (fun _ => ?_)
    refine lv_iconst (v := 0) hx hb dM_act_163 (by decide) ?_
    exact er_iret hx hb hr hlocks hV hS dM_act_164 ⟨Eq.symm (by unfold s_act_6; simp only [if_pos h1]), Eq.symm (by unfold s_act_6; simp only [if_pos h1])⟩

def s_act_0r (A : ew_R) (rq : Nat) (ln : Nat) (cc : Int32) (nl : Nat) : Int32 × ew_R :=
  (0, up3 A 0 0 0 2)
set_option maxHeartbeats 4000000 in
set_option maxRecDepth 100000 in
theorem r_act_0r (l : Launch) (D : va_G) (T : Nat → ClassId) (X : Nat → Nat → Nat) (L : List Nat) (tg : Nat → Nat × Nat) (sz : Nat) (hE : eR_E X L tg) (A : ew_R) (rq : Nat) (ln : Nat) (cc : Int32) (nl : Nat) (hnl : ln < nl) (hn2 : nl ≤ 32) (q2 : A 0 0 2 = nI nl) (hrq : rq < 6) (q11 : A 11 0 ln = nI rq) (q22 : A 22 0 (6 * ln + rq) = 0) (hmay : s_mayRequester_0 A ln = 0) : Met l yM_act wsM_act ({ frames := 5, cells := 0, slots := 0, locals := 114 }) (er_Pc D vwCl (tysA T) (cfR T) X L tg A sz [.ref (X 0 0), .int (nI rq), .int (nI ln), .int 0, .int cc]) (er_Qi D vwCl (cfR T) X L tg sz (fun r u => r = (s_act_0r A rq ln cc nl).1 ∧ u = (s_act_0r A rq ln cc nl).2)) 0 0 (ew_A L sz) := by
  refine er_met (by decide) rfl (Nat.le_of_ble_eq_true rfl) ?_
  intro p e s m below meth c ls hx hb hr hts hown hlocks hml hV hK hS hA hl hsz
  subst hsz
  have hi0 := hE 0 (by decide)
  have hl : lv_has ls 8 [(0, .ref (X 0 0)), (1, .int (nI rq)), (2, .int (nI ln)), (3, .int 0), (4, .int cc)] := hl
  refine lv_aload_n hx hb dM_act_0 rfl (lv_at hl 0 rfl) ?_
  refine lv_iload_n hx hb dM_act_1 rfl (lv_at hl 2 rfl) ?_
  refine er_calli (va_runV (As := [.int (nI ln)]) (rest := []) ⟨hx, hb, hml, hown, hts⟩ (r_isLoan l D T X L tg _ hE A (nI ln)) (cwV 1 hts gM_172 rfl rfl rfl (by decide +kernel) ⟨Nat.le_of_ble_eq_true rfl, Nat.le_of_ble_eq_true rfl⟩) (er_preV hK hV hi0 (cR_0 _ _ _) rfl) rfl rfl hl.1 rfl (lv_room (Nat.le_of_ble_eq_true rfl)) dM_act_2 ⟨Nat.le_of_ble_eq_true rfl, Nat.le_of_ble_eq_true rfl⟩) hV hS hA (fun r u H locs hp hV hS => ?_)
  obtain ⟨rfl, eu9⟩ := hp
  rw [eu9] at hV
  refine lv_toe (y := 1) (s_isLoan_1 q2 hnl hn2) ?_
  refine lv_if_eq (tgt := 29) hx hb dM_act_5 rfl (fun h9 => absurd h9 (by decide)) (fun _ => ?_)
  refine lv_iload_n hx hb dM_act_8 rfl (lv_at hl 1 rfl) ?_
  refine er_calli (va_runS (As := [.int (nI rq)]) (rest := []) ⟨hx, hb, hml, hown, hts⟩ (r_isLibrary l D T X L tg _ hE A (nI rq)) (cwS 1 hts gM_142 rfl rfl rfl (by decide +kernel) ⟨Nat.le_of_ble_eq_true rfl, Nat.le_of_ble_eq_true rfl⟩) (er_preS hK hV) rfl rfl hl.1 rfl (lv_room (Nat.le_of_ble_eq_true rfl)) dM_act_9 ⟨Nat.le_of_ble_eq_true rfl, Nat.le_of_ble_eq_true rfl⟩) hV hS hA (fun r u H locs hp hV hS => ?_)
  obtain ⟨rfl, eu9⟩ := hp
  rw [eu9] at hV
  refine lv_toe (y := 1) (s_isLibrary_1 hrq) ?_
  refine lv_if_eq (tgt := 29) hx hb dM_act_12 rfl (fun h9 => absurd h9 (by decide)) (fun _ => ?_)
  refine lv_iload_n hx hb dM_act_15 rfl (lv_at hl 1 rfl) ?_
  refine lv_aload_n hx hb dM_act_16 rfl (lv_at hl 0 rfl) ?_
  refine ew_get (v := .ref (X 11 0)) hx hb hts hown hK hV fM_25 hi0 (cR_0 _ _ _) rfl dM_act_17 ?_
  refine lv_iload_n hx hb dM_act_20 rfl (lv_at hl 2 rfl) ?_
  refine ew_iald (v := A 11 0 ln) hx hb hK hV (hE 11 (by decide)) (cR_11 _ _ _) 0 rfl (vp_in_nI (by omega) (by decide)) (er_ix (by omega) rfl) dM_act_21 ?_
  refine lv_toe (y := nI rq) q11 ?_
  refine lv_icmp_ne (tgt := 29) hx hb dM_act_22 rfl (fun h9 => absurd ((nI_eq (a := rq) (b := rq) (by omega) (by omega)).mpr rfl) h9) (fun _ => ?_)
  refine lv_iconst (v := 1) hx hb dM_act_25 (by decide) ?_
  refine lv_goto (tgt := 30) hx hb dM_act_26 rfl ?_
  refine lv_istore (lv' := [(5, .int 1), (0, .ref (X 0 0)), (1, .int (nI rq)), (2, .int (nI ln)), (3, .int 0), (4, .int cc)]) hx hb dM_act_30 hl (by decide) rfl (fun ls hl => ?_)
  refine lv_aload_n hx hb dM_act_32 rfl (lv_at hl 1 rfl) ?_
  refine lv_iload_n hx hb dM_act_33 rfl (lv_at hl 3 rfl) ?_
  refine er_calli (va_runV (As := [.int (nI ln)]) (rest := []) ⟨hx, hb, hml, hown, hts⟩ (r_isLoan l D T X L tg _ hE A (nI ln)) (cwV 1 hts gM_172 rfl rfl rfl (by decide +kernel) ⟨Nat.le_of_ble_eq_true rfl, Nat.le_of_ble_eq_true rfl⟩) (er_preV hK hV hi0 (cR_0 _ _ _) rfl) rfl rfl hl.1 rfl (lv_room (Nat.le_of_ble_eq_true rfl)) dM_act_34 ⟨Nat.le_of_ble_eq_true rfl, Nat.le_of_ble_eq_true rfl⟩) hV hS hA (fun r u H locs hp hV hS => ?_)
  obtain ⟨rfl, eu9⟩ := hp
  rw [eu9] at hV
  refine lv_toe (y := 1) (s_isLoan_1 q2 hnl hn2) ?_
  refine lv_if_eq (tgt := 65) hx hb dM_act_37 rfl (fun h9 => absurd h9 (by decide)) (fun _ => ?_)
  refine lv_iload_n hx hb dM_act_40 rfl (lv_at hl 2 rfl) ?_
  refine er_calli (va_runS (As := [.int (nI rq)]) (rest := []) ⟨hx, hb, hml, hown, hts⟩ (r_isLibrary l D T X L tg _ hE A (nI rq)) (cwS 1 hts gM_142 rfl rfl rfl (by decide +kernel) ⟨Nat.le_of_ble_eq_true rfl, Nat.le_of_ble_eq_true rfl⟩) (er_preS hK hV) rfl rfl hl.1 rfl (lv_room (Nat.le_of_ble_eq_true rfl)) dM_act_41 ⟨Nat.le_of_ble_eq_true rfl, Nat.le_of_ble_eq_true rfl⟩) hV hS hA (fun r u H locs hp hV hS => ?_)
  obtain ⟨rfl, eu9⟩ := hp
  rw [eu9] at hV
  refine lv_toe (y := 1) (s_isLibrary_1 hrq) ?_
  refine lv_if_eq (tgt := 65) hx hb dM_act_44 rfl (fun h9 => absurd h9 (by decide)) (fun _ => ?_)
  refine lv_aload_n hx hb dM_act_47 rfl (lv_at hl 1 rfl) ?_
  refine ew_get (v := .ref (X 22 0)) hx hb hts hown hK hV fM_58 hi0 (cR_0 _ _ _) rfl dM_act_48 ?_
  refine lv_bipush (v := 6) hx hb dM_act_51 (by decide) ?_
  refine lv_iload_n hx hb dM_act_53 rfl (lv_at hl 3 rfl) ?_
  refine lv_imul hx hb dM_act_54 ?_
  refine lv_toe (y := nI (6 * ln)) (pk_mul 6 ln) ?_
  refine lv_iload_n hx hb dM_act_55 rfl (lv_at hl 2 rfl) ?_
  refine lv_iadd hx hb dM_act_56 ?_
  refine lv_toe (y := nI ((6 * ln) + rq)) (nI_add (6 * ln) rq) ?_
  refine ew_zald (v := A 22 0 ((6 * ln) + rq)) hx hb hK hV (hE 22 (by decide)) (cR_22 _ _ _) 1 rfl (vp_in_nI (by omega) (by decide)) (er_ix (by omega) rfl) dM_act_57 ?_
  refine lv_if_eq (tgt := 65) hx hb dM_act_58 rfl (fun _ => ?_) (fun h9 => absurd q22 h9)
  refine lv_iconst (v := 0) hx hb dM_act_65 (by decide) ?_
  refine lv_istore (lv' := [(6, .int 0), (5, .int 1), (0, .ref (X 0 0)), (1, .int (nI rq)), (2, .int (nI ln)), (3, .int 0), (4, .int cc)]) hx hb dM_act_66 hl (by decide) rfl (fun ls hl => ?_)
  refine lv_iload_n hx hb dM_act_68 rfl (lv_at hl 5 rfl) ?_
  refine lv_if_lt (tgt := 83) hx hb dM_act_69 rfl (fun h9 => absurd h9 (by decide)) (fun _ => ?_)
  refine lv_iload_n hx hb dM_act_72 rfl (lv_at hl 5 rfl) ?_
  refine lv_bipush (v := 7) hx hb dM_act_73 (by decide) ?_
  refine lv_icmp_ge (tgt := 83) hx hb dM_act_75 rfl (fun h9 => absurd h9 (by decide)) (fun _ => ?_)
  refine lv_iload hx hb dM_act_78 (lv_at hl 1 rfl) ?_
  refine lv_if_ne (tgt := 100) hx hb dM_act_80 rfl (fun _ => ?_) (fun h9 => absurd h9 (by decide))
  refine lv_iconst (v := 1) hx hb dM_act_100 (by decide) ?_
  refine lv_goto (tgt := 105) hx hb dM_act_101 rfl ?_
  refine lv_istore (lv' := [(7, .int 1), (6, .int 0), (5, .int 1), (0, .ref (X 0 0)), (1, .int (nI rq)), (2, .int (nI ln)), (3, .int 0), (4, .int cc)]) hx hb dM_act_105 hl (by decide) rfl (fun ls hl => ?_)
  refine lv_aload_n hx hb dM_act_107 rfl (lv_at hl 3 rfl) ?_
  refine lv_iload hx hb dM_act_108 (lv_at hl 0 rfl) ?_
  refine lv_if_ne (tgt := 117) hx hb dM_act_110 rfl (fun _ => ?_) (fun h9 => absurd h9 (by decide))
  refine lv_iconst (v := 0) hx hb dM_act_117 (by decide) ?_
  refine lv_iload hx hb dM_act_118 (lv_at hl 0 rfl) ?_
  refine lv_if_eq (tgt := 156) hx hb dM_act_120 rfl (fun h9 => absurd h9 (by decide)) (fun _ => ?_)
  refine lv_iload hx hb dM_act_123 (lv_at hl 2 rfl) ?_
  refine lv_if_eq (tgt := 140) hx hb dM_act_125 rfl (fun h9 => absurd h9 (by decide)) (fun _ => ?_)
  refine lv_aload_n hx hb dM_act_128 rfl (lv_at hl 3 rfl) ?_
  refine lv_iload_n hx hb dM_act_129 rfl (lv_at hl 5 rfl) ?_
  refine lv_iload_n hx hb dM_act_130 rfl (lv_at hl 6 rfl) ?_
  refine er_calli (va_runV (As := [.int (nI ln), .int 0]) (rest := [.int 0, .ref (X 0 0)]) ⟨hx, hb, hml, hown, hts⟩ (r_mayRequester_0 l D T X L tg _ hE A ln (by omega)) (cwV 2 hts gM_175 rfl rfl rfl (by decide +kernel) ⟨Nat.le_of_ble_eq_true rfl, Nat.le_of_ble_eq_true rfl⟩) (er_preV hK hV hi0 (cR_0 _ _ _) rfl) rfl rfl hl.1 rfl (lv_room (Nat.le_of_ble_eq_true rfl)) dM_act_131 ⟨Nat.le_of_ble_eq_true rfl, Nat.le_of_ble_eq_true rfl⟩) hV hS hA (fun r u H locs hp hV hS => ?_)
  obtain ⟨rfl, eu9⟩ := hp
  rw [eu9] at hV
  refine lv_toe (y := 0) hmay ?_
  refine lv_if_ne (tgt := 156) hx hb dM_act_134 rfl (fun h9 => absurd (by decide) h9) (fun _ => ?_)
  refine lv_goto (tgt := 152) hx hb dM_act_137 rfl ?_
  refine lv_iconst (v := 1) hx hb dM_act_152 (by decide) ?_
  refine lv_goto (tgt := 157) hx hb dM_act_153 rfl ?_
  refine er_calli (va_runV (As := [.int 0, .int 1]) (rest := []) ⟨hx, hb, hml, hown, hts⟩ (r_refuses_b l D T X L tg _ hE A) (cwV 2 hts gM_152 rfl rfl rfl (by decide +kernel) ⟨Nat.le_of_ble_eq_true rfl, Nat.le_of_ble_eq_true rfl⟩) (er_preV hK hV hi0 (cR_0 _ _ _) rfl) rfl rfl hl.1 rfl (lv_room (Nat.le_of_ble_eq_true rfl)) dM_act_157 ⟨Nat.le_of_ble_eq_true rfl, Nat.le_of_ble_eq_true rfl⟩) hV hS hA (fun r u H locs hp hV hS => ?_)
  obtain ⟨rfl, rfl⟩ := hp
  refine lv_if_eq (tgt := 165) hx hb dM_act_160 rfl (fun h9 => absurd h9 (by decide)) (fun _ => ?_)
  refine lv_iconst (v := 0) hx hb dM_act_163 (by decide) ?_
  exact er_iret hx hb hr hlocks hV hS dM_act_164 ⟨Eq.symm (by unfold s_act_0r; rfl), Eq.symm (by unfold s_act_0r; rfl)⟩

def s_act_1r (A : ew_R) (rq : Nat) (ln : Nat) (cc : Int32) (nl : Nat) : Int32 × ew_R :=
  (0, up3 A 0 0 0 2)
set_option maxHeartbeats 4000000 in
set_option maxRecDepth 100000 in
theorem r_act_1r (l : Launch) (D : va_G) (T : Nat → ClassId) (X : Nat → Nat → Nat) (L : List Nat) (tg : Nat → Nat × Nat) (sz : Nat) (hE : eR_E X L tg) (A : ew_R) (rq : Nat) (ln : Nat) (cc : Int32) (nl : Nat) (hnl : ln < nl) (hn2 : nl ≤ 32) (q2 : A 0 0 2 = nI nl) (hrq : rq < 6) (q11 : A 11 0 ln = nI rq) (q22 : A 22 0 (6 * ln + rq) = 0) (hmay : s_mayRequester_1 A ln = 0) : Met l yM_act wsM_act ({ frames := 5, cells := 0, slots := 0, locals := 114 }) (er_Pc D vwCl (tysA T) (cfR T) X L tg A sz [.ref (X 0 0), .int (nI rq), .int (nI ln), .int 1, .int cc]) (er_Qi D vwCl (cfR T) X L tg sz (fun r u => r = (s_act_1r A rq ln cc nl).1 ∧ u = (s_act_1r A rq ln cc nl).2)) 0 0 (ew_A L sz) := by
  refine er_met (by decide) rfl (Nat.le_of_ble_eq_true rfl) ?_
  intro p e s m below meth c ls hx hb hr hts hown hlocks hml hV hK hS hA hl hsz
  subst hsz
  have hi0 := hE 0 (by decide)
  have hl : lv_has ls 8 [(0, .ref (X 0 0)), (1, .int (nI rq)), (2, .int (nI ln)), (3, .int 1), (4, .int cc)] := hl
  refine lv_aload_n hx hb dM_act_0 rfl (lv_at hl 0 rfl) ?_
  refine lv_iload_n hx hb dM_act_1 rfl (lv_at hl 2 rfl) ?_
  refine er_calli (va_runV (As := [.int (nI ln)]) (rest := []) ⟨hx, hb, hml, hown, hts⟩ (r_isLoan l D T X L tg _ hE A (nI ln)) (cwV 1 hts gM_172 rfl rfl rfl (by decide +kernel) ⟨Nat.le_of_ble_eq_true rfl, Nat.le_of_ble_eq_true rfl⟩) (er_preV hK hV hi0 (cR_0 _ _ _) rfl) rfl rfl hl.1 rfl (lv_room (Nat.le_of_ble_eq_true rfl)) dM_act_2 ⟨Nat.le_of_ble_eq_true rfl, Nat.le_of_ble_eq_true rfl⟩) hV hS hA (fun r u H locs hp hV hS => ?_)
  obtain ⟨rfl, eu9⟩ := hp
  rw [eu9] at hV
  refine lv_toe (y := 1) (s_isLoan_1 q2 hnl hn2) ?_
  refine lv_if_eq (tgt := 29) hx hb dM_act_5 rfl (fun h9 => absurd h9 (by decide)) (fun _ => ?_)
  refine lv_iload_n hx hb dM_act_8 rfl (lv_at hl 1 rfl) ?_
  refine er_calli (va_runS (As := [.int (nI rq)]) (rest := []) ⟨hx, hb, hml, hown, hts⟩ (r_isLibrary l D T X L tg _ hE A (nI rq)) (cwS 1 hts gM_142 rfl rfl rfl (by decide +kernel) ⟨Nat.le_of_ble_eq_true rfl, Nat.le_of_ble_eq_true rfl⟩) (er_preS hK hV) rfl rfl hl.1 rfl (lv_room (Nat.le_of_ble_eq_true rfl)) dM_act_9 ⟨Nat.le_of_ble_eq_true rfl, Nat.le_of_ble_eq_true rfl⟩) hV hS hA (fun r u H locs hp hV hS => ?_)
  obtain ⟨rfl, eu9⟩ := hp
  rw [eu9] at hV
  refine lv_toe (y := 1) (s_isLibrary_1 hrq) ?_
  refine lv_if_eq (tgt := 29) hx hb dM_act_12 rfl (fun h9 => absurd h9 (by decide)) (fun _ => ?_)
  refine lv_iload_n hx hb dM_act_15 rfl (lv_at hl 1 rfl) ?_
  refine lv_aload_n hx hb dM_act_16 rfl (lv_at hl 0 rfl) ?_
  refine ew_get (v := .ref (X 11 0)) hx hb hts hown hK hV fM_25 hi0 (cR_0 _ _ _) rfl dM_act_17 ?_
  refine lv_iload_n hx hb dM_act_20 rfl (lv_at hl 2 rfl) ?_
  refine ew_iald (v := A 11 0 ln) hx hb hK hV (hE 11 (by decide)) (cR_11 _ _ _) 0 rfl (vp_in_nI (by omega) (by decide)) (er_ix (by omega) rfl) dM_act_21 ?_
  refine lv_toe (y := nI rq) q11 ?_
  refine lv_icmp_ne (tgt := 29) hx hb dM_act_22 rfl (fun h9 => absurd ((nI_eq (a := rq) (b := rq) (by omega) (by omega)).mpr rfl) h9) (fun _ => ?_)
  refine lv_iconst (v := 1) hx hb dM_act_25 (by decide) ?_
  refine lv_goto (tgt := 30) hx hb dM_act_26 rfl ?_
  refine lv_istore (lv' := [(5, .int 1), (0, .ref (X 0 0)), (1, .int (nI rq)), (2, .int (nI ln)), (3, .int 1), (4, .int cc)]) hx hb dM_act_30 hl (by decide) rfl (fun ls hl => ?_)
  refine lv_aload_n hx hb dM_act_32 rfl (lv_at hl 1 rfl) ?_
  refine lv_iload_n hx hb dM_act_33 rfl (lv_at hl 3 rfl) ?_
  refine er_calli (va_runV (As := [.int (nI ln)]) (rest := []) ⟨hx, hb, hml, hown, hts⟩ (r_isLoan l D T X L tg _ hE A (nI ln)) (cwV 1 hts gM_172 rfl rfl rfl (by decide +kernel) ⟨Nat.le_of_ble_eq_true rfl, Nat.le_of_ble_eq_true rfl⟩) (er_preV hK hV hi0 (cR_0 _ _ _) rfl) rfl rfl hl.1 rfl (lv_room (Nat.le_of_ble_eq_true rfl)) dM_act_34 ⟨Nat.le_of_ble_eq_true rfl, Nat.le_of_ble_eq_true rfl⟩) hV hS hA (fun r u H locs hp hV hS => ?_)
  obtain ⟨rfl, eu9⟩ := hp
  rw [eu9] at hV
  refine lv_toe (y := 1) (s_isLoan_1 q2 hnl hn2) ?_
  refine lv_if_eq (tgt := 65) hx hb dM_act_37 rfl (fun h9 => absurd h9 (by decide)) (fun _ => ?_)
  refine lv_iload_n hx hb dM_act_40 rfl (lv_at hl 2 rfl) ?_
  refine er_calli (va_runS (As := [.int (nI rq)]) (rest := []) ⟨hx, hb, hml, hown, hts⟩ (r_isLibrary l D T X L tg _ hE A (nI rq)) (cwS 1 hts gM_142 rfl rfl rfl (by decide +kernel) ⟨Nat.le_of_ble_eq_true rfl, Nat.le_of_ble_eq_true rfl⟩) (er_preS hK hV) rfl rfl hl.1 rfl (lv_room (Nat.le_of_ble_eq_true rfl)) dM_act_41 ⟨Nat.le_of_ble_eq_true rfl, Nat.le_of_ble_eq_true rfl⟩) hV hS hA (fun r u H locs hp hV hS => ?_)
  obtain ⟨rfl, eu9⟩ := hp
  rw [eu9] at hV
  refine lv_toe (y := 1) (s_isLibrary_1 hrq) ?_
  refine lv_if_eq (tgt := 65) hx hb dM_act_44 rfl (fun h9 => absurd h9 (by decide)) (fun _ => ?_)
  refine lv_aload_n hx hb dM_act_47 rfl (lv_at hl 1 rfl) ?_
  refine ew_get (v := .ref (X 22 0)) hx hb hts hown hK hV fM_58 hi0 (cR_0 _ _ _) rfl dM_act_48 ?_
  refine lv_bipush (v := 6) hx hb dM_act_51 (by decide) ?_
  refine lv_iload_n hx hb dM_act_53 rfl (lv_at hl 3 rfl) ?_
  refine lv_imul hx hb dM_act_54 ?_
  refine lv_toe (y := nI (6 * ln)) (pk_mul 6 ln) ?_
  refine lv_iload_n hx hb dM_act_55 rfl (lv_at hl 2 rfl) ?_
  refine lv_iadd hx hb dM_act_56 ?_
  refine lv_toe (y := nI ((6 * ln) + rq)) (nI_add (6 * ln) rq) ?_
  refine ew_zald (v := A 22 0 ((6 * ln) + rq)) hx hb hK hV (hE 22 (by decide)) (cR_22 _ _ _) 1 rfl (vp_in_nI (by omega) (by decide)) (er_ix (by omega) rfl) dM_act_57 ?_
  refine lv_if_eq (tgt := 65) hx hb dM_act_58 rfl (fun _ => ?_) (fun h9 => absurd q22 h9)
  refine lv_iconst (v := 0) hx hb dM_act_65 (by decide) ?_
  refine lv_istore (lv' := [(6, .int 0), (5, .int 1), (0, .ref (X 0 0)), (1, .int (nI rq)), (2, .int (nI ln)), (3, .int 1), (4, .int cc)]) hx hb dM_act_66 hl (by decide) rfl (fun ls hl => ?_)
  refine lv_iload_n hx hb dM_act_68 rfl (lv_at hl 5 rfl) ?_
  refine lv_if_lt (tgt := 83) hx hb dM_act_69 rfl (fun h9 => absurd h9 (by decide)) (fun _ => ?_)
  refine lv_iload_n hx hb dM_act_72 rfl (lv_at hl 5 rfl) ?_
  refine lv_bipush (v := 7) hx hb dM_act_73 (by decide) ?_
  refine lv_icmp_ge (tgt := 83) hx hb dM_act_75 rfl (fun h9 => absurd h9 (by decide)) (fun _ => ?_)
  refine lv_iload hx hb dM_act_78 (lv_at hl 1 rfl) ?_
  refine lv_if_ne (tgt := 100) hx hb dM_act_80 rfl (fun _ => ?_) (fun h9 => absurd h9 (by decide))
  refine lv_iconst (v := 1) hx hb dM_act_100 (by decide) ?_
  refine lv_goto (tgt := 105) hx hb dM_act_101 rfl ?_
  refine lv_istore (lv' := [(7, .int 1), (6, .int 0), (5, .int 1), (0, .ref (X 0 0)), (1, .int (nI rq)), (2, .int (nI ln)), (3, .int 1), (4, .int cc)]) hx hb dM_act_105 hl (by decide) rfl (fun ls hl => ?_)
  refine lv_aload_n hx hb dM_act_107 rfl (lv_at hl 3 rfl) ?_
  refine lv_iload hx hb dM_act_108 (lv_at hl 0 rfl) ?_
  refine lv_if_ne (tgt := 117) hx hb dM_act_110 rfl (fun _ => ?_) (fun h9 => absurd h9 (by decide))
  refine lv_iconst (v := 0) hx hb dM_act_117 (by decide) ?_
  refine lv_iload hx hb dM_act_118 (lv_at hl 0 rfl) ?_
  refine lv_if_eq (tgt := 156) hx hb dM_act_120 rfl (fun h9 => absurd h9 (by decide)) (fun _ => ?_)
  refine lv_iload hx hb dM_act_123 (lv_at hl 2 rfl) ?_
  refine lv_if_eq (tgt := 140) hx hb dM_act_125 rfl (fun h9 => absurd h9 (by decide)) (fun _ => ?_)
  refine lv_aload_n hx hb dM_act_128 rfl (lv_at hl 3 rfl) ?_
  refine lv_iload_n hx hb dM_act_129 rfl (lv_at hl 5 rfl) ?_
  refine lv_iload_n hx hb dM_act_130 rfl (lv_at hl 6 rfl) ?_
  refine er_calli (va_runV (As := [.int (nI ln), .int 1]) (rest := [.int 0, .ref (X 0 0)]) ⟨hx, hb, hml, hown, hts⟩ (r_mayRequester_1 l D T X L tg _ hE A ln (by omega)) (cwV 2 hts gM_175 rfl rfl rfl (by decide +kernel) ⟨Nat.le_of_ble_eq_true rfl, Nat.le_of_ble_eq_true rfl⟩) (er_preV hK hV hi0 (cR_0 _ _ _) rfl) rfl rfl hl.1 rfl (lv_room (Nat.le_of_ble_eq_true rfl)) dM_act_131 ⟨Nat.le_of_ble_eq_true rfl, Nat.le_of_ble_eq_true rfl⟩) hV hS hA (fun r u H locs hp hV hS => ?_)
  obtain ⟨rfl, eu9⟩ := hp
  rw [eu9] at hV
  refine lv_toe (y := 0) hmay ?_
  refine lv_if_ne (tgt := 156) hx hb dM_act_134 rfl (fun h9 => absurd (by decide) h9) (fun _ => ?_)
  refine lv_goto (tgt := 152) hx hb dM_act_137 rfl ?_
  refine lv_iconst (v := 1) hx hb dM_act_152 (by decide) ?_
  refine lv_goto (tgt := 157) hx hb dM_act_153 rfl ?_
  refine er_calli (va_runV (As := [.int 0, .int 1]) (rest := []) ⟨hx, hb, hml, hown, hts⟩ (r_refuses_b l D T X L tg _ hE A) (cwV 2 hts gM_152 rfl rfl rfl (by decide +kernel) ⟨Nat.le_of_ble_eq_true rfl, Nat.le_of_ble_eq_true rfl⟩) (er_preV hK hV hi0 (cR_0 _ _ _) rfl) rfl rfl hl.1 rfl (lv_room (Nat.le_of_ble_eq_true rfl)) dM_act_157 ⟨Nat.le_of_ble_eq_true rfl, Nat.le_of_ble_eq_true rfl⟩) hV hS hA (fun r u H locs hp hV hS => ?_)
  obtain ⟨rfl, rfl⟩ := hp
  refine lv_if_eq (tgt := 165) hx hb dM_act_160 rfl (fun h9 => absurd h9 (by decide)) (fun _ => ?_)
  refine lv_iconst (v := 0) hx hb dM_act_163 (by decide) ?_
  exact er_iret hx hb hr hlocks hV hS dM_act_164 ⟨Eq.symm (by unfold s_act_1r; rfl), Eq.symm (by unfold s_act_1r; rfl)⟩

def s_act_2r (A : ew_R) (rq : Nat) (ln : Nat) (cc : Int32) (nl : Nat) : Int32 × ew_R :=
  (0, up3 A 0 0 0 2)
set_option maxHeartbeats 4000000 in
set_option maxRecDepth 100000 in
theorem r_act_2r (l : Launch) (D : va_G) (T : Nat → ClassId) (X : Nat → Nat → Nat) (L : List Nat) (tg : Nat → Nat × Nat) (sz : Nat) (hE : eR_E X L tg) (A : ew_R) (rq : Nat) (ln : Nat) (cc : Int32) (nl : Nat) (hnl : ln < nl) (hn2 : nl ≤ 32) (q2 : A 0 0 2 = nI nl) (hrq : rq < 6) (q11 : A 11 0 ln = nI rq) (q22 : A 22 0 (6 * ln + rq) = 0) (hmay : s_mayRequester_2 A ln = 0) : Met l yM_act wsM_act ({ frames := 5, cells := 0, slots := 0, locals := 114 }) (er_Pc D vwCl (tysA T) (cfR T) X L tg A sz [.ref (X 0 0), .int (nI rq), .int (nI ln), .int 2, .int cc]) (er_Qi D vwCl (cfR T) X L tg sz (fun r u => r = (s_act_2r A rq ln cc nl).1 ∧ u = (s_act_2r A rq ln cc nl).2)) 0 0 (ew_A L sz) := by
  refine er_met (by decide) rfl (Nat.le_of_ble_eq_true rfl) ?_
  intro p e s m below meth c ls hx hb hr hts hown hlocks hml hV hK hS hA hl hsz
  subst hsz
  have hi0 := hE 0 (by decide)
  have hl : lv_has ls 8 [(0, .ref (X 0 0)), (1, .int (nI rq)), (2, .int (nI ln)), (3, .int 2), (4, .int cc)] := hl
  refine lv_aload_n hx hb dM_act_0 rfl (lv_at hl 0 rfl) ?_
  refine lv_iload_n hx hb dM_act_1 rfl (lv_at hl 2 rfl) ?_
  refine er_calli (va_runV (As := [.int (nI ln)]) (rest := []) ⟨hx, hb, hml, hown, hts⟩ (r_isLoan l D T X L tg _ hE A (nI ln)) (cwV 1 hts gM_172 rfl rfl rfl (by decide +kernel) ⟨Nat.le_of_ble_eq_true rfl, Nat.le_of_ble_eq_true rfl⟩) (er_preV hK hV hi0 (cR_0 _ _ _) rfl) rfl rfl hl.1 rfl (lv_room (Nat.le_of_ble_eq_true rfl)) dM_act_2 ⟨Nat.le_of_ble_eq_true rfl, Nat.le_of_ble_eq_true rfl⟩) hV hS hA (fun r u H locs hp hV hS => ?_)
  obtain ⟨rfl, eu9⟩ := hp
  rw [eu9] at hV
  refine lv_toe (y := 1) (s_isLoan_1 q2 hnl hn2) ?_
  refine lv_if_eq (tgt := 29) hx hb dM_act_5 rfl (fun h9 => absurd h9 (by decide)) (fun _ => ?_)
  refine lv_iload_n hx hb dM_act_8 rfl (lv_at hl 1 rfl) ?_
  refine er_calli (va_runS (As := [.int (nI rq)]) (rest := []) ⟨hx, hb, hml, hown, hts⟩ (r_isLibrary l D T X L tg _ hE A (nI rq)) (cwS 1 hts gM_142 rfl rfl rfl (by decide +kernel) ⟨Nat.le_of_ble_eq_true rfl, Nat.le_of_ble_eq_true rfl⟩) (er_preS hK hV) rfl rfl hl.1 rfl (lv_room (Nat.le_of_ble_eq_true rfl)) dM_act_9 ⟨Nat.le_of_ble_eq_true rfl, Nat.le_of_ble_eq_true rfl⟩) hV hS hA (fun r u H locs hp hV hS => ?_)
  obtain ⟨rfl, eu9⟩ := hp
  rw [eu9] at hV
  refine lv_toe (y := 1) (s_isLibrary_1 hrq) ?_
  refine lv_if_eq (tgt := 29) hx hb dM_act_12 rfl (fun h9 => absurd h9 (by decide)) (fun _ => ?_)
  refine lv_iload_n hx hb dM_act_15 rfl (lv_at hl 1 rfl) ?_
  refine lv_aload_n hx hb dM_act_16 rfl (lv_at hl 0 rfl) ?_
  refine ew_get (v := .ref (X 11 0)) hx hb hts hown hK hV fM_25 hi0 (cR_0 _ _ _) rfl dM_act_17 ?_
  refine lv_iload_n hx hb dM_act_20 rfl (lv_at hl 2 rfl) ?_
  refine ew_iald (v := A 11 0 ln) hx hb hK hV (hE 11 (by decide)) (cR_11 _ _ _) 0 rfl (vp_in_nI (by omega) (by decide)) (er_ix (by omega) rfl) dM_act_21 ?_
  refine lv_toe (y := nI rq) q11 ?_
  refine lv_icmp_ne (tgt := 29) hx hb dM_act_22 rfl (fun h9 => absurd ((nI_eq (a := rq) (b := rq) (by omega) (by omega)).mpr rfl) h9) (fun _ => ?_)
  refine lv_iconst (v := 1) hx hb dM_act_25 (by decide) ?_
  refine lv_goto (tgt := 30) hx hb dM_act_26 rfl ?_
  refine lv_istore (lv' := [(5, .int 1), (0, .ref (X 0 0)), (1, .int (nI rq)), (2, .int (nI ln)), (3, .int 2), (4, .int cc)]) hx hb dM_act_30 hl (by decide) rfl (fun ls hl => ?_)
  refine lv_aload_n hx hb dM_act_32 rfl (lv_at hl 1 rfl) ?_
  refine lv_iload_n hx hb dM_act_33 rfl (lv_at hl 3 rfl) ?_
  refine er_calli (va_runV (As := [.int (nI ln)]) (rest := []) ⟨hx, hb, hml, hown, hts⟩ (r_isLoan l D T X L tg _ hE A (nI ln)) (cwV 1 hts gM_172 rfl rfl rfl (by decide +kernel) ⟨Nat.le_of_ble_eq_true rfl, Nat.le_of_ble_eq_true rfl⟩) (er_preV hK hV hi0 (cR_0 _ _ _) rfl) rfl rfl hl.1 rfl (lv_room (Nat.le_of_ble_eq_true rfl)) dM_act_34 ⟨Nat.le_of_ble_eq_true rfl, Nat.le_of_ble_eq_true rfl⟩) hV hS hA (fun r u H locs hp hV hS => ?_)
  obtain ⟨rfl, eu9⟩ := hp
  rw [eu9] at hV
  refine lv_toe (y := 1) (s_isLoan_1 q2 hnl hn2) ?_
  refine lv_if_eq (tgt := 65) hx hb dM_act_37 rfl (fun h9 => absurd h9 (by decide)) (fun _ => ?_)
  refine lv_iload_n hx hb dM_act_40 rfl (lv_at hl 2 rfl) ?_
  refine er_calli (va_runS (As := [.int (nI rq)]) (rest := []) ⟨hx, hb, hml, hown, hts⟩ (r_isLibrary l D T X L tg _ hE A (nI rq)) (cwS 1 hts gM_142 rfl rfl rfl (by decide +kernel) ⟨Nat.le_of_ble_eq_true rfl, Nat.le_of_ble_eq_true rfl⟩) (er_preS hK hV) rfl rfl hl.1 rfl (lv_room (Nat.le_of_ble_eq_true rfl)) dM_act_41 ⟨Nat.le_of_ble_eq_true rfl, Nat.le_of_ble_eq_true rfl⟩) hV hS hA (fun r u H locs hp hV hS => ?_)
  obtain ⟨rfl, eu9⟩ := hp
  rw [eu9] at hV
  refine lv_toe (y := 1) (s_isLibrary_1 hrq) ?_
  refine lv_if_eq (tgt := 65) hx hb dM_act_44 rfl (fun h9 => absurd h9 (by decide)) (fun _ => ?_)
  refine lv_aload_n hx hb dM_act_47 rfl (lv_at hl 1 rfl) ?_
  refine ew_get (v := .ref (X 22 0)) hx hb hts hown hK hV fM_58 hi0 (cR_0 _ _ _) rfl dM_act_48 ?_
  refine lv_bipush (v := 6) hx hb dM_act_51 (by decide) ?_
  refine lv_iload_n hx hb dM_act_53 rfl (lv_at hl 3 rfl) ?_
  refine lv_imul hx hb dM_act_54 ?_
  refine lv_toe (y := nI (6 * ln)) (pk_mul 6 ln) ?_
  refine lv_iload_n hx hb dM_act_55 rfl (lv_at hl 2 rfl) ?_
  refine lv_iadd hx hb dM_act_56 ?_
  refine lv_toe (y := nI ((6 * ln) + rq)) (nI_add (6 * ln) rq) ?_
  refine ew_zald (v := A 22 0 ((6 * ln) + rq)) hx hb hK hV (hE 22 (by decide)) (cR_22 _ _ _) 1 rfl (vp_in_nI (by omega) (by decide)) (er_ix (by omega) rfl) dM_act_57 ?_
  refine lv_if_eq (tgt := 65) hx hb dM_act_58 rfl (fun _ => ?_) (fun h9 => absurd q22 h9)
  refine lv_iconst (v := 0) hx hb dM_act_65 (by decide) ?_
  refine lv_istore (lv' := [(6, .int 0), (5, .int 1), (0, .ref (X 0 0)), (1, .int (nI rq)), (2, .int (nI ln)), (3, .int 2), (4, .int cc)]) hx hb dM_act_66 hl (by decide) rfl (fun ls hl => ?_)
  refine lv_iload_n hx hb dM_act_68 rfl (lv_at hl 5 rfl) ?_
  refine lv_if_lt (tgt := 83) hx hb dM_act_69 rfl (fun h9 => absurd h9 (by decide)) (fun _ => ?_)
  refine lv_iload_n hx hb dM_act_72 rfl (lv_at hl 5 rfl) ?_
  refine lv_bipush (v := 7) hx hb dM_act_73 (by decide) ?_
  refine lv_icmp_ge (tgt := 83) hx hb dM_act_75 rfl (fun h9 => absurd h9 (by decide)) (fun _ => ?_)
  refine lv_iload hx hb dM_act_78 (lv_at hl 1 rfl) ?_
  refine lv_if_ne (tgt := 100) hx hb dM_act_80 rfl (fun _ => ?_) (fun h9 => absurd h9 (by decide))
  refine lv_iconst (v := 1) hx hb dM_act_100 (by decide) ?_
  refine lv_goto (tgt := 105) hx hb dM_act_101 rfl ?_
  refine lv_istore (lv' := [(7, .int 1), (6, .int 0), (5, .int 1), (0, .ref (X 0 0)), (1, .int (nI rq)), (2, .int (nI ln)), (3, .int 2), (4, .int cc)]) hx hb dM_act_105 hl (by decide) rfl (fun ls hl => ?_)
  refine lv_aload_n hx hb dM_act_107 rfl (lv_at hl 3 rfl) ?_
  refine lv_iload hx hb dM_act_108 (lv_at hl 0 rfl) ?_
  refine lv_if_ne (tgt := 117) hx hb dM_act_110 rfl (fun _ => ?_) (fun h9 => absurd h9 (by decide))
  refine lv_iconst (v := 0) hx hb dM_act_117 (by decide) ?_
  refine lv_iload hx hb dM_act_118 (lv_at hl 0 rfl) ?_
  refine lv_if_eq (tgt := 156) hx hb dM_act_120 rfl (fun h9 => absurd h9 (by decide)) (fun _ => ?_)
  refine lv_iload hx hb dM_act_123 (lv_at hl 2 rfl) ?_
  refine lv_if_eq (tgt := 140) hx hb dM_act_125 rfl (fun h9 => absurd h9 (by decide)) (fun _ => ?_)
  refine lv_aload_n hx hb dM_act_128 rfl (lv_at hl 3 rfl) ?_
  refine lv_iload_n hx hb dM_act_129 rfl (lv_at hl 5 rfl) ?_
  refine lv_iload_n hx hb dM_act_130 rfl (lv_at hl 6 rfl) ?_
  refine er_calli (va_runV (As := [.int (nI ln), .int 2]) (rest := [.int 0, .ref (X 0 0)]) ⟨hx, hb, hml, hown, hts⟩ (r_mayRequester_2 l D T X L tg _ hE A ln (by omega)) (cwV 2 hts gM_175 rfl rfl rfl (by decide +kernel) ⟨Nat.le_of_ble_eq_true rfl, Nat.le_of_ble_eq_true rfl⟩) (er_preV hK hV hi0 (cR_0 _ _ _) rfl) rfl rfl hl.1 rfl (lv_room (Nat.le_of_ble_eq_true rfl)) dM_act_131 ⟨Nat.le_of_ble_eq_true rfl, Nat.le_of_ble_eq_true rfl⟩) hV hS hA (fun r u H locs hp hV hS => ?_)
  obtain ⟨rfl, eu9⟩ := hp
  rw [eu9] at hV
  refine lv_toe (y := 0) hmay ?_
  refine lv_if_ne (tgt := 156) hx hb dM_act_134 rfl (fun h9 => absurd (by decide) h9) (fun _ => ?_)
  refine lv_goto (tgt := 152) hx hb dM_act_137 rfl ?_
  refine lv_iconst (v := 1) hx hb dM_act_152 (by decide) ?_
  refine lv_goto (tgt := 157) hx hb dM_act_153 rfl ?_
  refine er_calli (va_runV (As := [.int 0, .int 1]) (rest := []) ⟨hx, hb, hml, hown, hts⟩ (r_refuses_b l D T X L tg _ hE A) (cwV 2 hts gM_152 rfl rfl rfl (by decide +kernel) ⟨Nat.le_of_ble_eq_true rfl, Nat.le_of_ble_eq_true rfl⟩) (er_preV hK hV hi0 (cR_0 _ _ _) rfl) rfl rfl hl.1 rfl (lv_room (Nat.le_of_ble_eq_true rfl)) dM_act_157 ⟨Nat.le_of_ble_eq_true rfl, Nat.le_of_ble_eq_true rfl⟩) hV hS hA (fun r u H locs hp hV hS => ?_)
  obtain ⟨rfl, rfl⟩ := hp
  refine lv_if_eq (tgt := 165) hx hb dM_act_160 rfl (fun h9 => absurd h9 (by decide)) (fun _ => ?_)
  refine lv_iconst (v := 0) hx hb dM_act_163 (by decide) ?_
  exact er_iret hx hb hr hlocks hV hS dM_act_164 ⟨Eq.symm (by unfold s_act_2r; rfl), Eq.symm (by unfold s_act_2r; rfl)⟩

def s_act_3r (A : ew_R) (rq : Nat) (ln : Nat) (cc : Int32) (nl : Nat) : Int32 × ew_R :=
  (0, up3 A 0 0 0 2)
set_option maxHeartbeats 4000000 in
set_option maxRecDepth 100000 in
theorem r_act_3r (l : Launch) (D : va_G) (T : Nat → ClassId) (X : Nat → Nat → Nat) (L : List Nat) (tg : Nat → Nat × Nat) (sz : Nat) (hE : eR_E X L tg) (A : ew_R) (rq : Nat) (ln : Nat) (cc : Int32) (nl : Nat) (hnl : ln < nl) (hn2 : nl ≤ 32) (q2 : A 0 0 2 = nI nl) (hrq : rq < 6) (q11 : A 11 0 ln = nI rq) (q22 : A 22 0 (6 * ln + rq) = 0) (hmay : s_mayRequester_3 A ln = 0) : Met l yM_act wsM_act ({ frames := 5, cells := 0, slots := 0, locals := 114 }) (er_Pc D vwCl (tysA T) (cfR T) X L tg A sz [.ref (X 0 0), .int (nI rq), .int (nI ln), .int 3, .int cc]) (er_Qi D vwCl (cfR T) X L tg sz (fun r u => r = (s_act_3r A rq ln cc nl).1 ∧ u = (s_act_3r A rq ln cc nl).2)) 0 0 (ew_A L sz) := by
  refine er_met (by decide) rfl (Nat.le_of_ble_eq_true rfl) ?_
  intro p e s m below meth c ls hx hb hr hts hown hlocks hml hV hK hS hA hl hsz
  subst hsz
  have hi0 := hE 0 (by decide)
  have hl : lv_has ls 8 [(0, .ref (X 0 0)), (1, .int (nI rq)), (2, .int (nI ln)), (3, .int 3), (4, .int cc)] := hl
  refine lv_aload_n hx hb dM_act_0 rfl (lv_at hl 0 rfl) ?_
  refine lv_iload_n hx hb dM_act_1 rfl (lv_at hl 2 rfl) ?_
  refine er_calli (va_runV (As := [.int (nI ln)]) (rest := []) ⟨hx, hb, hml, hown, hts⟩ (r_isLoan l D T X L tg _ hE A (nI ln)) (cwV 1 hts gM_172 rfl rfl rfl (by decide +kernel) ⟨Nat.le_of_ble_eq_true rfl, Nat.le_of_ble_eq_true rfl⟩) (er_preV hK hV hi0 (cR_0 _ _ _) rfl) rfl rfl hl.1 rfl (lv_room (Nat.le_of_ble_eq_true rfl)) dM_act_2 ⟨Nat.le_of_ble_eq_true rfl, Nat.le_of_ble_eq_true rfl⟩) hV hS hA (fun r u H locs hp hV hS => ?_)
  obtain ⟨rfl, eu9⟩ := hp
  rw [eu9] at hV
  refine lv_toe (y := 1) (s_isLoan_1 q2 hnl hn2) ?_
  refine lv_if_eq (tgt := 29) hx hb dM_act_5 rfl (fun h9 => absurd h9 (by decide)) (fun _ => ?_)
  refine lv_iload_n hx hb dM_act_8 rfl (lv_at hl 1 rfl) ?_
  refine er_calli (va_runS (As := [.int (nI rq)]) (rest := []) ⟨hx, hb, hml, hown, hts⟩ (r_isLibrary l D T X L tg _ hE A (nI rq)) (cwS 1 hts gM_142 rfl rfl rfl (by decide +kernel) ⟨Nat.le_of_ble_eq_true rfl, Nat.le_of_ble_eq_true rfl⟩) (er_preS hK hV) rfl rfl hl.1 rfl (lv_room (Nat.le_of_ble_eq_true rfl)) dM_act_9 ⟨Nat.le_of_ble_eq_true rfl, Nat.le_of_ble_eq_true rfl⟩) hV hS hA (fun r u H locs hp hV hS => ?_)
  obtain ⟨rfl, eu9⟩ := hp
  rw [eu9] at hV
  refine lv_toe (y := 1) (s_isLibrary_1 hrq) ?_
  refine lv_if_eq (tgt := 29) hx hb dM_act_12 rfl (fun h9 => absurd h9 (by decide)) (fun _ => ?_)
  refine lv_iload_n hx hb dM_act_15 rfl (lv_at hl 1 rfl) ?_
  refine lv_aload_n hx hb dM_act_16 rfl (lv_at hl 0 rfl) ?_
  refine ew_get (v := .ref (X 11 0)) hx hb hts hown hK hV fM_25 hi0 (cR_0 _ _ _) rfl dM_act_17 ?_
  refine lv_iload_n hx hb dM_act_20 rfl (lv_at hl 2 rfl) ?_
  refine ew_iald (v := A 11 0 ln) hx hb hK hV (hE 11 (by decide)) (cR_11 _ _ _) 0 rfl (vp_in_nI (by omega) (by decide)) (er_ix (by omega) rfl) dM_act_21 ?_
  refine lv_toe (y := nI rq) q11 ?_
  refine lv_icmp_ne (tgt := 29) hx hb dM_act_22 rfl (fun h9 => absurd ((nI_eq (a := rq) (b := rq) (by omega) (by omega)).mpr rfl) h9) (fun _ => ?_)
  refine lv_iconst (v := 1) hx hb dM_act_25 (by decide) ?_
  refine lv_goto (tgt := 30) hx hb dM_act_26 rfl ?_
  refine lv_istore (lv' := [(5, .int 1), (0, .ref (X 0 0)), (1, .int (nI rq)), (2, .int (nI ln)), (3, .int 3), (4, .int cc)]) hx hb dM_act_30 hl (by decide) rfl (fun ls hl => ?_)
  refine lv_aload_n hx hb dM_act_32 rfl (lv_at hl 1 rfl) ?_
  refine lv_iload_n hx hb dM_act_33 rfl (lv_at hl 3 rfl) ?_
  refine er_calli (va_runV (As := [.int (nI ln)]) (rest := []) ⟨hx, hb, hml, hown, hts⟩ (r_isLoan l D T X L tg _ hE A (nI ln)) (cwV 1 hts gM_172 rfl rfl rfl (by decide +kernel) ⟨Nat.le_of_ble_eq_true rfl, Nat.le_of_ble_eq_true rfl⟩) (er_preV hK hV hi0 (cR_0 _ _ _) rfl) rfl rfl hl.1 rfl (lv_room (Nat.le_of_ble_eq_true rfl)) dM_act_34 ⟨Nat.le_of_ble_eq_true rfl, Nat.le_of_ble_eq_true rfl⟩) hV hS hA (fun r u H locs hp hV hS => ?_)
  obtain ⟨rfl, eu9⟩ := hp
  rw [eu9] at hV
  refine lv_toe (y := 1) (s_isLoan_1 q2 hnl hn2) ?_
  refine lv_if_eq (tgt := 65) hx hb dM_act_37 rfl (fun h9 => absurd h9 (by decide)) (fun _ => ?_)
  refine lv_iload_n hx hb dM_act_40 rfl (lv_at hl 2 rfl) ?_
  refine er_calli (va_runS (As := [.int (nI rq)]) (rest := []) ⟨hx, hb, hml, hown, hts⟩ (r_isLibrary l D T X L tg _ hE A (nI rq)) (cwS 1 hts gM_142 rfl rfl rfl (by decide +kernel) ⟨Nat.le_of_ble_eq_true rfl, Nat.le_of_ble_eq_true rfl⟩) (er_preS hK hV) rfl rfl hl.1 rfl (lv_room (Nat.le_of_ble_eq_true rfl)) dM_act_41 ⟨Nat.le_of_ble_eq_true rfl, Nat.le_of_ble_eq_true rfl⟩) hV hS hA (fun r u H locs hp hV hS => ?_)
  obtain ⟨rfl, eu9⟩ := hp
  rw [eu9] at hV
  refine lv_toe (y := 1) (s_isLibrary_1 hrq) ?_
  refine lv_if_eq (tgt := 65) hx hb dM_act_44 rfl (fun h9 => absurd h9 (by decide)) (fun _ => ?_)
  refine lv_aload_n hx hb dM_act_47 rfl (lv_at hl 1 rfl) ?_
  refine ew_get (v := .ref (X 22 0)) hx hb hts hown hK hV fM_58 hi0 (cR_0 _ _ _) rfl dM_act_48 ?_
  refine lv_bipush (v := 6) hx hb dM_act_51 (by decide) ?_
  refine lv_iload_n hx hb dM_act_53 rfl (lv_at hl 3 rfl) ?_
  refine lv_imul hx hb dM_act_54 ?_
  refine lv_toe (y := nI (6 * ln)) (pk_mul 6 ln) ?_
  refine lv_iload_n hx hb dM_act_55 rfl (lv_at hl 2 rfl) ?_
  refine lv_iadd hx hb dM_act_56 ?_
  refine lv_toe (y := nI ((6 * ln) + rq)) (nI_add (6 * ln) rq) ?_
  refine ew_zald (v := A 22 0 ((6 * ln) + rq)) hx hb hK hV (hE 22 (by decide)) (cR_22 _ _ _) 1 rfl (vp_in_nI (by omega) (by decide)) (er_ix (by omega) rfl) dM_act_57 ?_
  refine lv_if_eq (tgt := 65) hx hb dM_act_58 rfl (fun _ => ?_) (fun h9 => absurd q22 h9)
  refine lv_iconst (v := 0) hx hb dM_act_65 (by decide) ?_
  refine lv_istore (lv' := [(6, .int 0), (5, .int 1), (0, .ref (X 0 0)), (1, .int (nI rq)), (2, .int (nI ln)), (3, .int 3), (4, .int cc)]) hx hb dM_act_66 hl (by decide) rfl (fun ls hl => ?_)
  refine lv_iload_n hx hb dM_act_68 rfl (lv_at hl 5 rfl) ?_
  refine lv_if_lt (tgt := 83) hx hb dM_act_69 rfl (fun h9 => absurd h9 (by decide)) (fun _ => ?_)
  refine lv_iload_n hx hb dM_act_72 rfl (lv_at hl 5 rfl) ?_
  refine lv_bipush (v := 7) hx hb dM_act_73 (by decide) ?_
  refine lv_icmp_ge (tgt := 83) hx hb dM_act_75 rfl (fun h9 => absurd h9 (by decide)) (fun _ => ?_)
  refine lv_iload hx hb dM_act_78 (lv_at hl 1 rfl) ?_
  refine lv_if_ne (tgt := 100) hx hb dM_act_80 rfl (fun _ => ?_) (fun h9 => absurd h9 (by decide))
  refine lv_iconst (v := 1) hx hb dM_act_100 (by decide) ?_
  refine lv_goto (tgt := 105) hx hb dM_act_101 rfl ?_
  refine lv_istore (lv' := [(7, .int 1), (6, .int 0), (5, .int 1), (0, .ref (X 0 0)), (1, .int (nI rq)), (2, .int (nI ln)), (3, .int 3), (4, .int cc)]) hx hb dM_act_105 hl (by decide) rfl (fun ls hl => ?_)
  refine lv_aload_n hx hb dM_act_107 rfl (lv_at hl 3 rfl) ?_
  refine lv_iload hx hb dM_act_108 (lv_at hl 0 rfl) ?_
  refine lv_if_ne (tgt := 117) hx hb dM_act_110 rfl (fun _ => ?_) (fun h9 => absurd h9 (by decide))
  refine lv_iconst (v := 0) hx hb dM_act_117 (by decide) ?_
  refine lv_iload hx hb dM_act_118 (lv_at hl 0 rfl) ?_
  refine lv_if_eq (tgt := 156) hx hb dM_act_120 rfl (fun h9 => absurd h9 (by decide)) (fun _ => ?_)
  refine lv_iload hx hb dM_act_123 (lv_at hl 2 rfl) ?_
  refine lv_if_eq (tgt := 140) hx hb dM_act_125 rfl (fun h9 => absurd h9 (by decide)) (fun _ => ?_)
  refine lv_aload_n hx hb dM_act_128 rfl (lv_at hl 3 rfl) ?_
  refine lv_iload_n hx hb dM_act_129 rfl (lv_at hl 5 rfl) ?_
  refine lv_iload_n hx hb dM_act_130 rfl (lv_at hl 6 rfl) ?_
  refine er_calli (va_runV (As := [.int (nI ln), .int 3]) (rest := [.int 0, .ref (X 0 0)]) ⟨hx, hb, hml, hown, hts⟩ (r_mayRequester_3 l D T X L tg _ hE A ln (by omega)) (cwV 2 hts gM_175 rfl rfl rfl (by decide +kernel) ⟨Nat.le_of_ble_eq_true rfl, Nat.le_of_ble_eq_true rfl⟩) (er_preV hK hV hi0 (cR_0 _ _ _) rfl) rfl rfl hl.1 rfl (lv_room (Nat.le_of_ble_eq_true rfl)) dM_act_131 ⟨Nat.le_of_ble_eq_true rfl, Nat.le_of_ble_eq_true rfl⟩) hV hS hA (fun r u H locs hp hV hS => ?_)
  obtain ⟨rfl, eu9⟩ := hp
  rw [eu9] at hV
  refine lv_toe (y := 0) hmay ?_
  refine lv_if_ne (tgt := 156) hx hb dM_act_134 rfl (fun h9 => absurd (by decide) h9) (fun _ => ?_)
  refine lv_goto (tgt := 152) hx hb dM_act_137 rfl ?_
  refine lv_iconst (v := 1) hx hb dM_act_152 (by decide) ?_
  refine lv_goto (tgt := 157) hx hb dM_act_153 rfl ?_
  refine er_calli (va_runV (As := [.int 0, .int 1]) (rest := []) ⟨hx, hb, hml, hown, hts⟩ (r_refuses_b l D T X L tg _ hE A) (cwV 2 hts gM_152 rfl rfl rfl (by decide +kernel) ⟨Nat.le_of_ble_eq_true rfl, Nat.le_of_ble_eq_true rfl⟩) (er_preV hK hV hi0 (cR_0 _ _ _) rfl) rfl rfl hl.1 rfl (lv_room (Nat.le_of_ble_eq_true rfl)) dM_act_157 ⟨Nat.le_of_ble_eq_true rfl, Nat.le_of_ble_eq_true rfl⟩) hV hS hA (fun r u H locs hp hV hS => ?_)
  obtain ⟨rfl, rfl⟩ := hp
  refine lv_if_eq (tgt := 165) hx hb dM_act_160 rfl (fun h9 => absurd h9 (by decide)) (fun _ => ?_)
  refine lv_iconst (v := 0) hx hb dM_act_163 (by decide) ?_
  exact er_iret hx hb hr hlocks hV hS dM_act_164 ⟨Eq.symm (by unfold s_act_3r; rfl), Eq.symm (by unfold s_act_3r; rfl)⟩

def s_act_4r (A : ew_R) (rq : Nat) (ln : Nat) (cc : Int32) (nl : Nat) : Int32 × ew_R :=
  (0, up3 A 0 0 0 2)
set_option maxHeartbeats 4000000 in
set_option maxRecDepth 100000 in
theorem r_act_4r (l : Launch) (D : va_G) (T : Nat → ClassId) (X : Nat → Nat → Nat) (L : List Nat) (tg : Nat → Nat × Nat) (sz : Nat) (hE : eR_E X L tg) (A : ew_R) (rq : Nat) (ln : Nat) (cc : Int32) (nl : Nat) (hnl : ln < nl) (hn2 : nl ≤ 32) (q2 : A 0 0 2 = nI nl) (hrq : rq < 6) (q11 : A 11 0 ln = nI rq) (q22 : A 22 0 (6 * ln + rq) = 0) (hmay : s_mayRequester_4 A ln = 0) : Met l yM_act wsM_act ({ frames := 5, cells := 0, slots := 0, locals := 114 }) (er_Pc D vwCl (tysA T) (cfR T) X L tg A sz [.ref (X 0 0), .int (nI rq), .int (nI ln), .int 4, .int cc]) (er_Qi D vwCl (cfR T) X L tg sz (fun r u => r = (s_act_4r A rq ln cc nl).1 ∧ u = (s_act_4r A rq ln cc nl).2)) 0 0 (ew_A L sz) := by
  refine er_met (by decide) rfl (Nat.le_of_ble_eq_true rfl) ?_
  intro p e s m below meth c ls hx hb hr hts hown hlocks hml hV hK hS hA hl hsz
  subst hsz
  have hi0 := hE 0 (by decide)
  have hl : lv_has ls 8 [(0, .ref (X 0 0)), (1, .int (nI rq)), (2, .int (nI ln)), (3, .int 4), (4, .int cc)] := hl
  refine lv_aload_n hx hb dM_act_0 rfl (lv_at hl 0 rfl) ?_
  refine lv_iload_n hx hb dM_act_1 rfl (lv_at hl 2 rfl) ?_
  refine er_calli (va_runV (As := [.int (nI ln)]) (rest := []) ⟨hx, hb, hml, hown, hts⟩ (r_isLoan l D T X L tg _ hE A (nI ln)) (cwV 1 hts gM_172 rfl rfl rfl (by decide +kernel) ⟨Nat.le_of_ble_eq_true rfl, Nat.le_of_ble_eq_true rfl⟩) (er_preV hK hV hi0 (cR_0 _ _ _) rfl) rfl rfl hl.1 rfl (lv_room (Nat.le_of_ble_eq_true rfl)) dM_act_2 ⟨Nat.le_of_ble_eq_true rfl, Nat.le_of_ble_eq_true rfl⟩) hV hS hA (fun r u H locs hp hV hS => ?_)
  obtain ⟨rfl, eu9⟩ := hp
  rw [eu9] at hV
  refine lv_toe (y := 1) (s_isLoan_1 q2 hnl hn2) ?_
  refine lv_if_eq (tgt := 29) hx hb dM_act_5 rfl (fun h9 => absurd h9 (by decide)) (fun _ => ?_)
  refine lv_iload_n hx hb dM_act_8 rfl (lv_at hl 1 rfl) ?_
  refine er_calli (va_runS (As := [.int (nI rq)]) (rest := []) ⟨hx, hb, hml, hown, hts⟩ (r_isLibrary l D T X L tg _ hE A (nI rq)) (cwS 1 hts gM_142 rfl rfl rfl (by decide +kernel) ⟨Nat.le_of_ble_eq_true rfl, Nat.le_of_ble_eq_true rfl⟩) (er_preS hK hV) rfl rfl hl.1 rfl (lv_room (Nat.le_of_ble_eq_true rfl)) dM_act_9 ⟨Nat.le_of_ble_eq_true rfl, Nat.le_of_ble_eq_true rfl⟩) hV hS hA (fun r u H locs hp hV hS => ?_)
  obtain ⟨rfl, eu9⟩ := hp
  rw [eu9] at hV
  refine lv_toe (y := 1) (s_isLibrary_1 hrq) ?_
  refine lv_if_eq (tgt := 29) hx hb dM_act_12 rfl (fun h9 => absurd h9 (by decide)) (fun _ => ?_)
  refine lv_iload_n hx hb dM_act_15 rfl (lv_at hl 1 rfl) ?_
  refine lv_aload_n hx hb dM_act_16 rfl (lv_at hl 0 rfl) ?_
  refine ew_get (v := .ref (X 11 0)) hx hb hts hown hK hV fM_25 hi0 (cR_0 _ _ _) rfl dM_act_17 ?_
  refine lv_iload_n hx hb dM_act_20 rfl (lv_at hl 2 rfl) ?_
  refine ew_iald (v := A 11 0 ln) hx hb hK hV (hE 11 (by decide)) (cR_11 _ _ _) 0 rfl (vp_in_nI (by omega) (by decide)) (er_ix (by omega) rfl) dM_act_21 ?_
  refine lv_toe (y := nI rq) q11 ?_
  refine lv_icmp_ne (tgt := 29) hx hb dM_act_22 rfl (fun h9 => absurd ((nI_eq (a := rq) (b := rq) (by omega) (by omega)).mpr rfl) h9) (fun _ => ?_)
  refine lv_iconst (v := 1) hx hb dM_act_25 (by decide) ?_
  refine lv_goto (tgt := 30) hx hb dM_act_26 rfl ?_
  refine lv_istore (lv' := [(5, .int 1), (0, .ref (X 0 0)), (1, .int (nI rq)), (2, .int (nI ln)), (3, .int 4), (4, .int cc)]) hx hb dM_act_30 hl (by decide) rfl (fun ls hl => ?_)
  refine lv_aload_n hx hb dM_act_32 rfl (lv_at hl 1 rfl) ?_
  refine lv_iload_n hx hb dM_act_33 rfl (lv_at hl 3 rfl) ?_
  refine er_calli (va_runV (As := [.int (nI ln)]) (rest := []) ⟨hx, hb, hml, hown, hts⟩ (r_isLoan l D T X L tg _ hE A (nI ln)) (cwV 1 hts gM_172 rfl rfl rfl (by decide +kernel) ⟨Nat.le_of_ble_eq_true rfl, Nat.le_of_ble_eq_true rfl⟩) (er_preV hK hV hi0 (cR_0 _ _ _) rfl) rfl rfl hl.1 rfl (lv_room (Nat.le_of_ble_eq_true rfl)) dM_act_34 ⟨Nat.le_of_ble_eq_true rfl, Nat.le_of_ble_eq_true rfl⟩) hV hS hA (fun r u H locs hp hV hS => ?_)
  obtain ⟨rfl, eu9⟩ := hp
  rw [eu9] at hV
  refine lv_toe (y := 1) (s_isLoan_1 q2 hnl hn2) ?_
  refine lv_if_eq (tgt := 65) hx hb dM_act_37 rfl (fun h9 => absurd h9 (by decide)) (fun _ => ?_)
  refine lv_iload_n hx hb dM_act_40 rfl (lv_at hl 2 rfl) ?_
  refine er_calli (va_runS (As := [.int (nI rq)]) (rest := []) ⟨hx, hb, hml, hown, hts⟩ (r_isLibrary l D T X L tg _ hE A (nI rq)) (cwS 1 hts gM_142 rfl rfl rfl (by decide +kernel) ⟨Nat.le_of_ble_eq_true rfl, Nat.le_of_ble_eq_true rfl⟩) (er_preS hK hV) rfl rfl hl.1 rfl (lv_room (Nat.le_of_ble_eq_true rfl)) dM_act_41 ⟨Nat.le_of_ble_eq_true rfl, Nat.le_of_ble_eq_true rfl⟩) hV hS hA (fun r u H locs hp hV hS => ?_)
  obtain ⟨rfl, eu9⟩ := hp
  rw [eu9] at hV
  refine lv_toe (y := 1) (s_isLibrary_1 hrq) ?_
  refine lv_if_eq (tgt := 65) hx hb dM_act_44 rfl (fun h9 => absurd h9 (by decide)) (fun _ => ?_)
  refine lv_aload_n hx hb dM_act_47 rfl (lv_at hl 1 rfl) ?_
  refine ew_get (v := .ref (X 22 0)) hx hb hts hown hK hV fM_58 hi0 (cR_0 _ _ _) rfl dM_act_48 ?_
  refine lv_bipush (v := 6) hx hb dM_act_51 (by decide) ?_
  refine lv_iload_n hx hb dM_act_53 rfl (lv_at hl 3 rfl) ?_
  refine lv_imul hx hb dM_act_54 ?_
  refine lv_toe (y := nI (6 * ln)) (pk_mul 6 ln) ?_
  refine lv_iload_n hx hb dM_act_55 rfl (lv_at hl 2 rfl) ?_
  refine lv_iadd hx hb dM_act_56 ?_
  refine lv_toe (y := nI ((6 * ln) + rq)) (nI_add (6 * ln) rq) ?_
  refine ew_zald (v := A 22 0 ((6 * ln) + rq)) hx hb hK hV (hE 22 (by decide)) (cR_22 _ _ _) 1 rfl (vp_in_nI (by omega) (by decide)) (er_ix (by omega) rfl) dM_act_57 ?_
  refine lv_if_eq (tgt := 65) hx hb dM_act_58 rfl (fun _ => ?_) (fun h9 => absurd q22 h9)
  refine lv_iconst (v := 0) hx hb dM_act_65 (by decide) ?_
  refine lv_istore (lv' := [(6, .int 0), (5, .int 1), (0, .ref (X 0 0)), (1, .int (nI rq)), (2, .int (nI ln)), (3, .int 4), (4, .int cc)]) hx hb dM_act_66 hl (by decide) rfl (fun ls hl => ?_)
  refine lv_iload_n hx hb dM_act_68 rfl (lv_at hl 5 rfl) ?_
  refine lv_if_lt (tgt := 83) hx hb dM_act_69 rfl (fun h9 => absurd h9 (by decide)) (fun _ => ?_)
  refine lv_iload_n hx hb dM_act_72 rfl (lv_at hl 5 rfl) ?_
  refine lv_bipush (v := 7) hx hb dM_act_73 (by decide) ?_
  refine lv_icmp_ge (tgt := 83) hx hb dM_act_75 rfl (fun h9 => absurd h9 (by decide)) (fun _ => ?_)
  refine lv_iload hx hb dM_act_78 (lv_at hl 1 rfl) ?_
  refine lv_if_ne (tgt := 100) hx hb dM_act_80 rfl (fun _ => ?_) (fun h9 => absurd h9 (by decide))
  refine lv_iconst (v := 1) hx hb dM_act_100 (by decide) ?_
  refine lv_goto (tgt := 105) hx hb dM_act_101 rfl ?_
  refine lv_istore (lv' := [(7, .int 1), (6, .int 0), (5, .int 1), (0, .ref (X 0 0)), (1, .int (nI rq)), (2, .int (nI ln)), (3, .int 4), (4, .int cc)]) hx hb dM_act_105 hl (by decide) rfl (fun ls hl => ?_)
  refine lv_aload_n hx hb dM_act_107 rfl (lv_at hl 3 rfl) ?_
  refine lv_iload hx hb dM_act_108 (lv_at hl 0 rfl) ?_
  refine lv_if_ne (tgt := 117) hx hb dM_act_110 rfl (fun _ => ?_) (fun h9 => absurd h9 (by decide))
  refine lv_iconst (v := 0) hx hb dM_act_117 (by decide) ?_
  refine lv_iload hx hb dM_act_118 (lv_at hl 0 rfl) ?_
  refine lv_if_eq (tgt := 156) hx hb dM_act_120 rfl (fun h9 => absurd h9 (by decide)) (fun _ => ?_)
  refine lv_iload hx hb dM_act_123 (lv_at hl 2 rfl) ?_
  refine lv_if_eq (tgt := 140) hx hb dM_act_125 rfl (fun h9 => absurd h9 (by decide)) (fun _ => ?_)
  refine lv_aload_n hx hb dM_act_128 rfl (lv_at hl 3 rfl) ?_
  refine lv_iload_n hx hb dM_act_129 rfl (lv_at hl 5 rfl) ?_
  refine lv_iload_n hx hb dM_act_130 rfl (lv_at hl 6 rfl) ?_
  refine er_calli (va_runV (As := [.int (nI ln), .int 4]) (rest := [.int 0, .ref (X 0 0)]) ⟨hx, hb, hml, hown, hts⟩ (r_mayRequester_4 l D T X L tg _ hE A ln (by omega)) (cwV 2 hts gM_175 rfl rfl rfl (by decide +kernel) ⟨Nat.le_of_ble_eq_true rfl, Nat.le_of_ble_eq_true rfl⟩) (er_preV hK hV hi0 (cR_0 _ _ _) rfl) rfl rfl hl.1 rfl (lv_room (Nat.le_of_ble_eq_true rfl)) dM_act_131 ⟨Nat.le_of_ble_eq_true rfl, Nat.le_of_ble_eq_true rfl⟩) hV hS hA (fun r u H locs hp hV hS => ?_)
  obtain ⟨rfl, eu9⟩ := hp
  rw [eu9] at hV
  refine lv_toe (y := 0) hmay ?_
  refine lv_if_ne (tgt := 156) hx hb dM_act_134 rfl (fun h9 => absurd (by decide) h9) (fun _ => ?_)
  refine lv_goto (tgt := 152) hx hb dM_act_137 rfl ?_
  refine lv_iconst (v := 1) hx hb dM_act_152 (by decide) ?_
  refine lv_goto (tgt := 157) hx hb dM_act_153 rfl ?_
  refine er_calli (va_runV (As := [.int 0, .int 1]) (rest := []) ⟨hx, hb, hml, hown, hts⟩ (r_refuses_b l D T X L tg _ hE A) (cwV 2 hts gM_152 rfl rfl rfl (by decide +kernel) ⟨Nat.le_of_ble_eq_true rfl, Nat.le_of_ble_eq_true rfl⟩) (er_preV hK hV hi0 (cR_0 _ _ _) rfl) rfl rfl hl.1 rfl (lv_room (Nat.le_of_ble_eq_true rfl)) dM_act_157 ⟨Nat.le_of_ble_eq_true rfl, Nat.le_of_ble_eq_true rfl⟩) hV hS hA (fun r u H locs hp hV hS => ?_)
  obtain ⟨rfl, rfl⟩ := hp
  refine lv_if_eq (tgt := 165) hx hb dM_act_160 rfl (fun h9 => absurd h9 (by decide)) (fun _ => ?_)
  refine lv_iconst (v := 0) hx hb dM_act_163 (by decide) ?_
  exact er_iret hx hb hr hlocks hV hS dM_act_164 ⟨Eq.symm (by unfold s_act_4r; rfl), Eq.symm (by unfold s_act_4r; rfl)⟩

def s_act_5r (A : ew_R) (rq : Nat) (ln : Nat) (cc : Int32) (nl : Nat) : Int32 × ew_R :=
  (0, up3 A 0 0 0 2)
set_option maxHeartbeats 4000000 in
set_option maxRecDepth 100000 in
theorem r_act_5r (l : Launch) (D : va_G) (T : Nat → ClassId) (X : Nat → Nat → Nat) (L : List Nat) (tg : Nat → Nat × Nat) (sz : Nat) (hE : eR_E X L tg) (A : ew_R) (rq : Nat) (ln : Nat) (cc : Int32) (nl : Nat) (hnl : ln < nl) (hn2 : nl ≤ 32) (q2 : A 0 0 2 = nI nl) (hrq : rq < 6) (q11 : A 11 0 ln = nI rq) (q22 : A 22 0 (6 * ln + rq) = 0) (hmay : s_mayRequester_5 A ln = 0) : Met l yM_act wsM_act ({ frames := 5, cells := 0, slots := 0, locals := 114 }) (er_Pc D vwCl (tysA T) (cfR T) X L tg A sz [.ref (X 0 0), .int (nI rq), .int (nI ln), .int 5, .int cc]) (er_Qi D vwCl (cfR T) X L tg sz (fun r u => r = (s_act_5r A rq ln cc nl).1 ∧ u = (s_act_5r A rq ln cc nl).2)) 0 0 (ew_A L sz) := by
  refine er_met (by decide) rfl (Nat.le_of_ble_eq_true rfl) ?_
  intro p e s m below meth c ls hx hb hr hts hown hlocks hml hV hK hS hA hl hsz
  subst hsz
  have hi0 := hE 0 (by decide)
  have hl : lv_has ls 8 [(0, .ref (X 0 0)), (1, .int (nI rq)), (2, .int (nI ln)), (3, .int 5), (4, .int cc)] := hl
  refine lv_aload_n hx hb dM_act_0 rfl (lv_at hl 0 rfl) ?_
  refine lv_iload_n hx hb dM_act_1 rfl (lv_at hl 2 rfl) ?_
  refine er_calli (va_runV (As := [.int (nI ln)]) (rest := []) ⟨hx, hb, hml, hown, hts⟩ (r_isLoan l D T X L tg _ hE A (nI ln)) (cwV 1 hts gM_172 rfl rfl rfl (by decide +kernel) ⟨Nat.le_of_ble_eq_true rfl, Nat.le_of_ble_eq_true rfl⟩) (er_preV hK hV hi0 (cR_0 _ _ _) rfl) rfl rfl hl.1 rfl (lv_room (Nat.le_of_ble_eq_true rfl)) dM_act_2 ⟨Nat.le_of_ble_eq_true rfl, Nat.le_of_ble_eq_true rfl⟩) hV hS hA (fun r u H locs hp hV hS => ?_)
  obtain ⟨rfl, eu9⟩ := hp
  rw [eu9] at hV
  refine lv_toe (y := 1) (s_isLoan_1 q2 hnl hn2) ?_
  refine lv_if_eq (tgt := 29) hx hb dM_act_5 rfl (fun h9 => absurd h9 (by decide)) (fun _ => ?_)
  refine lv_iload_n hx hb dM_act_8 rfl (lv_at hl 1 rfl) ?_
  refine er_calli (va_runS (As := [.int (nI rq)]) (rest := []) ⟨hx, hb, hml, hown, hts⟩ (r_isLibrary l D T X L tg _ hE A (nI rq)) (cwS 1 hts gM_142 rfl rfl rfl (by decide +kernel) ⟨Nat.le_of_ble_eq_true rfl, Nat.le_of_ble_eq_true rfl⟩) (er_preS hK hV) rfl rfl hl.1 rfl (lv_room (Nat.le_of_ble_eq_true rfl)) dM_act_9 ⟨Nat.le_of_ble_eq_true rfl, Nat.le_of_ble_eq_true rfl⟩) hV hS hA (fun r u H locs hp hV hS => ?_)
  obtain ⟨rfl, eu9⟩ := hp
  rw [eu9] at hV
  refine lv_toe (y := 1) (s_isLibrary_1 hrq) ?_
  refine lv_if_eq (tgt := 29) hx hb dM_act_12 rfl (fun h9 => absurd h9 (by decide)) (fun _ => ?_)
  refine lv_iload_n hx hb dM_act_15 rfl (lv_at hl 1 rfl) ?_
  refine lv_aload_n hx hb dM_act_16 rfl (lv_at hl 0 rfl) ?_
  refine ew_get (v := .ref (X 11 0)) hx hb hts hown hK hV fM_25 hi0 (cR_0 _ _ _) rfl dM_act_17 ?_
  refine lv_iload_n hx hb dM_act_20 rfl (lv_at hl 2 rfl) ?_
  refine ew_iald (v := A 11 0 ln) hx hb hK hV (hE 11 (by decide)) (cR_11 _ _ _) 0 rfl (vp_in_nI (by omega) (by decide)) (er_ix (by omega) rfl) dM_act_21 ?_
  refine lv_toe (y := nI rq) q11 ?_
  refine lv_icmp_ne (tgt := 29) hx hb dM_act_22 rfl (fun h9 => absurd ((nI_eq (a := rq) (b := rq) (by omega) (by omega)).mpr rfl) h9) (fun _ => ?_)
  refine lv_iconst (v := 1) hx hb dM_act_25 (by decide) ?_
  refine lv_goto (tgt := 30) hx hb dM_act_26 rfl ?_
  refine lv_istore (lv' := [(5, .int 1), (0, .ref (X 0 0)), (1, .int (nI rq)), (2, .int (nI ln)), (3, .int 5), (4, .int cc)]) hx hb dM_act_30 hl (by decide) rfl (fun ls hl => ?_)
  refine lv_aload_n hx hb dM_act_32 rfl (lv_at hl 1 rfl) ?_
  refine lv_iload_n hx hb dM_act_33 rfl (lv_at hl 3 rfl) ?_
  refine er_calli (va_runV (As := [.int (nI ln)]) (rest := []) ⟨hx, hb, hml, hown, hts⟩ (r_isLoan l D T X L tg _ hE A (nI ln)) (cwV 1 hts gM_172 rfl rfl rfl (by decide +kernel) ⟨Nat.le_of_ble_eq_true rfl, Nat.le_of_ble_eq_true rfl⟩) (er_preV hK hV hi0 (cR_0 _ _ _) rfl) rfl rfl hl.1 rfl (lv_room (Nat.le_of_ble_eq_true rfl)) dM_act_34 ⟨Nat.le_of_ble_eq_true rfl, Nat.le_of_ble_eq_true rfl⟩) hV hS hA (fun r u H locs hp hV hS => ?_)
  obtain ⟨rfl, eu9⟩ := hp
  rw [eu9] at hV
  refine lv_toe (y := 1) (s_isLoan_1 q2 hnl hn2) ?_
  refine lv_if_eq (tgt := 65) hx hb dM_act_37 rfl (fun h9 => absurd h9 (by decide)) (fun _ => ?_)
  refine lv_iload_n hx hb dM_act_40 rfl (lv_at hl 2 rfl) ?_
  refine er_calli (va_runS (As := [.int (nI rq)]) (rest := []) ⟨hx, hb, hml, hown, hts⟩ (r_isLibrary l D T X L tg _ hE A (nI rq)) (cwS 1 hts gM_142 rfl rfl rfl (by decide +kernel) ⟨Nat.le_of_ble_eq_true rfl, Nat.le_of_ble_eq_true rfl⟩) (er_preS hK hV) rfl rfl hl.1 rfl (lv_room (Nat.le_of_ble_eq_true rfl)) dM_act_41 ⟨Nat.le_of_ble_eq_true rfl, Nat.le_of_ble_eq_true rfl⟩) hV hS hA (fun r u H locs hp hV hS => ?_)
  obtain ⟨rfl, eu9⟩ := hp
  rw [eu9] at hV
  refine lv_toe (y := 1) (s_isLibrary_1 hrq) ?_
  refine lv_if_eq (tgt := 65) hx hb dM_act_44 rfl (fun h9 => absurd h9 (by decide)) (fun _ => ?_)
  refine lv_aload_n hx hb dM_act_47 rfl (lv_at hl 1 rfl) ?_
  refine ew_get (v := .ref (X 22 0)) hx hb hts hown hK hV fM_58 hi0 (cR_0 _ _ _) rfl dM_act_48 ?_
  refine lv_bipush (v := 6) hx hb dM_act_51 (by decide) ?_
  refine lv_iload_n hx hb dM_act_53 rfl (lv_at hl 3 rfl) ?_
  refine lv_imul hx hb dM_act_54 ?_
  refine lv_toe (y := nI (6 * ln)) (pk_mul 6 ln) ?_
  refine lv_iload_n hx hb dM_act_55 rfl (lv_at hl 2 rfl) ?_
  refine lv_iadd hx hb dM_act_56 ?_
  refine lv_toe (y := nI ((6 * ln) + rq)) (nI_add (6 * ln) rq) ?_
  refine ew_zald (v := A 22 0 ((6 * ln) + rq)) hx hb hK hV (hE 22 (by decide)) (cR_22 _ _ _) 1 rfl (vp_in_nI (by omega) (by decide)) (er_ix (by omega) rfl) dM_act_57 ?_
  refine lv_if_eq (tgt := 65) hx hb dM_act_58 rfl (fun _ => ?_) (fun h9 => absurd q22 h9)
  refine lv_iconst (v := 0) hx hb dM_act_65 (by decide) ?_
  refine lv_istore (lv' := [(6, .int 0), (5, .int 1), (0, .ref (X 0 0)), (1, .int (nI rq)), (2, .int (nI ln)), (3, .int 5), (4, .int cc)]) hx hb dM_act_66 hl (by decide) rfl (fun ls hl => ?_)
  refine lv_iload_n hx hb dM_act_68 rfl (lv_at hl 5 rfl) ?_
  refine lv_if_lt (tgt := 83) hx hb dM_act_69 rfl (fun h9 => absurd h9 (by decide)) (fun _ => ?_)
  refine lv_iload_n hx hb dM_act_72 rfl (lv_at hl 5 rfl) ?_
  refine lv_bipush (v := 7) hx hb dM_act_73 (by decide) ?_
  refine lv_icmp_ge (tgt := 83) hx hb dM_act_75 rfl (fun h9 => absurd h9 (by decide)) (fun _ => ?_)
  refine lv_iload hx hb dM_act_78 (lv_at hl 1 rfl) ?_
  refine lv_if_ne (tgt := 100) hx hb dM_act_80 rfl (fun _ => ?_) (fun h9 => absurd h9 (by decide))
  refine lv_iconst (v := 1) hx hb dM_act_100 (by decide) ?_
  refine lv_goto (tgt := 105) hx hb dM_act_101 rfl ?_
  refine lv_istore (lv' := [(7, .int 1), (6, .int 0), (5, .int 1), (0, .ref (X 0 0)), (1, .int (nI rq)), (2, .int (nI ln)), (3, .int 5), (4, .int cc)]) hx hb dM_act_105 hl (by decide) rfl (fun ls hl => ?_)
  refine lv_aload_n hx hb dM_act_107 rfl (lv_at hl 3 rfl) ?_
  refine lv_iload hx hb dM_act_108 (lv_at hl 0 rfl) ?_
  refine lv_if_ne (tgt := 117) hx hb dM_act_110 rfl (fun _ => ?_) (fun h9 => absurd h9 (by decide))
  refine lv_iconst (v := 0) hx hb dM_act_117 (by decide) ?_
  refine lv_iload hx hb dM_act_118 (lv_at hl 0 rfl) ?_
  refine lv_if_eq (tgt := 156) hx hb dM_act_120 rfl (fun h9 => absurd h9 (by decide)) (fun _ => ?_)
  refine lv_iload hx hb dM_act_123 (lv_at hl 2 rfl) ?_
  refine lv_if_eq (tgt := 140) hx hb dM_act_125 rfl (fun h9 => absurd h9 (by decide)) (fun _ => ?_)
  refine lv_aload_n hx hb dM_act_128 rfl (lv_at hl 3 rfl) ?_
  refine lv_iload_n hx hb dM_act_129 rfl (lv_at hl 5 rfl) ?_
  refine lv_iload_n hx hb dM_act_130 rfl (lv_at hl 6 rfl) ?_
  refine er_calli (va_runV (As := [.int (nI ln), .int 5]) (rest := [.int 0, .ref (X 0 0)]) ⟨hx, hb, hml, hown, hts⟩ (r_mayRequester_5 l D T X L tg _ hE A ln (by omega)) (cwV 2 hts gM_175 rfl rfl rfl (by decide +kernel) ⟨Nat.le_of_ble_eq_true rfl, Nat.le_of_ble_eq_true rfl⟩) (er_preV hK hV hi0 (cR_0 _ _ _) rfl) rfl rfl hl.1 rfl (lv_room (Nat.le_of_ble_eq_true rfl)) dM_act_131 ⟨Nat.le_of_ble_eq_true rfl, Nat.le_of_ble_eq_true rfl⟩) hV hS hA (fun r u H locs hp hV hS => ?_)
  obtain ⟨rfl, eu9⟩ := hp
  rw [eu9] at hV
  refine lv_toe (y := 0) hmay ?_
  refine lv_if_ne (tgt := 156) hx hb dM_act_134 rfl (fun h9 => absurd (by decide) h9) (fun _ => ?_)
  refine lv_goto (tgt := 152) hx hb dM_act_137 rfl ?_
  refine lv_iconst (v := 1) hx hb dM_act_152 (by decide) ?_
  refine lv_goto (tgt := 157) hx hb dM_act_153 rfl ?_
  refine er_calli (va_runV (As := [.int 0, .int 1]) (rest := []) ⟨hx, hb, hml, hown, hts⟩ (r_refuses_b l D T X L tg _ hE A) (cwV 2 hts gM_152 rfl rfl rfl (by decide +kernel) ⟨Nat.le_of_ble_eq_true rfl, Nat.le_of_ble_eq_true rfl⟩) (er_preV hK hV hi0 (cR_0 _ _ _) rfl) rfl rfl hl.1 rfl (lv_room (Nat.le_of_ble_eq_true rfl)) dM_act_157 ⟨Nat.le_of_ble_eq_true rfl, Nat.le_of_ble_eq_true rfl⟩) hV hS hA (fun r u H locs hp hV hS => ?_)
  obtain ⟨rfl, rfl⟩ := hp
  refine lv_if_eq (tgt := 165) hx hb dM_act_160 rfl (fun h9 => absurd h9 (by decide)) (fun _ => ?_)
  refine lv_iconst (v := 0) hx hb dM_act_163 (by decide) ?_
  exact er_iret hx hb hr hlocks hV hS dM_act_164 ⟨Eq.symm (by unfold s_act_5r; rfl), Eq.symm (by unfold s_act_5r; rfl)⟩

def s_act_6r (A : ew_R) (rq : Nat) (ln : Nat) (cc : Int32) (nl : Nat) : Int32 × ew_R :=
  (0, up3 A 0 0 0 2)
set_option maxHeartbeats 4000000 in
set_option maxRecDepth 100000 in
theorem r_act_6r (l : Launch) (D : va_G) (T : Nat → ClassId) (X : Nat → Nat → Nat) (L : List Nat) (tg : Nat → Nat × Nat) (sz : Nat) (hE : eR_E X L tg) (A : ew_R) (rq : Nat) (ln : Nat) (cc : Int32) (nl : Nat) (hnl : ln < nl) (hn2 : nl ≤ 32) (q2 : A 0 0 2 = nI nl) (hrq : rq < 6) (q11 : A 11 0 ln = nI rq) (q22 : A 22 0 (6 * ln + rq) = 0) (hmay : s_mayRequester_6 A ln = 0) : Met l yM_act wsM_act ({ frames := 5, cells := 0, slots := 0, locals := 114 }) (er_Pc D vwCl (tysA T) (cfR T) X L tg A sz [.ref (X 0 0), .int (nI rq), .int (nI ln), .int 6, .int cc]) (er_Qi D vwCl (cfR T) X L tg sz (fun r u => r = (s_act_6r A rq ln cc nl).1 ∧ u = (s_act_6r A rq ln cc nl).2)) 0 0 (ew_A L sz) := by
  refine er_met (by decide) rfl (Nat.le_of_ble_eq_true rfl) ?_
  intro p e s m below meth c ls hx hb hr hts hown hlocks hml hV hK hS hA hl hsz
  subst hsz
  have hi0 := hE 0 (by decide)
  have hl : lv_has ls 8 [(0, .ref (X 0 0)), (1, .int (nI rq)), (2, .int (nI ln)), (3, .int 6), (4, .int cc)] := hl
  refine lv_aload_n hx hb dM_act_0 rfl (lv_at hl 0 rfl) ?_
  refine lv_iload_n hx hb dM_act_1 rfl (lv_at hl 2 rfl) ?_
  refine er_calli (va_runV (As := [.int (nI ln)]) (rest := []) ⟨hx, hb, hml, hown, hts⟩ (r_isLoan l D T X L tg _ hE A (nI ln)) (cwV 1 hts gM_172 rfl rfl rfl (by decide +kernel) ⟨Nat.le_of_ble_eq_true rfl, Nat.le_of_ble_eq_true rfl⟩) (er_preV hK hV hi0 (cR_0 _ _ _) rfl) rfl rfl hl.1 rfl (lv_room (Nat.le_of_ble_eq_true rfl)) dM_act_2 ⟨Nat.le_of_ble_eq_true rfl, Nat.le_of_ble_eq_true rfl⟩) hV hS hA (fun r u H locs hp hV hS => ?_)
  obtain ⟨rfl, eu9⟩ := hp
  rw [eu9] at hV
  refine lv_toe (y := 1) (s_isLoan_1 q2 hnl hn2) ?_
  refine lv_if_eq (tgt := 29) hx hb dM_act_5 rfl (fun h9 => absurd h9 (by decide)) (fun _ => ?_)
  refine lv_iload_n hx hb dM_act_8 rfl (lv_at hl 1 rfl) ?_
  refine er_calli (va_runS (As := [.int (nI rq)]) (rest := []) ⟨hx, hb, hml, hown, hts⟩ (r_isLibrary l D T X L tg _ hE A (nI rq)) (cwS 1 hts gM_142 rfl rfl rfl (by decide +kernel) ⟨Nat.le_of_ble_eq_true rfl, Nat.le_of_ble_eq_true rfl⟩) (er_preS hK hV) rfl rfl hl.1 rfl (lv_room (Nat.le_of_ble_eq_true rfl)) dM_act_9 ⟨Nat.le_of_ble_eq_true rfl, Nat.le_of_ble_eq_true rfl⟩) hV hS hA (fun r u H locs hp hV hS => ?_)
  obtain ⟨rfl, eu9⟩ := hp
  rw [eu9] at hV
  refine lv_toe (y := 1) (s_isLibrary_1 hrq) ?_
  refine lv_if_eq (tgt := 29) hx hb dM_act_12 rfl (fun h9 => absurd h9 (by decide)) (fun _ => ?_)
  refine lv_iload_n hx hb dM_act_15 rfl (lv_at hl 1 rfl) ?_
  refine lv_aload_n hx hb dM_act_16 rfl (lv_at hl 0 rfl) ?_
  refine ew_get (v := .ref (X 11 0)) hx hb hts hown hK hV fM_25 hi0 (cR_0 _ _ _) rfl dM_act_17 ?_
  refine lv_iload_n hx hb dM_act_20 rfl (lv_at hl 2 rfl) ?_
  refine ew_iald (v := A 11 0 ln) hx hb hK hV (hE 11 (by decide)) (cR_11 _ _ _) 0 rfl (vp_in_nI (by omega) (by decide)) (er_ix (by omega) rfl) dM_act_21 ?_
  refine lv_toe (y := nI rq) q11 ?_
  refine lv_icmp_ne (tgt := 29) hx hb dM_act_22 rfl (fun h9 => absurd ((nI_eq (a := rq) (b := rq) (by omega) (by omega)).mpr rfl) h9) (fun _ => ?_)
  refine lv_iconst (v := 1) hx hb dM_act_25 (by decide) ?_
  refine lv_goto (tgt := 30) hx hb dM_act_26 rfl ?_
  refine lv_istore (lv' := [(5, .int 1), (0, .ref (X 0 0)), (1, .int (nI rq)), (2, .int (nI ln)), (3, .int 6), (4, .int cc)]) hx hb dM_act_30 hl (by decide) rfl (fun ls hl => ?_)
  refine lv_aload_n hx hb dM_act_32 rfl (lv_at hl 1 rfl) ?_
  refine lv_iload_n hx hb dM_act_33 rfl (lv_at hl 3 rfl) ?_
  refine er_calli (va_runV (As := [.int (nI ln)]) (rest := []) ⟨hx, hb, hml, hown, hts⟩ (r_isLoan l D T X L tg _ hE A (nI ln)) (cwV 1 hts gM_172 rfl rfl rfl (by decide +kernel) ⟨Nat.le_of_ble_eq_true rfl, Nat.le_of_ble_eq_true rfl⟩) (er_preV hK hV hi0 (cR_0 _ _ _) rfl) rfl rfl hl.1 rfl (lv_room (Nat.le_of_ble_eq_true rfl)) dM_act_34 ⟨Nat.le_of_ble_eq_true rfl, Nat.le_of_ble_eq_true rfl⟩) hV hS hA (fun r u H locs hp hV hS => ?_)
  obtain ⟨rfl, eu9⟩ := hp
  rw [eu9] at hV
  refine lv_toe (y := 1) (s_isLoan_1 q2 hnl hn2) ?_
  refine lv_if_eq (tgt := 65) hx hb dM_act_37 rfl (fun h9 => absurd h9 (by decide)) (fun _ => ?_)
  refine lv_iload_n hx hb dM_act_40 rfl (lv_at hl 2 rfl) ?_
  refine er_calli (va_runS (As := [.int (nI rq)]) (rest := []) ⟨hx, hb, hml, hown, hts⟩ (r_isLibrary l D T X L tg _ hE A (nI rq)) (cwS 1 hts gM_142 rfl rfl rfl (by decide +kernel) ⟨Nat.le_of_ble_eq_true rfl, Nat.le_of_ble_eq_true rfl⟩) (er_preS hK hV) rfl rfl hl.1 rfl (lv_room (Nat.le_of_ble_eq_true rfl)) dM_act_41 ⟨Nat.le_of_ble_eq_true rfl, Nat.le_of_ble_eq_true rfl⟩) hV hS hA (fun r u H locs hp hV hS => ?_)
  obtain ⟨rfl, eu9⟩ := hp
  rw [eu9] at hV
  refine lv_toe (y := 1) (s_isLibrary_1 hrq) ?_
  refine lv_if_eq (tgt := 65) hx hb dM_act_44 rfl (fun h9 => absurd h9 (by decide)) (fun _ => ?_)
  refine lv_aload_n hx hb dM_act_47 rfl (lv_at hl 1 rfl) ?_
  refine ew_get (v := .ref (X 22 0)) hx hb hts hown hK hV fM_58 hi0 (cR_0 _ _ _) rfl dM_act_48 ?_
  refine lv_bipush (v := 6) hx hb dM_act_51 (by decide) ?_
  refine lv_iload_n hx hb dM_act_53 rfl (lv_at hl 3 rfl) ?_
  refine lv_imul hx hb dM_act_54 ?_
  refine lv_toe (y := nI (6 * ln)) (pk_mul 6 ln) ?_
  refine lv_iload_n hx hb dM_act_55 rfl (lv_at hl 2 rfl) ?_
  refine lv_iadd hx hb dM_act_56 ?_
  refine lv_toe (y := nI ((6 * ln) + rq)) (nI_add (6 * ln) rq) ?_
  refine ew_zald (v := A 22 0 ((6 * ln) + rq)) hx hb hK hV (hE 22 (by decide)) (cR_22 _ _ _) 1 rfl (vp_in_nI (by omega) (by decide)) (er_ix (by omega) rfl) dM_act_57 ?_
  refine lv_if_eq (tgt := 65) hx hb dM_act_58 rfl (fun _ => ?_) (fun h9 => absurd q22 h9)
  refine lv_iconst (v := 0) hx hb dM_act_65 (by decide) ?_
  refine lv_istore (lv' := [(6, .int 0), (5, .int 1), (0, .ref (X 0 0)), (1, .int (nI rq)), (2, .int (nI ln)), (3, .int 6), (4, .int cc)]) hx hb dM_act_66 hl (by decide) rfl (fun ls hl => ?_)
  refine lv_iload_n hx hb dM_act_68 rfl (lv_at hl 5 rfl) ?_
  refine lv_if_lt (tgt := 83) hx hb dM_act_69 rfl (fun h9 => absurd h9 (by decide)) (fun _ => ?_)
  refine lv_iload_n hx hb dM_act_72 rfl (lv_at hl 5 rfl) ?_
  refine lv_bipush (v := 7) hx hb dM_act_73 (by decide) ?_
  refine lv_icmp_ge (tgt := 83) hx hb dM_act_75 rfl (fun h9 => absurd h9 (by decide)) (fun _ => ?_)
  refine lv_iload hx hb dM_act_78 (lv_at hl 1 rfl) ?_
  refine lv_if_ne (tgt := 100) hx hb dM_act_80 rfl (fun _ => ?_) (fun h9 => absurd h9 (by decide))
  refine lv_iconst (v := 1) hx hb dM_act_100 (by decide) ?_
  refine lv_goto (tgt := 105) hx hb dM_act_101 rfl ?_
  refine lv_istore (lv' := [(7, .int 1), (6, .int 0), (5, .int 1), (0, .ref (X 0 0)), (1, .int (nI rq)), (2, .int (nI ln)), (3, .int 6), (4, .int cc)]) hx hb dM_act_105 hl (by decide) rfl (fun ls hl => ?_)
  refine lv_aload_n hx hb dM_act_107 rfl (lv_at hl 3 rfl) ?_
  refine lv_iload hx hb dM_act_108 (lv_at hl 0 rfl) ?_
  refine lv_if_ne (tgt := 117) hx hb dM_act_110 rfl (fun _ => ?_) (fun h9 => absurd h9 (by decide))
  refine lv_iconst (v := 0) hx hb dM_act_117 (by decide) ?_
  refine lv_iload hx hb dM_act_118 (lv_at hl 0 rfl) ?_
  refine lv_if_eq (tgt := 156) hx hb dM_act_120 rfl (fun h9 => absurd h9 (by decide)) (fun _ => ?_)
  refine lv_iload hx hb dM_act_123 (lv_at hl 2 rfl) ?_
  refine lv_if_eq (tgt := 140) hx hb dM_act_125 rfl (fun h9 => absurd h9 (by decide)) (fun _ => ?_)
  refine lv_aload_n hx hb dM_act_128 rfl (lv_at hl 3 rfl) ?_
  refine lv_iload_n hx hb dM_act_129 rfl (lv_at hl 5 rfl) ?_
  refine lv_iload_n hx hb dM_act_130 rfl (lv_at hl 6 rfl) ?_
  refine er_calli (va_runV (As := [.int (nI ln), .int 6]) (rest := [.int 0, .ref (X 0 0)]) ⟨hx, hb, hml, hown, hts⟩ (r_mayRequester_6 l D T X L tg _ hE A ln (by omega)) (cwV 2 hts gM_175 rfl rfl rfl (by decide +kernel) ⟨Nat.le_of_ble_eq_true rfl, Nat.le_of_ble_eq_true rfl⟩) (er_preV hK hV hi0 (cR_0 _ _ _) rfl) rfl rfl hl.1 rfl (lv_room (Nat.le_of_ble_eq_true rfl)) dM_act_131 ⟨Nat.le_of_ble_eq_true rfl, Nat.le_of_ble_eq_true rfl⟩) hV hS hA (fun r u H locs hp hV hS => ?_)
  obtain ⟨rfl, eu9⟩ := hp
  rw [eu9] at hV
  refine lv_toe (y := 0) hmay ?_
  refine lv_if_ne (tgt := 156) hx hb dM_act_134 rfl (fun h9 => absurd (by decide) h9) (fun _ => ?_)
  refine lv_goto (tgt := 152) hx hb dM_act_137 rfl ?_
  refine lv_iconst (v := 1) hx hb dM_act_152 (by decide) ?_
  refine lv_goto (tgt := 157) hx hb dM_act_153 rfl ?_
  refine er_calli (va_runV (As := [.int 0, .int 1]) (rest := []) ⟨hx, hb, hml, hown, hts⟩ (r_refuses_b l D T X L tg _ hE A) (cwV 2 hts gM_152 rfl rfl rfl (by decide +kernel) ⟨Nat.le_of_ble_eq_true rfl, Nat.le_of_ble_eq_true rfl⟩) (er_preV hK hV hi0 (cR_0 _ _ _) rfl) rfl rfl hl.1 rfl (lv_room (Nat.le_of_ble_eq_true rfl)) dM_act_157 ⟨Nat.le_of_ble_eq_true rfl, Nat.le_of_ble_eq_true rfl⟩) hV hS hA (fun r u H locs hp hV hS => ?_)
  obtain ⟨rfl, rfl⟩ := hp
  refine lv_if_eq (tgt := 165) hx hb dM_act_160 rfl (fun h9 => absurd h9 (by decide)) (fun _ => ?_)
  refine lv_iconst (v := 0) hx hb dM_act_163 (by decide) ?_
  exact er_iret hx hb hr hlocks hV hS dM_act_164 ⟨Eq.symm (by unfold s_act_6r; rfl), Eq.symm (by unfold s_act_6r; rfl)⟩
