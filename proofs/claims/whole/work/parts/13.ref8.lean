def s_act_7 (A : ew_R) (b : Nat) (ln : Nat) (cc : Nat) (nl : Nat) (rq : Nat) (w : Nat) (lg : Nat) (nc : Nat) : Int32 × ew_R :=
  if A 22 0 ((6 * ln) + b) = 0 then
    (0, up3 A 0 0 0 1)
  else
    if s_maySupplier_7 A ln b (nI cc) nc = 0 then
      (0, up3 A 0 0 0 2)
    else
      ((s_stepSupplier_7 (up3 A 0 0 0 0) ln b cc w lg) 23 0 ((6 * ln) + b), (s_stepSupplier_7 (up3 A 0 0 0 0) ln b cc w lg))
set_option maxHeartbeats 4000000 in
set_option maxRecDepth 100000 in
theorem r_act_7 (l : Launch) (D : va_G) (T : Nat → ClassId) (X : Nat → Nat → Nat) (L : List Nat) (tg : Nat → Nat × Nat) (sz : Nat) (hE : eR_E X L tg) (A : ew_R) (b : Nat) (ln : Nat) (cc : Nat) (nl : Nat) (rq : Nat) (w : Nat) (lg : Nat) (nc : Nat) (hb6 : b < 6) (hnl : ln < nl) (hn2 : nl ≤ 32) (q2 : A 0 0 2 = nI nl) (hrq : rq < 6) (q11 : A 11 0 ln = nI rq) (hbr : ¬ b = rq) (hw : w ≤ 64) (hq : A 0 0 4 = nI w) (hlg : lg < 3000) (hg : A 0 0 5 = nI lg) (hnc : nc ≤ 32) (q3 : A 0 0 3 = nI nc) (hcc : cc < nc) : Met l yM_act wsM_act ({ frames := 5, cells := 0, slots := 0, locals := 114 }) (er_Pc D vwCl (tysA T) (cfR T) X L tg A sz [.ref (X 0 0), .int (nI b), .int (nI ln), .int 7, .int (nI cc)]) (er_Qi D vwCl (cfR T) X L tg sz (fun r u => r = (s_act_7 A b ln cc nl rq w lg nc).1 ∧ u = (s_act_7 A b ln cc nl rq w lg nc).2)) 0 0 (ew_A L sz) := by
  refine er_met (by decide) rfl (Nat.le_of_ble_eq_true rfl) ?_
  intro p e s m below meth c ls hx hb hr hts hown hlocks hml hV hK hS hA hl hsz
  subst hsz
  have hi0 := hE 0 (by decide)
  have hl : lv_has ls 8 [(0, .ref (X 0 0)), (1, .int (nI b)), (2, .int (nI ln)), (3, .int 7), (4, .int (nI cc))] := hl
  refine lv_aload_n hx hb dM_act_0 rfl (lv_at hl 0 rfl) ?_
  refine lv_iload_n hx hb dM_act_1 rfl (lv_at hl 2 rfl) ?_
  refine er_calli (va_runV (As := [.int (nI ln)]) (rest := []) ⟨hx, hb, hml, hown, hts⟩ (r_isLoan l D T X L tg _ hE A (nI ln)) (cwV 1 hts gM_172 rfl rfl rfl (by decide +kernel) ⟨Nat.le_of_ble_eq_true rfl, Nat.le_of_ble_eq_true rfl⟩) (er_preV hK hV hi0 (cR_0 _ _ _) rfl) rfl rfl hl.1 rfl (lv_room (Nat.le_of_ble_eq_true rfl)) dM_act_2 ⟨Nat.le_of_ble_eq_true rfl, Nat.le_of_ble_eq_true rfl⟩) hV hS hA (fun r u H locs hp hV hS => ?_)
  obtain ⟨rfl, eu9⟩ := hp
  rw [eu9] at hV
  refine lv_toe (y := 1) (s_isLoan_1 q2 hnl hn2) ?_
  refine lv_if_eq (tgt := 29) hx hb dM_act_5 rfl (fun h9 => absurd h9 (by decide)) (fun _ => ?_)
  refine lv_iload_n hx hb dM_act_8 rfl (lv_at hl 1 rfl) ?_
  refine er_calli (va_runS (As := [.int (nI b)]) (rest := []) ⟨hx, hb, hml, hown, hts⟩ (r_isLibrary l D T X L tg _ hE A (nI b)) (cwS 1 hts gM_142 rfl rfl rfl (by decide +kernel) ⟨Nat.le_of_ble_eq_true rfl, Nat.le_of_ble_eq_true rfl⟩) (er_preS hK hV) rfl rfl hl.1 rfl (lv_room (Nat.le_of_ble_eq_true rfl)) dM_act_9 ⟨Nat.le_of_ble_eq_true rfl, Nat.le_of_ble_eq_true rfl⟩) hV hS hA (fun r u H locs hp hV hS => ?_)
  obtain ⟨rfl, eu9⟩ := hp
  rw [eu9] at hV
  refine lv_toe (y := 1) (s_isLibrary_1 hb6) ?_
  refine lv_if_eq (tgt := 29) hx hb dM_act_12 rfl (fun h9 => absurd h9 (by decide)) (fun _ => ?_)
  refine lv_iload_n hx hb dM_act_15 rfl (lv_at hl 1 rfl) ?_
  refine lv_aload_n hx hb dM_act_16 rfl (lv_at hl 0 rfl) ?_
  refine ew_get (v := .ref (X 11 0)) hx hb hts hown hK hV fM_25 hi0 (cR_0 _ _ _) rfl dM_act_17 ?_
  refine lv_iload_n hx hb dM_act_20 rfl (lv_at hl 2 rfl) ?_
  refine ew_iald (v := A 11 0 ln) hx hb hK hV (hE 11 (by decide)) (cR_11 _ _ _) 0 rfl (vp_in_nI (by omega) (by decide)) (er_ix (by omega) rfl) dM_act_21 ?_
  refine lv_toe (y := nI rq) q11 ?_
  refine lv_icmp_ne (tgt := 29) hx hb dM_act_22 rfl (fun _ => ?_) (fun h9 => absurd h9 (fun z9 => hbr ((nI_eq (a := b) (b := rq) (by omega) (by omega)).mp z9)))
  refine lv_iconst (v := 0) hx hb dM_act_29 (by decide) ?_
  refine lv_istore (lv' := [(5, .int 0), (0, .ref (X 0 0)), (1, .int (nI b)), (2, .int (nI ln)), (3, .int 7), (4, .int (nI cc))]) hx hb dM_act_30 hl (by decide) rfl (fun ls hl => ?_)
  refine lv_aload_n hx hb dM_act_32 rfl (lv_at hl 1 rfl) ?_
  refine lv_iload_n hx hb dM_act_33 rfl (lv_at hl 3 rfl) ?_
  refine er_calli (va_runV (As := [.int (nI ln)]) (rest := []) ⟨hx, hb, hml, hown, hts⟩ (r_isLoan l D T X L tg _ hE A (nI ln)) (cwV 1 hts gM_172 rfl rfl rfl (by decide +kernel) ⟨Nat.le_of_ble_eq_true rfl, Nat.le_of_ble_eq_true rfl⟩) (er_preV hK hV hi0 (cR_0 _ _ _) rfl) rfl rfl hl.1 rfl (lv_room (Nat.le_of_ble_eq_true rfl)) dM_act_34 ⟨Nat.le_of_ble_eq_true rfl, Nat.le_of_ble_eq_true rfl⟩) hV hS hA (fun r u H locs hp hV hS => ?_)
  obtain ⟨rfl, eu9⟩ := hp
  rw [eu9] at hV
  refine lv_toe (y := 1) (s_isLoan_1 q2 hnl hn2) ?_
  refine lv_if_eq (tgt := 65) hx hb dM_act_37 rfl (fun h9 => absurd h9 (by decide)) (fun _ => ?_)
  refine lv_iload_n hx hb dM_act_40 rfl (lv_at hl 2 rfl) ?_
  refine er_calli (va_runS (As := [.int (nI b)]) (rest := []) ⟨hx, hb, hml, hown, hts⟩ (r_isLibrary l D T X L tg _ hE A (nI b)) (cwS 1 hts gM_142 rfl rfl rfl (by decide +kernel) ⟨Nat.le_of_ble_eq_true rfl, Nat.le_of_ble_eq_true rfl⟩) (er_preS hK hV) rfl rfl hl.1 rfl (lv_room (Nat.le_of_ble_eq_true rfl)) dM_act_41 ⟨Nat.le_of_ble_eq_true rfl, Nat.le_of_ble_eq_true rfl⟩) hV hS hA (fun r u H locs hp hV hS => ?_)
  obtain ⟨rfl, eu9⟩ := hp
  rw [eu9] at hV
  refine lv_toe (y := 1) (s_isLibrary_1 hb6) ?_
  refine lv_if_eq (tgt := 65) hx hb dM_act_44 rfl (fun h9 => absurd h9 (by decide)) (fun _ => ?_)
  refine lv_aload_n hx hb dM_act_47 rfl (lv_at hl 1 rfl) ?_
  refine ew_get (v := .ref (X 22 0)) hx hb hts hown hK hV fM_58 hi0 (cR_0 _ _ _) rfl dM_act_48 ?_
  refine lv_bipush (v := 6) hx hb dM_act_51 (by decide) ?_
  refine lv_iload_n hx hb dM_act_53 rfl (lv_at hl 3 rfl) ?_
  refine lv_imul hx hb dM_act_54 ?_
  refine lv_toe (y := nI (6 * ln)) (pk_mul 6 ln) ?_
  refine lv_iload_n hx hb dM_act_55 rfl (lv_at hl 2 rfl) ?_
  refine lv_iadd hx hb dM_act_56 ?_
  refine lv_toe (y := nI ((6 * ln) + b)) (nI_add (6 * ln) b) ?_
  refine ew_zald (v := A 22 0 ((6 * ln) + b)) hx hb hK hV (hE 22 (by decide)) (cR_22 _ _ _) 1 rfl (vp_in_nI (by omega) (by decide)) (er_ix (by omega) rfl) dM_act_57 ?_
  refine lv_if_eq (tgt := 65) hx hb dM_act_58 rfl (fun h1 => ?_) (fun h1 => ?_)
  · refine lv_iconst (v := 0) hx hb dM_act_65 (by decide) ?_
    refine lv_istore (lv' := [(6, .int 0), (5, .int 0), (0, .ref (X 0 0)), (1, .int (nI b)), (2, .int (nI ln)), (3, .int 7), (4, .int (nI cc))]) hx hb dM_act_66 hl (by decide) rfl (fun ls hl => ?_)
    refine lv_iload_n hx hb dM_act_68 rfl (lv_at hl 5 rfl) ?_
    refine lv_if_lt (tgt := 83) hx hb dM_act_69 rfl (fun h9 => absurd h9 (by decide)) (fun _ => ?_)
    refine lv_iload_n hx hb dM_act_72 rfl (lv_at hl 5 rfl) ?_
    refine lv_bipush (v := 7) hx hb dM_act_73 (by decide) ?_
    refine lv_icmp_ge (tgt := 83) hx hb dM_act_75 rfl (fun _ => ?_) (fun h9 => absurd (by decide) h9)
    refine lv_iload_n hx hb dM_act_83 rfl (lv_at hl 5 rfl) ?_
    refine lv_bipush (v := 6) hx hb dM_act_84 (by decide) ?_
    refine lv_icmp_le (tgt := 104) hx hb dM_act_86 rfl (fun h9 => absurd h9 (by decide)) (fun _ => ?_)
    refine lv_iload_n hx hb dM_act_89 rfl (lv_at hl 5 rfl) ?_
    refine lv_bipush (v := 15) hx hb dM_act_90 (by decide) ?_
    refine lv_icmp_ge (tgt := 104) hx hb dM_act_92 rfl (fun h9 => absurd h9 (by decide)) (fun _ => ?_)
    refine lv_iload hx hb dM_act_95 (lv_at hl 0 rfl) ?_
    refine lv_if_eq (tgt := 104) hx hb dM_act_97 rfl (fun _ => ?_) (fun h9 => absurd (by decide) h9)
    refine lv_iconst (v := 0) hx hb dM_act_104 (by decide) ?_
    refine lv_istore (lv' := [(7, .int 0), (6, .int 0), (5, .int 0), (0, .ref (X 0 0)), (1, .int (nI b)), (2, .int (nI ln)), (3, .int 7), (4, .int (nI cc))]) hx hb dM_act_105 hl (by decide) rfl (fun ls hl => ?_)
    refine lv_aload_n hx hb dM_act_107 rfl (lv_at hl 3 rfl) ?_
    refine lv_iload hx hb dM_act_108 (lv_at hl 0 rfl) ?_
    refine lv_if_ne (tgt := 117) hx hb dM_act_110 rfl (fun h9 => absurd (by decide) h9) (fun _ => ?_)
    refine lv_iconst (v := 1) hx hb dM_act_113 (by decide) ?_
    refine lv_goto (tgt := 118) hx hb dM_act_114 rfl ?_
    refine lv_iload hx hb dM_act_118 (lv_at hl 0 rfl) ?_
    refine lv_if_eq (tgt := 156) hx hb dM_act_120 rfl (fun _ => ?_) (fun h9 => absurd (by decide) h9)
    refine lv_iconst (v := 0) hx hb dM_act_156 (by decide) ?_
    refine er_calli (va_runV (As := [.int 1, .int 0]) (rest := []) ⟨hx, hb, hml, hown, hts⟩ (r_refuses_a l D T X L tg _ hE A 0) (cwV 2 hts gM_152 rfl rfl rfl (by decide +kernel) ⟨Nat.le_of_ble_eq_true rfl, Nat.le_of_ble_eq_true rfl⟩) (er_preV hK hV hi0 (cR_0 _ _ _) rfl) rfl rfl hl.1 rfl (lv_room (Nat.le_of_ble_eq_true rfl)) dM_act_157 ⟨Nat.le_of_ble_eq_true rfl, Nat.le_of_ble_eq_true rfl⟩) hV hS hA (fun r u H locs hp hV hS => ?_)
    obtain ⟨rfl, rfl⟩ := hp
    refine lv_if_eq (tgt := 165) hx hb dM_act_160 rfl (fun h9 => absurd h9 (by decide)) (fun _ => ?_)
    refine lv_iconst (v := 0) hx hb dM_act_163 (by decide) ?_
    exact er_iret hx hb hr hlocks hV hS dM_act_164 ⟨Eq.symm (by unfold s_act_7; simp only [if_pos h1]), Eq.symm (by unfold s_act_7; simp only [if_pos h1])⟩
  · refine lv_iconst (v := 1) hx hb dM_act_61 (by decide) ?_
    refine lv_goto (tgt := 66) hx hb dM_act_62 rfl ?_
    refine lv_istore (lv' := [(6, .int 1), (5, .int 0), (0, .ref (X 0 0)), (1, .int (nI b)), (2, .int (nI ln)), (3, .int 7), (4, .int (nI cc))]) hx hb dM_act_66 hl (by decide) rfl (fun ls hl => ?_)
    refine lv_iload_n hx hb dM_act_68 rfl (lv_at hl 5 rfl) ?_
    refine lv_if_lt (tgt := 83) hx hb dM_act_69 rfl (fun h9 => absurd h9 (by decide)) (fun _ => ?_)
    refine lv_iload_n hx hb dM_act_72 rfl (lv_at hl 5 rfl) ?_
    refine lv_bipush (v := 7) hx hb dM_act_73 (by decide) ?_
    refine lv_icmp_ge (tgt := 83) hx hb dM_act_75 rfl (fun _ => ?_) (fun h9 => absurd (by decide) h9)
    refine lv_iload_n hx hb dM_act_83 rfl (lv_at hl 5 rfl) ?_
    refine lv_bipush (v := 6) hx hb dM_act_84 (by decide) ?_
    refine lv_icmp_le (tgt := 104) hx hb dM_act_86 rfl (fun h9 => absurd h9 (by decide)) (fun _ => ?_)
    refine lv_iload_n hx hb dM_act_89 rfl (lv_at hl 5 rfl) ?_
    refine lv_bipush (v := 15) hx hb dM_act_90 (by decide) ?_
    refine lv_icmp_ge (tgt := 104) hx hb dM_act_92 rfl (fun h9 => absurd h9 (by decide)) (fun _ => ?_)
    refine lv_iload hx hb dM_act_95 (lv_at hl 0 rfl) ?_
    refine lv_if_eq (tgt := 104) hx hb dM_act_97 rfl (fun h9 => absurd h9 (by decide)) (fun _ => ?_)
    refine lv_iconst (v := 1) hx hb dM_act_100 (by decide) ?_
    refine lv_goto (tgt := 105) hx hb dM_act_101 rfl ?_
    refine lv_istore (lv' := [(7, .int 1), (6, .int 1), (5, .int 0), (0, .ref (X 0 0)), (1, .int (nI b)), (2, .int (nI ln)), (3, .int 7), (4, .int (nI cc))]) hx hb dM_act_105 hl (by decide) rfl (fun ls hl => ?_)
    refine lv_aload_n hx hb dM_act_107 rfl (lv_at hl 3 rfl) ?_
    refine lv_iload hx hb dM_act_108 (lv_at hl 0 rfl) ?_
    refine lv_if_ne (tgt := 117) hx hb dM_act_110 rfl (fun _ => ?_) (fun h9 => absurd h9 (by decide))
    refine lv_iconst (v := 0) hx hb dM_act_117 (by decide) ?_
    refine lv_iload hx hb dM_act_118 (lv_at hl 0 rfl) ?_
    refine lv_if_eq (tgt := 156) hx hb dM_act_120 rfl (fun h9 => absurd h9 (by decide)) (fun _ => ?_)
    refine lv_iload hx hb dM_act_123 (lv_at hl 2 rfl) ?_
    refine lv_if_eq (tgt := 140) hx hb dM_act_125 rfl (fun _ => ?_) (fun h9 => absurd (by decide) h9)
    refine lv_aload_n hx hb dM_act_140 rfl (lv_at hl 3 rfl) ?_
    refine lv_iload_n hx hb dM_act_141 rfl (lv_at hl 5 rfl) ?_
    refine lv_iload_n hx hb dM_act_142 rfl (lv_at hl 4 rfl) ?_
    refine lv_iload_n hx hb dM_act_143 rfl (lv_at hl 6 rfl) ?_
    refine lv_iload hx hb dM_act_144 (lv_at hl 7 rfl) ?_
    refine er_calli (va_runV (As := [.int (nI ln), .int (nI b), .int 7, .int (nI cc)]) (rest := [.int 0, .ref (X 0 0)]) ⟨hx, hb, hml, hown, hts⟩ (r_maySupplier_7 l D T X L tg _ hE A ln b (nI cc) nc (by omega) hb6 hnc q3) (cwV 4 hts gM_179 rfl rfl rfl (by decide +kernel) ⟨Nat.le_of_ble_eq_true rfl, Nat.le_of_ble_eq_true rfl⟩) (er_preV hK hV hi0 (cR_0 _ _ _) rfl) rfl rfl hl.1 rfl (lv_room (Nat.le_of_ble_eq_true rfl)) dM_act_146 ⟨Nat.le_of_ble_eq_true rfl, Nat.le_of_ble_eq_true rfl⟩) hV hS hA (fun r u H locs hp hV hS => ?_)
    obtain ⟨rfl, eu9⟩ := hp
    rw [eu9] at hV
    refine lv_if_ne (tgt := 156) hx hb dM_act_149 rfl (fun h2 => ?_) (fun h2 => ?_)
    · refine lv_iconst (v := 0) hx hb dM_act_156 (by decide) ?_
      refine er_calli (va_runV (As := [.int 0, .int 0]) (rest := []) ⟨hx, hb, hml, hown, hts⟩ (r_refuses_c l D T X L tg _ hE A) (cwV 2 hts gM_152 rfl rfl rfl (by decide +kernel) ⟨Nat.le_of_ble_eq_true rfl, Nat.le_of_ble_eq_true rfl⟩) (er_preV hK hV hi0 (cR_0 _ _ _) rfl) rfl rfl hl.1 rfl (lv_room (Nat.le_of_ble_eq_true rfl)) dM_act_157 ⟨Nat.le_of_ble_eq_true rfl, Nat.le_of_ble_eq_true rfl⟩) hV hS hA (fun r u H locs hp hV hS => ?_)
      obtain ⟨rfl, rfl⟩ := hp
      refine lv_if_eq (tgt := 165) hx hb dM_act_160 rfl (fun _ => ?_) (fun h9 => absurd (by decide) h9)
      refine lv_iload hx hb dM_act_165 (lv_at hl 2 rfl) ?_
      refine lv_if_eq (tgt := 179) hx hb dM_act_167 rfl (fun _ => ?_) (fun h9 => absurd (by decide) h9)
      refine lv_aload_n hx hb dM_act_179 rfl (lv_at hl 3 rfl) ?_
      refine lv_iload_n hx hb dM_act_180 rfl (lv_at hl 5 rfl) ?_
      refine lv_iload_n hx hb dM_act_181 rfl (lv_at hl 4 rfl) ?_
      refine lv_iload_n hx hb dM_act_182 rfl (lv_at hl 6 rfl) ?_
      refine lv_iload hx hb dM_act_183 (lv_at hl 7 rfl) ?_
      refine er_callv (va_runV (As := [.int (nI ln), .int (nI b), .int 7, .int (nI cc)]) (rest := []) ⟨hx, hb, hml, hown, hts⟩ (r_stepSupplier_7 l D T X L tg _ hE (up3 A 0 0 0 0) ln b cc w lg (by omega) hb6 (by omega) hw hq hlg hg) (cwV 4 hts gM_186 rfl rfl rfl (by decide +kernel) ⟨Nat.le_of_ble_eq_true rfl, Nat.le_of_ble_eq_true rfl⟩) (er_preV hK hV hi0 (cR_0 _ _ _) rfl) rfl rfl hl.1 rfl (lv_room (Nat.le_of_ble_eq_true rfl)) dM_act_185 ⟨Nat.le_of_ble_eq_true rfl, Nat.le_of_ble_eq_true rfl⟩) hV hS hA (fun u3 H locs eu3 hV hS => ?_)
      have eu3 : u3 = s_stepSupplier_7 (up3 A 0 0 0 0) ln b cc w lg := eu3
      refine lv_iload hx hb dM_act_188 (lv_at hl 2 rfl) ?_
      refine lv_if_eq (tgt := 202) hx hb dM_act_190 rfl (fun _ => ?_) (fun h9 => absurd (by decide) h9)
      refine lv_aload_n hx hb dM_act_202 rfl (lv_at hl 3 rfl) ?_
      refine ew_get (v := .ref (X 23 0)) hx hb hts hown hK hV fM_62 hi0 (cR_0 _ _ _) rfl dM_act_203 ?_
      refine lv_bipush (v := 6) hx hb dM_act_206 (by decide) ?_
      refine lv_iload_n hx hb dM_act_208 rfl (lv_at hl 5 rfl) ?_
      refine lv_imul hx hb dM_act_209 ?_
      refine lv_toe (y := nI (6 * ln)) (pk_mul 6 ln) ?_
      refine lv_iload_n hx hb dM_act_210 rfl (lv_at hl 4 rfl) ?_
      refine lv_iadd hx hb dM_act_211 ?_
      refine lv_toe (y := nI ((6 * ln) + b)) (nI_add (6 * ln) b) ?_
      refine ew_iald (v := u3 23 0 ((6 * ln) + b)) hx hb hK hV (hE 23 (by decide)) (cR_23 _ _ _) 0 rfl (vp_in_nI (by omega) (by decide)) (er_ix (by omega) rfl) dM_act_212 ?_
      subst eu3
      exact er_iret hx hb hr hlocks hV hS dM_act_213 ⟨Eq.symm (by unfold s_act_7; simp only [if_neg h1, if_neg h2]), Eq.symm (by unfold s_act_7; simp only [if_neg h1, if_neg h2])⟩
    · refine lv_iconst (v := 1) hx hb dM_act_152 (by decide) ?_
      refine lv_goto (tgt := 157) hx hb dM_act_153 rfl ?_
      refine er_calli (va_runV (As := [.int 0, .int 1]) (rest := []) ⟨hx, hb, hml, hown, hts⟩ (r_refuses_b l D T X L tg _ hE A) (cwV 2 hts gM_152 rfl rfl rfl (by decide +kernel) ⟨Nat.le_of_ble_eq_true rfl, Nat.le_of_ble_eq_true rfl⟩) (er_preV hK hV hi0 (cR_0 _ _ _) rfl) rfl rfl hl.1 rfl (lv_room (Nat.le_of_ble_eq_true rfl)) dM_act_157 ⟨Nat.le_of_ble_eq_true rfl, Nat.le_of_ble_eq_true rfl⟩) hV hS hA (fun r u H locs hp hV hS => ?_)
      obtain ⟨rfl, rfl⟩ := hp
      refine lv_if_eq (tgt := 165) hx hb dM_act_160 rfl (fun h9 => absurd h9 (by decide)) (fun _ => ?_)
      refine lv_iconst (v := 0) hx hb dM_act_163 (by decide) ?_
      exact er_iret hx hb hr hlocks hV hS dM_act_164 ⟨Eq.symm (by unfold s_act_7; simp only [if_neg h1, if_pos h2]), Eq.symm (by unfold s_act_7; simp only [if_neg h1, if_pos h2])⟩

def s_act_8 (A : ew_R) (b : Nat) (ln : Nat) (cc : Int32) (nl : Nat) (rq : Nat) (w : Nat) (lg : Nat) : Int32 × ew_R :=
  if A 22 0 ((6 * ln) + b) = 0 then
    (0, up3 A 0 0 0 1)
  else
    if s_maySupplier_8 A ln b cc = 0 then
      (0, up3 A 0 0 0 2)
    else
      ((s_stepSupplier_8 (up3 A 0 0 0 0) ln b cc w lg) 23 0 ((6 * ln) + b), (s_stepSupplier_8 (up3 A 0 0 0 0) ln b cc w lg))
set_option maxHeartbeats 4000000 in
set_option maxRecDepth 100000 in
theorem r_act_8 (l : Launch) (D : va_G) (T : Nat → ClassId) (X : Nat → Nat → Nat) (L : List Nat) (tg : Nat → Nat × Nat) (sz : Nat) (hE : eR_E X L tg) (A : ew_R) (b : Nat) (ln : Nat) (cc : Int32) (nl : Nat) (rq : Nat) (w : Nat) (lg : Nat) (hb6 : b < 6) (hnl : ln < nl) (hn2 : nl ≤ 32) (q2 : A 0 0 2 = nI nl) (hrq : rq < 6) (q11 : A 11 0 ln = nI rq) (hbr : ¬ b = rq) (hw : w ≤ 64) (hq : A 0 0 4 = nI w) (hlg : lg < 3000) (hg : A 0 0 5 = nI lg) : Met l yM_act wsM_act ({ frames := 5, cells := 0, slots := 0, locals := 114 }) (er_Pc D vwCl (tysA T) (cfR T) X L tg A sz [.ref (X 0 0), .int (nI b), .int (nI ln), .int 8, .int cc]) (er_Qi D vwCl (cfR T) X L tg sz (fun r u => r = (s_act_8 A b ln cc nl rq w lg).1 ∧ u = (s_act_8 A b ln cc nl rq w lg).2)) 0 0 (ew_A L sz) := by
  refine er_met (by decide) rfl (Nat.le_of_ble_eq_true rfl) ?_
  intro p e s m below meth c ls hx hb hr hts hown hlocks hml hV hK hS hA hl hsz
  subst hsz
  have hi0 := hE 0 (by decide)
  have hl : lv_has ls 8 [(0, .ref (X 0 0)), (1, .int (nI b)), (2, .int (nI ln)), (3, .int 8), (4, .int cc)] := hl
  refine lv_aload_n hx hb dM_act_0 rfl (lv_at hl 0 rfl) ?_
  refine lv_iload_n hx hb dM_act_1 rfl (lv_at hl 2 rfl) ?_
  refine er_calli (va_runV (As := [.int (nI ln)]) (rest := []) ⟨hx, hb, hml, hown, hts⟩ (r_isLoan l D T X L tg _ hE A (nI ln)) (cwV 1 hts gM_172 rfl rfl rfl (by decide +kernel) ⟨Nat.le_of_ble_eq_true rfl, Nat.le_of_ble_eq_true rfl⟩) (er_preV hK hV hi0 (cR_0 _ _ _) rfl) rfl rfl hl.1 rfl (lv_room (Nat.le_of_ble_eq_true rfl)) dM_act_2 ⟨Nat.le_of_ble_eq_true rfl, Nat.le_of_ble_eq_true rfl⟩) hV hS hA (fun r u H locs hp hV hS => ?_)
  obtain ⟨rfl, eu9⟩ := hp
  rw [eu9] at hV
  refine lv_toe (y := 1) (s_isLoan_1 q2 hnl hn2) ?_
  refine lv_if_eq (tgt := 29) hx hb dM_act_5 rfl (fun h9 => absurd h9 (by decide)) (fun _ => ?_)
  refine lv_iload_n hx hb dM_act_8 rfl (lv_at hl 1 rfl) ?_
  refine er_calli (va_runS (As := [.int (nI b)]) (rest := []) ⟨hx, hb, hml, hown, hts⟩ (r_isLibrary l D T X L tg _ hE A (nI b)) (cwS 1 hts gM_142 rfl rfl rfl (by decide +kernel) ⟨Nat.le_of_ble_eq_true rfl, Nat.le_of_ble_eq_true rfl⟩) (er_preS hK hV) rfl rfl hl.1 rfl (lv_room (Nat.le_of_ble_eq_true rfl)) dM_act_9 ⟨Nat.le_of_ble_eq_true rfl, Nat.le_of_ble_eq_true rfl⟩) hV hS hA (fun r u H locs hp hV hS => ?_)
  obtain ⟨rfl, eu9⟩ := hp
  rw [eu9] at hV
  refine lv_toe (y := 1) (s_isLibrary_1 hb6) ?_
  refine lv_if_eq (tgt := 29) hx hb dM_act_12 rfl (fun h9 => absurd h9 (by decide)) (fun _ => ?_)
  refine lv_iload_n hx hb dM_act_15 rfl (lv_at hl 1 rfl) ?_
  refine lv_aload_n hx hb dM_act_16 rfl (lv_at hl 0 rfl) ?_
  refine ew_get (v := .ref (X 11 0)) hx hb hts hown hK hV fM_25 hi0 (cR_0 _ _ _) rfl dM_act_17 ?_
  refine lv_iload_n hx hb dM_act_20 rfl (lv_at hl 2 rfl) ?_
  refine ew_iald (v := A 11 0 ln) hx hb hK hV (hE 11 (by decide)) (cR_11 _ _ _) 0 rfl (vp_in_nI (by omega) (by decide)) (er_ix (by omega) rfl) dM_act_21 ?_
  refine lv_toe (y := nI rq) q11 ?_
  refine lv_icmp_ne (tgt := 29) hx hb dM_act_22 rfl (fun _ => ?_) (fun h9 => absurd h9 (fun z9 => hbr ((nI_eq (a := b) (b := rq) (by omega) (by omega)).mp z9)))
  refine lv_iconst (v := 0) hx hb dM_act_29 (by decide) ?_
  refine lv_istore (lv' := [(5, .int 0), (0, .ref (X 0 0)), (1, .int (nI b)), (2, .int (nI ln)), (3, .int 8), (4, .int cc)]) hx hb dM_act_30 hl (by decide) rfl (fun ls hl => ?_)
  refine lv_aload_n hx hb dM_act_32 rfl (lv_at hl 1 rfl) ?_
  refine lv_iload_n hx hb dM_act_33 rfl (lv_at hl 3 rfl) ?_
  refine er_calli (va_runV (As := [.int (nI ln)]) (rest := []) ⟨hx, hb, hml, hown, hts⟩ (r_isLoan l D T X L tg _ hE A (nI ln)) (cwV 1 hts gM_172 rfl rfl rfl (by decide +kernel) ⟨Nat.le_of_ble_eq_true rfl, Nat.le_of_ble_eq_true rfl⟩) (er_preV hK hV hi0 (cR_0 _ _ _) rfl) rfl rfl hl.1 rfl (lv_room (Nat.le_of_ble_eq_true rfl)) dM_act_34 ⟨Nat.le_of_ble_eq_true rfl, Nat.le_of_ble_eq_true rfl⟩) hV hS hA (fun r u H locs hp hV hS => ?_)
  obtain ⟨rfl, eu9⟩ := hp
  rw [eu9] at hV
  refine lv_toe (y := 1) (s_isLoan_1 q2 hnl hn2) ?_
  refine lv_if_eq (tgt := 65) hx hb dM_act_37 rfl (fun h9 => absurd h9 (by decide)) (fun _ => ?_)
  refine lv_iload_n hx hb dM_act_40 rfl (lv_at hl 2 rfl) ?_
  refine er_calli (va_runS (As := [.int (nI b)]) (rest := []) ⟨hx, hb, hml, hown, hts⟩ (r_isLibrary l D T X L tg _ hE A (nI b)) (cwS 1 hts gM_142 rfl rfl rfl (by decide +kernel) ⟨Nat.le_of_ble_eq_true rfl, Nat.le_of_ble_eq_true rfl⟩) (er_preS hK hV) rfl rfl hl.1 rfl (lv_room (Nat.le_of_ble_eq_true rfl)) dM_act_41 ⟨Nat.le_of_ble_eq_true rfl, Nat.le_of_ble_eq_true rfl⟩) hV hS hA (fun r u H locs hp hV hS => ?_)
  obtain ⟨rfl, eu9⟩ := hp
  rw [eu9] at hV
  refine lv_toe (y := 1) (s_isLibrary_1 hb6) ?_
  refine lv_if_eq (tgt := 65) hx hb dM_act_44 rfl (fun h9 => absurd h9 (by decide)) (fun _ => ?_)
  refine lv_aload_n hx hb dM_act_47 rfl (lv_at hl 1 rfl) ?_
  refine ew_get (v := .ref (X 22 0)) hx hb hts hown hK hV fM_58 hi0 (cR_0 _ _ _) rfl dM_act_48 ?_
  refine lv_bipush (v := 6) hx hb dM_act_51 (by decide) ?_
  refine lv_iload_n hx hb dM_act_53 rfl (lv_at hl 3 rfl) ?_
  refine lv_imul hx hb dM_act_54 ?_
  refine lv_toe (y := nI (6 * ln)) (pk_mul 6 ln) ?_
  refine lv_iload_n hx hb dM_act_55 rfl (lv_at hl 2 rfl) ?_
  refine lv_iadd hx hb dM_act_56 ?_
  refine lv_toe (y := nI ((6 * ln) + b)) (nI_add (6 * ln) b) ?_
  refine ew_zald (v := A 22 0 ((6 * ln) + b)) hx hb hK hV (hE 22 (by decide)) (cR_22 _ _ _) 1 rfl (vp_in_nI (by omega) (by decide)) (er_ix (by omega) rfl) dM_act_57 ?_
  refine lv_if_eq (tgt := 65) hx hb dM_act_58 rfl (fun h1 => ?_) (fun h1 => ?_)
  · refine lv_iconst (v := 0) hx hb dM_act_65 (by decide) ?_
    refine lv_istore (lv' := [(6, .int 0), (5, .int 0), (0, .ref (X 0 0)), (1, .int (nI b)), (2, .int (nI ln)), (3, .int 8), (4, .int cc)]) hx hb dM_act_66 hl (by decide) rfl (fun ls hl => ?_)
    refine lv_iload_n hx hb dM_act_68 rfl (lv_at hl 5 rfl) ?_
    refine lv_if_lt (tgt := 83) hx hb dM_act_69 rfl (fun h9 => absurd h9 (by decide)) (fun _ => ?_)
    refine lv_iload_n hx hb dM_act_72 rfl (lv_at hl 5 rfl) ?_
    refine lv_bipush (v := 7) hx hb dM_act_73 (by decide) ?_
    refine lv_icmp_ge (tgt := 83) hx hb dM_act_75 rfl (fun _ => ?_) (fun h9 => absurd (by decide) h9)
    refine lv_iload_n hx hb dM_act_83 rfl (lv_at hl 5 rfl) ?_
    refine lv_bipush (v := 6) hx hb dM_act_84 (by decide) ?_
    refine lv_icmp_le (tgt := 104) hx hb dM_act_86 rfl (fun h9 => absurd h9 (by decide)) (fun _ => ?_)
    refine lv_iload_n hx hb dM_act_89 rfl (lv_at hl 5 rfl) ?_
    refine lv_bipush (v := 15) hx hb dM_act_90 (by decide) ?_
    refine lv_icmp_ge (tgt := 104) hx hb dM_act_92 rfl (fun h9 => absurd h9 (by decide)) (fun _ => ?_)
    refine lv_iload hx hb dM_act_95 (lv_at hl 0 rfl) ?_
    refine lv_if_eq (tgt := 104) hx hb dM_act_97 rfl (fun _ => ?_) (fun h9 => absurd (by decide) h9)
    refine lv_iconst (v := 0) hx hb dM_act_104 (by decide) ?_
    refine lv_istore (lv' := [(7, .int 0), (6, .int 0), (5, .int 0), (0, .ref (X 0 0)), (1, .int (nI b)), (2, .int (nI ln)), (3, .int 8), (4, .int cc)]) hx hb dM_act_105 hl (by decide) rfl (fun ls hl => ?_)
    refine lv_aload_n hx hb dM_act_107 rfl (lv_at hl 3 rfl) ?_
    refine lv_iload hx hb dM_act_108 (lv_at hl 0 rfl) ?_
    refine lv_if_ne (tgt := 117) hx hb dM_act_110 rfl (fun h9 => absurd (by decide) h9) (fun _ => ?_)
    refine lv_iconst (v := 1) hx hb dM_act_113 (by decide) ?_
    refine lv_goto (tgt := 118) hx hb dM_act_114 rfl ?_
    refine lv_iload hx hb dM_act_118 (lv_at hl 0 rfl) ?_
    refine lv_if_eq (tgt := 156) hx hb dM_act_120 rfl (fun _ => ?_) (fun h9 => absurd (by decide) h9)
    refine lv_iconst (v := 0) hx hb dM_act_156 (by decide) ?_
    refine er_calli (va_runV (As := [.int 1, .int 0]) (rest := []) ⟨hx, hb, hml, hown, hts⟩ (r_refuses_a l D T X L tg _ hE A 0) (cwV 2 hts gM_152 rfl rfl rfl (by decide +kernel) ⟨Nat.le_of_ble_eq_true rfl, Nat.le_of_ble_eq_true rfl⟩) (er_preV hK hV hi0 (cR_0 _ _ _) rfl) rfl rfl hl.1 rfl (lv_room (Nat.le_of_ble_eq_true rfl)) dM_act_157 ⟨Nat.le_of_ble_eq_true rfl, Nat.le_of_ble_eq_true rfl⟩) hV hS hA (fun r u H locs hp hV hS => ?_)
    obtain ⟨rfl, rfl⟩ := hp
    refine lv_if_eq (tgt := 165) hx hb dM_act_160 rfl (fun h9 => absurd h9 (by decide)) (fun _ => ?_)
    refine lv_iconst (v := 0) hx hb dM_act_163 (by decide) ?_
    exact er_iret hx hb hr hlocks hV hS dM_act_164 ⟨Eq.symm (by unfold s_act_8; simp only [if_pos h1]), Eq.symm (by unfold s_act_8; simp only [if_pos h1])⟩
  · refine lv_iconst (v := 1) hx hb dM_act_61 (by decide) ?_
    refine lv_goto (tgt := 66) hx hb dM_act_62 rfl ?_
    refine lv_istore (lv' := [(6, .int 1), (5, .int 0), (0, .ref (X 0 0)), (1, .int (nI b)), (2, .int (nI ln)), (3, .int 8), (4, .int cc)]) hx hb dM_act_66 hl (by decide) rfl (fun ls hl => ?_)
    refine lv_iload_n hx hb dM_act_68 rfl (lv_at hl 5 rfl) ?_
    refine lv_if_lt (tgt := 83) hx hb dM_act_69 rfl (fun h9 => absurd h9 (by decide)) (fun _ => ?_)
    refine lv_iload_n hx hb dM_act_72 rfl (lv_at hl 5 rfl) ?_
    refine lv_bipush (v := 7) hx hb dM_act_73 (by decide) ?_
    refine lv_icmp_ge (tgt := 83) hx hb dM_act_75 rfl (fun _ => ?_) (fun h9 => absurd (by decide) h9)
    refine lv_iload_n hx hb dM_act_83 rfl (lv_at hl 5 rfl) ?_
    refine lv_bipush (v := 6) hx hb dM_act_84 (by decide) ?_
    refine lv_icmp_le (tgt := 104) hx hb dM_act_86 rfl (fun h9 => absurd h9 (by decide)) (fun _ => ?_)
    refine lv_iload_n hx hb dM_act_89 rfl (lv_at hl 5 rfl) ?_
    refine lv_bipush (v := 15) hx hb dM_act_90 (by decide) ?_
    refine lv_icmp_ge (tgt := 104) hx hb dM_act_92 rfl (fun h9 => absurd h9 (by decide)) (fun _ => ?_)
    refine lv_iload hx hb dM_act_95 (lv_at hl 0 rfl) ?_
    refine lv_if_eq (tgt := 104) hx hb dM_act_97 rfl (fun h9 => absurd h9 (by decide)) (fun _ => ?_)
    refine lv_iconst (v := 1) hx hb dM_act_100 (by decide) ?_
    refine lv_goto (tgt := 105) hx hb dM_act_101 rfl ?_
    refine lv_istore (lv' := [(7, .int 1), (6, .int 1), (5, .int 0), (0, .ref (X 0 0)), (1, .int (nI b)), (2, .int (nI ln)), (3, .int 8), (4, .int cc)]) hx hb dM_act_105 hl (by decide) rfl (fun ls hl => ?_)
    refine lv_aload_n hx hb dM_act_107 rfl (lv_at hl 3 rfl) ?_
    refine lv_iload hx hb dM_act_108 (lv_at hl 0 rfl) ?_
    refine lv_if_ne (tgt := 117) hx hb dM_act_110 rfl (fun _ => ?_) (fun h9 => absurd h9 (by decide))
    refine lv_iconst (v := 0) hx hb dM_act_117 (by decide) ?_
    refine lv_iload hx hb dM_act_118 (lv_at hl 0 rfl) ?_
    refine lv_if_eq (tgt := 156) hx hb dM_act_120 rfl (fun h9 => absurd h9 (by decide)) (fun _ => ?_)
    refine lv_iload hx hb dM_act_123 (lv_at hl 2 rfl) ?_
    refine lv_if_eq (tgt := 140) hx hb dM_act_125 rfl (fun _ => ?_) (fun h9 => absurd (by decide) h9)
    refine lv_aload_n hx hb dM_act_140 rfl (lv_at hl 3 rfl) ?_
    refine lv_iload_n hx hb dM_act_141 rfl (lv_at hl 5 rfl) ?_
    refine lv_iload_n hx hb dM_act_142 rfl (lv_at hl 4 rfl) ?_
    refine lv_iload_n hx hb dM_act_143 rfl (lv_at hl 6 rfl) ?_
    refine lv_iload hx hb dM_act_144 (lv_at hl 7 rfl) ?_
    refine er_calli (va_runV (As := [.int (nI ln), .int (nI b), .int 8, .int cc]) (rest := [.int 0, .ref (X 0 0)]) ⟨hx, hb, hml, hown, hts⟩ (r_maySupplier_8 l D T X L tg _ hE A ln b cc (by omega) hb6) (cwV 4 hts gM_179 rfl rfl rfl (by decide +kernel) ⟨Nat.le_of_ble_eq_true rfl, Nat.le_of_ble_eq_true rfl⟩) (er_preV hK hV hi0 (cR_0 _ _ _) rfl) rfl rfl hl.1 rfl (lv_room (Nat.le_of_ble_eq_true rfl)) dM_act_146 ⟨Nat.le_of_ble_eq_true rfl, Nat.le_of_ble_eq_true rfl⟩) hV hS hA (fun r u H locs hp hV hS => ?_)
    obtain ⟨rfl, eu9⟩ := hp
    rw [eu9] at hV
    refine lv_if_ne (tgt := 156) hx hb dM_act_149 rfl (fun h2 => ?_) (fun h2 => ?_)
    · refine lv_iconst (v := 0) hx hb dM_act_156 (by decide) ?_
      refine er_calli (va_runV (As := [.int 0, .int 0]) (rest := []) ⟨hx, hb, hml, hown, hts⟩ (r_refuses_c l D T X L tg _ hE A) (cwV 2 hts gM_152 rfl rfl rfl (by decide +kernel) ⟨Nat.le_of_ble_eq_true rfl, Nat.le_of_ble_eq_true rfl⟩) (er_preV hK hV hi0 (cR_0 _ _ _) rfl) rfl rfl hl.1 rfl (lv_room (Nat.le_of_ble_eq_true rfl)) dM_act_157 ⟨Nat.le_of_ble_eq_true rfl, Nat.le_of_ble_eq_true rfl⟩) hV hS hA (fun r u H locs hp hV hS => ?_)
      obtain ⟨rfl, rfl⟩ := hp
      refine lv_if_eq (tgt := 165) hx hb dM_act_160 rfl (fun _ => ?_) (fun h9 => absurd (by decide) h9)
      refine lv_iload hx hb dM_act_165 (lv_at hl 2 rfl) ?_
      refine lv_if_eq (tgt := 179) hx hb dM_act_167 rfl (fun _ => ?_) (fun h9 => absurd (by decide) h9)
      refine lv_aload_n hx hb dM_act_179 rfl (lv_at hl 3 rfl) ?_
      refine lv_iload_n hx hb dM_act_180 rfl (lv_at hl 5 rfl) ?_
      refine lv_iload_n hx hb dM_act_181 rfl (lv_at hl 4 rfl) ?_
      refine lv_iload_n hx hb dM_act_182 rfl (lv_at hl 6 rfl) ?_
      refine lv_iload hx hb dM_act_183 (lv_at hl 7 rfl) ?_
      refine er_callv (va_runV (As := [.int (nI ln), .int (nI b), .int 8, .int cc]) (rest := []) ⟨hx, hb, hml, hown, hts⟩ (r_stepSupplier_8 l D T X L tg _ hE (up3 A 0 0 0 0) ln b cc w lg (by omega) hb6 hw hq hlg hg) (cwV 4 hts gM_186 rfl rfl rfl (by decide +kernel) ⟨Nat.le_of_ble_eq_true rfl, Nat.le_of_ble_eq_true rfl⟩) (er_preV hK hV hi0 (cR_0 _ _ _) rfl) rfl rfl hl.1 rfl (lv_room (Nat.le_of_ble_eq_true rfl)) dM_act_185 ⟨Nat.le_of_ble_eq_true rfl, Nat.le_of_ble_eq_true rfl⟩) hV hS hA (fun u3 H locs eu3 hV hS => ?_)
      have eu3 : u3 = s_stepSupplier_8 (up3 A 0 0 0 0) ln b cc w lg := eu3
      refine lv_iload hx hb dM_act_188 (lv_at hl 2 rfl) ?_
      refine lv_if_eq (tgt := 202) hx hb dM_act_190 rfl (fun _ => ?_) (fun h9 => absurd (by decide) h9)
      refine lv_aload_n hx hb dM_act_202 rfl (lv_at hl 3 rfl) ?_
      refine ew_get (v := .ref (X 23 0)) hx hb hts hown hK hV fM_62 hi0 (cR_0 _ _ _) rfl dM_act_203 ?_
      refine lv_bipush (v := 6) hx hb dM_act_206 (by decide) ?_
      refine lv_iload_n hx hb dM_act_208 rfl (lv_at hl 5 rfl) ?_
      refine lv_imul hx hb dM_act_209 ?_
      refine lv_toe (y := nI (6 * ln)) (pk_mul 6 ln) ?_
      refine lv_iload_n hx hb dM_act_210 rfl (lv_at hl 4 rfl) ?_
      refine lv_iadd hx hb dM_act_211 ?_
      refine lv_toe (y := nI ((6 * ln) + b)) (nI_add (6 * ln) b) ?_
      refine ew_iald (v := u3 23 0 ((6 * ln) + b)) hx hb hK hV (hE 23 (by decide)) (cR_23 _ _ _) 0 rfl (vp_in_nI (by omega) (by decide)) (er_ix (by omega) rfl) dM_act_212 ?_
      subst eu3
      exact er_iret hx hb hr hlocks hV hS dM_act_213 ⟨Eq.symm (by unfold s_act_8; simp only [if_neg h1, if_neg h2]), Eq.symm (by unfold s_act_8; simp only [if_neg h1, if_neg h2])⟩
    · refine lv_iconst (v := 1) hx hb dM_act_152 (by decide) ?_
      refine lv_goto (tgt := 157) hx hb dM_act_153 rfl ?_
      refine er_calli (va_runV (As := [.int 0, .int 1]) (rest := []) ⟨hx, hb, hml, hown, hts⟩ (r_refuses_b l D T X L tg _ hE A) (cwV 2 hts gM_152 rfl rfl rfl (by decide +kernel) ⟨Nat.le_of_ble_eq_true rfl, Nat.le_of_ble_eq_true rfl⟩) (er_preV hK hV hi0 (cR_0 _ _ _) rfl) rfl rfl hl.1 rfl (lv_room (Nat.le_of_ble_eq_true rfl)) dM_act_157 ⟨Nat.le_of_ble_eq_true rfl, Nat.le_of_ble_eq_true rfl⟩) hV hS hA (fun r u H locs hp hV hS => ?_)
      obtain ⟨rfl, rfl⟩ := hp
      refine lv_if_eq (tgt := 165) hx hb dM_act_160 rfl (fun h9 => absurd h9 (by decide)) (fun _ => ?_)
      refine lv_iconst (v := 0) hx hb dM_act_163 (by decide) ?_
      exact er_iret hx hb hr hlocks hV hS dM_act_164 ⟨Eq.symm (by unfold s_act_8; simp only [if_neg h1, if_pos h2]), Eq.symm (by unfold s_act_8; simp only [if_neg h1, if_pos h2])⟩

def s_act_9 (A : ew_R) (b : Nat) (ln : Nat) (cc : Int32) (nl : Nat) (rq : Nat) (w : Nat) (lg : Nat) : Int32 × ew_R :=
  if A 22 0 ((6 * ln) + b) = 0 then
    (0, up3 A 0 0 0 1)
  else
    if s_maySupplier_9 A ln b cc = 0 then
      (0, up3 A 0 0 0 2)
    else
      ((s_stepSupplier_9 (up3 A 0 0 0 0) ln b cc w lg) 23 0 ((6 * ln) + b), (s_stepSupplier_9 (up3 A 0 0 0 0) ln b cc w lg))
set_option maxHeartbeats 4000000 in
set_option maxRecDepth 100000 in
theorem r_act_9 (l : Launch) (D : va_G) (T : Nat → ClassId) (X : Nat → Nat → Nat) (L : List Nat) (tg : Nat → Nat × Nat) (sz : Nat) (hE : eR_E X L tg) (A : ew_R) (b : Nat) (ln : Nat) (cc : Int32) (nl : Nat) (rq : Nat) (w : Nat) (lg : Nat) (hb6 : b < 6) (hnl : ln < nl) (hn2 : nl ≤ 32) (q2 : A 0 0 2 = nI nl) (hrq : rq < 6) (q11 : A 11 0 ln = nI rq) (hbr : ¬ b = rq) (hw : w ≤ 64) (hq : A 0 0 4 = nI w) (hlg : lg < 3000) (hg : A 0 0 5 = nI lg) : Met l yM_act wsM_act ({ frames := 5, cells := 0, slots := 0, locals := 114 }) (er_Pc D vwCl (tysA T) (cfR T) X L tg A sz [.ref (X 0 0), .int (nI b), .int (nI ln), .int 9, .int cc]) (er_Qi D vwCl (cfR T) X L tg sz (fun r u => r = (s_act_9 A b ln cc nl rq w lg).1 ∧ u = (s_act_9 A b ln cc nl rq w lg).2)) 0 0 (ew_A L sz) := by
  refine er_met (by decide) rfl (Nat.le_of_ble_eq_true rfl) ?_
  intro p e s m below meth c ls hx hb hr hts hown hlocks hml hV hK hS hA hl hsz
  subst hsz
  have hi0 := hE 0 (by decide)
  have hl : lv_has ls 8 [(0, .ref (X 0 0)), (1, .int (nI b)), (2, .int (nI ln)), (3, .int 9), (4, .int cc)] := hl
  refine lv_aload_n hx hb dM_act_0 rfl (lv_at hl 0 rfl) ?_
  refine lv_iload_n hx hb dM_act_1 rfl (lv_at hl 2 rfl) ?_
  refine er_calli (va_runV (As := [.int (nI ln)]) (rest := []) ⟨hx, hb, hml, hown, hts⟩ (r_isLoan l D T X L tg _ hE A (nI ln)) (cwV 1 hts gM_172 rfl rfl rfl (by decide +kernel) ⟨Nat.le_of_ble_eq_true rfl, Nat.le_of_ble_eq_true rfl⟩) (er_preV hK hV hi0 (cR_0 _ _ _) rfl) rfl rfl hl.1 rfl (lv_room (Nat.le_of_ble_eq_true rfl)) dM_act_2 ⟨Nat.le_of_ble_eq_true rfl, Nat.le_of_ble_eq_true rfl⟩) hV hS hA (fun r u H locs hp hV hS => ?_)
  obtain ⟨rfl, eu9⟩ := hp
  rw [eu9] at hV
  refine lv_toe (y := 1) (s_isLoan_1 q2 hnl hn2) ?_
  refine lv_if_eq (tgt := 29) hx hb dM_act_5 rfl (fun h9 => absurd h9 (by decide)) (fun _ => ?_)
  refine lv_iload_n hx hb dM_act_8 rfl (lv_at hl 1 rfl) ?_
  refine er_calli (va_runS (As := [.int (nI b)]) (rest := []) ⟨hx, hb, hml, hown, hts⟩ (r_isLibrary l D T X L tg _ hE A (nI b)) (cwS 1 hts gM_142 rfl rfl rfl (by decide +kernel) ⟨Nat.le_of_ble_eq_true rfl, Nat.le_of_ble_eq_true rfl⟩) (er_preS hK hV) rfl rfl hl.1 rfl (lv_room (Nat.le_of_ble_eq_true rfl)) dM_act_9 ⟨Nat.le_of_ble_eq_true rfl, Nat.le_of_ble_eq_true rfl⟩) hV hS hA (fun r u H locs hp hV hS => ?_)
  obtain ⟨rfl, eu9⟩ := hp
  rw [eu9] at hV
  refine lv_toe (y := 1) (s_isLibrary_1 hb6) ?_
  refine lv_if_eq (tgt := 29) hx hb dM_act_12 rfl (fun h9 => absurd h9 (by decide)) (fun _ => ?_)
  refine lv_iload_n hx hb dM_act_15 rfl (lv_at hl 1 rfl) ?_
  refine lv_aload_n hx hb dM_act_16 rfl (lv_at hl 0 rfl) ?_
  refine ew_get (v := .ref (X 11 0)) hx hb hts hown hK hV fM_25 hi0 (cR_0 _ _ _) rfl dM_act_17 ?_
  refine lv_iload_n hx hb dM_act_20 rfl (lv_at hl 2 rfl) ?_
  refine ew_iald (v := A 11 0 ln) hx hb hK hV (hE 11 (by decide)) (cR_11 _ _ _) 0 rfl (vp_in_nI (by omega) (by decide)) (er_ix (by omega) rfl) dM_act_21 ?_
  refine lv_toe (y := nI rq) q11 ?_
  refine lv_icmp_ne (tgt := 29) hx hb dM_act_22 rfl (fun _ => ?_) (fun h9 => absurd h9 (fun z9 => hbr ((nI_eq (a := b) (b := rq) (by omega) (by omega)).mp z9)))
  refine lv_iconst (v := 0) hx hb dM_act_29 (by decide) ?_
  refine lv_istore (lv' := [(5, .int 0), (0, .ref (X 0 0)), (1, .int (nI b)), (2, .int (nI ln)), (3, .int 9), (4, .int cc)]) hx hb dM_act_30 hl (by decide) rfl (fun ls hl => ?_)
  refine lv_aload_n hx hb dM_act_32 rfl (lv_at hl 1 rfl) ?_
  refine lv_iload_n hx hb dM_act_33 rfl (lv_at hl 3 rfl) ?_
  refine er_calli (va_runV (As := [.int (nI ln)]) (rest := []) ⟨hx, hb, hml, hown, hts⟩ (r_isLoan l D T X L tg _ hE A (nI ln)) (cwV 1 hts gM_172 rfl rfl rfl (by decide +kernel) ⟨Nat.le_of_ble_eq_true rfl, Nat.le_of_ble_eq_true rfl⟩) (er_preV hK hV hi0 (cR_0 _ _ _) rfl) rfl rfl hl.1 rfl (lv_room (Nat.le_of_ble_eq_true rfl)) dM_act_34 ⟨Nat.le_of_ble_eq_true rfl, Nat.le_of_ble_eq_true rfl⟩) hV hS hA (fun r u H locs hp hV hS => ?_)
  obtain ⟨rfl, eu9⟩ := hp
  rw [eu9] at hV
  refine lv_toe (y := 1) (s_isLoan_1 q2 hnl hn2) ?_
  refine lv_if_eq (tgt := 65) hx hb dM_act_37 rfl (fun h9 => absurd h9 (by decide)) (fun _ => ?_)
  refine lv_iload_n hx hb dM_act_40 rfl (lv_at hl 2 rfl) ?_
  refine er_calli (va_runS (As := [.int (nI b)]) (rest := []) ⟨hx, hb, hml, hown, hts⟩ (r_isLibrary l D T X L tg _ hE A (nI b)) (cwS 1 hts gM_142 rfl rfl rfl (by decide +kernel) ⟨Nat.le_of_ble_eq_true rfl, Nat.le_of_ble_eq_true rfl⟩) (er_preS hK hV) rfl rfl hl.1 rfl (lv_room (Nat.le_of_ble_eq_true rfl)) dM_act_41 ⟨Nat.le_of_ble_eq_true rfl, Nat.le_of_ble_eq_true rfl⟩) hV hS hA (fun r u H locs hp hV hS => ?_)
  obtain ⟨rfl, eu9⟩ := hp
  rw [eu9] at hV
  refine lv_toe (y := 1) (s_isLibrary_1 hb6) ?_
  refine lv_if_eq (tgt := 65) hx hb dM_act_44 rfl (fun h9 => absurd h9 (by decide)) (fun _ => ?_)
  refine lv_aload_n hx hb dM_act_47 rfl (lv_at hl 1 rfl) ?_
  refine ew_get (v := .ref (X 22 0)) hx hb hts hown hK hV fM_58 hi0 (cR_0 _ _ _) rfl dM_act_48 ?_
  refine lv_bipush (v := 6) hx hb dM_act_51 (by decide) ?_
  refine lv_iload_n hx hb dM_act_53 rfl (lv_at hl 3 rfl) ?_
  refine lv_imul hx hb dM_act_54 ?_
  refine lv_toe (y := nI (6 * ln)) (pk_mul 6 ln) ?_
  refine lv_iload_n hx hb dM_act_55 rfl (lv_at hl 2 rfl) ?_
  refine lv_iadd hx hb dM_act_56 ?_
  refine lv_toe (y := nI ((6 * ln) + b)) (nI_add (6 * ln) b) ?_
  refine ew_zald (v := A 22 0 ((6 * ln) + b)) hx hb hK hV (hE 22 (by decide)) (cR_22 _ _ _) 1 rfl (vp_in_nI (by omega) (by decide)) (er_ix (by omega) rfl) dM_act_57 ?_
  refine lv_if_eq (tgt := 65) hx hb dM_act_58 rfl (fun h1 => ?_) (fun h1 => ?_)
  · refine lv_iconst (v := 0) hx hb dM_act_65 (by decide) ?_
    refine lv_istore (lv' := [(6, .int 0), (5, .int 0), (0, .ref (X 0 0)), (1, .int (nI b)), (2, .int (nI ln)), (3, .int 9), (4, .int cc)]) hx hb dM_act_66 hl (by decide) rfl (fun ls hl => ?_)
    refine lv_iload_n hx hb dM_act_68 rfl (lv_at hl 5 rfl) ?_
    refine lv_if_lt (tgt := 83) hx hb dM_act_69 rfl (fun h9 => absurd h9 (by decide)) (fun _ => ?_)
    refine lv_iload_n hx hb dM_act_72 rfl (lv_at hl 5 rfl) ?_
    refine lv_bipush (v := 7) hx hb dM_act_73 (by decide) ?_
    refine lv_icmp_ge (tgt := 83) hx hb dM_act_75 rfl (fun _ => ?_) (fun h9 => absurd (by decide) h9)
    refine lv_iload_n hx hb dM_act_83 rfl (lv_at hl 5 rfl) ?_
    refine lv_bipush (v := 6) hx hb dM_act_84 (by decide) ?_
    refine lv_icmp_le (tgt := 104) hx hb dM_act_86 rfl (fun h9 => absurd h9 (by decide)) (fun _ => ?_)
    refine lv_iload_n hx hb dM_act_89 rfl (lv_at hl 5 rfl) ?_
    refine lv_bipush (v := 15) hx hb dM_act_90 (by decide) ?_
    refine lv_icmp_ge (tgt := 104) hx hb dM_act_92 rfl (fun h9 => absurd h9 (by decide)) (fun _ => ?_)
    refine lv_iload hx hb dM_act_95 (lv_at hl 0 rfl) ?_
    refine lv_if_eq (tgt := 104) hx hb dM_act_97 rfl (fun _ => ?_) (fun h9 => absurd (by decide) h9)
    refine lv_iconst (v := 0) hx hb dM_act_104 (by decide) ?_
    refine lv_istore (lv' := [(7, .int 0), (6, .int 0), (5, .int 0), (0, .ref (X 0 0)), (1, .int (nI b)), (2, .int (nI ln)), (3, .int 9), (4, .int cc)]) hx hb dM_act_105 hl (by decide) rfl (fun ls hl => ?_)
    refine lv_aload_n hx hb dM_act_107 rfl (lv_at hl 3 rfl) ?_
    refine lv_iload hx hb dM_act_108 (lv_at hl 0 rfl) ?_
    refine lv_if_ne (tgt := 117) hx hb dM_act_110 rfl (fun h9 => absurd (by decide) h9) (fun _ => ?_)
    refine lv_iconst (v := 1) hx hb dM_act_113 (by decide) ?_
    refine lv_goto (tgt := 118) hx hb dM_act_114 rfl ?_
    refine lv_iload hx hb dM_act_118 (lv_at hl 0 rfl) ?_
    refine lv_if_eq (tgt := 156) hx hb dM_act_120 rfl (fun _ => ?_) (fun h9 => absurd (by decide) h9)
    refine lv_iconst (v := 0) hx hb dM_act_156 (by decide) ?_
    refine er_calli (va_runV (As := [.int 1, .int 0]) (rest := []) ⟨hx, hb, hml, hown, hts⟩ (r_refuses_a l D T X L tg _ hE A 0) (cwV 2 hts gM_152 rfl rfl rfl (by decide +kernel) ⟨Nat.le_of_ble_eq_true rfl, Nat.le_of_ble_eq_true rfl⟩) (er_preV hK hV hi0 (cR_0 _ _ _) rfl) rfl rfl hl.1 rfl (lv_room (Nat.le_of_ble_eq_true rfl)) dM_act_157 ⟨Nat.le_of_ble_eq_true rfl, Nat.le_of_ble_eq_true rfl⟩) hV hS hA (fun r u H locs hp hV hS => ?_)
    obtain ⟨rfl, rfl⟩ := hp
    refine lv_if_eq (tgt := 165) hx hb dM_act_160 rfl (fun h9 => absurd h9 (by decide)) (fun _ => ?_)
    refine lv_iconst (v := 0) hx hb dM_act_163 (by decide) ?_
    exact er_iret hx hb hr hlocks hV hS dM_act_164 ⟨Eq.symm (by unfold s_act_9; simp only [if_pos h1]), Eq.symm (by unfold s_act_9; simp only [if_pos h1])⟩
  · refine lv_iconst (v := 1) hx hb dM_act_61 (by decide) ?_
    refine lv_goto (tgt := 66) hx hb dM_act_62 rfl ?_
    refine lv_istore (lv' := [(6, .int 1), (5, .int 0), (0, .ref (X 0 0)), (1, .int (nI b)), (2, .int (nI ln)), (3, .int 9), (4, .int cc)]) hx hb dM_act_66 hl (by decide) rfl (fun ls hl => ?_)
    refine lv_iload_n hx hb dM_act_68 rfl (lv_at hl 5 rfl) ?_
    refine lv_if_lt (tgt := 83) hx hb dM_act_69 rfl (fun h9 => absurd h9 (by decide)) (fun _ => ?_)
    refine lv_iload_n hx hb dM_act_72 rfl (lv_at hl 5 rfl) ?_
    refine lv_bipush (v := 7) hx hb dM_act_73 (by decide) ?_
    refine lv_icmp_ge (tgt := 83) hx hb dM_act_75 rfl (fun _ => ?_) (fun h9 => absurd (by decide) h9)
    refine lv_iload_n hx hb dM_act_83 rfl (lv_at hl 5 rfl) ?_
    refine lv_bipush (v := 6) hx hb dM_act_84 (by decide) ?_
    refine lv_icmp_le (tgt := 104) hx hb dM_act_86 rfl (fun h9 => absurd h9 (by decide)) (fun _ => ?_)
    refine lv_iload_n hx hb dM_act_89 rfl (lv_at hl 5 rfl) ?_
    refine lv_bipush (v := 15) hx hb dM_act_90 (by decide) ?_
    refine lv_icmp_ge (tgt := 104) hx hb dM_act_92 rfl (fun h9 => absurd h9 (by decide)) (fun _ => ?_)
    refine lv_iload hx hb dM_act_95 (lv_at hl 0 rfl) ?_
    refine lv_if_eq (tgt := 104) hx hb dM_act_97 rfl (fun h9 => absurd h9 (by decide)) (fun _ => ?_)
    refine lv_iconst (v := 1) hx hb dM_act_100 (by decide) ?_
    refine lv_goto (tgt := 105) hx hb dM_act_101 rfl ?_
    refine lv_istore (lv' := [(7, .int 1), (6, .int 1), (5, .int 0), (0, .ref (X 0 0)), (1, .int (nI b)), (2, .int (nI ln)), (3, .int 9), (4, .int cc)]) hx hb dM_act_105 hl (by decide) rfl (fun ls hl => ?_)
    refine lv_aload_n hx hb dM_act_107 rfl (lv_at hl 3 rfl) ?_
    refine lv_iload hx hb dM_act_108 (lv_at hl 0 rfl) ?_
    refine lv_if_ne (tgt := 117) hx hb dM_act_110 rfl (fun _ => ?_) (fun h9 => absurd h9 (by decide))
    refine lv_iconst (v := 0) hx hb dM_act_117 (by decide) ?_
    refine lv_iload hx hb dM_act_118 (lv_at hl 0 rfl) ?_
    refine lv_if_eq (tgt := 156) hx hb dM_act_120 rfl (fun h9 => absurd h9 (by decide)) (fun _ => ?_)
    refine lv_iload hx hb dM_act_123 (lv_at hl 2 rfl) ?_
    refine lv_if_eq (tgt := 140) hx hb dM_act_125 rfl (fun _ => ?_) (fun h9 => absurd (by decide) h9)
    refine lv_aload_n hx hb dM_act_140 rfl (lv_at hl 3 rfl) ?_
    refine lv_iload_n hx hb dM_act_141 rfl (lv_at hl 5 rfl) ?_
    refine lv_iload_n hx hb dM_act_142 rfl (lv_at hl 4 rfl) ?_
    refine lv_iload_n hx hb dM_act_143 rfl (lv_at hl 6 rfl) ?_
    refine lv_iload hx hb dM_act_144 (lv_at hl 7 rfl) ?_
    refine er_calli (va_runV (As := [.int (nI ln), .int (nI b), .int 9, .int cc]) (rest := [.int 0, .ref (X 0 0)]) ⟨hx, hb, hml, hown, hts⟩ (r_maySupplier_9 l D T X L tg _ hE A ln b cc (by omega) hb6) (cwV 4 hts gM_179 rfl rfl rfl (by decide +kernel) ⟨Nat.le_of_ble_eq_true rfl, Nat.le_of_ble_eq_true rfl⟩) (er_preV hK hV hi0 (cR_0 _ _ _) rfl) rfl rfl hl.1 rfl (lv_room (Nat.le_of_ble_eq_true rfl)) dM_act_146 ⟨Nat.le_of_ble_eq_true rfl, Nat.le_of_ble_eq_true rfl⟩) hV hS hA (fun r u H locs hp hV hS => ?_)
    obtain ⟨rfl, eu9⟩ := hp
    rw [eu9] at hV
    refine lv_if_ne (tgt := 156) hx hb dM_act_149 rfl (fun h2 => ?_) (fun h2 => ?_)
    · refine lv_iconst (v := 0) hx hb dM_act_156 (by decide) ?_
      refine er_calli (va_runV (As := [.int 0, .int 0]) (rest := []) ⟨hx, hb, hml, hown, hts⟩ (r_refuses_c l D T X L tg _ hE A) (cwV 2 hts gM_152 rfl rfl rfl (by decide +kernel) ⟨Nat.le_of_ble_eq_true rfl, Nat.le_of_ble_eq_true rfl⟩) (er_preV hK hV hi0 (cR_0 _ _ _) rfl) rfl rfl hl.1 rfl (lv_room (Nat.le_of_ble_eq_true rfl)) dM_act_157 ⟨Nat.le_of_ble_eq_true rfl, Nat.le_of_ble_eq_true rfl⟩) hV hS hA (fun r u H locs hp hV hS => ?_)
      obtain ⟨rfl, rfl⟩ := hp
      refine lv_if_eq (tgt := 165) hx hb dM_act_160 rfl (fun _ => ?_) (fun h9 => absurd (by decide) h9)
      refine lv_iload hx hb dM_act_165 (lv_at hl 2 rfl) ?_
      refine lv_if_eq (tgt := 179) hx hb dM_act_167 rfl (fun _ => ?_) (fun h9 => absurd (by decide) h9)
      refine lv_aload_n hx hb dM_act_179 rfl (lv_at hl 3 rfl) ?_
      refine lv_iload_n hx hb dM_act_180 rfl (lv_at hl 5 rfl) ?_
      refine lv_iload_n hx hb dM_act_181 rfl (lv_at hl 4 rfl) ?_
      refine lv_iload_n hx hb dM_act_182 rfl (lv_at hl 6 rfl) ?_
      refine lv_iload hx hb dM_act_183 (lv_at hl 7 rfl) ?_
      refine er_callv (va_runV (As := [.int (nI ln), .int (nI b), .int 9, .int cc]) (rest := []) ⟨hx, hb, hml, hown, hts⟩ (r_stepSupplier_9 l D T X L tg _ hE (up3 A 0 0 0 0) ln b cc w lg (by omega) hb6 hw hq hlg hg) (cwV 4 hts gM_186 rfl rfl rfl (by decide +kernel) ⟨Nat.le_of_ble_eq_true rfl, Nat.le_of_ble_eq_true rfl⟩) (er_preV hK hV hi0 (cR_0 _ _ _) rfl) rfl rfl hl.1 rfl (lv_room (Nat.le_of_ble_eq_true rfl)) dM_act_185 ⟨Nat.le_of_ble_eq_true rfl, Nat.le_of_ble_eq_true rfl⟩) hV hS hA (fun u3 H locs eu3 hV hS => ?_)
      have eu3 : u3 = s_stepSupplier_9 (up3 A 0 0 0 0) ln b cc w lg := eu3
      refine lv_iload hx hb dM_act_188 (lv_at hl 2 rfl) ?_
      refine lv_if_eq (tgt := 202) hx hb dM_act_190 rfl (fun _ => ?_) (fun h9 => absurd (by decide) h9)
      refine lv_aload_n hx hb dM_act_202 rfl (lv_at hl 3 rfl) ?_
      refine ew_get (v := .ref (X 23 0)) hx hb hts hown hK hV fM_62 hi0 (cR_0 _ _ _) rfl dM_act_203 ?_
      refine lv_bipush (v := 6) hx hb dM_act_206 (by decide) ?_
      refine lv_iload_n hx hb dM_act_208 rfl (lv_at hl 5 rfl) ?_
      refine lv_imul hx hb dM_act_209 ?_
      refine lv_toe (y := nI (6 * ln)) (pk_mul 6 ln) ?_
      refine lv_iload_n hx hb dM_act_210 rfl (lv_at hl 4 rfl) ?_
      refine lv_iadd hx hb dM_act_211 ?_
      refine lv_toe (y := nI ((6 * ln) + b)) (nI_add (6 * ln) b) ?_
      refine ew_iald (v := u3 23 0 ((6 * ln) + b)) hx hb hK hV (hE 23 (by decide)) (cR_23 _ _ _) 0 rfl (vp_in_nI (by omega) (by decide)) (er_ix (by omega) rfl) dM_act_212 ?_
      subst eu3
      exact er_iret hx hb hr hlocks hV hS dM_act_213 ⟨Eq.symm (by unfold s_act_9; simp only [if_neg h1, if_neg h2]), Eq.symm (by unfold s_act_9; simp only [if_neg h1, if_neg h2])⟩
    · refine lv_iconst (v := 1) hx hb dM_act_152 (by decide) ?_
      refine lv_goto (tgt := 157) hx hb dM_act_153 rfl ?_
      refine er_calli (va_runV (As := [.int 0, .int 1]) (rest := []) ⟨hx, hb, hml, hown, hts⟩ (r_refuses_b l D T X L tg _ hE A) (cwV 2 hts gM_152 rfl rfl rfl (by decide +kernel) ⟨Nat.le_of_ble_eq_true rfl, Nat.le_of_ble_eq_true rfl⟩) (er_preV hK hV hi0 (cR_0 _ _ _) rfl) rfl rfl hl.1 rfl (lv_room (Nat.le_of_ble_eq_true rfl)) dM_act_157 ⟨Nat.le_of_ble_eq_true rfl, Nat.le_of_ble_eq_true rfl⟩) hV hS hA (fun r u H locs hp hV hS => ?_)
      obtain ⟨rfl, rfl⟩ := hp
      refine lv_if_eq (tgt := 165) hx hb dM_act_160 rfl (fun h9 => absurd h9 (by decide)) (fun _ => ?_)
      refine lv_iconst (v := 0) hx hb dM_act_163 (by decide) ?_
      exact er_iret hx hb hr hlocks hV hS dM_act_164 ⟨Eq.symm (by unfold s_act_9; simp only [if_neg h1, if_pos h2]), Eq.symm (by unfold s_act_9; simp only [if_neg h1, if_pos h2])⟩

def s_act_10 (A : ew_R) (b : Nat) (ln : Nat) (cc : Int32) (nl : Nat) (rq : Nat) (cp : Nat) (w : Nat) (lg : Nat) : Int32 × ew_R :=
  if A 22 0 ((6 * ln) + b) = 0 then
    (0, up3 A 0 0 0 1)
  else
    if s_maySupplier_10 A ln b cc = 0 then
      (0, up3 A 0 0 0 2)
    else
      ((s_stepSupplier_10 (up3 A 0 0 0 0) ln b cc cp w lg) 23 0 ((6 * ln) + b), (s_stepSupplier_10 (up3 A 0 0 0 0) ln b cc cp w lg))
set_option maxHeartbeats 4000000 in
set_option maxRecDepth 100000 in
theorem r_act_10 (l : Launch) (D : va_G) (T : Nat → ClassId) (X : Nat → Nat → Nat) (L : List Nat) (tg : Nat → Nat × Nat) (sz : Nat) (hE : eR_E X L tg) (A : ew_R) (b : Nat) (ln : Nat) (cc : Int32) (nl : Nat) (rq : Nat) (cp : Nat) (w : Nat) (lg : Nat) (hb6 : b < 6) (hnl : ln < nl) (hn2 : nl ≤ 32) (q2 : A 0 0 2 = nI nl) (hrq : rq < 6) (q11 : A 11 0 ln = nI rq) (hbr : ¬ b = rq) (hcp : cp < 32) (q28 : A 28 0 (6 * ln + b) = nI cp) (hw : w ≤ 64) (hq : A 0 0 4 = nI w) (hlg : lg < 3000) (hg : A 0 0 5 = nI lg) : Met l yM_act wsM_act ({ frames := 5, cells := 0, slots := 0, locals := 114 }) (er_Pc D vwCl (tysA T) (cfR T) X L tg A sz [.ref (X 0 0), .int (nI b), .int (nI ln), .int 10, .int cc]) (er_Qi D vwCl (cfR T) X L tg sz (fun r u => r = (s_act_10 A b ln cc nl rq cp w lg).1 ∧ u = (s_act_10 A b ln cc nl rq cp w lg).2)) 0 0 (ew_A L sz) := by
  refine er_met (by decide) rfl (Nat.le_of_ble_eq_true rfl) ?_
  intro p e s m below meth c ls hx hb hr hts hown hlocks hml hV hK hS hA hl hsz
  subst hsz
  have hi0 := hE 0 (by decide)
  have hl : lv_has ls 8 [(0, .ref (X 0 0)), (1, .int (nI b)), (2, .int (nI ln)), (3, .int 10), (4, .int cc)] := hl
  refine lv_aload_n hx hb dM_act_0 rfl (lv_at hl 0 rfl) ?_
  refine lv_iload_n hx hb dM_act_1 rfl (lv_at hl 2 rfl) ?_
  refine er_calli (va_runV (As := [.int (nI ln)]) (rest := []) ⟨hx, hb, hml, hown, hts⟩ (r_isLoan l D T X L tg _ hE A (nI ln)) (cwV 1 hts gM_172 rfl rfl rfl (by decide +kernel) ⟨Nat.le_of_ble_eq_true rfl, Nat.le_of_ble_eq_true rfl⟩) (er_preV hK hV hi0 (cR_0 _ _ _) rfl) rfl rfl hl.1 rfl (lv_room (Nat.le_of_ble_eq_true rfl)) dM_act_2 ⟨Nat.le_of_ble_eq_true rfl, Nat.le_of_ble_eq_true rfl⟩) hV hS hA (fun r u H locs hp hV hS => ?_)
  obtain ⟨rfl, eu9⟩ := hp
  rw [eu9] at hV
  refine lv_toe (y := 1) (s_isLoan_1 q2 hnl hn2) ?_
  refine lv_if_eq (tgt := 29) hx hb dM_act_5 rfl (fun h9 => absurd h9 (by decide)) (fun _ => ?_)
  refine lv_iload_n hx hb dM_act_8 rfl (lv_at hl 1 rfl) ?_
  refine er_calli (va_runS (As := [.int (nI b)]) (rest := []) ⟨hx, hb, hml, hown, hts⟩ (r_isLibrary l D T X L tg _ hE A (nI b)) (cwS 1 hts gM_142 rfl rfl rfl (by decide +kernel) ⟨Nat.le_of_ble_eq_true rfl, Nat.le_of_ble_eq_true rfl⟩) (er_preS hK hV) rfl rfl hl.1 rfl (lv_room (Nat.le_of_ble_eq_true rfl)) dM_act_9 ⟨Nat.le_of_ble_eq_true rfl, Nat.le_of_ble_eq_true rfl⟩) hV hS hA (fun r u H locs hp hV hS => ?_)
  obtain ⟨rfl, eu9⟩ := hp
  rw [eu9] at hV
  refine lv_toe (y := 1) (s_isLibrary_1 hb6) ?_
  refine lv_if_eq (tgt := 29) hx hb dM_act_12 rfl (fun h9 => absurd h9 (by decide)) (fun _ => ?_)
  refine lv_iload_n hx hb dM_act_15 rfl (lv_at hl 1 rfl) ?_
  refine lv_aload_n hx hb dM_act_16 rfl (lv_at hl 0 rfl) ?_
  refine ew_get (v := .ref (X 11 0)) hx hb hts hown hK hV fM_25 hi0 (cR_0 _ _ _) rfl dM_act_17 ?_
  refine lv_iload_n hx hb dM_act_20 rfl (lv_at hl 2 rfl) ?_
  refine ew_iald (v := A 11 0 ln) hx hb hK hV (hE 11 (by decide)) (cR_11 _ _ _) 0 rfl (vp_in_nI (by omega) (by decide)) (er_ix (by omega) rfl) dM_act_21 ?_
  refine lv_toe (y := nI rq) q11 ?_
  refine lv_icmp_ne (tgt := 29) hx hb dM_act_22 rfl (fun _ => ?_) (fun h9 => absurd h9 (fun z9 => hbr ((nI_eq (a := b) (b := rq) (by omega) (by omega)).mp z9)))
  refine lv_iconst (v := 0) hx hb dM_act_29 (by decide) ?_
  refine lv_istore (lv' := [(5, .int 0), (0, .ref (X 0 0)), (1, .int (nI b)), (2, .int (nI ln)), (3, .int 10), (4, .int cc)]) hx hb dM_act_30 hl (by decide) rfl (fun ls hl => ?_)
  refine lv_aload_n hx hb dM_act_32 rfl (lv_at hl 1 rfl) ?_
  refine lv_iload_n hx hb dM_act_33 rfl (lv_at hl 3 rfl) ?_
  refine er_calli (va_runV (As := [.int (nI ln)]) (rest := []) ⟨hx, hb, hml, hown, hts⟩ (r_isLoan l D T X L tg _ hE A (nI ln)) (cwV 1 hts gM_172 rfl rfl rfl (by decide +kernel) ⟨Nat.le_of_ble_eq_true rfl, Nat.le_of_ble_eq_true rfl⟩) (er_preV hK hV hi0 (cR_0 _ _ _) rfl) rfl rfl hl.1 rfl (lv_room (Nat.le_of_ble_eq_true rfl)) dM_act_34 ⟨Nat.le_of_ble_eq_true rfl, Nat.le_of_ble_eq_true rfl⟩) hV hS hA (fun r u H locs hp hV hS => ?_)
  obtain ⟨rfl, eu9⟩ := hp
  rw [eu9] at hV
  refine lv_toe (y := 1) (s_isLoan_1 q2 hnl hn2) ?_
  refine lv_if_eq (tgt := 65) hx hb dM_act_37 rfl (fun h9 => absurd h9 (by decide)) (fun _ => ?_)
  refine lv_iload_n hx hb dM_act_40 rfl (lv_at hl 2 rfl) ?_
  refine er_calli (va_runS (As := [.int (nI b)]) (rest := []) ⟨hx, hb, hml, hown, hts⟩ (r_isLibrary l D T X L tg _ hE A (nI b)) (cwS 1 hts gM_142 rfl rfl rfl (by decide +kernel) ⟨Nat.le_of_ble_eq_true rfl, Nat.le_of_ble_eq_true rfl⟩) (er_preS hK hV) rfl rfl hl.1 rfl (lv_room (Nat.le_of_ble_eq_true rfl)) dM_act_41 ⟨Nat.le_of_ble_eq_true rfl, Nat.le_of_ble_eq_true rfl⟩) hV hS hA (fun r u H locs hp hV hS => ?_)
  obtain ⟨rfl, eu9⟩ := hp
  rw [eu9] at hV
  refine lv_toe (y := 1) (s_isLibrary_1 hb6) ?_
  refine lv_if_eq (tgt := 65) hx hb dM_act_44 rfl (fun h9 => absurd h9 (by decide)) (fun _ => ?_)
  refine lv_aload_n hx hb dM_act_47 rfl (lv_at hl 1 rfl) ?_
  refine ew_get (v := .ref (X 22 0)) hx hb hts hown hK hV fM_58 hi0 (cR_0 _ _ _) rfl dM_act_48 ?_
  refine lv_bipush (v := 6) hx hb dM_act_51 (by decide) ?_
  refine lv_iload_n hx hb dM_act_53 rfl (lv_at hl 3 rfl) ?_
  refine lv_imul hx hb dM_act_54 ?_
  refine lv_toe (y := nI (6 * ln)) (pk_mul 6 ln) ?_
  refine lv_iload_n hx hb dM_act_55 rfl (lv_at hl 2 rfl) ?_
  refine lv_iadd hx hb dM_act_56 ?_
  refine lv_toe (y := nI ((6 * ln) + b)) (nI_add (6 * ln) b) ?_
  refine ew_zald (v := A 22 0 ((6 * ln) + b)) hx hb hK hV (hE 22 (by decide)) (cR_22 _ _ _) 1 rfl (vp_in_nI (by omega) (by decide)) (er_ix (by omega) rfl) dM_act_57 ?_
  refine lv_if_eq (tgt := 65) hx hb dM_act_58 rfl (fun h1 => ?_) (fun h1 => ?_)
  · refine lv_iconst (v := 0) hx hb dM_act_65 (by decide) ?_
    refine lv_istore (lv' := [(6, .int 0), (5, .int 0), (0, .ref (X 0 0)), (1, .int (nI b)), (2, .int (nI ln)), (3, .int 10), (4, .int cc)]) hx hb dM_act_66 hl (by decide) rfl (fun ls hl => ?_)
    refine lv_iload_n hx hb dM_act_68 rfl (lv_at hl 5 rfl) ?_
    refine lv_if_lt (tgt := 83) hx hb dM_act_69 rfl (fun h9 => absurd h9 (by decide)) (fun _ => ?_)
    refine lv_iload_n hx hb dM_act_72 rfl (lv_at hl 5 rfl) ?_
    refine lv_bipush (v := 7) hx hb dM_act_73 (by decide) ?_
    refine lv_icmp_ge (tgt := 83) hx hb dM_act_75 rfl (fun _ => ?_) (fun h9 => absurd (by decide) h9)
    refine lv_iload_n hx hb dM_act_83 rfl (lv_at hl 5 rfl) ?_
    refine lv_bipush (v := 6) hx hb dM_act_84 (by decide) ?_
    refine lv_icmp_le (tgt := 104) hx hb dM_act_86 rfl (fun h9 => absurd h9 (by decide)) (fun _ => ?_)
    refine lv_iload_n hx hb dM_act_89 rfl (lv_at hl 5 rfl) ?_
    refine lv_bipush (v := 15) hx hb dM_act_90 (by decide) ?_
    refine lv_icmp_ge (tgt := 104) hx hb dM_act_92 rfl (fun h9 => absurd h9 (by decide)) (fun _ => ?_)
    refine lv_iload hx hb dM_act_95 (lv_at hl 0 rfl) ?_
    refine lv_if_eq (tgt := 104) hx hb dM_act_97 rfl (fun _ => ?_) (fun h9 => absurd (by decide) h9)
    refine lv_iconst (v := 0) hx hb dM_act_104 (by decide) ?_
    refine lv_istore (lv' := [(7, .int 0), (6, .int 0), (5, .int 0), (0, .ref (X 0 0)), (1, .int (nI b)), (2, .int (nI ln)), (3, .int 10), (4, .int cc)]) hx hb dM_act_105 hl (by decide) rfl (fun ls hl => ?_)
    refine lv_aload_n hx hb dM_act_107 rfl (lv_at hl 3 rfl) ?_
    refine lv_iload hx hb dM_act_108 (lv_at hl 0 rfl) ?_
    refine lv_if_ne (tgt := 117) hx hb dM_act_110 rfl (fun h9 => absurd (by decide) h9) (fun _ => ?_)
    refine lv_iconst (v := 1) hx hb dM_act_113 (by decide) ?_
    refine lv_goto (tgt := 118) hx hb dM_act_114 rfl ?_
    refine lv_iload hx hb dM_act_118 (lv_at hl 0 rfl) ?_
    refine lv_if_eq (tgt := 156) hx hb dM_act_120 rfl (fun _ => ?_) (fun h9 => absurd (by decide) h9)
    refine lv_iconst (v := 0) hx hb dM_act_156 (by decide) ?_
    refine er_calli (va_runV (As := [.int 1, .int 0]) (rest := []) ⟨hx, hb, hml, hown, hts⟩ (r_refuses_a l D T X L tg _ hE A 0) (cwV 2 hts gM_152 rfl rfl rfl (by decide +kernel) ⟨Nat.le_of_ble_eq_true rfl, Nat.le_of_ble_eq_true rfl⟩) (er_preV hK hV hi0 (cR_0 _ _ _) rfl) rfl rfl hl.1 rfl (lv_room (Nat.le_of_ble_eq_true rfl)) dM_act_157 ⟨Nat.le_of_ble_eq_true rfl, Nat.le_of_ble_eq_true rfl⟩) hV hS hA (fun r u H locs hp hV hS => ?_)
    obtain ⟨rfl, rfl⟩ := hp
    refine lv_if_eq (tgt := 165) hx hb dM_act_160 rfl (fun h9 => absurd h9 (by decide)) (fun _ => ?_)
    refine lv_iconst (v := 0) hx hb dM_act_163 (by decide) ?_
    exact er_iret hx hb hr hlocks hV hS dM_act_164 ⟨Eq.symm (by unfold s_act_10; simp only [if_pos h1]), Eq.symm (by unfold s_act_10; simp only [if_pos h1])⟩
  · refine lv_iconst (v := 1) hx hb dM_act_61 (by decide) ?_
    refine lv_goto (tgt := 66) hx hb dM_act_62 rfl ?_
    refine lv_istore (lv' := [(6, .int 1), (5, .int 0), (0, .ref (X 0 0)), (1, .int (nI b)), (2, .int (nI ln)), (3, .int 10), (4, .int cc)]) hx hb dM_act_66 hl (by decide) rfl (fun ls hl => ?_)
    refine lv_iload_n hx hb dM_act_68 rfl (lv_at hl 5 rfl) ?_
    refine lv_if_lt (tgt := 83) hx hb dM_act_69 rfl (fun h9 => absurd h9 (by decide)) (fun _ => ?_)
    refine lv_iload_n hx hb dM_act_72 rfl (lv_at hl 5 rfl) ?_
    refine lv_bipush (v := 7) hx hb dM_act_73 (by decide) ?_
    refine lv_icmp_ge (tgt := 83) hx hb dM_act_75 rfl (fun _ => ?_) (fun h9 => absurd (by decide) h9)
    refine lv_iload_n hx hb dM_act_83 rfl (lv_at hl 5 rfl) ?_
    refine lv_bipush (v := 6) hx hb dM_act_84 (by decide) ?_
    refine lv_icmp_le (tgt := 104) hx hb dM_act_86 rfl (fun h9 => absurd h9 (by decide)) (fun _ => ?_)
    refine lv_iload_n hx hb dM_act_89 rfl (lv_at hl 5 rfl) ?_
    refine lv_bipush (v := 15) hx hb dM_act_90 (by decide) ?_
    refine lv_icmp_ge (tgt := 104) hx hb dM_act_92 rfl (fun h9 => absurd h9 (by decide)) (fun _ => ?_)
    refine lv_iload hx hb dM_act_95 (lv_at hl 0 rfl) ?_
    refine lv_if_eq (tgt := 104) hx hb dM_act_97 rfl (fun h9 => absurd h9 (by decide)) (fun _ => ?_)
    refine lv_iconst (v := 1) hx hb dM_act_100 (by decide) ?_
    refine lv_goto (tgt := 105) hx hb dM_act_101 rfl ?_
    refine lv_istore (lv' := [(7, .int 1), (6, .int 1), (5, .int 0), (0, .ref (X 0 0)), (1, .int (nI b)), (2, .int (nI ln)), (3, .int 10), (4, .int cc)]) hx hb dM_act_105 hl (by decide) rfl (fun ls hl => ?_)
    refine lv_aload_n hx hb dM_act_107 rfl (lv_at hl 3 rfl) ?_
    refine lv_iload hx hb dM_act_108 (lv_at hl 0 rfl) ?_
    refine lv_if_ne (tgt := 117) hx hb dM_act_110 rfl (fun _ => ?_) (fun h9 => absurd h9 (by decide))
    refine lv_iconst (v := 0) hx hb dM_act_117 (by decide) ?_
    refine lv_iload hx hb dM_act_118 (lv_at hl 0 rfl) ?_
    refine lv_if_eq (tgt := 156) hx hb dM_act_120 rfl (fun h9 => absurd h9 (by decide)) (fun _ => ?_)
    refine lv_iload hx hb dM_act_123 (lv_at hl 2 rfl) ?_
    refine lv_if_eq (tgt := 140) hx hb dM_act_125 rfl (fun _ => ?_) (fun h9 => absurd (by decide) h9)
    refine lv_aload_n hx hb dM_act_140 rfl (lv_at hl 3 rfl) ?_
    refine lv_iload_n hx hb dM_act_141 rfl (lv_at hl 5 rfl) ?_
    refine lv_iload_n hx hb dM_act_142 rfl (lv_at hl 4 rfl) ?_
    refine lv_iload_n hx hb dM_act_143 rfl (lv_at hl 6 rfl) ?_
    refine lv_iload hx hb dM_act_144 (lv_at hl 7 rfl) ?_
    refine er_calli (va_runV (As := [.int (nI ln), .int (nI b), .int 10, .int cc]) (rest := [.int 0, .ref (X 0 0)]) ⟨hx, hb, hml, hown, hts⟩ (r_maySupplier_10 l D T X L tg _ hE A ln b cc (by omega) hb6) (cwV 4 hts gM_179 rfl rfl rfl (by decide +kernel) ⟨Nat.le_of_ble_eq_true rfl, Nat.le_of_ble_eq_true rfl⟩) (er_preV hK hV hi0 (cR_0 _ _ _) rfl) rfl rfl hl.1 rfl (lv_room (Nat.le_of_ble_eq_true rfl)) dM_act_146 ⟨Nat.le_of_ble_eq_true rfl, Nat.le_of_ble_eq_true rfl⟩) hV hS hA (fun r u H locs hp hV hS => ?_)
    obtain ⟨rfl, eu9⟩ := hp
    rw [eu9] at hV
    refine lv_if_ne (tgt := 156) hx hb dM_act_149 rfl (fun h2 => ?_) (fun h2 => ?_)
    · refine lv_iconst (v := 0) hx hb dM_act_156 (by decide) ?_
      refine er_calli (va_runV (As := [.int 0, .int 0]) (rest := []) ⟨hx, hb, hml, hown, hts⟩ (r_refuses_c l D T X L tg _ hE A) (cwV 2 hts gM_152 rfl rfl rfl (by decide +kernel) ⟨Nat.le_of_ble_eq_true rfl, Nat.le_of_ble_eq_true rfl⟩) (er_preV hK hV hi0 (cR_0 _ _ _) rfl) rfl rfl hl.1 rfl (lv_room (Nat.le_of_ble_eq_true rfl)) dM_act_157 ⟨Nat.le_of_ble_eq_true rfl, Nat.le_of_ble_eq_true rfl⟩) hV hS hA (fun r u H locs hp hV hS => ?_)
      obtain ⟨rfl, rfl⟩ := hp
      refine lv_if_eq (tgt := 165) hx hb dM_act_160 rfl (fun _ => ?_) (fun h9 => absurd (by decide) h9)
      refine lv_iload hx hb dM_act_165 (lv_at hl 2 rfl) ?_
      refine lv_if_eq (tgt := 179) hx hb dM_act_167 rfl (fun _ => ?_) (fun h9 => absurd (by decide) h9)
      refine lv_aload_n hx hb dM_act_179 rfl (lv_at hl 3 rfl) ?_
      refine lv_iload_n hx hb dM_act_180 rfl (lv_at hl 5 rfl) ?_
      refine lv_iload_n hx hb dM_act_181 rfl (lv_at hl 4 rfl) ?_
      refine lv_iload_n hx hb dM_act_182 rfl (lv_at hl 6 rfl) ?_
      refine lv_iload hx hb dM_act_183 (lv_at hl 7 rfl) ?_
      refine er_callv (va_runV (As := [.int (nI ln), .int (nI b), .int 10, .int cc]) (rest := []) ⟨hx, hb, hml, hown, hts⟩ (r_stepSupplier_10 l D T X L tg _ hE (up3 A 0 0 0 0) ln b cc cp w lg (by omega) hb6 hcp q28 hw hq hlg hg) (cwV 4 hts gM_186 rfl rfl rfl (by decide +kernel) ⟨Nat.le_of_ble_eq_true rfl, Nat.le_of_ble_eq_true rfl⟩) (er_preV hK hV hi0 (cR_0 _ _ _) rfl) rfl rfl hl.1 rfl (lv_room (Nat.le_of_ble_eq_true rfl)) dM_act_185 ⟨Nat.le_of_ble_eq_true rfl, Nat.le_of_ble_eq_true rfl⟩) hV hS hA (fun u3 H locs eu3 hV hS => ?_)
      have eu3 : u3 = s_stepSupplier_10 (up3 A 0 0 0 0) ln b cc cp w lg := eu3
      refine lv_iload hx hb dM_act_188 (lv_at hl 2 rfl) ?_
      refine lv_if_eq (tgt := 202) hx hb dM_act_190 rfl (fun _ => ?_) (fun h9 => absurd (by decide) h9)
      refine lv_aload_n hx hb dM_act_202 rfl (lv_at hl 3 rfl) ?_
      refine ew_get (v := .ref (X 23 0)) hx hb hts hown hK hV fM_62 hi0 (cR_0 _ _ _) rfl dM_act_203 ?_
      refine lv_bipush (v := 6) hx hb dM_act_206 (by decide) ?_
      refine lv_iload_n hx hb dM_act_208 rfl (lv_at hl 5 rfl) ?_
      refine lv_imul hx hb dM_act_209 ?_
      refine lv_toe (y := nI (6 * ln)) (pk_mul 6 ln) ?_
      refine lv_iload_n hx hb dM_act_210 rfl (lv_at hl 4 rfl) ?_
      refine lv_iadd hx hb dM_act_211 ?_
      refine lv_toe (y := nI ((6 * ln) + b)) (nI_add (6 * ln) b) ?_
      refine ew_iald (v := u3 23 0 ((6 * ln) + b)) hx hb hK hV (hE 23 (by decide)) (cR_23 _ _ _) 0 rfl (vp_in_nI (by omega) (by decide)) (er_ix (by omega) rfl) dM_act_212 ?_
      subst eu3
      exact er_iret hx hb hr hlocks hV hS dM_act_213 ⟨Eq.symm (by unfold s_act_10; simp only [if_neg h1, if_neg h2]), Eq.symm (by unfold s_act_10; simp only [if_neg h1, if_neg h2])⟩
    · refine lv_iconst (v := 1) hx hb dM_act_152 (by decide) ?_
      refine lv_goto (tgt := 157) hx hb dM_act_153 rfl ?_
      refine er_calli (va_runV (As := [.int 0, .int 1]) (rest := []) ⟨hx, hb, hml, hown, hts⟩ (r_refuses_b l D T X L tg _ hE A) (cwV 2 hts gM_152 rfl rfl rfl (by decide +kernel) ⟨Nat.le_of_ble_eq_true rfl, Nat.le_of_ble_eq_true rfl⟩) (er_preV hK hV hi0 (cR_0 _ _ _) rfl) rfl rfl hl.1 rfl (lv_room (Nat.le_of_ble_eq_true rfl)) dM_act_157 ⟨Nat.le_of_ble_eq_true rfl, Nat.le_of_ble_eq_true rfl⟩) hV hS hA (fun r u H locs hp hV hS => ?_)
      obtain ⟨rfl, rfl⟩ := hp
      refine lv_if_eq (tgt := 165) hx hb dM_act_160 rfl (fun h9 => absurd h9 (by decide)) (fun _ => ?_)
      refine lv_iconst (v := 0) hx hb dM_act_163 (by decide) ?_
      exact er_iret hx hb hr hlocks hV hS dM_act_164 ⟨Eq.symm (by unfold s_act_10; simp only [if_neg h1, if_pos h2]), Eq.symm (by unfold s_act_10; simp only [if_neg h1, if_pos h2])⟩

def s_act_11 (A : ew_R) (b : Nat) (ln : Nat) (cc : Int32) (nl : Nat) (rq : Nat) (w : Nat) (lg : Nat) : Int32 × ew_R :=
  if A 22 0 ((6 * ln) + b) = 0 then
    (0, up3 A 0 0 0 1)
  else
    if s_maySupplier_11 A ln b cc = 0 then
      (0, up3 A 0 0 0 2)
    else
      ((s_stepSupplier_11 (up3 A 0 0 0 0) ln b cc w lg) 23 0 ((6 * ln) + b), (s_stepSupplier_11 (up3 A 0 0 0 0) ln b cc w lg))
set_option maxHeartbeats 4000000 in
set_option maxRecDepth 100000 in
theorem r_act_11 (l : Launch) (D : va_G) (T : Nat → ClassId) (X : Nat → Nat → Nat) (L : List Nat) (tg : Nat → Nat × Nat) (sz : Nat) (hE : eR_E X L tg) (A : ew_R) (b : Nat) (ln : Nat) (cc : Int32) (nl : Nat) (rq : Nat) (w : Nat) (lg : Nat) (hb6 : b < 6) (hnl : ln < nl) (hn2 : nl ≤ 32) (q2 : A 0 0 2 = nI nl) (hrq : rq < 6) (q11 : A 11 0 ln = nI rq) (hbr : ¬ b = rq) (hw : w ≤ 64) (hq : A 0 0 4 = nI w) (hlg : lg < 3000) (hg : A 0 0 5 = nI lg) : Met l yM_act wsM_act ({ frames := 5, cells := 0, slots := 0, locals := 114 }) (er_Pc D vwCl (tysA T) (cfR T) X L tg A sz [.ref (X 0 0), .int (nI b), .int (nI ln), .int 11, .int cc]) (er_Qi D vwCl (cfR T) X L tg sz (fun r u => r = (s_act_11 A b ln cc nl rq w lg).1 ∧ u = (s_act_11 A b ln cc nl rq w lg).2)) 0 0 (ew_A L sz) := by
  refine er_met (by decide) rfl (Nat.le_of_ble_eq_true rfl) ?_
  intro p e s m below meth c ls hx hb hr hts hown hlocks hml hV hK hS hA hl hsz
  subst hsz
  have hi0 := hE 0 (by decide)
  have hl : lv_has ls 8 [(0, .ref (X 0 0)), (1, .int (nI b)), (2, .int (nI ln)), (3, .int 11), (4, .int cc)] := hl
  refine lv_aload_n hx hb dM_act_0 rfl (lv_at hl 0 rfl) ?_
  refine lv_iload_n hx hb dM_act_1 rfl (lv_at hl 2 rfl) ?_
  refine er_calli (va_runV (As := [.int (nI ln)]) (rest := []) ⟨hx, hb, hml, hown, hts⟩ (r_isLoan l D T X L tg _ hE A (nI ln)) (cwV 1 hts gM_172 rfl rfl rfl (by decide +kernel) ⟨Nat.le_of_ble_eq_true rfl, Nat.le_of_ble_eq_true rfl⟩) (er_preV hK hV hi0 (cR_0 _ _ _) rfl) rfl rfl hl.1 rfl (lv_room (Nat.le_of_ble_eq_true rfl)) dM_act_2 ⟨Nat.le_of_ble_eq_true rfl, Nat.le_of_ble_eq_true rfl⟩) hV hS hA (fun r u H locs hp hV hS => ?_)
  obtain ⟨rfl, eu9⟩ := hp
  rw [eu9] at hV
  refine lv_toe (y := 1) (s_isLoan_1 q2 hnl hn2) ?_
  refine lv_if_eq (tgt := 29) hx hb dM_act_5 rfl (fun h9 => absurd h9 (by decide)) (fun _ => ?_)
  refine lv_iload_n hx hb dM_act_8 rfl (lv_at hl 1 rfl) ?_
  refine er_calli (va_runS (As := [.int (nI b)]) (rest := []) ⟨hx, hb, hml, hown, hts⟩ (r_isLibrary l D T X L tg _ hE A (nI b)) (cwS 1 hts gM_142 rfl rfl rfl (by decide +kernel) ⟨Nat.le_of_ble_eq_true rfl, Nat.le_of_ble_eq_true rfl⟩) (er_preS hK hV) rfl rfl hl.1 rfl (lv_room (Nat.le_of_ble_eq_true rfl)) dM_act_9 ⟨Nat.le_of_ble_eq_true rfl, Nat.le_of_ble_eq_true rfl⟩) hV hS hA (fun r u H locs hp hV hS => ?_)
  obtain ⟨rfl, eu9⟩ := hp
  rw [eu9] at hV
  refine lv_toe (y := 1) (s_isLibrary_1 hb6) ?_
  refine lv_if_eq (tgt := 29) hx hb dM_act_12 rfl (fun h9 => absurd h9 (by decide)) (fun _ => ?_)
  refine lv_iload_n hx hb dM_act_15 rfl (lv_at hl 1 rfl) ?_
  refine lv_aload_n hx hb dM_act_16 rfl (lv_at hl 0 rfl) ?_
  refine ew_get (v := .ref (X 11 0)) hx hb hts hown hK hV fM_25 hi0 (cR_0 _ _ _) rfl dM_act_17 ?_
  refine lv_iload_n hx hb dM_act_20 rfl (lv_at hl 2 rfl) ?_
  refine ew_iald (v := A 11 0 ln) hx hb hK hV (hE 11 (by decide)) (cR_11 _ _ _) 0 rfl (vp_in_nI (by omega) (by decide)) (er_ix (by omega) rfl) dM_act_21 ?_
  refine lv_toe (y := nI rq) q11 ?_
  refine lv_icmp_ne (tgt := 29) hx hb dM_act_22 rfl (fun _ => ?_) (fun h9 => absurd h9 (fun z9 => hbr ((nI_eq (a := b) (b := rq) (by omega) (by omega)).mp z9)))
  refine lv_iconst (v := 0) hx hb dM_act_29 (by decide) ?_
  refine lv_istore (lv' := [(5, .int 0), (0, .ref (X 0 0)), (1, .int (nI b)), (2, .int (nI ln)), (3, .int 11), (4, .int cc)]) hx hb dM_act_30 hl (by decide) rfl (fun ls hl => ?_)
  refine lv_aload_n hx hb dM_act_32 rfl (lv_at hl 1 rfl) ?_
  refine lv_iload_n hx hb dM_act_33 rfl (lv_at hl 3 rfl) ?_
  refine er_calli (va_runV (As := [.int (nI ln)]) (rest := []) ⟨hx, hb, hml, hown, hts⟩ (r_isLoan l D T X L tg _ hE A (nI ln)) (cwV 1 hts gM_172 rfl rfl rfl (by decide +kernel) ⟨Nat.le_of_ble_eq_true rfl, Nat.le_of_ble_eq_true rfl⟩) (er_preV hK hV hi0 (cR_0 _ _ _) rfl) rfl rfl hl.1 rfl (lv_room (Nat.le_of_ble_eq_true rfl)) dM_act_34 ⟨Nat.le_of_ble_eq_true rfl, Nat.le_of_ble_eq_true rfl⟩) hV hS hA (fun r u H locs hp hV hS => ?_)
  obtain ⟨rfl, eu9⟩ := hp
  rw [eu9] at hV
  refine lv_toe (y := 1) (s_isLoan_1 q2 hnl hn2) ?_
  refine lv_if_eq (tgt := 65) hx hb dM_act_37 rfl (fun h9 => absurd h9 (by decide)) (fun _ => ?_)
  refine lv_iload_n hx hb dM_act_40 rfl (lv_at hl 2 rfl) ?_
  refine er_calli (va_runS (As := [.int (nI b)]) (rest := []) ⟨hx, hb, hml, hown, hts⟩ (r_isLibrary l D T X L tg _ hE A (nI b)) (cwS 1 hts gM_142 rfl rfl rfl (by decide +kernel) ⟨Nat.le_of_ble_eq_true rfl, Nat.le_of_ble_eq_true rfl⟩) (er_preS hK hV) rfl rfl hl.1 rfl (lv_room (Nat.le_of_ble_eq_true rfl)) dM_act_41 ⟨Nat.le_of_ble_eq_true rfl, Nat.le_of_ble_eq_true rfl⟩) hV hS hA (fun r u H locs hp hV hS => ?_)
  obtain ⟨rfl, eu9⟩ := hp
  rw [eu9] at hV
  refine lv_toe (y := 1) (s_isLibrary_1 hb6) ?_
  refine lv_if_eq (tgt := 65) hx hb dM_act_44 rfl (fun h9 => absurd h9 (by decide)) (fun _ => ?_)
  refine lv_aload_n hx hb dM_act_47 rfl (lv_at hl 1 rfl) ?_
  refine ew_get (v := .ref (X 22 0)) hx hb hts hown hK hV fM_58 hi0 (cR_0 _ _ _) rfl dM_act_48 ?_
  refine lv_bipush (v := 6) hx hb dM_act_51 (by decide) ?_
  refine lv_iload_n hx hb dM_act_53 rfl (lv_at hl 3 rfl) ?_
  refine lv_imul hx hb dM_act_54 ?_
  refine lv_toe (y := nI (6 * ln)) (pk_mul 6 ln) ?_
  refine lv_iload_n hx hb dM_act_55 rfl (lv_at hl 2 rfl) ?_
  refine lv_iadd hx hb dM_act_56 ?_
  refine lv_toe (y := nI ((6 * ln) + b)) (nI_add (6 * ln) b) ?_
  refine ew_zald (v := A 22 0 ((6 * ln) + b)) hx hb hK hV (hE 22 (by decide)) (cR_22 _ _ _) 1 rfl (vp_in_nI (by omega) (by decide)) (er_ix (by omega) rfl) dM_act_57 ?_
  refine lv_if_eq (tgt := 65) hx hb dM_act_58 rfl (fun h1 => ?_) (fun h1 => ?_)
  · refine lv_iconst (v := 0) hx hb dM_act_65 (by decide) ?_
    refine lv_istore (lv' := [(6, .int 0), (5, .int 0), (0, .ref (X 0 0)), (1, .int (nI b)), (2, .int (nI ln)), (3, .int 11), (4, .int cc)]) hx hb dM_act_66 hl (by decide) rfl (fun ls hl => ?_)
    refine lv_iload_n hx hb dM_act_68 rfl (lv_at hl 5 rfl) ?_
    refine lv_if_lt (tgt := 83) hx hb dM_act_69 rfl (fun h9 => absurd h9 (by decide)) (fun _ => ?_)
    refine lv_iload_n hx hb dM_act_72 rfl (lv_at hl 5 rfl) ?_
    refine lv_bipush (v := 7) hx hb dM_act_73 (by decide) ?_
    refine lv_icmp_ge (tgt := 83) hx hb dM_act_75 rfl (fun _ => ?_) (fun h9 => absurd (by decide) h9)
    refine lv_iload_n hx hb dM_act_83 rfl (lv_at hl 5 rfl) ?_
    refine lv_bipush (v := 6) hx hb dM_act_84 (by decide) ?_
    refine lv_icmp_le (tgt := 104) hx hb dM_act_86 rfl (fun h9 => absurd h9 (by decide)) (fun _ => ?_)
    refine lv_iload_n hx hb dM_act_89 rfl (lv_at hl 5 rfl) ?_
    refine lv_bipush (v := 15) hx hb dM_act_90 (by decide) ?_
    refine lv_icmp_ge (tgt := 104) hx hb dM_act_92 rfl (fun h9 => absurd h9 (by decide)) (fun _ => ?_)
    refine lv_iload hx hb dM_act_95 (lv_at hl 0 rfl) ?_
    refine lv_if_eq (tgt := 104) hx hb dM_act_97 rfl (fun _ => ?_) (fun h9 => absurd (by decide) h9)
    refine lv_iconst (v := 0) hx hb dM_act_104 (by decide) ?_
    refine lv_istore (lv' := [(7, .int 0), (6, .int 0), (5, .int 0), (0, .ref (X 0 0)), (1, .int (nI b)), (2, .int (nI ln)), (3, .int 11), (4, .int cc)]) hx hb dM_act_105 hl (by decide) rfl (fun ls hl => ?_)
    refine lv_aload_n hx hb dM_act_107 rfl (lv_at hl 3 rfl) ?_
    refine lv_iload hx hb dM_act_108 (lv_at hl 0 rfl) ?_
    refine lv_if_ne (tgt := 117) hx hb dM_act_110 rfl (fun h9 => absurd (by decide) h9) (fun _ => ?_)
    refine lv_iconst (v := 1) hx hb dM_act_113 (by decide) ?_
    refine lv_goto (tgt := 118) hx hb dM_act_114 rfl ?_
    refine lv_iload hx hb dM_act_118 (lv_at hl 0 rfl) ?_
    refine lv_if_eq (tgt := 156) hx hb dM_act_120 rfl (fun _ => ?_) (fun h9 => absurd (by decide) h9)
    refine lv_iconst (v := 0) hx hb dM_act_156 (by decide) ?_
    refine er_calli (va_runV (As := [.int 1, .int 0]) (rest := []) ⟨hx, hb, hml, hown, hts⟩ (r_refuses_a l D T X L tg _ hE A 0) (cwV 2 hts gM_152 rfl rfl rfl (by decide +kernel) ⟨Nat.le_of_ble_eq_true rfl, Nat.le_of_ble_eq_true rfl⟩) (er_preV hK hV hi0 (cR_0 _ _ _) rfl) rfl rfl hl.1 rfl (lv_room (Nat.le_of_ble_eq_true rfl)) dM_act_157 ⟨Nat.le_of_ble_eq_true rfl, Nat.le_of_ble_eq_true rfl⟩) hV hS hA (fun r u H locs hp hV hS => ?_)
    obtain ⟨rfl, rfl⟩ := hp
    refine lv_if_eq (tgt := 165) hx hb dM_act_160 rfl (fun h9 => absurd h9 (by decide)) (fun _ => ?_)
    refine lv_iconst (v := 0) hx hb dM_act_163 (by decide) ?_
    exact er_iret hx hb hr hlocks hV hS dM_act_164 ⟨Eq.symm (by unfold s_act_11; simp only [if_pos h1]), Eq.symm (by unfold s_act_11; simp only [if_pos h1])⟩
  · refine lv_iconst (v := 1) hx hb dM_act_61 (by decide) ?_
    refine lv_goto (tgt := 66) hx hb dM_act_62 rfl ?_
    refine lv_istore (lv' := [(6, .int 1), (5, .int 0), (0, .ref (X 0 0)), (1, .int (nI b)), (2, .int (nI ln)), (3, .int 11), (4, .int cc)]) hx hb dM_act_66 hl (by decide) rfl (fun ls hl => ?_)
    refine lv_iload_n hx hb dM_act_68 rfl (lv_at hl 5 rfl) ?_
    refine lv_if_lt (tgt := 83) hx hb dM_act_69 rfl (fun h9 => absurd h9 (by decide)) (fun _ => ?_)
    refine lv_iload_n hx hb dM_act_72 rfl (lv_at hl 5 rfl) ?_
    refine lv_bipush (v := 7) hx hb dM_act_73 (by decide) ?_
    refine lv_icmp_ge (tgt := 83) hx hb dM_act_75 rfl (fun _ => ?_) (fun h9 => absurd (by decide) h9)
    refine lv_iload_n hx hb dM_act_83 rfl (lv_at hl 5 rfl) ?_
    refine lv_bipush (v := 6) hx hb dM_act_84 (by decide) ?_
    refine lv_icmp_le (tgt := 104) hx hb dM_act_86 rfl (fun h9 => absurd h9 (by decide)) (fun _ => ?_)
    refine lv_iload_n hx hb dM_act_89 rfl (lv_at hl 5 rfl) ?_
    refine lv_bipush (v := 15) hx hb dM_act_90 (by decide) ?_
    refine lv_icmp_ge (tgt := 104) hx hb dM_act_92 rfl (fun h9 => absurd h9 (by decide)) (fun _ => ?_)
    refine lv_iload hx hb dM_act_95 (lv_at hl 0 rfl) ?_
    refine lv_if_eq (tgt := 104) hx hb dM_act_97 rfl (fun h9 => absurd h9 (by decide)) (fun _ => ?_)
    refine lv_iconst (v := 1) hx hb dM_act_100 (by decide) ?_
    refine lv_goto (tgt := 105) hx hb dM_act_101 rfl ?_
    refine lv_istore (lv' := [(7, .int 1), (6, .int 1), (5, .int 0), (0, .ref (X 0 0)), (1, .int (nI b)), (2, .int (nI ln)), (3, .int 11), (4, .int cc)]) hx hb dM_act_105 hl (by decide) rfl (fun ls hl => ?_)
    refine lv_aload_n hx hb dM_act_107 rfl (lv_at hl 3 rfl) ?_
    refine lv_iload hx hb dM_act_108 (lv_at hl 0 rfl) ?_
    refine lv_if_ne (tgt := 117) hx hb dM_act_110 rfl (fun _ => ?_) (fun h9 => absurd h9 (by decide))
    refine lv_iconst (v := 0) hx hb dM_act_117 (by decide) ?_
    refine lv_iload hx hb dM_act_118 (lv_at hl 0 rfl) ?_
    refine lv_if_eq (tgt := 156) hx hb dM_act_120 rfl (fun h9 => absurd h9 (by decide)) (fun _ => ?_)
    refine lv_iload hx hb dM_act_123 (lv_at hl 2 rfl) ?_
    refine lv_if_eq (tgt := 140) hx hb dM_act_125 rfl (fun _ => ?_) (fun h9 => absurd (by decide) h9)
    refine lv_aload_n hx hb dM_act_140 rfl (lv_at hl 3 rfl) ?_
    refine lv_iload_n hx hb dM_act_141 rfl (lv_at hl 5 rfl) ?_
    refine lv_iload_n hx hb dM_act_142 rfl (lv_at hl 4 rfl) ?_
    refine lv_iload_n hx hb dM_act_143 rfl (lv_at hl 6 rfl) ?_
    refine lv_iload hx hb dM_act_144 (lv_at hl 7 rfl) ?_
    refine er_calli (va_runV (As := [.int (nI ln), .int (nI b), .int 11, .int cc]) (rest := [.int 0, .ref (X 0 0)]) ⟨hx, hb, hml, hown, hts⟩ (r_maySupplier_11 l D T X L tg _ hE A ln b cc (by omega) hb6) (cwV 4 hts gM_179 rfl rfl rfl (by decide +kernel) ⟨Nat.le_of_ble_eq_true rfl, Nat.le_of_ble_eq_true rfl⟩) (er_preV hK hV hi0 (cR_0 _ _ _) rfl) rfl rfl hl.1 rfl (lv_room (Nat.le_of_ble_eq_true rfl)) dM_act_146 ⟨Nat.le_of_ble_eq_true rfl, Nat.le_of_ble_eq_true rfl⟩) hV hS hA (fun r u H locs hp hV hS => ?_)
    obtain ⟨rfl, eu9⟩ := hp
    rw [eu9] at hV
    refine lv_if_ne (tgt := 156) hx hb dM_act_149 rfl (fun h2 => ?_) (fun h2 => ?_)
    · refine lv_iconst (v := 0) hx hb dM_act_156 (by decide) ?_
      refine er_calli (va_runV (As := [.int 0, .int 0]) (rest := []) ⟨hx, hb, hml, hown, hts⟩ (r_refuses_c l D T X L tg _ hE A) (cwV 2 hts gM_152 rfl rfl rfl (by decide +kernel) ⟨Nat.le_of_ble_eq_true rfl, Nat.le_of_ble_eq_true rfl⟩) (er_preV hK hV hi0 (cR_0 _ _ _) rfl) rfl rfl hl.1 rfl (lv_room (Nat.le_of_ble_eq_true rfl)) dM_act_157 ⟨Nat.le_of_ble_eq_true rfl, Nat.le_of_ble_eq_true rfl⟩) hV hS hA (fun r u H locs hp hV hS => ?_)
      obtain ⟨rfl, rfl⟩ := hp
      refine lv_if_eq (tgt := 165) hx hb dM_act_160 rfl (fun _ => ?_) (fun h9 => absurd (by decide) h9)
      refine lv_iload hx hb dM_act_165 (lv_at hl 2 rfl) ?_
      refine lv_if_eq (tgt := 179) hx hb dM_act_167 rfl (fun _ => ?_) (fun h9 => absurd (by decide) h9)
      refine lv_aload_n hx hb dM_act_179 rfl (lv_at hl 3 rfl) ?_
      refine lv_iload_n hx hb dM_act_180 rfl (lv_at hl 5 rfl) ?_
      refine lv_iload_n hx hb dM_act_181 rfl (lv_at hl 4 rfl) ?_
      refine lv_iload_n hx hb dM_act_182 rfl (lv_at hl 6 rfl) ?_
      refine lv_iload hx hb dM_act_183 (lv_at hl 7 rfl) ?_
      refine er_callv (va_runV (As := [.int (nI ln), .int (nI b), .int 11, .int cc]) (rest := []) ⟨hx, hb, hml, hown, hts⟩ (r_stepSupplier_11 l D T X L tg _ hE (up3 A 0 0 0 0) ln b cc w lg (by omega) hb6 hw hq hlg hg) (cwV 4 hts gM_186 rfl rfl rfl (by decide +kernel) ⟨Nat.le_of_ble_eq_true rfl, Nat.le_of_ble_eq_true rfl⟩) (er_preV hK hV hi0 (cR_0 _ _ _) rfl) rfl rfl hl.1 rfl (lv_room (Nat.le_of_ble_eq_true rfl)) dM_act_185 ⟨Nat.le_of_ble_eq_true rfl, Nat.le_of_ble_eq_true rfl⟩) hV hS hA (fun u3 H locs eu3 hV hS => ?_)
      have eu3 : u3 = s_stepSupplier_11 (up3 A 0 0 0 0) ln b cc w lg := eu3
      refine lv_iload hx hb dM_act_188 (lv_at hl 2 rfl) ?_
      refine lv_if_eq (tgt := 202) hx hb dM_act_190 rfl (fun _ => ?_) (fun h9 => absurd (by decide) h9)
      refine lv_aload_n hx hb dM_act_202 rfl (lv_at hl 3 rfl) ?_
      refine ew_get (v := .ref (X 23 0)) hx hb hts hown hK hV fM_62 hi0 (cR_0 _ _ _) rfl dM_act_203 ?_
      refine lv_bipush (v := 6) hx hb dM_act_206 (by decide) ?_
      refine lv_iload_n hx hb dM_act_208 rfl (lv_at hl 5 rfl) ?_
      refine lv_imul hx hb dM_act_209 ?_
      refine lv_toe (y := nI (6 * ln)) (pk_mul 6 ln) ?_
      refine lv_iload_n hx hb dM_act_210 rfl (lv_at hl 4 rfl) ?_
      refine lv_iadd hx hb dM_act_211 ?_
      refine lv_toe (y := nI ((6 * ln) + b)) (nI_add (6 * ln) b) ?_
      refine ew_iald (v := u3 23 0 ((6 * ln) + b)) hx hb hK hV (hE 23 (by decide)) (cR_23 _ _ _) 0 rfl (vp_in_nI (by omega) (by decide)) (er_ix (by omega) rfl) dM_act_212 ?_
      subst eu3
      exact er_iret hx hb hr hlocks hV hS dM_act_213 ⟨Eq.symm (by unfold s_act_11; simp only [if_neg h1, if_neg h2]), Eq.symm (by unfold s_act_11; simp only [if_neg h1, if_neg h2])⟩
    · refine lv_iconst (v := 1) hx hb dM_act_152 (by decide) ?_
      refine lv_goto (tgt := 157) hx hb dM_act_153 rfl ?_
      refine er_calli (va_runV (As := [.int 0, .int 1]) (rest := []) ⟨hx, hb, hml, hown, hts⟩ (r_refuses_b l D T X L tg _ hE A) (cwV 2 hts gM_152 rfl rfl rfl (by decide +kernel) ⟨Nat.le_of_ble_eq_true rfl, Nat.le_of_ble_eq_true rfl⟩) (er_preV hK hV hi0 (cR_0 _ _ _) rfl) rfl rfl hl.1 rfl (lv_room (Nat.le_of_ble_eq_true rfl)) dM_act_157 ⟨Nat.le_of_ble_eq_true rfl, Nat.le_of_ble_eq_true rfl⟩) hV hS hA (fun r u H locs hp hV hS => ?_)
      obtain ⟨rfl, rfl⟩ := hp
      refine lv_if_eq (tgt := 165) hx hb dM_act_160 rfl (fun h9 => absurd h9 (by decide)) (fun _ => ?_)
      refine lv_iconst (v := 0) hx hb dM_act_163 (by decide) ?_
      exact er_iret hx hb hr hlocks hV hS dM_act_164 ⟨Eq.symm (by unfold s_act_11; simp only [if_neg h1, if_pos h2]), Eq.symm (by unfold s_act_11; simp only [if_neg h1, if_pos h2])⟩

def s_act_12 (A : ew_R) (b : Nat) (ln : Nat) (cc : Int32) (nl : Nat) (rq : Nat) (w : Nat) (lg : Nat) : Int32 × ew_R :=
  if A 22 0 ((6 * ln) + b) = 0 then
    (0, up3 A 0 0 0 1)
  else
    if s_maySupplier_12 A ln b cc = 0 then
      (0, up3 A 0 0 0 2)
    else
      ((s_stepSupplier_12 (up3 A 0 0 0 0) ln b cc w lg) 23 0 ((6 * ln) + b), (s_stepSupplier_12 (up3 A 0 0 0 0) ln b cc w lg))
set_option maxHeartbeats 4000000 in
set_option maxRecDepth 100000 in
theorem r_act_12 (l : Launch) (D : va_G) (T : Nat → ClassId) (X : Nat → Nat → Nat) (L : List Nat) (tg : Nat → Nat × Nat) (sz : Nat) (hE : eR_E X L tg) (A : ew_R) (b : Nat) (ln : Nat) (cc : Int32) (nl : Nat) (rq : Nat) (w : Nat) (lg : Nat) (hb6 : b < 6) (hnl : ln < nl) (hn2 : nl ≤ 32) (q2 : A 0 0 2 = nI nl) (hrq : rq < 6) (q11 : A 11 0 ln = nI rq) (hbr : ¬ b = rq) (hw : w ≤ 64) (hq : A 0 0 4 = nI w) (hlg : lg < 3000) (hg : A 0 0 5 = nI lg) : Met l yM_act wsM_act ({ frames := 5, cells := 0, slots := 0, locals := 114 }) (er_Pc D vwCl (tysA T) (cfR T) X L tg A sz [.ref (X 0 0), .int (nI b), .int (nI ln), .int 12, .int cc]) (er_Qi D vwCl (cfR T) X L tg sz (fun r u => r = (s_act_12 A b ln cc nl rq w lg).1 ∧ u = (s_act_12 A b ln cc nl rq w lg).2)) 0 0 (ew_A L sz) := by
  refine er_met (by decide) rfl (Nat.le_of_ble_eq_true rfl) ?_
  intro p e s m below meth c ls hx hb hr hts hown hlocks hml hV hK hS hA hl hsz
  subst hsz
  have hi0 := hE 0 (by decide)
  have hl : lv_has ls 8 [(0, .ref (X 0 0)), (1, .int (nI b)), (2, .int (nI ln)), (3, .int 12), (4, .int cc)] := hl
  refine lv_aload_n hx hb dM_act_0 rfl (lv_at hl 0 rfl) ?_
  refine lv_iload_n hx hb dM_act_1 rfl (lv_at hl 2 rfl) ?_
  refine er_calli (va_runV (As := [.int (nI ln)]) (rest := []) ⟨hx, hb, hml, hown, hts⟩ (r_isLoan l D T X L tg _ hE A (nI ln)) (cwV 1 hts gM_172 rfl rfl rfl (by decide +kernel) ⟨Nat.le_of_ble_eq_true rfl, Nat.le_of_ble_eq_true rfl⟩) (er_preV hK hV hi0 (cR_0 _ _ _) rfl) rfl rfl hl.1 rfl (lv_room (Nat.le_of_ble_eq_true rfl)) dM_act_2 ⟨Nat.le_of_ble_eq_true rfl, Nat.le_of_ble_eq_true rfl⟩) hV hS hA (fun r u H locs hp hV hS => ?_)
  obtain ⟨rfl, eu9⟩ := hp
  rw [eu9] at hV
  refine lv_toe (y := 1) (s_isLoan_1 q2 hnl hn2) ?_
  refine lv_if_eq (tgt := 29) hx hb dM_act_5 rfl (fun h9 => absurd h9 (by decide)) (fun _ => ?_)
  refine lv_iload_n hx hb dM_act_8 rfl (lv_at hl 1 rfl) ?_
  refine er_calli (va_runS (As := [.int (nI b)]) (rest := []) ⟨hx, hb, hml, hown, hts⟩ (r_isLibrary l D T X L tg _ hE A (nI b)) (cwS 1 hts gM_142 rfl rfl rfl (by decide +kernel) ⟨Nat.le_of_ble_eq_true rfl, Nat.le_of_ble_eq_true rfl⟩) (er_preS hK hV) rfl rfl hl.1 rfl (lv_room (Nat.le_of_ble_eq_true rfl)) dM_act_9 ⟨Nat.le_of_ble_eq_true rfl, Nat.le_of_ble_eq_true rfl⟩) hV hS hA (fun r u H locs hp hV hS => ?_)
  obtain ⟨rfl, eu9⟩ := hp
  rw [eu9] at hV
  refine lv_toe (y := 1) (s_isLibrary_1 hb6) ?_
  refine lv_if_eq (tgt := 29) hx hb dM_act_12 rfl (fun h9 => absurd h9 (by decide)) (fun _ => ?_)
  refine lv_iload_n hx hb dM_act_15 rfl (lv_at hl 1 rfl) ?_
  refine lv_aload_n hx hb dM_act_16 rfl (lv_at hl 0 rfl) ?_
  refine ew_get (v := .ref (X 11 0)) hx hb hts hown hK hV fM_25 hi0 (cR_0 _ _ _) rfl dM_act_17 ?_
  refine lv_iload_n hx hb dM_act_20 rfl (lv_at hl 2 rfl) ?_
  refine ew_iald (v := A 11 0 ln) hx hb hK hV (hE 11 (by decide)) (cR_11 _ _ _) 0 rfl (vp_in_nI (by omega) (by decide)) (er_ix (by omega) rfl) dM_act_21 ?_
  refine lv_toe (y := nI rq) q11 ?_
  refine lv_icmp_ne (tgt := 29) hx hb dM_act_22 rfl (fun _ => ?_) (fun h9 => absurd h9 (fun z9 => hbr ((nI_eq (a := b) (b := rq) (by omega) (by omega)).mp z9)))
  refine lv_iconst (v := 0) hx hb dM_act_29 (by decide) ?_
  refine lv_istore (lv' := [(5, .int 0), (0, .ref (X 0 0)), (1, .int (nI b)), (2, .int (nI ln)), (3, .int 12), (4, .int cc)]) hx hb dM_act_30 hl (by decide) rfl (fun ls hl => ?_)
  refine lv_aload_n hx hb dM_act_32 rfl (lv_at hl 1 rfl) ?_
  refine lv_iload_n hx hb dM_act_33 rfl (lv_at hl 3 rfl) ?_
  refine er_calli (va_runV (As := [.int (nI ln)]) (rest := []) ⟨hx, hb, hml, hown, hts⟩ (r_isLoan l D T X L tg _ hE A (nI ln)) (cwV 1 hts gM_172 rfl rfl rfl (by decide +kernel) ⟨Nat.le_of_ble_eq_true rfl, Nat.le_of_ble_eq_true rfl⟩) (er_preV hK hV hi0 (cR_0 _ _ _) rfl) rfl rfl hl.1 rfl (lv_room (Nat.le_of_ble_eq_true rfl)) dM_act_34 ⟨Nat.le_of_ble_eq_true rfl, Nat.le_of_ble_eq_true rfl⟩) hV hS hA (fun r u H locs hp hV hS => ?_)
  obtain ⟨rfl, eu9⟩ := hp
  rw [eu9] at hV
  refine lv_toe (y := 1) (s_isLoan_1 q2 hnl hn2) ?_
  refine lv_if_eq (tgt := 65) hx hb dM_act_37 rfl (fun h9 => absurd h9 (by decide)) (fun _ => ?_)
  refine lv_iload_n hx hb dM_act_40 rfl (lv_at hl 2 rfl) ?_
  refine er_calli (va_runS (As := [.int (nI b)]) (rest := []) ⟨hx, hb, hml, hown, hts⟩ (r_isLibrary l D T X L tg _ hE A (nI b)) (cwS 1 hts gM_142 rfl rfl rfl (by decide +kernel) ⟨Nat.le_of_ble_eq_true rfl, Nat.le_of_ble_eq_true rfl⟩) (er_preS hK hV) rfl rfl hl.1 rfl (lv_room (Nat.le_of_ble_eq_true rfl)) dM_act_41 ⟨Nat.le_of_ble_eq_true rfl, Nat.le_of_ble_eq_true rfl⟩) hV hS hA (fun r u H locs hp hV hS => ?_)
  obtain ⟨rfl, eu9⟩ := hp
  rw [eu9] at hV
  refine lv_toe (y := 1) (s_isLibrary_1 hb6) ?_
  refine lv_if_eq (tgt := 65) hx hb dM_act_44 rfl (fun h9 => absurd h9 (by decide)) (fun _ => ?_)
  refine lv_aload_n hx hb dM_act_47 rfl (lv_at hl 1 rfl) ?_
  refine ew_get (v := .ref (X 22 0)) hx hb hts hown hK hV fM_58 hi0 (cR_0 _ _ _) rfl dM_act_48 ?_
  refine lv_bipush (v := 6) hx hb dM_act_51 (by decide) ?_
  refine lv_iload_n hx hb dM_act_53 rfl (lv_at hl 3 rfl) ?_
  refine lv_imul hx hb dM_act_54 ?_
  refine lv_toe (y := nI (6 * ln)) (pk_mul 6 ln) ?_
  refine lv_iload_n hx hb dM_act_55 rfl (lv_at hl 2 rfl) ?_
  refine lv_iadd hx hb dM_act_56 ?_
  refine lv_toe (y := nI ((6 * ln) + b)) (nI_add (6 * ln) b) ?_
  refine ew_zald (v := A 22 0 ((6 * ln) + b)) hx hb hK hV (hE 22 (by decide)) (cR_22 _ _ _) 1 rfl (vp_in_nI (by omega) (by decide)) (er_ix (by omega) rfl) dM_act_57 ?_
  refine lv_if_eq (tgt := 65) hx hb dM_act_58 rfl (fun h1 => ?_) (fun h1 => ?_)
  · refine lv_iconst (v := 0) hx hb dM_act_65 (by decide) ?_
    refine lv_istore (lv' := [(6, .int 0), (5, .int 0), (0, .ref (X 0 0)), (1, .int (nI b)), (2, .int (nI ln)), (3, .int 12), (4, .int cc)]) hx hb dM_act_66 hl (by decide) rfl (fun ls hl => ?_)
    refine lv_iload_n hx hb dM_act_68 rfl (lv_at hl 5 rfl) ?_
    refine lv_if_lt (tgt := 83) hx hb dM_act_69 rfl (fun h9 => absurd h9 (by decide)) (fun _ => ?_)
    refine lv_iload_n hx hb dM_act_72 rfl (lv_at hl 5 rfl) ?_
    refine lv_bipush (v := 7) hx hb dM_act_73 (by decide) ?_
    refine lv_icmp_ge (tgt := 83) hx hb dM_act_75 rfl (fun _ => ?_) (fun h9 => absurd (by decide) h9)
    refine lv_iload_n hx hb dM_act_83 rfl (lv_at hl 5 rfl) ?_
    refine lv_bipush (v := 6) hx hb dM_act_84 (by decide) ?_
    refine lv_icmp_le (tgt := 104) hx hb dM_act_86 rfl (fun h9 => absurd h9 (by decide)) (fun _ => ?_)
    refine lv_iload_n hx hb dM_act_89 rfl (lv_at hl 5 rfl) ?_
    refine lv_bipush (v := 15) hx hb dM_act_90 (by decide) ?_
    refine lv_icmp_ge (tgt := 104) hx hb dM_act_92 rfl (fun h9 => absurd h9 (by decide)) (fun _ => ?_)
    refine lv_iload hx hb dM_act_95 (lv_at hl 0 rfl) ?_
    refine lv_if_eq (tgt := 104) hx hb dM_act_97 rfl (fun _ => ?_) (fun h9 => absurd (by decide) h9)
    refine lv_iconst (v := 0) hx hb dM_act_104 (by decide) ?_
    refine lv_istore (lv' := [(7, .int 0), (6, .int 0), (5, .int 0), (0, .ref (X 0 0)), (1, .int (nI b)), (2, .int (nI ln)), (3, .int 12), (4, .int cc)]) hx hb dM_act_105 hl (by decide) rfl (fun ls hl => ?_)
    refine lv_aload_n hx hb dM_act_107 rfl (lv_at hl 3 rfl) ?_
    refine lv_iload hx hb dM_act_108 (lv_at hl 0 rfl) ?_
    refine lv_if_ne (tgt := 117) hx hb dM_act_110 rfl (fun h9 => absurd (by decide) h9) (fun _ => ?_)
    refine lv_iconst (v := 1) hx hb dM_act_113 (by decide) ?_
    refine lv_goto (tgt := 118) hx hb dM_act_114 rfl ?_
    refine lv_iload hx hb dM_act_118 (lv_at hl 0 rfl) ?_
    refine lv_if_eq (tgt := 156) hx hb dM_act_120 rfl (fun _ => ?_) (fun h9 => absurd (by decide) h9)
    refine lv_iconst (v := 0) hx hb dM_act_156 (by decide) ?_
    refine er_calli (va_runV (As := [.int 1, .int 0]) (rest := []) ⟨hx, hb, hml, hown, hts⟩ (r_refuses_a l D T X L tg _ hE A 0) (cwV 2 hts gM_152 rfl rfl rfl (by decide +kernel) ⟨Nat.le_of_ble_eq_true rfl, Nat.le_of_ble_eq_true rfl⟩) (er_preV hK hV hi0 (cR_0 _ _ _) rfl) rfl rfl hl.1 rfl (lv_room (Nat.le_of_ble_eq_true rfl)) dM_act_157 ⟨Nat.le_of_ble_eq_true rfl, Nat.le_of_ble_eq_true rfl⟩) hV hS hA (fun r u H locs hp hV hS => ?_)
    obtain ⟨rfl, rfl⟩ := hp
    refine lv_if_eq (tgt := 165) hx hb dM_act_160 rfl (fun h9 => absurd h9 (by decide)) (fun _ => ?_)
    refine lv_iconst (v := 0) hx hb dM_act_163 (by decide) ?_
    exact er_iret hx hb hr hlocks hV hS dM_act_164 ⟨Eq.symm (by unfold s_act_12; simp only [if_pos h1]), Eq.symm (by unfold s_act_12; simp only [if_pos h1])⟩
  · refine lv_iconst (v := 1) hx hb dM_act_61 (by decide) ?_
    refine lv_goto (tgt := 66) hx hb dM_act_62 rfl ?_
    refine lv_istore (lv' := [(6, .int 1), (5, .int 0), (0, .ref (X 0 0)), (1, .int (nI b)), (2, .int (nI ln)), (3, .int 12), (4, .int cc)]) hx hb dM_act_66 hl (by decide) rfl (fun ls hl => ?_)
    refine lv_iload_n hx hb dM_act_68 rfl (lv_at hl 5 rfl) ?_
    refine lv_if_lt (tgt := 83) hx hb dM_act_69 rfl (fun h9 => absurd h9 (by decide)) (fun _ => ?_)
    refine lv_iload_n hx hb dM_act_72 rfl (lv_at hl 5 rfl) ?_
    refine lv_bipush (v := 7) hx hb dM_act_73 (by decide) ?_
    refine lv_icmp_ge (tgt := 83) hx hb dM_act_75 rfl (fun _ => ?_) (fun h9 => absurd (by decide) h9)
    refine lv_iload_n hx hb dM_act_83 rfl (lv_at hl 5 rfl) ?_
    refine lv_bipush (v := 6) hx hb dM_act_84 (by decide) ?_
    refine lv_icmp_le (tgt := 104) hx hb dM_act_86 rfl (fun h9 => absurd h9 (by decide)) (fun _ => ?_)
    refine lv_iload_n hx hb dM_act_89 rfl (lv_at hl 5 rfl) ?_
    refine lv_bipush (v := 15) hx hb dM_act_90 (by decide) ?_
    refine lv_icmp_ge (tgt := 104) hx hb dM_act_92 rfl (fun h9 => absurd h9 (by decide)) (fun _ => ?_)
    refine lv_iload hx hb dM_act_95 (lv_at hl 0 rfl) ?_
    refine lv_if_eq (tgt := 104) hx hb dM_act_97 rfl (fun h9 => absurd h9 (by decide)) (fun _ => ?_)
    refine lv_iconst (v := 1) hx hb dM_act_100 (by decide) ?_
    refine lv_goto (tgt := 105) hx hb dM_act_101 rfl ?_
    refine lv_istore (lv' := [(7, .int 1), (6, .int 1), (5, .int 0), (0, .ref (X 0 0)), (1, .int (nI b)), (2, .int (nI ln)), (3, .int 12), (4, .int cc)]) hx hb dM_act_105 hl (by decide) rfl (fun ls hl => ?_)
    refine lv_aload_n hx hb dM_act_107 rfl (lv_at hl 3 rfl) ?_
    refine lv_iload hx hb dM_act_108 (lv_at hl 0 rfl) ?_
    refine lv_if_ne (tgt := 117) hx hb dM_act_110 rfl (fun _ => ?_) (fun h9 => absurd h9 (by decide))
    refine lv_iconst (v := 0) hx hb dM_act_117 (by decide) ?_
    refine lv_iload hx hb dM_act_118 (lv_at hl 0 rfl) ?_
    refine lv_if_eq (tgt := 156) hx hb dM_act_120 rfl (fun h9 => absurd h9 (by decide)) (fun _ => ?_)
    refine lv_iload hx hb dM_act_123 (lv_at hl 2 rfl) ?_
    refine lv_if_eq (tgt := 140) hx hb dM_act_125 rfl (fun _ => ?_) (fun h9 => absurd (by decide) h9)
    refine lv_aload_n hx hb dM_act_140 rfl (lv_at hl 3 rfl) ?_
    refine lv_iload_n hx hb dM_act_141 rfl (lv_at hl 5 rfl) ?_
    refine lv_iload_n hx hb dM_act_142 rfl (lv_at hl 4 rfl) ?_
    refine lv_iload_n hx hb dM_act_143 rfl (lv_at hl 6 rfl) ?_
    refine lv_iload hx hb dM_act_144 (lv_at hl 7 rfl) ?_
    refine er_calli (va_runV (As := [.int (nI ln), .int (nI b), .int 12, .int cc]) (rest := [.int 0, .ref (X 0 0)]) ⟨hx, hb, hml, hown, hts⟩ (r_maySupplier_12 l D T X L tg _ hE A ln b cc (by omega) hb6) (cwV 4 hts gM_179 rfl rfl rfl (by decide +kernel) ⟨Nat.le_of_ble_eq_true rfl, Nat.le_of_ble_eq_true rfl⟩) (er_preV hK hV hi0 (cR_0 _ _ _) rfl) rfl rfl hl.1 rfl (lv_room (Nat.le_of_ble_eq_true rfl)) dM_act_146 ⟨Nat.le_of_ble_eq_true rfl, Nat.le_of_ble_eq_true rfl⟩) hV hS hA (fun r u H locs hp hV hS => ?_)
    obtain ⟨rfl, eu9⟩ := hp
    rw [eu9] at hV
    refine lv_if_ne (tgt := 156) hx hb dM_act_149 rfl (fun h2 => ?_) (fun h2 => ?_)
    · refine lv_iconst (v := 0) hx hb dM_act_156 (by decide) ?_
      refine er_calli (va_runV (As := [.int 0, .int 0]) (rest := []) ⟨hx, hb, hml, hown, hts⟩ (r_refuses_c l D T X L tg _ hE A) (cwV 2 hts gM_152 rfl rfl rfl (by decide +kernel) ⟨Nat.le_of_ble_eq_true rfl, Nat.le_of_ble_eq_true rfl⟩) (er_preV hK hV hi0 (cR_0 _ _ _) rfl) rfl rfl hl.1 rfl (lv_room (Nat.le_of_ble_eq_true rfl)) dM_act_157 ⟨Nat.le_of_ble_eq_true rfl, Nat.le_of_ble_eq_true rfl⟩) hV hS hA (fun r u H locs hp hV hS => ?_)
      obtain ⟨rfl, rfl⟩ := hp
      refine lv_if_eq (tgt := 165) hx hb dM_act_160 rfl (fun _ => ?_) (fun h9 => absurd (by decide) h9)
      refine lv_iload hx hb dM_act_165 (lv_at hl 2 rfl) ?_
      refine lv_if_eq (tgt := 179) hx hb dM_act_167 rfl (fun _ => ?_) (fun h9 => absurd (by decide) h9)
      refine lv_aload_n hx hb dM_act_179 rfl (lv_at hl 3 rfl) ?_
      refine lv_iload_n hx hb dM_act_180 rfl (lv_at hl 5 rfl) ?_
      refine lv_iload_n hx hb dM_act_181 rfl (lv_at hl 4 rfl) ?_
      refine lv_iload_n hx hb dM_act_182 rfl (lv_at hl 6 rfl) ?_
      refine lv_iload hx hb dM_act_183 (lv_at hl 7 rfl) ?_
      refine er_callv (va_runV (As := [.int (nI ln), .int (nI b), .int 12, .int cc]) (rest := []) ⟨hx, hb, hml, hown, hts⟩ (r_stepSupplier_12 l D T X L tg _ hE (up3 A 0 0 0 0) ln b cc w lg (by omega) hb6 hw hq hlg hg) (cwV 4 hts gM_186 rfl rfl rfl (by decide +kernel) ⟨Nat.le_of_ble_eq_true rfl, Nat.le_of_ble_eq_true rfl⟩) (er_preV hK hV hi0 (cR_0 _ _ _) rfl) rfl rfl hl.1 rfl (lv_room (Nat.le_of_ble_eq_true rfl)) dM_act_185 ⟨Nat.le_of_ble_eq_true rfl, Nat.le_of_ble_eq_true rfl⟩) hV hS hA (fun u3 H locs eu3 hV hS => ?_)
      have eu3 : u3 = s_stepSupplier_12 (up3 A 0 0 0 0) ln b cc w lg := eu3
      refine lv_iload hx hb dM_act_188 (lv_at hl 2 rfl) ?_
      refine lv_if_eq (tgt := 202) hx hb dM_act_190 rfl (fun _ => ?_) (fun h9 => absurd (by decide) h9)
      refine lv_aload_n hx hb dM_act_202 rfl (lv_at hl 3 rfl) ?_
      refine ew_get (v := .ref (X 23 0)) hx hb hts hown hK hV fM_62 hi0 (cR_0 _ _ _) rfl dM_act_203 ?_
      refine lv_bipush (v := 6) hx hb dM_act_206 (by decide) ?_
      refine lv_iload_n hx hb dM_act_208 rfl (lv_at hl 5 rfl) ?_
      refine lv_imul hx hb dM_act_209 ?_
      refine lv_toe (y := nI (6 * ln)) (pk_mul 6 ln) ?_
      refine lv_iload_n hx hb dM_act_210 rfl (lv_at hl 4 rfl) ?_
      refine lv_iadd hx hb dM_act_211 ?_
      refine lv_toe (y := nI ((6 * ln) + b)) (nI_add (6 * ln) b) ?_
      refine ew_iald (v := u3 23 0 ((6 * ln) + b)) hx hb hK hV (hE 23 (by decide)) (cR_23 _ _ _) 0 rfl (vp_in_nI (by omega) (by decide)) (er_ix (by omega) rfl) dM_act_212 ?_
      subst eu3
      exact er_iret hx hb hr hlocks hV hS dM_act_213 ⟨Eq.symm (by unfold s_act_12; simp only [if_neg h1, if_neg h2]), Eq.symm (by unfold s_act_12; simp only [if_neg h1, if_neg h2])⟩
    · refine lv_iconst (v := 1) hx hb dM_act_152 (by decide) ?_
      refine lv_goto (tgt := 157) hx hb dM_act_153 rfl ?_
      refine er_calli (va_runV (As := [.int 0, .int 1]) (rest := []) ⟨hx, hb, hml, hown, hts⟩ (r_refuses_b l D T X L tg _ hE A) (cwV 2 hts gM_152 rfl rfl rfl (by decide +kernel) ⟨Nat.le_of_ble_eq_true rfl, Nat.le_of_ble_eq_true rfl⟩) (er_preV hK hV hi0 (cR_0 _ _ _) rfl) rfl rfl hl.1 rfl (lv_room (Nat.le_of_ble_eq_true rfl)) dM_act_157 ⟨Nat.le_of_ble_eq_true rfl, Nat.le_of_ble_eq_true rfl⟩) hV hS hA (fun r u H locs hp hV hS => ?_)
      obtain ⟨rfl, rfl⟩ := hp
      refine lv_if_eq (tgt := 165) hx hb dM_act_160 rfl (fun h9 => absurd h9 (by decide)) (fun _ => ?_)
      refine lv_iconst (v := 0) hx hb dM_act_163 (by decide) ?_
      exact er_iret hx hb hr hlocks hV hS dM_act_164 ⟨Eq.symm (by unfold s_act_12; simp only [if_neg h1, if_pos h2]), Eq.symm (by unfold s_act_12; simp only [if_neg h1, if_pos h2])⟩

def s_act_13 (A : ew_R) (b : Nat) (ln : Nat) (cc : Int32) (nl : Nat) (rq : Nat) (w : Nat) (lg : Nat) : Int32 × ew_R :=
  if A 22 0 ((6 * ln) + b) = 0 then
    (0, up3 A 0 0 0 1)
  else
    if s_maySupplier_13 A ln b cc = 0 then
      (0, up3 A 0 0 0 2)
    else
      ((s_stepSupplier_13 (up3 A 0 0 0 0) ln b cc w lg) 23 0 ((6 * ln) + b), (s_stepSupplier_13 (up3 A 0 0 0 0) ln b cc w lg))
set_option maxHeartbeats 4000000 in
set_option maxRecDepth 100000 in
theorem r_act_13 (l : Launch) (D : va_G) (T : Nat → ClassId) (X : Nat → Nat → Nat) (L : List Nat) (tg : Nat → Nat × Nat) (sz : Nat) (hE : eR_E X L tg) (A : ew_R) (b : Nat) (ln : Nat) (cc : Int32) (nl : Nat) (rq : Nat) (w : Nat) (lg : Nat) (hb6 : b < 6) (hnl : ln < nl) (hn2 : nl ≤ 32) (q2 : A 0 0 2 = nI nl) (hrq : rq < 6) (q11 : A 11 0 ln = nI rq) (hbr : ¬ b = rq) (hw : w ≤ 64) (hq : A 0 0 4 = nI w) (hlg : lg < 3000) (hg : A 0 0 5 = nI lg) : Met l yM_act wsM_act ({ frames := 5, cells := 0, slots := 0, locals := 114 }) (er_Pc D vwCl (tysA T) (cfR T) X L tg A sz [.ref (X 0 0), .int (nI b), .int (nI ln), .int 13, .int cc]) (er_Qi D vwCl (cfR T) X L tg sz (fun r u => r = (s_act_13 A b ln cc nl rq w lg).1 ∧ u = (s_act_13 A b ln cc nl rq w lg).2)) 0 0 (ew_A L sz) := by
  refine er_met (by decide) rfl (Nat.le_of_ble_eq_true rfl) ?_
  intro p e s m below meth c ls hx hb hr hts hown hlocks hml hV hK hS hA hl hsz
  subst hsz
  have hi0 := hE 0 (by decide)
  have hl : lv_has ls 8 [(0, .ref (X 0 0)), (1, .int (nI b)), (2, .int (nI ln)), (3, .int 13), (4, .int cc)] := hl
  refine lv_aload_n hx hb dM_act_0 rfl (lv_at hl 0 rfl) ?_
  refine lv_iload_n hx hb dM_act_1 rfl (lv_at hl 2 rfl) ?_
  refine er_calli (va_runV (As := [.int (nI ln)]) (rest := []) ⟨hx, hb, hml, hown, hts⟩ (r_isLoan l D T X L tg _ hE A (nI ln)) (cwV 1 hts gM_172 rfl rfl rfl (by decide +kernel) ⟨Nat.le_of_ble_eq_true rfl, Nat.le_of_ble_eq_true rfl⟩) (er_preV hK hV hi0 (cR_0 _ _ _) rfl) rfl rfl hl.1 rfl (lv_room (Nat.le_of_ble_eq_true rfl)) dM_act_2 ⟨Nat.le_of_ble_eq_true rfl, Nat.le_of_ble_eq_true rfl⟩) hV hS hA (fun r u H locs hp hV hS => ?_)
  obtain ⟨rfl, eu9⟩ := hp
  rw [eu9] at hV
  refine lv_toe (y := 1) (s_isLoan_1 q2 hnl hn2) ?_
  refine lv_if_eq (tgt := 29) hx hb dM_act_5 rfl (fun h9 => absurd h9 (by decide)) (fun _ => ?_)
  refine lv_iload_n hx hb dM_act_8 rfl (lv_at hl 1 rfl) ?_
  refine er_calli (va_runS (As := [.int (nI b)]) (rest := []) ⟨hx, hb, hml, hown, hts⟩ (r_isLibrary l D T X L tg _ hE A (nI b)) (cwS 1 hts gM_142 rfl rfl rfl (by decide +kernel) ⟨Nat.le_of_ble_eq_true rfl, Nat.le_of_ble_eq_true rfl⟩) (er_preS hK hV) rfl rfl hl.1 rfl (lv_room (Nat.le_of_ble_eq_true rfl)) dM_act_9 ⟨Nat.le_of_ble_eq_true rfl, Nat.le_of_ble_eq_true rfl⟩) hV hS hA (fun r u H locs hp hV hS => ?_)
  obtain ⟨rfl, eu9⟩ := hp
  rw [eu9] at hV
  refine lv_toe (y := 1) (s_isLibrary_1 hb6) ?_
  refine lv_if_eq (tgt := 29) hx hb dM_act_12 rfl (fun h9 => absurd h9 (by decide)) (fun _ => ?_)
  refine lv_iload_n hx hb dM_act_15 rfl (lv_at hl 1 rfl) ?_
  refine lv_aload_n hx hb dM_act_16 rfl (lv_at hl 0 rfl) ?_
  refine ew_get (v := .ref (X 11 0)) hx hb hts hown hK hV fM_25 hi0 (cR_0 _ _ _) rfl dM_act_17 ?_
  refine lv_iload_n hx hb dM_act_20 rfl (lv_at hl 2 rfl) ?_
  refine ew_iald (v := A 11 0 ln) hx hb hK hV (hE 11 (by decide)) (cR_11 _ _ _) 0 rfl (vp_in_nI (by omega) (by decide)) (er_ix (by omega) rfl) dM_act_21 ?_
  refine lv_toe (y := nI rq) q11 ?_
  refine lv_icmp_ne (tgt := 29) hx hb dM_act_22 rfl (fun _ => ?_) (fun h9 => absurd h9 (fun z9 => hbr ((nI_eq (a := b) (b := rq) (by omega) (by omega)).mp z9)))
  refine lv_iconst (v := 0) hx hb dM_act_29 (by decide) ?_
  refine lv_istore (lv' := [(5, .int 0), (0, .ref (X 0 0)), (1, .int (nI b)), (2, .int (nI ln)), (3, .int 13), (4, .int cc)]) hx hb dM_act_30 hl (by decide) rfl (fun ls hl => ?_)
  refine lv_aload_n hx hb dM_act_32 rfl (lv_at hl 1 rfl) ?_
  refine lv_iload_n hx hb dM_act_33 rfl (lv_at hl 3 rfl) ?_
  refine er_calli (va_runV (As := [.int (nI ln)]) (rest := []) ⟨hx, hb, hml, hown, hts⟩ (r_isLoan l D T X L tg _ hE A (nI ln)) (cwV 1 hts gM_172 rfl rfl rfl (by decide +kernel) ⟨Nat.le_of_ble_eq_true rfl, Nat.le_of_ble_eq_true rfl⟩) (er_preV hK hV hi0 (cR_0 _ _ _) rfl) rfl rfl hl.1 rfl (lv_room (Nat.le_of_ble_eq_true rfl)) dM_act_34 ⟨Nat.le_of_ble_eq_true rfl, Nat.le_of_ble_eq_true rfl⟩) hV hS hA (fun r u H locs hp hV hS => ?_)
  obtain ⟨rfl, eu9⟩ := hp
  rw [eu9] at hV
  refine lv_toe (y := 1) (s_isLoan_1 q2 hnl hn2) ?_
  refine lv_if_eq (tgt := 65) hx hb dM_act_37 rfl (fun h9 => absurd h9 (by decide)) (fun _ => ?_)
  refine lv_iload_n hx hb dM_act_40 rfl (lv_at hl 2 rfl) ?_
  refine er_calli (va_runS (As := [.int (nI b)]) (rest := []) ⟨hx, hb, hml, hown, hts⟩ (r_isLibrary l D T X L tg _ hE A (nI b)) (cwS 1 hts gM_142 rfl rfl rfl (by decide +kernel) ⟨Nat.le_of_ble_eq_true rfl, Nat.le_of_ble_eq_true rfl⟩) (er_preS hK hV) rfl rfl hl.1 rfl (lv_room (Nat.le_of_ble_eq_true rfl)) dM_act_41 ⟨Nat.le_of_ble_eq_true rfl, Nat.le_of_ble_eq_true rfl⟩) hV hS hA (fun r u H locs hp hV hS => ?_)
  obtain ⟨rfl, eu9⟩ := hp
  rw [eu9] at hV
  refine lv_toe (y := 1) (s_isLibrary_1 hb6) ?_
  refine lv_if_eq (tgt := 65) hx hb dM_act_44 rfl (fun h9 => absurd h9 (by decide)) (fun _ => ?_)
  refine lv_aload_n hx hb dM_act_47 rfl (lv_at hl 1 rfl) ?_
  refine ew_get (v := .ref (X 22 0)) hx hb hts hown hK hV fM_58 hi0 (cR_0 _ _ _) rfl dM_act_48 ?_
  refine lv_bipush (v := 6) hx hb dM_act_51 (by decide) ?_
  refine lv_iload_n hx hb dM_act_53 rfl (lv_at hl 3 rfl) ?_
  refine lv_imul hx hb dM_act_54 ?_
  refine lv_toe (y := nI (6 * ln)) (pk_mul 6 ln) ?_
  refine lv_iload_n hx hb dM_act_55 rfl (lv_at hl 2 rfl) ?_
  refine lv_iadd hx hb dM_act_56 ?_
  refine lv_toe (y := nI ((6 * ln) + b)) (nI_add (6 * ln) b) ?_
  refine ew_zald (v := A 22 0 ((6 * ln) + b)) hx hb hK hV (hE 22 (by decide)) (cR_22 _ _ _) 1 rfl (vp_in_nI (by omega) (by decide)) (er_ix (by omega) rfl) dM_act_57 ?_
  refine lv_if_eq (tgt := 65) hx hb dM_act_58 rfl (fun h1 => ?_) (fun h1 => ?_)
  · refine lv_iconst (v := 0) hx hb dM_act_65 (by decide) ?_
    refine lv_istore (lv' := [(6, .int 0), (5, .int 0), (0, .ref (X 0 0)), (1, .int (nI b)), (2, .int (nI ln)), (3, .int 13), (4, .int cc)]) hx hb dM_act_66 hl (by decide) rfl (fun ls hl => ?_)
    refine lv_iload_n hx hb dM_act_68 rfl (lv_at hl 5 rfl) ?_
    refine lv_if_lt (tgt := 83) hx hb dM_act_69 rfl (fun h9 => absurd h9 (by decide)) (fun _ => ?_)
    refine lv_iload_n hx hb dM_act_72 rfl (lv_at hl 5 rfl) ?_
    refine lv_bipush (v := 7) hx hb dM_act_73 (by decide) ?_
    refine lv_icmp_ge (tgt := 83) hx hb dM_act_75 rfl (fun _ => ?_) (fun h9 => absurd (by decide) h9)
    refine lv_iload_n hx hb dM_act_83 rfl (lv_at hl 5 rfl) ?_
    refine lv_bipush (v := 6) hx hb dM_act_84 (by decide) ?_
    refine lv_icmp_le (tgt := 104) hx hb dM_act_86 rfl (fun h9 => absurd h9 (by decide)) (fun _ => ?_)
    refine lv_iload_n hx hb dM_act_89 rfl (lv_at hl 5 rfl) ?_
    refine lv_bipush (v := 15) hx hb dM_act_90 (by decide) ?_
    refine lv_icmp_ge (tgt := 104) hx hb dM_act_92 rfl (fun h9 => absurd h9 (by decide)) (fun _ => ?_)
    refine lv_iload hx hb dM_act_95 (lv_at hl 0 rfl) ?_
    refine lv_if_eq (tgt := 104) hx hb dM_act_97 rfl (fun _ => ?_) (fun h9 => absurd (by decide) h9)
    refine lv_iconst (v := 0) hx hb dM_act_104 (by decide) ?_
    refine lv_istore (lv' := [(7, .int 0), (6, .int 0), (5, .int 0), (0, .ref (X 0 0)), (1, .int (nI b)), (2, .int (nI ln)), (3, .int 13), (4, .int cc)]) hx hb dM_act_105 hl (by decide) rfl (fun ls hl => ?_)
    refine lv_aload_n hx hb dM_act_107 rfl (lv_at hl 3 rfl) ?_
    refine lv_iload hx hb dM_act_108 (lv_at hl 0 rfl) ?_
    refine lv_if_ne (tgt := 117) hx hb dM_act_110 rfl (fun h9 => absurd (by decide) h9) (fun _ => ?_)
    refine lv_iconst (v := 1) hx hb dM_act_113 (by decide) ?_
    refine lv_goto (tgt := 118) hx hb dM_act_114 rfl ?_
    refine lv_iload hx hb dM_act_118 (lv_at hl 0 rfl) ?_
    refine lv_if_eq (tgt := 156) hx hb dM_act_120 rfl (fun _ => ?_) (fun h9 => absurd (by decide) h9)
    refine lv_iconst (v := 0) hx hb dM_act_156 (by decide) ?_
    refine er_calli (va_runV (As := [.int 1, .int 0]) (rest := []) ⟨hx, hb, hml, hown, hts⟩ (r_refuses_a l D T X L tg _ hE A 0) (cwV 2 hts gM_152 rfl rfl rfl (by decide +kernel) ⟨Nat.le_of_ble_eq_true rfl, Nat.le_of_ble_eq_true rfl⟩) (er_preV hK hV hi0 (cR_0 _ _ _) rfl) rfl rfl hl.1 rfl (lv_room (Nat.le_of_ble_eq_true rfl)) dM_act_157 ⟨Nat.le_of_ble_eq_true rfl, Nat.le_of_ble_eq_true rfl⟩) hV hS hA (fun r u H locs hp hV hS => ?_)
    obtain ⟨rfl, rfl⟩ := hp
    refine lv_if_eq (tgt := 165) hx hb dM_act_160 rfl (fun h9 => absurd h9 (by decide)) (fun _ => ?_)
    refine lv_iconst (v := 0) hx hb dM_act_163 (by decide) ?_
    exact er_iret hx hb hr hlocks hV hS dM_act_164 ⟨Eq.symm (by unfold s_act_13; simp only [if_pos h1]), Eq.symm (by unfold s_act_13; simp only [if_pos h1])⟩
  · refine lv_iconst (v := 1) hx hb dM_act_61 (by decide) ?_
    refine lv_goto (tgt := 66) hx hb dM_act_62 rfl ?_
    refine lv_istore (lv' := [(6, .int 1), (5, .int 0), (0, .ref (X 0 0)), (1, .int (nI b)), (2, .int (nI ln)), (3, .int 13), (4, .int cc)]) hx hb dM_act_66 hl (by decide) rfl (fun ls hl => ?_)
    refine lv_iload_n hx hb dM_act_68 rfl (lv_at hl 5 rfl) ?_
    refine lv_if_lt (tgt := 83) hx hb dM_act_69 rfl (fun h9 => absurd h9 (by decide)) (fun _ => ?_)
    refine lv_iload_n hx hb dM_act_72 rfl (lv_at hl 5 rfl) ?_
    refine lv_bipush (v := 7) hx hb dM_act_73 (by decide) ?_
    refine lv_icmp_ge (tgt := 83) hx hb dM_act_75 rfl (fun _ => ?_) (fun h9 => absurd (by decide) h9)
    refine lv_iload_n hx hb dM_act_83 rfl (lv_at hl 5 rfl) ?_
    refine lv_bipush (v := 6) hx hb dM_act_84 (by decide) ?_
    refine lv_icmp_le (tgt := 104) hx hb dM_act_86 rfl (fun h9 => absurd h9 (by decide)) (fun _ => ?_)
    refine lv_iload_n hx hb dM_act_89 rfl (lv_at hl 5 rfl) ?_
    refine lv_bipush (v := 15) hx hb dM_act_90 (by decide) ?_
    refine lv_icmp_ge (tgt := 104) hx hb dM_act_92 rfl (fun h9 => absurd h9 (by decide)) (fun _ => ?_)
    refine lv_iload hx hb dM_act_95 (lv_at hl 0 rfl) ?_
    refine lv_if_eq (tgt := 104) hx hb dM_act_97 rfl (fun h9 => absurd h9 (by decide)) (fun _ => ?_)
    refine lv_iconst (v := 1) hx hb dM_act_100 (by decide) ?_
    refine lv_goto (tgt := 105) hx hb dM_act_101 rfl ?_
    refine lv_istore (lv' := [(7, .int 1), (6, .int 1), (5, .int 0), (0, .ref (X 0 0)), (1, .int (nI b)), (2, .int (nI ln)), (3, .int 13), (4, .int cc)]) hx hb dM_act_105 hl (by decide) rfl (fun ls hl => ?_)
    refine lv_aload_n hx hb dM_act_107 rfl (lv_at hl 3 rfl) ?_
    refine lv_iload hx hb dM_act_108 (lv_at hl 0 rfl) ?_
    refine lv_if_ne (tgt := 117) hx hb dM_act_110 rfl (fun _ => ?_) (fun h9 => absurd h9 (by decide))
    refine lv_iconst (v := 0) hx hb dM_act_117 (by decide) ?_
    refine lv_iload hx hb dM_act_118 (lv_at hl 0 rfl) ?_
    refine lv_if_eq (tgt := 156) hx hb dM_act_120 rfl (fun h9 => absurd h9 (by decide)) (fun _ => ?_)
    refine lv_iload hx hb dM_act_123 (lv_at hl 2 rfl) ?_
    refine lv_if_eq (tgt := 140) hx hb dM_act_125 rfl (fun _ => ?_) (fun h9 => absurd (by decide) h9)
    refine lv_aload_n hx hb dM_act_140 rfl (lv_at hl 3 rfl) ?_
    refine lv_iload_n hx hb dM_act_141 rfl (lv_at hl 5 rfl) ?_
    refine lv_iload_n hx hb dM_act_142 rfl (lv_at hl 4 rfl) ?_
    refine lv_iload_n hx hb dM_act_143 rfl (lv_at hl 6 rfl) ?_
    refine lv_iload hx hb dM_act_144 (lv_at hl 7 rfl) ?_
    refine er_calli (va_runV (As := [.int (nI ln), .int (nI b), .int 13, .int cc]) (rest := [.int 0, .ref (X 0 0)]) ⟨hx, hb, hml, hown, hts⟩ (r_maySupplier_13 l D T X L tg _ hE A ln b cc (by omega) hb6) (cwV 4 hts gM_179 rfl rfl rfl (by decide +kernel) ⟨Nat.le_of_ble_eq_true rfl, Nat.le_of_ble_eq_true rfl⟩) (er_preV hK hV hi0 (cR_0 _ _ _) rfl) rfl rfl hl.1 rfl (lv_room (Nat.le_of_ble_eq_true rfl)) dM_act_146 ⟨Nat.le_of_ble_eq_true rfl, Nat.le_of_ble_eq_true rfl⟩) hV hS hA (fun r u H locs hp hV hS => ?_)
    obtain ⟨rfl, eu9⟩ := hp
    rw [eu9] at hV
    refine lv_if_ne (tgt := 156) hx hb dM_act_149 rfl (fun h2 => ?_) (fun h2 => ?_)
    · refine lv_iconst (v := 0) hx hb dM_act_156 (by decide) ?_
      refine er_calli (va_runV (As := [.int 0, .int 0]) (rest := []) ⟨hx, hb, hml, hown, hts⟩ (r_refuses_c l D T X L tg _ hE A) (cwV 2 hts gM_152 rfl rfl rfl (by decide +kernel) ⟨Nat.le_of_ble_eq_true rfl, Nat.le_of_ble_eq_true rfl⟩) (er_preV hK hV hi0 (cR_0 _ _ _) rfl) rfl rfl hl.1 rfl (lv_room (Nat.le_of_ble_eq_true rfl)) dM_act_157 ⟨Nat.le_of_ble_eq_true rfl, Nat.le_of_ble_eq_true rfl⟩) hV hS hA (fun r u H locs hp hV hS => ?_)
      obtain ⟨rfl, rfl⟩ := hp
      refine lv_if_eq (tgt := 165) hx hb dM_act_160 rfl (fun _ => ?_) (fun h9 => absurd (by decide) h9)
      refine lv_iload hx hb dM_act_165 (lv_at hl 2 rfl) ?_
      refine lv_if_eq (tgt := 179) hx hb dM_act_167 rfl (fun _ => ?_) (fun h9 => absurd (by decide) h9)
      refine lv_aload_n hx hb dM_act_179 rfl (lv_at hl 3 rfl) ?_
      refine lv_iload_n hx hb dM_act_180 rfl (lv_at hl 5 rfl) ?_
      refine lv_iload_n hx hb dM_act_181 rfl (lv_at hl 4 rfl) ?_
      refine lv_iload_n hx hb dM_act_182 rfl (lv_at hl 6 rfl) ?_
      refine lv_iload hx hb dM_act_183 (lv_at hl 7 rfl) ?_
      refine er_callv (va_runV (As := [.int (nI ln), .int (nI b), .int 13, .int cc]) (rest := []) ⟨hx, hb, hml, hown, hts⟩ (r_stepSupplier_13 l D T X L tg _ hE (up3 A 0 0 0 0) ln b cc w lg (by omega) hb6 hw hq hlg hg) (cwV 4 hts gM_186 rfl rfl rfl (by decide +kernel) ⟨Nat.le_of_ble_eq_true rfl, Nat.le_of_ble_eq_true rfl⟩) (er_preV hK hV hi0 (cR_0 _ _ _) rfl) rfl rfl hl.1 rfl (lv_room (Nat.le_of_ble_eq_true rfl)) dM_act_185 ⟨Nat.le_of_ble_eq_true rfl, Nat.le_of_ble_eq_true rfl⟩) hV hS hA (fun u3 H locs eu3 hV hS => ?_)
      have eu3 : u3 = s_stepSupplier_13 (up3 A 0 0 0 0) ln b cc w lg := eu3
      refine lv_iload hx hb dM_act_188 (lv_at hl 2 rfl) ?_
      refine lv_if_eq (tgt := 202) hx hb dM_act_190 rfl (fun _ => ?_) (fun h9 => absurd (by decide) h9)
      refine lv_aload_n hx hb dM_act_202 rfl (lv_at hl 3 rfl) ?_
      refine ew_get (v := .ref (X 23 0)) hx hb hts hown hK hV fM_62 hi0 (cR_0 _ _ _) rfl dM_act_203 ?_
      refine lv_bipush (v := 6) hx hb dM_act_206 (by decide) ?_
      refine lv_iload_n hx hb dM_act_208 rfl (lv_at hl 5 rfl) ?_
      refine lv_imul hx hb dM_act_209 ?_
      refine lv_toe (y := nI (6 * ln)) (pk_mul 6 ln) ?_
      refine lv_iload_n hx hb dM_act_210 rfl (lv_at hl 4 rfl) ?_
      refine lv_iadd hx hb dM_act_211 ?_
      refine lv_toe (y := nI ((6 * ln) + b)) (nI_add (6 * ln) b) ?_
      refine ew_iald (v := u3 23 0 ((6 * ln) + b)) hx hb hK hV (hE 23 (by decide)) (cR_23 _ _ _) 0 rfl (vp_in_nI (by omega) (by decide)) (er_ix (by omega) rfl) dM_act_212 ?_
      subst eu3
      exact er_iret hx hb hr hlocks hV hS dM_act_213 ⟨Eq.symm (by unfold s_act_13; simp only [if_neg h1, if_neg h2]), Eq.symm (by unfold s_act_13; simp only [if_neg h1, if_neg h2])⟩
    · refine lv_iconst (v := 1) hx hb dM_act_152 (by decide) ?_
      refine lv_goto (tgt := 157) hx hb dM_act_153 rfl ?_
      refine er_calli (va_runV (As := [.int 0, .int 1]) (rest := []) ⟨hx, hb, hml, hown, hts⟩ (r_refuses_b l D T X L tg _ hE A) (cwV 2 hts gM_152 rfl rfl rfl (by decide +kernel) ⟨Nat.le_of_ble_eq_true rfl, Nat.le_of_ble_eq_true rfl⟩) (er_preV hK hV hi0 (cR_0 _ _ _) rfl) rfl rfl hl.1 rfl (lv_room (Nat.le_of_ble_eq_true rfl)) dM_act_157 ⟨Nat.le_of_ble_eq_true rfl, Nat.le_of_ble_eq_true rfl⟩) hV hS hA (fun r u H locs hp hV hS => ?_)
      obtain ⟨rfl, rfl⟩ := hp
      refine lv_if_eq (tgt := 165) hx hb dM_act_160 rfl (fun h9 => absurd h9 (by decide)) (fun _ => ?_)
      refine lv_iconst (v := 0) hx hb dM_act_163 (by decide) ?_
      exact er_iret hx hb hr hlocks hV hS dM_act_164 ⟨Eq.symm (by unfold s_act_13; simp only [if_neg h1, if_pos h2]), Eq.symm (by unfold s_act_13; simp only [if_neg h1, if_pos h2])⟩

def s_act_14 (A : ew_R) (b : Nat) (ln : Nat) (cc : Int32) (nl : Nat) (rq : Nat) (cp : Nat) (w : Nat) (lg : Nat) : Int32 × ew_R :=
  if A 22 0 ((6 * ln) + b) = 0 then
    (0, up3 A 0 0 0 1)
  else
    if s_maySupplier_14 A ln b cc = 0 then
      (0, up3 A 0 0 0 2)
    else
      ((s_stepSupplier_14 (up3 A 0 0 0 0) ln b cc cp w lg) 23 0 ((6 * ln) + b), (s_stepSupplier_14 (up3 A 0 0 0 0) ln b cc cp w lg))
set_option maxHeartbeats 4000000 in
set_option maxRecDepth 100000 in
theorem r_act_14 (l : Launch) (D : va_G) (T : Nat → ClassId) (X : Nat → Nat → Nat) (L : List Nat) (tg : Nat → Nat × Nat) (sz : Nat) (hE : eR_E X L tg) (A : ew_R) (b : Nat) (ln : Nat) (cc : Int32) (nl : Nat) (rq : Nat) (cp : Nat) (w : Nat) (lg : Nat) (hb6 : b < 6) (hnl : ln < nl) (hn2 : nl ≤ 32) (q2 : A 0 0 2 = nI nl) (hrq : rq < 6) (q11 : A 11 0 ln = nI rq) (hbr : ¬ b = rq) (hcp : cp < 32) (q28 : A 28 0 (6 * ln + b) = nI cp) (hw : w ≤ 64) (hq : A 0 0 4 = nI w) (hlg : lg < 3000) (hg : A 0 0 5 = nI lg) : Met l yM_act wsM_act ({ frames := 5, cells := 0, slots := 0, locals := 114 }) (er_Pc D vwCl (tysA T) (cfR T) X L tg A sz [.ref (X 0 0), .int (nI b), .int (nI ln), .int 14, .int cc]) (er_Qi D vwCl (cfR T) X L tg sz (fun r u => r = (s_act_14 A b ln cc nl rq cp w lg).1 ∧ u = (s_act_14 A b ln cc nl rq cp w lg).2)) 0 0 (ew_A L sz) := by
  refine er_met (by decide) rfl (Nat.le_of_ble_eq_true rfl) ?_
  intro p e s m below meth c ls hx hb hr hts hown hlocks hml hV hK hS hA hl hsz
  subst hsz
  have hi0 := hE 0 (by decide)
  have hl : lv_has ls 8 [(0, .ref (X 0 0)), (1, .int (nI b)), (2, .int (nI ln)), (3, .int 14), (4, .int cc)] := hl
  refine lv_aload_n hx hb dM_act_0 rfl (lv_at hl 0 rfl) ?_
  refine lv_iload_n hx hb dM_act_1 rfl (lv_at hl 2 rfl) ?_
  refine er_calli (va_runV (As := [.int (nI ln)]) (rest := []) ⟨hx, hb, hml, hown, hts⟩ (r_isLoan l D T X L tg _ hE A (nI ln)) (cwV 1 hts gM_172 rfl rfl rfl (by decide +kernel) ⟨Nat.le_of_ble_eq_true rfl, Nat.le_of_ble_eq_true rfl⟩) (er_preV hK hV hi0 (cR_0 _ _ _) rfl) rfl rfl hl.1 rfl (lv_room (Nat.le_of_ble_eq_true rfl)) dM_act_2 ⟨Nat.le_of_ble_eq_true rfl, Nat.le_of_ble_eq_true rfl⟩) hV hS hA (fun r u H locs hp hV hS => ?_)
  obtain ⟨rfl, eu9⟩ := hp
  rw [eu9] at hV
  refine lv_toe (y := 1) (s_isLoan_1 q2 hnl hn2) ?_
  refine lv_if_eq (tgt := 29) hx hb dM_act_5 rfl (fun h9 => absurd h9 (by decide)) (fun _ => ?_)
  refine lv_iload_n hx hb dM_act_8 rfl (lv_at hl 1 rfl) ?_
  refine er_calli (va_runS (As := [.int (nI b)]) (rest := []) ⟨hx, hb, hml, hown, hts⟩ (r_isLibrary l D T X L tg _ hE A (nI b)) (cwS 1 hts gM_142 rfl rfl rfl (by decide +kernel) ⟨Nat.le_of_ble_eq_true rfl, Nat.le_of_ble_eq_true rfl⟩) (er_preS hK hV) rfl rfl hl.1 rfl (lv_room (Nat.le_of_ble_eq_true rfl)) dM_act_9 ⟨Nat.le_of_ble_eq_true rfl, Nat.le_of_ble_eq_true rfl⟩) hV hS hA (fun r u H locs hp hV hS => ?_)
  obtain ⟨rfl, eu9⟩ := hp
  rw [eu9] at hV
  refine lv_toe (y := 1) (s_isLibrary_1 hb6) ?_
  refine lv_if_eq (tgt := 29) hx hb dM_act_12 rfl (fun h9 => absurd h9 (by decide)) (fun _ => ?_)
  refine lv_iload_n hx hb dM_act_15 rfl (lv_at hl 1 rfl) ?_
  refine lv_aload_n hx hb dM_act_16 rfl (lv_at hl 0 rfl) ?_
  refine ew_get (v := .ref (X 11 0)) hx hb hts hown hK hV fM_25 hi0 (cR_0 _ _ _) rfl dM_act_17 ?_
  refine lv_iload_n hx hb dM_act_20 rfl (lv_at hl 2 rfl) ?_
  refine ew_iald (v := A 11 0 ln) hx hb hK hV (hE 11 (by decide)) (cR_11 _ _ _) 0 rfl (vp_in_nI (by omega) (by decide)) (er_ix (by omega) rfl) dM_act_21 ?_
  refine lv_toe (y := nI rq) q11 ?_
  refine lv_icmp_ne (tgt := 29) hx hb dM_act_22 rfl (fun _ => ?_) (fun h9 => absurd h9 (fun z9 => hbr ((nI_eq (a := b) (b := rq) (by omega) (by omega)).mp z9)))
  refine lv_iconst (v := 0) hx hb dM_act_29 (by decide) ?_
  refine lv_istore (lv' := [(5, .int 0), (0, .ref (X 0 0)), (1, .int (nI b)), (2, .int (nI ln)), (3, .int 14), (4, .int cc)]) hx hb dM_act_30 hl (by decide) rfl (fun ls hl => ?_)
  refine lv_aload_n hx hb dM_act_32 rfl (lv_at hl 1 rfl) ?_
  refine lv_iload_n hx hb dM_act_33 rfl (lv_at hl 3 rfl) ?_
  refine er_calli (va_runV (As := [.int (nI ln)]) (rest := []) ⟨hx, hb, hml, hown, hts⟩ (r_isLoan l D T X L tg _ hE A (nI ln)) (cwV 1 hts gM_172 rfl rfl rfl (by decide +kernel) ⟨Nat.le_of_ble_eq_true rfl, Nat.le_of_ble_eq_true rfl⟩) (er_preV hK hV hi0 (cR_0 _ _ _) rfl) rfl rfl hl.1 rfl (lv_room (Nat.le_of_ble_eq_true rfl)) dM_act_34 ⟨Nat.le_of_ble_eq_true rfl, Nat.le_of_ble_eq_true rfl⟩) hV hS hA (fun r u H locs hp hV hS => ?_)
  obtain ⟨rfl, eu9⟩ := hp
  rw [eu9] at hV
  refine lv_toe (y := 1) (s_isLoan_1 q2 hnl hn2) ?_
  refine lv_if_eq (tgt := 65) hx hb dM_act_37 rfl (fun h9 => absurd h9 (by decide)) (fun _ => ?_)
  refine lv_iload_n hx hb dM_act_40 rfl (lv_at hl 2 rfl) ?_
  refine er_calli (va_runS (As := [.int (nI b)]) (rest := []) ⟨hx, hb, hml, hown, hts⟩ (r_isLibrary l D T X L tg _ hE A (nI b)) (cwS 1 hts gM_142 rfl rfl rfl (by decide +kernel) ⟨Nat.le_of_ble_eq_true rfl, Nat.le_of_ble_eq_true rfl⟩) (er_preS hK hV) rfl rfl hl.1 rfl (lv_room (Nat.le_of_ble_eq_true rfl)) dM_act_41 ⟨Nat.le_of_ble_eq_true rfl, Nat.le_of_ble_eq_true rfl⟩) hV hS hA (fun r u H locs hp hV hS => ?_)
  obtain ⟨rfl, eu9⟩ := hp
  rw [eu9] at hV
  refine lv_toe (y := 1) (s_isLibrary_1 hb6) ?_
  refine lv_if_eq (tgt := 65) hx hb dM_act_44 rfl (fun h9 => absurd h9 (by decide)) (fun _ => ?_)
  refine lv_aload_n hx hb dM_act_47 rfl (lv_at hl 1 rfl) ?_
  refine ew_get (v := .ref (X 22 0)) hx hb hts hown hK hV fM_58 hi0 (cR_0 _ _ _) rfl dM_act_48 ?_
  refine lv_bipush (v := 6) hx hb dM_act_51 (by decide) ?_
  refine lv_iload_n hx hb dM_act_53 rfl (lv_at hl 3 rfl) ?_
  refine lv_imul hx hb dM_act_54 ?_
  refine lv_toe (y := nI (6 * ln)) (pk_mul 6 ln) ?_
  refine lv_iload_n hx hb dM_act_55 rfl (lv_at hl 2 rfl) ?_
  refine lv_iadd hx hb dM_act_56 ?_
  refine lv_toe (y := nI ((6 * ln) + b)) (nI_add (6 * ln) b) ?_
  refine ew_zald (v := A 22 0 ((6 * ln) + b)) hx hb hK hV (hE 22 (by decide)) (cR_22 _ _ _) 1 rfl (vp_in_nI (by omega) (by decide)) (er_ix (by omega) rfl) dM_act_57 ?_
  refine lv_if_eq (tgt := 65) hx hb dM_act_58 rfl (fun h1 => ?_) (fun h1 => ?_)
  · refine lv_iconst (v := 0) hx hb dM_act_65 (by decide) ?_
    refine lv_istore (lv' := [(6, .int 0), (5, .int 0), (0, .ref (X 0 0)), (1, .int (nI b)), (2, .int (nI ln)), (3, .int 14), (4, .int cc)]) hx hb dM_act_66 hl (by decide) rfl (fun ls hl => ?_)
    refine lv_iload_n hx hb dM_act_68 rfl (lv_at hl 5 rfl) ?_
    refine lv_if_lt (tgt := 83) hx hb dM_act_69 rfl (fun h9 => absurd h9 (by decide)) (fun _ => ?_)
    refine lv_iload_n hx hb dM_act_72 rfl (lv_at hl 5 rfl) ?_
    refine lv_bipush (v := 7) hx hb dM_act_73 (by decide) ?_
    refine lv_icmp_ge (tgt := 83) hx hb dM_act_75 rfl (fun _ => ?_) (fun h9 => absurd (by decide) h9)
    refine lv_iload_n hx hb dM_act_83 rfl (lv_at hl 5 rfl) ?_
    refine lv_bipush (v := 6) hx hb dM_act_84 (by decide) ?_
    refine lv_icmp_le (tgt := 104) hx hb dM_act_86 rfl (fun h9 => absurd h9 (by decide)) (fun _ => ?_)
    refine lv_iload_n hx hb dM_act_89 rfl (lv_at hl 5 rfl) ?_
    refine lv_bipush (v := 15) hx hb dM_act_90 (by decide) ?_
    refine lv_icmp_ge (tgt := 104) hx hb dM_act_92 rfl (fun h9 => absurd h9 (by decide)) (fun _ => ?_)
    refine lv_iload hx hb dM_act_95 (lv_at hl 0 rfl) ?_
    refine lv_if_eq (tgt := 104) hx hb dM_act_97 rfl (fun _ => ?_) (fun h9 => absurd (by decide) h9)
    refine lv_iconst (v := 0) hx hb dM_act_104 (by decide) ?_
    refine lv_istore (lv' := [(7, .int 0), (6, .int 0), (5, .int 0), (0, .ref (X 0 0)), (1, .int (nI b)), (2, .int (nI ln)), (3, .int 14), (4, .int cc)]) hx hb dM_act_105 hl (by decide) rfl (fun ls hl => ?_)
    refine lv_aload_n hx hb dM_act_107 rfl (lv_at hl 3 rfl) ?_
    refine lv_iload hx hb dM_act_108 (lv_at hl 0 rfl) ?_
    refine lv_if_ne (tgt := 117) hx hb dM_act_110 rfl (fun h9 => absurd (by decide) h9) (fun _ => ?_)
    refine lv_iconst (v := 1) hx hb dM_act_113 (by decide) ?_
    refine lv_goto (tgt := 118) hx hb dM_act_114 rfl ?_
    refine lv_iload hx hb dM_act_118 (lv_at hl 0 rfl) ?_
    refine lv_if_eq (tgt := 156) hx hb dM_act_120 rfl (fun _ => ?_) (fun h9 => absurd (by decide) h9)
    refine lv_iconst (v := 0) hx hb dM_act_156 (by decide) ?_
    refine er_calli (va_runV (As := [.int 1, .int 0]) (rest := []) ⟨hx, hb, hml, hown, hts⟩ (r_refuses_a l D T X L tg _ hE A 0) (cwV 2 hts gM_152 rfl rfl rfl (by decide +kernel) ⟨Nat.le_of_ble_eq_true rfl, Nat.le_of_ble_eq_true rfl⟩) (er_preV hK hV hi0 (cR_0 _ _ _) rfl) rfl rfl hl.1 rfl (lv_room (Nat.le_of_ble_eq_true rfl)) dM_act_157 ⟨Nat.le_of_ble_eq_true rfl, Nat.le_of_ble_eq_true rfl⟩) hV hS hA (fun r u H locs hp hV hS => ?_)
    obtain ⟨rfl, rfl⟩ := hp
    refine lv_if_eq (tgt := 165) hx hb dM_act_160 rfl (fun h9 => absurd h9 (by decide)) (fun _ => ?_)
    refine lv_iconst (v := 0) hx hb dM_act_163 (by decide) ?_
    exact er_iret hx hb hr hlocks hV hS dM_act_164 ⟨Eq.symm (by unfold s_act_14; simp only [if_pos h1]), Eq.symm (by unfold s_act_14; simp only [if_pos h1])⟩
  · refine lv_iconst (v := 1) hx hb dM_act_61 (by decide) ?_
    refine lv_goto (tgt := 66) hx hb dM_act_62 rfl ?_
    refine lv_istore (lv' := [(6, .int 1), (5, .int 0), (0, .ref (X 0 0)), (1, .int (nI b)), (2, .int (nI ln)), (3, .int 14), (4, .int cc)]) hx hb dM_act_66 hl (by decide) rfl (fun ls hl => ?_)
    refine lv_iload_n hx hb dM_act_68 rfl (lv_at hl 5 rfl) ?_
    refine lv_if_lt (tgt := 83) hx hb dM_act_69 rfl (fun h9 => absurd h9 (by decide)) (fun _ => ?_)
    refine lv_iload_n hx hb dM_act_72 rfl (lv_at hl 5 rfl) ?_
    refine lv_bipush (v := 7) hx hb dM_act_73 (by decide) ?_
    refine lv_icmp_ge (tgt := 83) hx hb dM_act_75 rfl (fun _ => ?_) (fun h9 => absurd (by decide) h9)
    refine lv_iload_n hx hb dM_act_83 rfl (lv_at hl 5 rfl) ?_
    refine lv_bipush (v := 6) hx hb dM_act_84 (by decide) ?_
    refine lv_icmp_le (tgt := 104) hx hb dM_act_86 rfl (fun h9 => absurd h9 (by decide)) (fun _ => ?_)
    refine lv_iload_n hx hb dM_act_89 rfl (lv_at hl 5 rfl) ?_
    refine lv_bipush (v := 15) hx hb dM_act_90 (by decide) ?_
    refine lv_icmp_ge (tgt := 104) hx hb dM_act_92 rfl (fun h9 => absurd h9 (by decide)) (fun _ => ?_)
    refine lv_iload hx hb dM_act_95 (lv_at hl 0 rfl) ?_
    refine lv_if_eq (tgt := 104) hx hb dM_act_97 rfl (fun h9 => absurd h9 (by decide)) (fun _ => ?_)
    refine lv_iconst (v := 1) hx hb dM_act_100 (by decide) ?_
    refine lv_goto (tgt := 105) hx hb dM_act_101 rfl ?_
    refine lv_istore (lv' := [(7, .int 1), (6, .int 1), (5, .int 0), (0, .ref (X 0 0)), (1, .int (nI b)), (2, .int (nI ln)), (3, .int 14), (4, .int cc)]) hx hb dM_act_105 hl (by decide) rfl (fun ls hl => ?_)
    refine lv_aload_n hx hb dM_act_107 rfl (lv_at hl 3 rfl) ?_
    refine lv_iload hx hb dM_act_108 (lv_at hl 0 rfl) ?_
    refine lv_if_ne (tgt := 117) hx hb dM_act_110 rfl (fun _ => ?_) (fun h9 => absurd h9 (by decide))
    refine lv_iconst (v := 0) hx hb dM_act_117 (by decide) ?_
    refine lv_iload hx hb dM_act_118 (lv_at hl 0 rfl) ?_
    refine lv_if_eq (tgt := 156) hx hb dM_act_120 rfl (fun h9 => absurd h9 (by decide)) (fun _ => ?_)
    refine lv_iload hx hb dM_act_123 (lv_at hl 2 rfl) ?_
    refine lv_if_eq (tgt := 140) hx hb dM_act_125 rfl (fun _ => ?_) (fun h9 => absurd (by decide) h9)
    refine lv_aload_n hx hb dM_act_140 rfl (lv_at hl 3 rfl) ?_
    refine lv_iload_n hx hb dM_act_141 rfl (lv_at hl 5 rfl) ?_
    refine lv_iload_n hx hb dM_act_142 rfl (lv_at hl 4 rfl) ?_
    refine lv_iload_n hx hb dM_act_143 rfl (lv_at hl 6 rfl) ?_
    refine lv_iload hx hb dM_act_144 (lv_at hl 7 rfl) ?_
    refine er_calli (va_runV (As := [.int (nI ln), .int (nI b), .int 14, .int cc]) (rest := [.int 0, .ref (X 0 0)]) ⟨hx, hb, hml, hown, hts⟩ (r_maySupplier_14 l D T X L tg _ hE A ln b cc (by omega) hb6) (cwV 4 hts gM_179 rfl rfl rfl (by decide +kernel) ⟨Nat.le_of_ble_eq_true rfl, Nat.le_of_ble_eq_true rfl⟩) (er_preV hK hV hi0 (cR_0 _ _ _) rfl) rfl rfl hl.1 rfl (lv_room (Nat.le_of_ble_eq_true rfl)) dM_act_146 ⟨Nat.le_of_ble_eq_true rfl, Nat.le_of_ble_eq_true rfl⟩) hV hS hA (fun r u H locs hp hV hS => ?_)
    obtain ⟨rfl, eu9⟩ := hp
    rw [eu9] at hV
    refine lv_if_ne (tgt := 156) hx hb dM_act_149 rfl (fun h2 => ?_) (fun h2 => ?_)
    · refine lv_iconst (v := 0) hx hb dM_act_156 (by decide) ?_
      refine er_calli (va_runV (As := [.int 0, .int 0]) (rest := []) ⟨hx, hb, hml, hown, hts⟩ (r_refuses_c l D T X L tg _ hE A) (cwV 2 hts gM_152 rfl rfl rfl (by decide +kernel) ⟨Nat.le_of_ble_eq_true rfl, Nat.le_of_ble_eq_true rfl⟩) (er_preV hK hV hi0 (cR_0 _ _ _) rfl) rfl rfl hl.1 rfl (lv_room (Nat.le_of_ble_eq_true rfl)) dM_act_157 ⟨Nat.le_of_ble_eq_true rfl, Nat.le_of_ble_eq_true rfl⟩) hV hS hA (fun r u H locs hp hV hS => ?_)
      obtain ⟨rfl, rfl⟩ := hp
      refine lv_if_eq (tgt := 165) hx hb dM_act_160 rfl (fun _ => ?_) (fun h9 => absurd (by decide) h9)
      refine lv_iload hx hb dM_act_165 (lv_at hl 2 rfl) ?_
      refine lv_if_eq (tgt := 179) hx hb dM_act_167 rfl (fun _ => ?_) (fun h9 => absurd (by decide) h9)
      refine lv_aload_n hx hb dM_act_179 rfl (lv_at hl 3 rfl) ?_
      refine lv_iload_n hx hb dM_act_180 rfl (lv_at hl 5 rfl) ?_
      refine lv_iload_n hx hb dM_act_181 rfl (lv_at hl 4 rfl) ?_
      refine lv_iload_n hx hb dM_act_182 rfl (lv_at hl 6 rfl) ?_
      refine lv_iload hx hb dM_act_183 (lv_at hl 7 rfl) ?_
      refine er_callv (va_runV (As := [.int (nI ln), .int (nI b), .int 14, .int cc]) (rest := []) ⟨hx, hb, hml, hown, hts⟩ (r_stepSupplier_14 l D T X L tg _ hE (up3 A 0 0 0 0) ln b cc cp w lg (by omega) hb6 hcp q28 hw hq hlg hg) (cwV 4 hts gM_186 rfl rfl rfl (by decide +kernel) ⟨Nat.le_of_ble_eq_true rfl, Nat.le_of_ble_eq_true rfl⟩) (er_preV hK hV hi0 (cR_0 _ _ _) rfl) rfl rfl hl.1 rfl (lv_room (Nat.le_of_ble_eq_true rfl)) dM_act_185 ⟨Nat.le_of_ble_eq_true rfl, Nat.le_of_ble_eq_true rfl⟩) hV hS hA (fun u3 H locs eu3 hV hS => ?_)
      have eu3 : u3 = s_stepSupplier_14 (up3 A 0 0 0 0) ln b cc cp w lg := eu3
      refine lv_iload hx hb dM_act_188 (lv_at hl 2 rfl) ?_
      refine lv_if_eq (tgt := 202) hx hb dM_act_190 rfl (fun _ => ?_) (fun h9 => absurd (by decide) h9)
      refine lv_aload_n hx hb dM_act_202 rfl (lv_at hl 3 rfl) ?_
      refine ew_get (v := .ref (X 23 0)) hx hb hts hown hK hV fM_62 hi0 (cR_0 _ _ _) rfl dM_act_203 ?_
      refine lv_bipush (v := 6) hx hb dM_act_206 (by decide) ?_
      refine lv_iload_n hx hb dM_act_208 rfl (lv_at hl 5 rfl) ?_
      refine lv_imul hx hb dM_act_209 ?_
      refine lv_toe (y := nI (6 * ln)) (pk_mul 6 ln) ?_
      refine lv_iload_n hx hb dM_act_210 rfl (lv_at hl 4 rfl) ?_
      refine lv_iadd hx hb dM_act_211 ?_
      refine lv_toe (y := nI ((6 * ln) + b)) (nI_add (6 * ln) b) ?_
      refine ew_iald (v := u3 23 0 ((6 * ln) + b)) hx hb hK hV (hE 23 (by decide)) (cR_23 _ _ _) 0 rfl (vp_in_nI (by omega) (by decide)) (er_ix (by omega) rfl) dM_act_212 ?_
      subst eu3
      exact er_iret hx hb hr hlocks hV hS dM_act_213 ⟨Eq.symm (by unfold s_act_14; simp only [if_neg h1, if_neg h2]), Eq.symm (by unfold s_act_14; simp only [if_neg h1, if_neg h2])⟩
    · refine lv_iconst (v := 1) hx hb dM_act_152 (by decide) ?_
      refine lv_goto (tgt := 157) hx hb dM_act_153 rfl ?_
      refine er_calli (va_runV (As := [.int 0, .int 1]) (rest := []) ⟨hx, hb, hml, hown, hts⟩ (r_refuses_b l D T X L tg _ hE A) (cwV 2 hts gM_152 rfl rfl rfl (by decide +kernel) ⟨Nat.le_of_ble_eq_true rfl, Nat.le_of_ble_eq_true rfl⟩) (er_preV hK hV hi0 (cR_0 _ _ _) rfl) rfl rfl hl.1 rfl (lv_room (Nat.le_of_ble_eq_true rfl)) dM_act_157 ⟨Nat.le_of_ble_eq_true rfl, Nat.le_of_ble_eq_true rfl⟩) hV hS hA (fun r u H locs hp hV hS => ?_)
      obtain ⟨rfl, rfl⟩ := hp
      refine lv_if_eq (tgt := 165) hx hb dM_act_160 rfl (fun h9 => absurd h9 (by decide)) (fun _ => ?_)
      refine lv_iconst (v := 0) hx hb dM_act_163 (by decide) ?_
      exact er_iret hx hb hr hlocks hV hS dM_act_164 ⟨Eq.symm (by unfold s_act_14; simp only [if_neg h1, if_pos h2]), Eq.symm (by unfold s_act_14; simp only [if_neg h1, if_pos h2])⟩

theorem s_maySupplier_7n {A : ew_R} {ln b : Nat} {cc : Int32} {nc : Nat} (h : s_mayPromise A ln b cc nc = 0) : s_maySupplier_7 A ln b cc nc = 0 := by
  unfold s_maySupplier_7
  rw [if_pos h]
  split <;> rfl

def s_act_7n (A : ew_R) (b : Nat) (ln : Nat) (cc : Int32) (nl : Nat) (rq : Nat) (nc : Nat) : Int32 × ew_R :=
  if A 22 0 ((6 * ln) + b) = 0 then
    (0, up3 A 0 0 0 1)
  else
    (0, up3 A 0 0 0 2)
set_option maxHeartbeats 4000000 in
set_option maxRecDepth 100000 in
theorem r_act_7n (l : Launch) (D : va_G) (T : Nat → ClassId) (X : Nat → Nat → Nat) (L : List Nat) (tg : Nat → Nat × Nat) (sz : Nat) (hE : eR_E X L tg) (A : ew_R) (b : Nat) (ln : Nat) (cc : Int32) (nl : Nat) (rq : Nat) (nc : Nat) (hb6 : b < 6) (hnl : ln < nl) (hn2 : nl ≤ 32) (q2 : A 0 0 2 = nI nl) (hrq : rq < 6) (q11 : A 11 0 ln = nI rq) (hbr : ¬ b = rq) (hnc : nc ≤ 32) (q3 : A 0 0 3 = nI nc) (hmp : s_mayPromise A ln b cc nc = 0) : Met l yM_act wsM_act ({ frames := 5, cells := 0, slots := 0, locals := 114 }) (er_Pc D vwCl (tysA T) (cfR T) X L tg A sz [.ref (X 0 0), .int (nI b), .int (nI ln), .int 7, .int cc]) (er_Qi D vwCl (cfR T) X L tg sz (fun r u => r = (s_act_7n A b ln cc nl rq nc).1 ∧ u = (s_act_7n A b ln cc nl rq nc).2)) 0 0 (ew_A L sz) := by
  refine er_met (by decide) rfl (Nat.le_of_ble_eq_true rfl) ?_
  intro p e s m below meth c ls hx hb hr hts hown hlocks hml hV hK hS hA hl hsz
  subst hsz
  have hi0 := hE 0 (by decide)
  have hl : lv_has ls 8 [(0, .ref (X 0 0)), (1, .int (nI b)), (2, .int (nI ln)), (3, .int 7), (4, .int cc)] := hl
  refine lv_aload_n hx hb dM_act_0 rfl (lv_at hl 0 rfl) ?_
  refine lv_iload_n hx hb dM_act_1 rfl (lv_at hl 2 rfl) ?_
  refine er_calli (va_runV (As := [.int (nI ln)]) (rest := []) ⟨hx, hb, hml, hown, hts⟩ (r_isLoan l D T X L tg _ hE A (nI ln)) (cwV 1 hts gM_172 rfl rfl rfl (by decide +kernel) ⟨Nat.le_of_ble_eq_true rfl, Nat.le_of_ble_eq_true rfl⟩) (er_preV hK hV hi0 (cR_0 _ _ _) rfl) rfl rfl hl.1 rfl (lv_room (Nat.le_of_ble_eq_true rfl)) dM_act_2 ⟨Nat.le_of_ble_eq_true rfl, Nat.le_of_ble_eq_true rfl⟩) hV hS hA (fun r u H locs hp hV hS => ?_)
  obtain ⟨rfl, eu9⟩ := hp
  rw [eu9] at hV
  refine lv_toe (y := 1) (s_isLoan_1 q2 hnl hn2) ?_
  refine lv_if_eq (tgt := 29) hx hb dM_act_5 rfl (fun h9 => absurd h9 (by decide)) (fun _ => ?_)
  refine lv_iload_n hx hb dM_act_8 rfl (lv_at hl 1 rfl) ?_
  refine er_calli (va_runS (As := [.int (nI b)]) (rest := []) ⟨hx, hb, hml, hown, hts⟩ (r_isLibrary l D T X L tg _ hE A (nI b)) (cwS 1 hts gM_142 rfl rfl rfl (by decide +kernel) ⟨Nat.le_of_ble_eq_true rfl, Nat.le_of_ble_eq_true rfl⟩) (er_preS hK hV) rfl rfl hl.1 rfl (lv_room (Nat.le_of_ble_eq_true rfl)) dM_act_9 ⟨Nat.le_of_ble_eq_true rfl, Nat.le_of_ble_eq_true rfl⟩) hV hS hA (fun r u H locs hp hV hS => ?_)
  obtain ⟨rfl, eu9⟩ := hp
  rw [eu9] at hV
  refine lv_toe (y := 1) (s_isLibrary_1 hb6) ?_
  refine lv_if_eq (tgt := 29) hx hb dM_act_12 rfl (fun h9 => absurd h9 (by decide)) (fun _ => ?_)
  refine lv_iload_n hx hb dM_act_15 rfl (lv_at hl 1 rfl) ?_
  refine lv_aload_n hx hb dM_act_16 rfl (lv_at hl 0 rfl) ?_
  refine ew_get (v := .ref (X 11 0)) hx hb hts hown hK hV fM_25 hi0 (cR_0 _ _ _) rfl dM_act_17 ?_
  refine lv_iload_n hx hb dM_act_20 rfl (lv_at hl 2 rfl) ?_
  refine ew_iald (v := A 11 0 ln) hx hb hK hV (hE 11 (by decide)) (cR_11 _ _ _) 0 rfl (vp_in_nI (by omega) (by decide)) (er_ix (by omega) rfl) dM_act_21 ?_
  refine lv_toe (y := nI rq) q11 ?_
  refine lv_icmp_ne (tgt := 29) hx hb dM_act_22 rfl (fun _ => ?_) (fun h9 => absurd h9 (fun z9 => hbr ((nI_eq (a := b) (b := rq) (by omega) (by omega)).mp z9)))
  refine lv_iconst (v := 0) hx hb dM_act_29 (by decide) ?_
  refine lv_istore (lv' := [(5, .int 0), (0, .ref (X 0 0)), (1, .int (nI b)), (2, .int (nI ln)), (3, .int 7), (4, .int cc)]) hx hb dM_act_30 hl (by decide) rfl (fun ls hl => ?_)
  refine lv_aload_n hx hb dM_act_32 rfl (lv_at hl 1 rfl) ?_
  refine lv_iload_n hx hb dM_act_33 rfl (lv_at hl 3 rfl) ?_
  refine er_calli (va_runV (As := [.int (nI ln)]) (rest := []) ⟨hx, hb, hml, hown, hts⟩ (r_isLoan l D T X L tg _ hE A (nI ln)) (cwV 1 hts gM_172 rfl rfl rfl (by decide +kernel) ⟨Nat.le_of_ble_eq_true rfl, Nat.le_of_ble_eq_true rfl⟩) (er_preV hK hV hi0 (cR_0 _ _ _) rfl) rfl rfl hl.1 rfl (lv_room (Nat.le_of_ble_eq_true rfl)) dM_act_34 ⟨Nat.le_of_ble_eq_true rfl, Nat.le_of_ble_eq_true rfl⟩) hV hS hA (fun r u H locs hp hV hS => ?_)
  obtain ⟨rfl, eu9⟩ := hp
  rw [eu9] at hV
  refine lv_toe (y := 1) (s_isLoan_1 q2 hnl hn2) ?_
  refine lv_if_eq (tgt := 65) hx hb dM_act_37 rfl (fun h9 => absurd h9 (by decide)) (fun _ => ?_)
  refine lv_iload_n hx hb dM_act_40 rfl (lv_at hl 2 rfl) ?_
  refine er_calli (va_runS (As := [.int (nI b)]) (rest := []) ⟨hx, hb, hml, hown, hts⟩ (r_isLibrary l D T X L tg _ hE A (nI b)) (cwS 1 hts gM_142 rfl rfl rfl (by decide +kernel) ⟨Nat.le_of_ble_eq_true rfl, Nat.le_of_ble_eq_true rfl⟩) (er_preS hK hV) rfl rfl hl.1 rfl (lv_room (Nat.le_of_ble_eq_true rfl)) dM_act_41 ⟨Nat.le_of_ble_eq_true rfl, Nat.le_of_ble_eq_true rfl⟩) hV hS hA (fun r u H locs hp hV hS => ?_)
  obtain ⟨rfl, eu9⟩ := hp
  rw [eu9] at hV
  refine lv_toe (y := 1) (s_isLibrary_1 hb6) ?_
  refine lv_if_eq (tgt := 65) hx hb dM_act_44 rfl (fun h9 => absurd h9 (by decide)) (fun _ => ?_)
  refine lv_aload_n hx hb dM_act_47 rfl (lv_at hl 1 rfl) ?_
  refine ew_get (v := .ref (X 22 0)) hx hb hts hown hK hV fM_58 hi0 (cR_0 _ _ _) rfl dM_act_48 ?_
  refine lv_bipush (v := 6) hx hb dM_act_51 (by decide) ?_
  refine lv_iload_n hx hb dM_act_53 rfl (lv_at hl 3 rfl) ?_
  refine lv_imul hx hb dM_act_54 ?_
  refine lv_toe (y := nI (6 * ln)) (pk_mul 6 ln) ?_
  refine lv_iload_n hx hb dM_act_55 rfl (lv_at hl 2 rfl) ?_
  refine lv_iadd hx hb dM_act_56 ?_
  refine lv_toe (y := nI ((6 * ln) + b)) (nI_add (6 * ln) b) ?_
  refine ew_zald (v := A 22 0 ((6 * ln) + b)) hx hb hK hV (hE 22 (by decide)) (cR_22 _ _ _) 1 rfl (vp_in_nI (by omega) (by decide)) (er_ix (by omega) rfl) dM_act_57 ?_
  refine lv_if_eq (tgt := 65) hx hb dM_act_58 rfl (fun h1 => ?_) (fun h1 => ?_)
  · refine lv_iconst (v := 0) hx hb dM_act_65 (by decide) ?_
    refine lv_istore (lv' := [(6, .int 0), (5, .int 0), (0, .ref (X 0 0)), (1, .int (nI b)), (2, .int (nI ln)), (3, .int 7), (4, .int cc)]) hx hb dM_act_66 hl (by decide) rfl (fun ls hl => ?_)
    refine lv_iload_n hx hb dM_act_68 rfl (lv_at hl 5 rfl) ?_
    refine lv_if_lt (tgt := 83) hx hb dM_act_69 rfl (fun h9 => absurd h9 (by decide)) (fun _ => ?_)
    refine lv_iload_n hx hb dM_act_72 rfl (lv_at hl 5 rfl) ?_
    refine lv_bipush (v := 7) hx hb dM_act_73 (by decide) ?_
    refine lv_icmp_ge (tgt := 83) hx hb dM_act_75 rfl (fun _ => ?_) (fun h9 => absurd (by decide) h9)
    refine lv_iload_n hx hb dM_act_83 rfl (lv_at hl 5 rfl) ?_
    refine lv_bipush (v := 6) hx hb dM_act_84 (by decide) ?_
    refine lv_icmp_le (tgt := 104) hx hb dM_act_86 rfl (fun h9 => absurd h9 (by decide)) (fun _ => ?_)
    refine lv_iload_n hx hb dM_act_89 rfl (lv_at hl 5 rfl) ?_
    refine lv_bipush (v := 15) hx hb dM_act_90 (by decide) ?_
    refine lv_icmp_ge (tgt := 104) hx hb dM_act_92 rfl (fun h9 => absurd h9 (by decide)) (fun _ => ?_)
    refine lv_iload hx hb dM_act_95 (lv_at hl 0 rfl) ?_
    refine lv_if_eq (tgt := 104) hx hb dM_act_97 rfl (fun _ => ?_) (fun h9 => absurd (by decide) h9)
    refine lv_iconst (v := 0) hx hb dM_act_104 (by decide) ?_
    refine lv_istore (lv' := [(7, .int 0), (6, .int 0), (5, .int 0), (0, .ref (X 0 0)), (1, .int (nI b)), (2, .int (nI ln)), (3, .int 7), (4, .int cc)]) hx hb dM_act_105 hl (by decide) rfl (fun ls hl => ?_)
    refine lv_aload_n hx hb dM_act_107 rfl (lv_at hl 3 rfl) ?_
    refine lv_iload hx hb dM_act_108 (lv_at hl 0 rfl) ?_
    refine lv_if_ne (tgt := 117) hx hb dM_act_110 rfl (fun h9 => absurd (by decide) h9) (fun _ => ?_)
    refine lv_iconst (v := 1) hx hb dM_act_113 (by decide) ?_
    refine lv_goto (tgt := 118) hx hb dM_act_114 rfl ?_
    refine lv_iload hx hb dM_act_118 (lv_at hl 0 rfl) ?_
    refine lv_if_eq (tgt := 156) hx hb dM_act_120 rfl (fun _ => ?_) (fun h9 => absurd (by decide) h9)
    refine lv_iconst (v := 0) hx hb dM_act_156 (by decide) ?_
    refine er_calli (va_runV (As := [.int 1, .int 0]) (rest := []) ⟨hx, hb, hml, hown, hts⟩ (r_refuses_a l D T X L tg _ hE A 0) (cwV 2 hts gM_152 rfl rfl rfl (by decide +kernel) ⟨Nat.le_of_ble_eq_true rfl, Nat.le_of_ble_eq_true rfl⟩) (er_preV hK hV hi0 (cR_0 _ _ _) rfl) rfl rfl hl.1 rfl (lv_room (Nat.le_of_ble_eq_true rfl)) dM_act_157 ⟨Nat.le_of_ble_eq_true rfl, Nat.le_of_ble_eq_true rfl⟩) hV hS hA (fun r u H locs hp hV hS => ?_)
    obtain ⟨rfl, rfl⟩ := hp
    refine lv_if_eq (tgt := 165) hx hb dM_act_160 rfl (fun h9 => absurd h9 (by decide)) (fun _ => ?_)
    refine lv_iconst (v := 0) hx hb dM_act_163 (by decide) ?_
    exact er_iret hx hb hr hlocks hV hS dM_act_164 ⟨Eq.symm (by unfold s_act_7n; simp only [if_pos h1]), Eq.symm (by unfold s_act_7n; simp only [if_pos h1])⟩
  · refine lv_iconst (v := 1) hx hb dM_act_61 (by decide) ?_
    refine lv_goto (tgt := 66) hx hb dM_act_62 rfl ?_
    refine lv_istore (lv' := [(6, .int 1), (5, .int 0), (0, .ref (X 0 0)), (1, .int (nI b)), (2, .int (nI ln)), (3, .int 7), (4, .int cc)]) hx hb dM_act_66 hl (by decide) rfl (fun ls hl => ?_)
    refine lv_iload_n hx hb dM_act_68 rfl (lv_at hl 5 rfl) ?_
    refine lv_if_lt (tgt := 83) hx hb dM_act_69 rfl (fun h9 => absurd h9 (by decide)) (fun _ => ?_)
    refine lv_iload_n hx hb dM_act_72 rfl (lv_at hl 5 rfl) ?_
    refine lv_bipush (v := 7) hx hb dM_act_73 (by decide) ?_
    refine lv_icmp_ge (tgt := 83) hx hb dM_act_75 rfl (fun _ => ?_) (fun h9 => absurd (by decide) h9)
    refine lv_iload_n hx hb dM_act_83 rfl (lv_at hl 5 rfl) ?_
    refine lv_bipush (v := 6) hx hb dM_act_84 (by decide) ?_
    refine lv_icmp_le (tgt := 104) hx hb dM_act_86 rfl (fun h9 => absurd h9 (by decide)) (fun _ => ?_)
    refine lv_iload_n hx hb dM_act_89 rfl (lv_at hl 5 rfl) ?_
    refine lv_bipush (v := 15) hx hb dM_act_90 (by decide) ?_
    refine lv_icmp_ge (tgt := 104) hx hb dM_act_92 rfl (fun h9 => absurd h9 (by decide)) (fun _ => ?_)
    refine lv_iload hx hb dM_act_95 (lv_at hl 0 rfl) ?_
    refine lv_if_eq (tgt := 104) hx hb dM_act_97 rfl (fun h9 => absurd h9 (by decide)) (fun _ => ?_)
    refine lv_iconst (v := 1) hx hb dM_act_100 (by decide) ?_
    refine lv_goto (tgt := 105) hx hb dM_act_101 rfl ?_
    refine lv_istore (lv' := [(7, .int 1), (6, .int 1), (5, .int 0), (0, .ref (X 0 0)), (1, .int (nI b)), (2, .int (nI ln)), (3, .int 7), (4, .int cc)]) hx hb dM_act_105 hl (by decide) rfl (fun ls hl => ?_)
    refine lv_aload_n hx hb dM_act_107 rfl (lv_at hl 3 rfl) ?_
    refine lv_iload hx hb dM_act_108 (lv_at hl 0 rfl) ?_
    refine lv_if_ne (tgt := 117) hx hb dM_act_110 rfl (fun _ => ?_) (fun h9 => absurd h9 (by decide))
    refine lv_iconst (v := 0) hx hb dM_act_117 (by decide) ?_
    refine lv_iload hx hb dM_act_118 (lv_at hl 0 rfl) ?_
    refine lv_if_eq (tgt := 156) hx hb dM_act_120 rfl (fun h9 => absurd h9 (by decide)) (fun _ => ?_)
    refine lv_iload hx hb dM_act_123 (lv_at hl 2 rfl) ?_
    refine lv_if_eq (tgt := 140) hx hb dM_act_125 rfl (fun _ => ?_) (fun h9 => absurd (by decide) h9)
    refine lv_aload_n hx hb dM_act_140 rfl (lv_at hl 3 rfl) ?_
    refine lv_iload_n hx hb dM_act_141 rfl (lv_at hl 5 rfl) ?_
    refine lv_iload_n hx hb dM_act_142 rfl (lv_at hl 4 rfl) ?_
    refine lv_iload_n hx hb dM_act_143 rfl (lv_at hl 6 rfl) ?_
    refine lv_iload hx hb dM_act_144 (lv_at hl 7 rfl) ?_
    refine er_calli (va_runV (As := [.int (nI ln), .int (nI b), .int 7, .int cc]) (rest := [.int 0, .ref (X 0 0)]) ⟨hx, hb, hml, hown, hts⟩ (r_maySupplier_7 l D T X L tg _ hE A ln b cc nc (by omega) hb6 hnc q3) (cwV 4 hts gM_179 rfl rfl rfl (by decide +kernel) ⟨Nat.le_of_ble_eq_true rfl, Nat.le_of_ble_eq_true rfl⟩) (er_preV hK hV hi0 (cR_0 _ _ _) rfl) rfl rfl hl.1 rfl (lv_room (Nat.le_of_ble_eq_true rfl)) dM_act_146 ⟨Nat.le_of_ble_eq_true rfl, Nat.le_of_ble_eq_true rfl⟩) hV hS hA (fun r u H locs hp hV hS => ?_)
    obtain ⟨rfl, eu9⟩ := hp
    rw [eu9] at hV
    refine lv_toe (y := 0) (s_maySupplier_7n hmp) ?_
    refine lv_if_ne (tgt := 156) hx hb dM_act_149 rfl (fun h9 => absurd (by decide) h9) (fun _ => ?_)
    refine lv_iconst (v := 1) hx hb dM_act_152 (by decide) ?_
    refine lv_goto (tgt := 157) hx hb dM_act_153 rfl ?_
    refine er_calli (va_runV (As := [.int 0, .int 1]) (rest := []) ⟨hx, hb, hml, hown, hts⟩ (r_refuses_b l D T X L tg _ hE A) (cwV 2 hts gM_152 rfl rfl rfl (by decide +kernel) ⟨Nat.le_of_ble_eq_true rfl, Nat.le_of_ble_eq_true rfl⟩) (er_preV hK hV hi0 (cR_0 _ _ _) rfl) rfl rfl hl.1 rfl (lv_room (Nat.le_of_ble_eq_true rfl)) dM_act_157 ⟨Nat.le_of_ble_eq_true rfl, Nat.le_of_ble_eq_true rfl⟩) hV hS hA (fun r u H locs hp hV hS => ?_)
    obtain ⟨rfl, rfl⟩ := hp
    refine lv_if_eq (tgt := 165) hx hb dM_act_160 rfl (fun h9 => absurd h9 (by decide)) (fun _ => ?_)
    refine lv_iconst (v := 0) hx hb dM_act_163 (by decide) ?_
    exact er_iret hx hb hr hlocks hV hS dM_act_164 ⟨Eq.symm (by unfold s_act_7n; simp only [if_neg h1]), Eq.symm (by unfold s_act_7n; simp only [if_neg h1])⟩

def s_act_8r (A : ew_R) (b : Nat) (ln : Nat) (cc : Int32) (nl : Nat) (rq : Nat) : Int32 × ew_R :=
  if A 22 0 ((6 * ln) + b) = 0 then
    (0, up3 A 0 0 0 1)
  else
    (0, up3 A 0 0 0 2)
set_option maxHeartbeats 4000000 in
set_option maxRecDepth 100000 in
theorem r_act_8r (l : Launch) (D : va_G) (T : Nat → ClassId) (X : Nat → Nat → Nat) (L : List Nat) (tg : Nat → Nat × Nat) (sz : Nat) (hE : eR_E X L tg) (A : ew_R) (b : Nat) (ln : Nat) (cc : Int32) (nl : Nat) (rq : Nat) (hb6 : b < 6) (hnl : ln < nl) (hn2 : nl ≤ 32) (q2 : A 0 0 2 = nI nl) (hrq : rq < 6) (q11 : A 11 0 ln = nI rq) (hbr : ¬ b = rq) (hmay : s_maySupplier_8 A ln b cc = 0) : Met l yM_act wsM_act ({ frames := 5, cells := 0, slots := 0, locals := 114 }) (er_Pc D vwCl (tysA T) (cfR T) X L tg A sz [.ref (X 0 0), .int (nI b), .int (nI ln), .int 8, .int cc]) (er_Qi D vwCl (cfR T) X L tg sz (fun r u => r = (s_act_8r A b ln cc nl rq).1 ∧ u = (s_act_8r A b ln cc nl rq).2)) 0 0 (ew_A L sz) := by
  refine er_met (by decide) rfl (Nat.le_of_ble_eq_true rfl) ?_
  intro p e s m below meth c ls hx hb hr hts hown hlocks hml hV hK hS hA hl hsz
  subst hsz
  have hi0 := hE 0 (by decide)
  have hl : lv_has ls 8 [(0, .ref (X 0 0)), (1, .int (nI b)), (2, .int (nI ln)), (3, .int 8), (4, .int cc)] := hl
  refine lv_aload_n hx hb dM_act_0 rfl (lv_at hl 0 rfl) ?_
  refine lv_iload_n hx hb dM_act_1 rfl (lv_at hl 2 rfl) ?_
  refine er_calli (va_runV (As := [.int (nI ln)]) (rest := []) ⟨hx, hb, hml, hown, hts⟩ (r_isLoan l D T X L tg _ hE A (nI ln)) (cwV 1 hts gM_172 rfl rfl rfl (by decide +kernel) ⟨Nat.le_of_ble_eq_true rfl, Nat.le_of_ble_eq_true rfl⟩) (er_preV hK hV hi0 (cR_0 _ _ _) rfl) rfl rfl hl.1 rfl (lv_room (Nat.le_of_ble_eq_true rfl)) dM_act_2 ⟨Nat.le_of_ble_eq_true rfl, Nat.le_of_ble_eq_true rfl⟩) hV hS hA (fun r u H locs hp hV hS => ?_)
  obtain ⟨rfl, eu9⟩ := hp
  rw [eu9] at hV
  refine lv_toe (y := 1) (s_isLoan_1 q2 hnl hn2) ?_
  refine lv_if_eq (tgt := 29) hx hb dM_act_5 rfl (fun h9 => absurd h9 (by decide)) (fun _ => ?_)
  refine lv_iload_n hx hb dM_act_8 rfl (lv_at hl 1 rfl) ?_
  refine er_calli (va_runS (As := [.int (nI b)]) (rest := []) ⟨hx, hb, hml, hown, hts⟩ (r_isLibrary l D T X L tg _ hE A (nI b)) (cwS 1 hts gM_142 rfl rfl rfl (by decide +kernel) ⟨Nat.le_of_ble_eq_true rfl, Nat.le_of_ble_eq_true rfl⟩) (er_preS hK hV) rfl rfl hl.1 rfl (lv_room (Nat.le_of_ble_eq_true rfl)) dM_act_9 ⟨Nat.le_of_ble_eq_true rfl, Nat.le_of_ble_eq_true rfl⟩) hV hS hA (fun r u H locs hp hV hS => ?_)
  obtain ⟨rfl, eu9⟩ := hp
  rw [eu9] at hV
  refine lv_toe (y := 1) (s_isLibrary_1 hb6) ?_
  refine lv_if_eq (tgt := 29) hx hb dM_act_12 rfl (fun h9 => absurd h9 (by decide)) (fun _ => ?_)
  refine lv_iload_n hx hb dM_act_15 rfl (lv_at hl 1 rfl) ?_
  refine lv_aload_n hx hb dM_act_16 rfl (lv_at hl 0 rfl) ?_
  refine ew_get (v := .ref (X 11 0)) hx hb hts hown hK hV fM_25 hi0 (cR_0 _ _ _) rfl dM_act_17 ?_
  refine lv_iload_n hx hb dM_act_20 rfl (lv_at hl 2 rfl) ?_
  refine ew_iald (v := A 11 0 ln) hx hb hK hV (hE 11 (by decide)) (cR_11 _ _ _) 0 rfl (vp_in_nI (by omega) (by decide)) (er_ix (by omega) rfl) dM_act_21 ?_
  refine lv_toe (y := nI rq) q11 ?_
  refine lv_icmp_ne (tgt := 29) hx hb dM_act_22 rfl (fun _ => ?_) (fun h9 => absurd h9 (fun z9 => hbr ((nI_eq (a := b) (b := rq) (by omega) (by omega)).mp z9)))
  refine lv_iconst (v := 0) hx hb dM_act_29 (by decide) ?_
  refine lv_istore (lv' := [(5, .int 0), (0, .ref (X 0 0)), (1, .int (nI b)), (2, .int (nI ln)), (3, .int 8), (4, .int cc)]) hx hb dM_act_30 hl (by decide) rfl (fun ls hl => ?_)
  refine lv_aload_n hx hb dM_act_32 rfl (lv_at hl 1 rfl) ?_
  refine lv_iload_n hx hb dM_act_33 rfl (lv_at hl 3 rfl) ?_
  refine er_calli (va_runV (As := [.int (nI ln)]) (rest := []) ⟨hx, hb, hml, hown, hts⟩ (r_isLoan l D T X L tg _ hE A (nI ln)) (cwV 1 hts gM_172 rfl rfl rfl (by decide +kernel) ⟨Nat.le_of_ble_eq_true rfl, Nat.le_of_ble_eq_true rfl⟩) (er_preV hK hV hi0 (cR_0 _ _ _) rfl) rfl rfl hl.1 rfl (lv_room (Nat.le_of_ble_eq_true rfl)) dM_act_34 ⟨Nat.le_of_ble_eq_true rfl, Nat.le_of_ble_eq_true rfl⟩) hV hS hA (fun r u H locs hp hV hS => ?_)
  obtain ⟨rfl, eu9⟩ := hp
  rw [eu9] at hV
  refine lv_toe (y := 1) (s_isLoan_1 q2 hnl hn2) ?_
  refine lv_if_eq (tgt := 65) hx hb dM_act_37 rfl (fun h9 => absurd h9 (by decide)) (fun _ => ?_)
  refine lv_iload_n hx hb dM_act_40 rfl (lv_at hl 2 rfl) ?_
  refine er_calli (va_runS (As := [.int (nI b)]) (rest := []) ⟨hx, hb, hml, hown, hts⟩ (r_isLibrary l D T X L tg _ hE A (nI b)) (cwS 1 hts gM_142 rfl rfl rfl (by decide +kernel) ⟨Nat.le_of_ble_eq_true rfl, Nat.le_of_ble_eq_true rfl⟩) (er_preS hK hV) rfl rfl hl.1 rfl (lv_room (Nat.le_of_ble_eq_true rfl)) dM_act_41 ⟨Nat.le_of_ble_eq_true rfl, Nat.le_of_ble_eq_true rfl⟩) hV hS hA (fun r u H locs hp hV hS => ?_)
  obtain ⟨rfl, eu9⟩ := hp
  rw [eu9] at hV
  refine lv_toe (y := 1) (s_isLibrary_1 hb6) ?_
  refine lv_if_eq (tgt := 65) hx hb dM_act_44 rfl (fun h9 => absurd h9 (by decide)) (fun _ => ?_)
  refine lv_aload_n hx hb dM_act_47 rfl (lv_at hl 1 rfl) ?_
  refine ew_get (v := .ref (X 22 0)) hx hb hts hown hK hV fM_58 hi0 (cR_0 _ _ _) rfl dM_act_48 ?_
  refine lv_bipush (v := 6) hx hb dM_act_51 (by decide) ?_
  refine lv_iload_n hx hb dM_act_53 rfl (lv_at hl 3 rfl) ?_
  refine lv_imul hx hb dM_act_54 ?_
  refine lv_toe (y := nI (6 * ln)) (pk_mul 6 ln) ?_
  refine lv_iload_n hx hb dM_act_55 rfl (lv_at hl 2 rfl) ?_
  refine lv_iadd hx hb dM_act_56 ?_
  refine lv_toe (y := nI ((6 * ln) + b)) (nI_add (6 * ln) b) ?_
  refine ew_zald (v := A 22 0 ((6 * ln) + b)) hx hb hK hV (hE 22 (by decide)) (cR_22 _ _ _) 1 rfl (vp_in_nI (by omega) (by decide)) (er_ix (by omega) rfl) dM_act_57 ?_
  refine lv_if_eq (tgt := 65) hx hb dM_act_58 rfl (fun h1 => ?_) (fun h1 => ?_)
  · refine lv_iconst (v := 0) hx hb dM_act_65 (by decide) ?_
    refine lv_istore (lv' := [(6, .int 0), (5, .int 0), (0, .ref (X 0 0)), (1, .int (nI b)), (2, .int (nI ln)), (3, .int 8), (4, .int cc)]) hx hb dM_act_66 hl (by decide) rfl (fun ls hl => ?_)
    refine lv_iload_n hx hb dM_act_68 rfl (lv_at hl 5 rfl) ?_
    refine lv_if_lt (tgt := 83) hx hb dM_act_69 rfl (fun h9 => absurd h9 (by decide)) (fun _ => ?_)
    refine lv_iload_n hx hb dM_act_72 rfl (lv_at hl 5 rfl) ?_
    refine lv_bipush (v := 7) hx hb dM_act_73 (by decide) ?_
    refine lv_icmp_ge (tgt := 83) hx hb dM_act_75 rfl (fun _ => ?_) (fun h9 => absurd (by decide) h9)
    refine lv_iload_n hx hb dM_act_83 rfl (lv_at hl 5 rfl) ?_
    refine lv_bipush (v := 6) hx hb dM_act_84 (by decide) ?_
    refine lv_icmp_le (tgt := 104) hx hb dM_act_86 rfl (fun h9 => absurd h9 (by decide)) (fun _ => ?_)
    refine lv_iload_n hx hb dM_act_89 rfl (lv_at hl 5 rfl) ?_
    refine lv_bipush (v := 15) hx hb dM_act_90 (by decide) ?_
    refine lv_icmp_ge (tgt := 104) hx hb dM_act_92 rfl (fun h9 => absurd h9 (by decide)) (fun _ => ?_)
    refine lv_iload hx hb dM_act_95 (lv_at hl 0 rfl) ?_
    refine lv_if_eq (tgt := 104) hx hb dM_act_97 rfl (fun _ => ?_) (fun h9 => absurd (by decide) h9)
    refine lv_iconst (v := 0) hx hb dM_act_104 (by decide) ?_
    refine lv_istore (lv' := [(7, .int 0), (6, .int 0), (5, .int 0), (0, .ref (X 0 0)), (1, .int (nI b)), (2, .int (nI ln)), (3, .int 8), (4, .int cc)]) hx hb dM_act_105 hl (by decide) rfl (fun ls hl => ?_)
    refine lv_aload_n hx hb dM_act_107 rfl (lv_at hl 3 rfl) ?_
    refine lv_iload hx hb dM_act_108 (lv_at hl 0 rfl) ?_
    refine lv_if_ne (tgt := 117) hx hb dM_act_110 rfl (fun h9 => absurd (by decide) h9) (fun _ => ?_)
    refine lv_iconst (v := 1) hx hb dM_act_113 (by decide) ?_
    refine lv_goto (tgt := 118) hx hb dM_act_114 rfl ?_
    refine lv_iload hx hb dM_act_118 (lv_at hl 0 rfl) ?_
    refine lv_if_eq (tgt := 156) hx hb dM_act_120 rfl (fun _ => ?_) (fun h9 => absurd (by decide) h9)
    refine lv_iconst (v := 0) hx hb dM_act_156 (by decide) ?_
    refine er_calli (va_runV (As := [.int 1, .int 0]) (rest := []) ⟨hx, hb, hml, hown, hts⟩ (r_refuses_a l D T X L tg _ hE A 0) (cwV 2 hts gM_152 rfl rfl rfl (by decide +kernel) ⟨Nat.le_of_ble_eq_true rfl, Nat.le_of_ble_eq_true rfl⟩) (er_preV hK hV hi0 (cR_0 _ _ _) rfl) rfl rfl hl.1 rfl (lv_room (Nat.le_of_ble_eq_true rfl)) dM_act_157 ⟨Nat.le_of_ble_eq_true rfl, Nat.le_of_ble_eq_true rfl⟩) hV hS hA (fun r u H locs hp hV hS => ?_)
    obtain ⟨rfl, rfl⟩ := hp
    refine lv_if_eq (tgt := 165) hx hb dM_act_160 rfl (fun h9 => absurd h9 (by decide)) (fun _ => ?_)
    refine lv_iconst (v := 0) hx hb dM_act_163 (by decide) ?_
    exact er_iret hx hb hr hlocks hV hS dM_act_164 ⟨Eq.symm (by unfold s_act_8r; simp only [if_pos h1]), Eq.symm (by unfold s_act_8r; simp only [if_pos h1])⟩
  · refine lv_iconst (v := 1) hx hb dM_act_61 (by decide) ?_
    refine lv_goto (tgt := 66) hx hb dM_act_62 rfl ?_
    refine lv_istore (lv' := [(6, .int 1), (5, .int 0), (0, .ref (X 0 0)), (1, .int (nI b)), (2, .int (nI ln)), (3, .int 8), (4, .int cc)]) hx hb dM_act_66 hl (by decide) rfl (fun ls hl => ?_)
    refine lv_iload_n hx hb dM_act_68 rfl (lv_at hl 5 rfl) ?_
    refine lv_if_lt (tgt := 83) hx hb dM_act_69 rfl (fun h9 => absurd h9 (by decide)) (fun _ => ?_)
    refine lv_iload_n hx hb dM_act_72 rfl (lv_at hl 5 rfl) ?_
    refine lv_bipush (v := 7) hx hb dM_act_73 (by decide) ?_
    refine lv_icmp_ge (tgt := 83) hx hb dM_act_75 rfl (fun _ => ?_) (fun h9 => absurd (by decide) h9)
    refine lv_iload_n hx hb dM_act_83 rfl (lv_at hl 5 rfl) ?_
    refine lv_bipush (v := 6) hx hb dM_act_84 (by decide) ?_
    refine lv_icmp_le (tgt := 104) hx hb dM_act_86 rfl (fun h9 => absurd h9 (by decide)) (fun _ => ?_)
    refine lv_iload_n hx hb dM_act_89 rfl (lv_at hl 5 rfl) ?_
    refine lv_bipush (v := 15) hx hb dM_act_90 (by decide) ?_
    refine lv_icmp_ge (tgt := 104) hx hb dM_act_92 rfl (fun h9 => absurd h9 (by decide)) (fun _ => ?_)
    refine lv_iload hx hb dM_act_95 (lv_at hl 0 rfl) ?_
    refine lv_if_eq (tgt := 104) hx hb dM_act_97 rfl (fun h9 => absurd h9 (by decide)) (fun _ => ?_)
    refine lv_iconst (v := 1) hx hb dM_act_100 (by decide) ?_
    refine lv_goto (tgt := 105) hx hb dM_act_101 rfl ?_
    refine lv_istore (lv' := [(7, .int 1), (6, .int 1), (5, .int 0), (0, .ref (X 0 0)), (1, .int (nI b)), (2, .int (nI ln)), (3, .int 8), (4, .int cc)]) hx hb dM_act_105 hl (by decide) rfl (fun ls hl => ?_)
    refine lv_aload_n hx hb dM_act_107 rfl (lv_at hl 3 rfl) ?_
    refine lv_iload hx hb dM_act_108 (lv_at hl 0 rfl) ?_
    refine lv_if_ne (tgt := 117) hx hb dM_act_110 rfl (fun _ => ?_) (fun h9 => absurd h9 (by decide))
    refine lv_iconst (v := 0) hx hb dM_act_117 (by decide) ?_
    refine lv_iload hx hb dM_act_118 (lv_at hl 0 rfl) ?_
    refine lv_if_eq (tgt := 156) hx hb dM_act_120 rfl (fun h9 => absurd h9 (by decide)) (fun _ => ?_)
    refine lv_iload hx hb dM_act_123 (lv_at hl 2 rfl) ?_
    refine lv_if_eq (tgt := 140) hx hb dM_act_125 rfl (fun _ => ?_) (fun h9 => absurd (by decide) h9)
    refine lv_aload_n hx hb dM_act_140 rfl (lv_at hl 3 rfl) ?_
    refine lv_iload_n hx hb dM_act_141 rfl (lv_at hl 5 rfl) ?_
    refine lv_iload_n hx hb dM_act_142 rfl (lv_at hl 4 rfl) ?_
    refine lv_iload_n hx hb dM_act_143 rfl (lv_at hl 6 rfl) ?_
    refine lv_iload hx hb dM_act_144 (lv_at hl 7 rfl) ?_
    refine er_calli (va_runV (As := [.int (nI ln), .int (nI b), .int 8, .int cc]) (rest := [.int 0, .ref (X 0 0)]) ⟨hx, hb, hml, hown, hts⟩ (r_maySupplier_8 l D T X L tg _ hE A ln b cc (by omega) hb6) (cwV 4 hts gM_179 rfl rfl rfl (by decide +kernel) ⟨Nat.le_of_ble_eq_true rfl, Nat.le_of_ble_eq_true rfl⟩) (er_preV hK hV hi0 (cR_0 _ _ _) rfl) rfl rfl hl.1 rfl (lv_room (Nat.le_of_ble_eq_true rfl)) dM_act_146 ⟨Nat.le_of_ble_eq_true rfl, Nat.le_of_ble_eq_true rfl⟩) hV hS hA (fun r u H locs hp hV hS => ?_)
    obtain ⟨rfl, eu9⟩ := hp
    rw [eu9] at hV
    refine lv_toe (y := 0) hmay ?_
    refine lv_if_ne (tgt := 156) hx hb dM_act_149 rfl (fun h9 => absurd (by decide) h9) (fun _ => ?_)
    refine lv_iconst (v := 1) hx hb dM_act_152 (by decide) ?_
    refine lv_goto (tgt := 157) hx hb dM_act_153 rfl ?_
    refine er_calli (va_runV (As := [.int 0, .int 1]) (rest := []) ⟨hx, hb, hml, hown, hts⟩ (r_refuses_b l D T X L tg _ hE A) (cwV 2 hts gM_152 rfl rfl rfl (by decide +kernel) ⟨Nat.le_of_ble_eq_true rfl, Nat.le_of_ble_eq_true rfl⟩) (er_preV hK hV hi0 (cR_0 _ _ _) rfl) rfl rfl hl.1 rfl (lv_room (Nat.le_of_ble_eq_true rfl)) dM_act_157 ⟨Nat.le_of_ble_eq_true rfl, Nat.le_of_ble_eq_true rfl⟩) hV hS hA (fun r u H locs hp hV hS => ?_)
    obtain ⟨rfl, rfl⟩ := hp
    refine lv_if_eq (tgt := 165) hx hb dM_act_160 rfl (fun h9 => absurd h9 (by decide)) (fun _ => ?_)
    refine lv_iconst (v := 0) hx hb dM_act_163 (by decide) ?_
    exact er_iret hx hb hr hlocks hV hS dM_act_164 ⟨Eq.symm (by unfold s_act_8r; simp only [if_neg h1]), Eq.symm (by unfold s_act_8r; simp only [if_neg h1])⟩

def s_act_9r (A : ew_R) (b : Nat) (ln : Nat) (cc : Int32) (nl : Nat) (rq : Nat) : Int32 × ew_R :=
  if A 22 0 ((6 * ln) + b) = 0 then
    (0, up3 A 0 0 0 1)
  else
    (0, up3 A 0 0 0 2)
set_option maxHeartbeats 4000000 in
set_option maxRecDepth 100000 in
theorem r_act_9r (l : Launch) (D : va_G) (T : Nat → ClassId) (X : Nat → Nat → Nat) (L : List Nat) (tg : Nat → Nat × Nat) (sz : Nat) (hE : eR_E X L tg) (A : ew_R) (b : Nat) (ln : Nat) (cc : Int32) (nl : Nat) (rq : Nat) (hb6 : b < 6) (hnl : ln < nl) (hn2 : nl ≤ 32) (q2 : A 0 0 2 = nI nl) (hrq : rq < 6) (q11 : A 11 0 ln = nI rq) (hbr : ¬ b = rq) (hmay : s_maySupplier_9 A ln b cc = 0) : Met l yM_act wsM_act ({ frames := 5, cells := 0, slots := 0, locals := 114 }) (er_Pc D vwCl (tysA T) (cfR T) X L tg A sz [.ref (X 0 0), .int (nI b), .int (nI ln), .int 9, .int cc]) (er_Qi D vwCl (cfR T) X L tg sz (fun r u => r = (s_act_9r A b ln cc nl rq).1 ∧ u = (s_act_9r A b ln cc nl rq).2)) 0 0 (ew_A L sz) := by
  refine er_met (by decide) rfl (Nat.le_of_ble_eq_true rfl) ?_
  intro p e s m below meth c ls hx hb hr hts hown hlocks hml hV hK hS hA hl hsz
  subst hsz
  have hi0 := hE 0 (by decide)
  have hl : lv_has ls 8 [(0, .ref (X 0 0)), (1, .int (nI b)), (2, .int (nI ln)), (3, .int 9), (4, .int cc)] := hl
  refine lv_aload_n hx hb dM_act_0 rfl (lv_at hl 0 rfl) ?_
  refine lv_iload_n hx hb dM_act_1 rfl (lv_at hl 2 rfl) ?_
  refine er_calli (va_runV (As := [.int (nI ln)]) (rest := []) ⟨hx, hb, hml, hown, hts⟩ (r_isLoan l D T X L tg _ hE A (nI ln)) (cwV 1 hts gM_172 rfl rfl rfl (by decide +kernel) ⟨Nat.le_of_ble_eq_true rfl, Nat.le_of_ble_eq_true rfl⟩) (er_preV hK hV hi0 (cR_0 _ _ _) rfl) rfl rfl hl.1 rfl (lv_room (Nat.le_of_ble_eq_true rfl)) dM_act_2 ⟨Nat.le_of_ble_eq_true rfl, Nat.le_of_ble_eq_true rfl⟩) hV hS hA (fun r u H locs hp hV hS => ?_)
  obtain ⟨rfl, eu9⟩ := hp
  rw [eu9] at hV
  refine lv_toe (y := 1) (s_isLoan_1 q2 hnl hn2) ?_
  refine lv_if_eq (tgt := 29) hx hb dM_act_5 rfl (fun h9 => absurd h9 (by decide)) (fun _ => ?_)
  refine lv_iload_n hx hb dM_act_8 rfl (lv_at hl 1 rfl) ?_
  refine er_calli (va_runS (As := [.int (nI b)]) (rest := []) ⟨hx, hb, hml, hown, hts⟩ (r_isLibrary l D T X L tg _ hE A (nI b)) (cwS 1 hts gM_142 rfl rfl rfl (by decide +kernel) ⟨Nat.le_of_ble_eq_true rfl, Nat.le_of_ble_eq_true rfl⟩) (er_preS hK hV) rfl rfl hl.1 rfl (lv_room (Nat.le_of_ble_eq_true rfl)) dM_act_9 ⟨Nat.le_of_ble_eq_true rfl, Nat.le_of_ble_eq_true rfl⟩) hV hS hA (fun r u H locs hp hV hS => ?_)
  obtain ⟨rfl, eu9⟩ := hp
  rw [eu9] at hV
  refine lv_toe (y := 1) (s_isLibrary_1 hb6) ?_
  refine lv_if_eq (tgt := 29) hx hb dM_act_12 rfl (fun h9 => absurd h9 (by decide)) (fun _ => ?_)
  refine lv_iload_n hx hb dM_act_15 rfl (lv_at hl 1 rfl) ?_
  refine lv_aload_n hx hb dM_act_16 rfl (lv_at hl 0 rfl) ?_
  refine ew_get (v := .ref (X 11 0)) hx hb hts hown hK hV fM_25 hi0 (cR_0 _ _ _) rfl dM_act_17 ?_
  refine lv_iload_n hx hb dM_act_20 rfl (lv_at hl 2 rfl) ?_
  refine ew_iald (v := A 11 0 ln) hx hb hK hV (hE 11 (by decide)) (cR_11 _ _ _) 0 rfl (vp_in_nI (by omega) (by decide)) (er_ix (by omega) rfl) dM_act_21 ?_
  refine lv_toe (y := nI rq) q11 ?_
  refine lv_icmp_ne (tgt := 29) hx hb dM_act_22 rfl (fun _ => ?_) (fun h9 => absurd h9 (fun z9 => hbr ((nI_eq (a := b) (b := rq) (by omega) (by omega)).mp z9)))
  refine lv_iconst (v := 0) hx hb dM_act_29 (by decide) ?_
  refine lv_istore (lv' := [(5, .int 0), (0, .ref (X 0 0)), (1, .int (nI b)), (2, .int (nI ln)), (3, .int 9), (4, .int cc)]) hx hb dM_act_30 hl (by decide) rfl (fun ls hl => ?_)
  refine lv_aload_n hx hb dM_act_32 rfl (lv_at hl 1 rfl) ?_
  refine lv_iload_n hx hb dM_act_33 rfl (lv_at hl 3 rfl) ?_
  refine er_calli (va_runV (As := [.int (nI ln)]) (rest := []) ⟨hx, hb, hml, hown, hts⟩ (r_isLoan l D T X L tg _ hE A (nI ln)) (cwV 1 hts gM_172 rfl rfl rfl (by decide +kernel) ⟨Nat.le_of_ble_eq_true rfl, Nat.le_of_ble_eq_true rfl⟩) (er_preV hK hV hi0 (cR_0 _ _ _) rfl) rfl rfl hl.1 rfl (lv_room (Nat.le_of_ble_eq_true rfl)) dM_act_34 ⟨Nat.le_of_ble_eq_true rfl, Nat.le_of_ble_eq_true rfl⟩) hV hS hA (fun r u H locs hp hV hS => ?_)
  obtain ⟨rfl, eu9⟩ := hp
  rw [eu9] at hV
  refine lv_toe (y := 1) (s_isLoan_1 q2 hnl hn2) ?_
  refine lv_if_eq (tgt := 65) hx hb dM_act_37 rfl (fun h9 => absurd h9 (by decide)) (fun _ => ?_)
  refine lv_iload_n hx hb dM_act_40 rfl (lv_at hl 2 rfl) ?_
  refine er_calli (va_runS (As := [.int (nI b)]) (rest := []) ⟨hx, hb, hml, hown, hts⟩ (r_isLibrary l D T X L tg _ hE A (nI b)) (cwS 1 hts gM_142 rfl rfl rfl (by decide +kernel) ⟨Nat.le_of_ble_eq_true rfl, Nat.le_of_ble_eq_true rfl⟩) (er_preS hK hV) rfl rfl hl.1 rfl (lv_room (Nat.le_of_ble_eq_true rfl)) dM_act_41 ⟨Nat.le_of_ble_eq_true rfl, Nat.le_of_ble_eq_true rfl⟩) hV hS hA (fun r u H locs hp hV hS => ?_)
  obtain ⟨rfl, eu9⟩ := hp
  rw [eu9] at hV
  refine lv_toe (y := 1) (s_isLibrary_1 hb6) ?_
  refine lv_if_eq (tgt := 65) hx hb dM_act_44 rfl (fun h9 => absurd h9 (by decide)) (fun _ => ?_)
  refine lv_aload_n hx hb dM_act_47 rfl (lv_at hl 1 rfl) ?_
  refine ew_get (v := .ref (X 22 0)) hx hb hts hown hK hV fM_58 hi0 (cR_0 _ _ _) rfl dM_act_48 ?_
  refine lv_bipush (v := 6) hx hb dM_act_51 (by decide) ?_
  refine lv_iload_n hx hb dM_act_53 rfl (lv_at hl 3 rfl) ?_
  refine lv_imul hx hb dM_act_54 ?_
  refine lv_toe (y := nI (6 * ln)) (pk_mul 6 ln) ?_
  refine lv_iload_n hx hb dM_act_55 rfl (lv_at hl 2 rfl) ?_
  refine lv_iadd hx hb dM_act_56 ?_
  refine lv_toe (y := nI ((6 * ln) + b)) (nI_add (6 * ln) b) ?_
  refine ew_zald (v := A 22 0 ((6 * ln) + b)) hx hb hK hV (hE 22 (by decide)) (cR_22 _ _ _) 1 rfl (vp_in_nI (by omega) (by decide)) (er_ix (by omega) rfl) dM_act_57 ?_
  refine lv_if_eq (tgt := 65) hx hb dM_act_58 rfl (fun h1 => ?_) (fun h1 => ?_)
  · refine lv_iconst (v := 0) hx hb dM_act_65 (by decide) ?_
    refine lv_istore (lv' := [(6, .int 0), (5, .int 0), (0, .ref (X 0 0)), (1, .int (nI b)), (2, .int (nI ln)), (3, .int 9), (4, .int cc)]) hx hb dM_act_66 hl (by decide) rfl (fun ls hl => ?_)
    refine lv_iload_n hx hb dM_act_68 rfl (lv_at hl 5 rfl) ?_
    refine lv_if_lt (tgt := 83) hx hb dM_act_69 rfl (fun h9 => absurd h9 (by decide)) (fun _ => ?_)
    refine lv_iload_n hx hb dM_act_72 rfl (lv_at hl 5 rfl) ?_
    refine lv_bipush (v := 7) hx hb dM_act_73 (by decide) ?_
    refine lv_icmp_ge (tgt := 83) hx hb dM_act_75 rfl (fun _ => ?_) (fun h9 => absurd (by decide) h9)
    refine lv_iload_n hx hb dM_act_83 rfl (lv_at hl 5 rfl) ?_
    refine lv_bipush (v := 6) hx hb dM_act_84 (by decide) ?_
    refine lv_icmp_le (tgt := 104) hx hb dM_act_86 rfl (fun h9 => absurd h9 (by decide)) (fun _ => ?_)
    refine lv_iload_n hx hb dM_act_89 rfl (lv_at hl 5 rfl) ?_
    refine lv_bipush (v := 15) hx hb dM_act_90 (by decide) ?_
    refine lv_icmp_ge (tgt := 104) hx hb dM_act_92 rfl (fun h9 => absurd h9 (by decide)) (fun _ => ?_)
    refine lv_iload hx hb dM_act_95 (lv_at hl 0 rfl) ?_
    refine lv_if_eq (tgt := 104) hx hb dM_act_97 rfl (fun _ => ?_) (fun h9 => absurd (by decide) h9)
    refine lv_iconst (v := 0) hx hb dM_act_104 (by decide) ?_
    refine lv_istore (lv' := [(7, .int 0), (6, .int 0), (5, .int 0), (0, .ref (X 0 0)), (1, .int (nI b)), (2, .int (nI ln)), (3, .int 9), (4, .int cc)]) hx hb dM_act_105 hl (by decide) rfl (fun ls hl => ?_)
    refine lv_aload_n hx hb dM_act_107 rfl (lv_at hl 3 rfl) ?_
    refine lv_iload hx hb dM_act_108 (lv_at hl 0 rfl) ?_
    refine lv_if_ne (tgt := 117) hx hb dM_act_110 rfl (fun h9 => absurd (by decide) h9) (fun _ => ?_)
    refine lv_iconst (v := 1) hx hb dM_act_113 (by decide) ?_
    refine lv_goto (tgt := 118) hx hb dM_act_114 rfl ?_
    refine lv_iload hx hb dM_act_118 (lv_at hl 0 rfl) ?_
    refine lv_if_eq (tgt := 156) hx hb dM_act_120 rfl (fun _ => ?_) (fun h9 => absurd (by decide) h9)
    refine lv_iconst (v := 0) hx hb dM_act_156 (by decide) ?_
    refine er_calli (va_runV (As := [.int 1, .int 0]) (rest := []) ⟨hx, hb, hml, hown, hts⟩ (r_refuses_a l D T X L tg _ hE A 0) (cwV 2 hts gM_152 rfl rfl rfl (by decide +kernel) ⟨Nat.le_of_ble_eq_true rfl, Nat.le_of_ble_eq_true rfl⟩) (er_preV hK hV hi0 (cR_0 _ _ _) rfl) rfl rfl hl.1 rfl (lv_room (Nat.le_of_ble_eq_true rfl)) dM_act_157 ⟨Nat.le_of_ble_eq_true rfl, Nat.le_of_ble_eq_true rfl⟩) hV hS hA (fun r u H locs hp hV hS => ?_)
    obtain ⟨rfl, rfl⟩ := hp
    refine lv_if_eq (tgt := 165) hx hb dM_act_160 rfl (fun h9 => absurd h9 (by decide)) (fun _ => ?_)
    refine lv_iconst (v := 0) hx hb dM_act_163 (by decide) ?_
    exact er_iret hx hb hr hlocks hV hS dM_act_164 ⟨Eq.symm (by unfold s_act_9r; simp only [if_pos h1]), Eq.symm (by unfold s_act_9r; simp only [if_pos h1])⟩
  · refine lv_iconst (v := 1) hx hb dM_act_61 (by decide) ?_
    refine lv_goto (tgt := 66) hx hb dM_act_62 rfl ?_
    refine lv_istore (lv' := [(6, .int 1), (5, .int 0), (0, .ref (X 0 0)), (1, .int (nI b)), (2, .int (nI ln)), (3, .int 9), (4, .int cc)]) hx hb dM_act_66 hl (by decide) rfl (fun ls hl => ?_)
    refine lv_iload_n hx hb dM_act_68 rfl (lv_at hl 5 rfl) ?_
    refine lv_if_lt (tgt := 83) hx hb dM_act_69 rfl (fun h9 => absurd h9 (by decide)) (fun _ => ?_)
    refine lv_iload_n hx hb dM_act_72 rfl (lv_at hl 5 rfl) ?_
    refine lv_bipush (v := 7) hx hb dM_act_73 (by decide) ?_
    refine lv_icmp_ge (tgt := 83) hx hb dM_act_75 rfl (fun _ => ?_) (fun h9 => absurd (by decide) h9)
    refine lv_iload_n hx hb dM_act_83 rfl (lv_at hl 5 rfl) ?_
    refine lv_bipush (v := 6) hx hb dM_act_84 (by decide) ?_
    refine lv_icmp_le (tgt := 104) hx hb dM_act_86 rfl (fun h9 => absurd h9 (by decide)) (fun _ => ?_)
    refine lv_iload_n hx hb dM_act_89 rfl (lv_at hl 5 rfl) ?_
    refine lv_bipush (v := 15) hx hb dM_act_90 (by decide) ?_
    refine lv_icmp_ge (tgt := 104) hx hb dM_act_92 rfl (fun h9 => absurd h9 (by decide)) (fun _ => ?_)
    refine lv_iload hx hb dM_act_95 (lv_at hl 0 rfl) ?_
    refine lv_if_eq (tgt := 104) hx hb dM_act_97 rfl (fun h9 => absurd h9 (by decide)) (fun _ => ?_)
    refine lv_iconst (v := 1) hx hb dM_act_100 (by decide) ?_
    refine lv_goto (tgt := 105) hx hb dM_act_101 rfl ?_
    refine lv_istore (lv' := [(7, .int 1), (6, .int 1), (5, .int 0), (0, .ref (X 0 0)), (1, .int (nI b)), (2, .int (nI ln)), (3, .int 9), (4, .int cc)]) hx hb dM_act_105 hl (by decide) rfl (fun ls hl => ?_)
    refine lv_aload_n hx hb dM_act_107 rfl (lv_at hl 3 rfl) ?_
    refine lv_iload hx hb dM_act_108 (lv_at hl 0 rfl) ?_
    refine lv_if_ne (tgt := 117) hx hb dM_act_110 rfl (fun _ => ?_) (fun h9 => absurd h9 (by decide))
    refine lv_iconst (v := 0) hx hb dM_act_117 (by decide) ?_
    refine lv_iload hx hb dM_act_118 (lv_at hl 0 rfl) ?_
    refine lv_if_eq (tgt := 156) hx hb dM_act_120 rfl (fun h9 => absurd h9 (by decide)) (fun _ => ?_)
    refine lv_iload hx hb dM_act_123 (lv_at hl 2 rfl) ?_
    refine lv_if_eq (tgt := 140) hx hb dM_act_125 rfl (fun _ => ?_) (fun h9 => absurd (by decide) h9)
    refine lv_aload_n hx hb dM_act_140 rfl (lv_at hl 3 rfl) ?_
    refine lv_iload_n hx hb dM_act_141 rfl (lv_at hl 5 rfl) ?_
    refine lv_iload_n hx hb dM_act_142 rfl (lv_at hl 4 rfl) ?_
    refine lv_iload_n hx hb dM_act_143 rfl (lv_at hl 6 rfl) ?_
    refine lv_iload hx hb dM_act_144 (lv_at hl 7 rfl) ?_
    refine er_calli (va_runV (As := [.int (nI ln), .int (nI b), .int 9, .int cc]) (rest := [.int 0, .ref (X 0 0)]) ⟨hx, hb, hml, hown, hts⟩ (r_maySupplier_9 l D T X L tg _ hE A ln b cc (by omega) hb6) (cwV 4 hts gM_179 rfl rfl rfl (by decide +kernel) ⟨Nat.le_of_ble_eq_true rfl, Nat.le_of_ble_eq_true rfl⟩) (er_preV hK hV hi0 (cR_0 _ _ _) rfl) rfl rfl hl.1 rfl (lv_room (Nat.le_of_ble_eq_true rfl)) dM_act_146 ⟨Nat.le_of_ble_eq_true rfl, Nat.le_of_ble_eq_true rfl⟩) hV hS hA (fun r u H locs hp hV hS => ?_)
    obtain ⟨rfl, eu9⟩ := hp
    rw [eu9] at hV
    refine lv_toe (y := 0) hmay ?_
    refine lv_if_ne (tgt := 156) hx hb dM_act_149 rfl (fun h9 => absurd (by decide) h9) (fun _ => ?_)
    refine lv_iconst (v := 1) hx hb dM_act_152 (by decide) ?_
    refine lv_goto (tgt := 157) hx hb dM_act_153 rfl ?_
    refine er_calli (va_runV (As := [.int 0, .int 1]) (rest := []) ⟨hx, hb, hml, hown, hts⟩ (r_refuses_b l D T X L tg _ hE A) (cwV 2 hts gM_152 rfl rfl rfl (by decide +kernel) ⟨Nat.le_of_ble_eq_true rfl, Nat.le_of_ble_eq_true rfl⟩) (er_preV hK hV hi0 (cR_0 _ _ _) rfl) rfl rfl hl.1 rfl (lv_room (Nat.le_of_ble_eq_true rfl)) dM_act_157 ⟨Nat.le_of_ble_eq_true rfl, Nat.le_of_ble_eq_true rfl⟩) hV hS hA (fun r u H locs hp hV hS => ?_)
    obtain ⟨rfl, rfl⟩ := hp
    refine lv_if_eq (tgt := 165) hx hb dM_act_160 rfl (fun h9 => absurd h9 (by decide)) (fun _ => ?_)
    refine lv_iconst (v := 0) hx hb dM_act_163 (by decide) ?_
    exact er_iret hx hb hr hlocks hV hS dM_act_164 ⟨Eq.symm (by unfold s_act_9r; simp only [if_neg h1]), Eq.symm (by unfold s_act_9r; simp only [if_neg h1])⟩

def s_act_10r (A : ew_R) (b : Nat) (ln : Nat) (cc : Int32) (nl : Nat) (rq : Nat) : Int32 × ew_R :=
  if A 22 0 ((6 * ln) + b) = 0 then
    (0, up3 A 0 0 0 1)
  else
    (0, up3 A 0 0 0 2)
set_option maxHeartbeats 4000000 in
set_option maxRecDepth 100000 in
theorem r_act_10r (l : Launch) (D : va_G) (T : Nat → ClassId) (X : Nat → Nat → Nat) (L : List Nat) (tg : Nat → Nat × Nat) (sz : Nat) (hE : eR_E X L tg) (A : ew_R) (b : Nat) (ln : Nat) (cc : Int32) (nl : Nat) (rq : Nat) (hb6 : b < 6) (hnl : ln < nl) (hn2 : nl ≤ 32) (q2 : A 0 0 2 = nI nl) (hrq : rq < 6) (q11 : A 11 0 ln = nI rq) (hbr : ¬ b = rq) (hmay : s_maySupplier_10 A ln b cc = 0) : Met l yM_act wsM_act ({ frames := 5, cells := 0, slots := 0, locals := 114 }) (er_Pc D vwCl (tysA T) (cfR T) X L tg A sz [.ref (X 0 0), .int (nI b), .int (nI ln), .int 10, .int cc]) (er_Qi D vwCl (cfR T) X L tg sz (fun r u => r = (s_act_10r A b ln cc nl rq).1 ∧ u = (s_act_10r A b ln cc nl rq).2)) 0 0 (ew_A L sz) := by
  refine er_met (by decide) rfl (Nat.le_of_ble_eq_true rfl) ?_
  intro p e s m below meth c ls hx hb hr hts hown hlocks hml hV hK hS hA hl hsz
  subst hsz
  have hi0 := hE 0 (by decide)
  have hl : lv_has ls 8 [(0, .ref (X 0 0)), (1, .int (nI b)), (2, .int (nI ln)), (3, .int 10), (4, .int cc)] := hl
  refine lv_aload_n hx hb dM_act_0 rfl (lv_at hl 0 rfl) ?_
  refine lv_iload_n hx hb dM_act_1 rfl (lv_at hl 2 rfl) ?_
  refine er_calli (va_runV (As := [.int (nI ln)]) (rest := []) ⟨hx, hb, hml, hown, hts⟩ (r_isLoan l D T X L tg _ hE A (nI ln)) (cwV 1 hts gM_172 rfl rfl rfl (by decide +kernel) ⟨Nat.le_of_ble_eq_true rfl, Nat.le_of_ble_eq_true rfl⟩) (er_preV hK hV hi0 (cR_0 _ _ _) rfl) rfl rfl hl.1 rfl (lv_room (Nat.le_of_ble_eq_true rfl)) dM_act_2 ⟨Nat.le_of_ble_eq_true rfl, Nat.le_of_ble_eq_true rfl⟩) hV hS hA (fun r u H locs hp hV hS => ?_)
  obtain ⟨rfl, eu9⟩ := hp
  rw [eu9] at hV
  refine lv_toe (y := 1) (s_isLoan_1 q2 hnl hn2) ?_
  refine lv_if_eq (tgt := 29) hx hb dM_act_5 rfl (fun h9 => absurd h9 (by decide)) (fun _ => ?_)
  refine lv_iload_n hx hb dM_act_8 rfl (lv_at hl 1 rfl) ?_
  refine er_calli (va_runS (As := [.int (nI b)]) (rest := []) ⟨hx, hb, hml, hown, hts⟩ (r_isLibrary l D T X L tg _ hE A (nI b)) (cwS 1 hts gM_142 rfl rfl rfl (by decide +kernel) ⟨Nat.le_of_ble_eq_true rfl, Nat.le_of_ble_eq_true rfl⟩) (er_preS hK hV) rfl rfl hl.1 rfl (lv_room (Nat.le_of_ble_eq_true rfl)) dM_act_9 ⟨Nat.le_of_ble_eq_true rfl, Nat.le_of_ble_eq_true rfl⟩) hV hS hA (fun r u H locs hp hV hS => ?_)
  obtain ⟨rfl, eu9⟩ := hp
  rw [eu9] at hV
  refine lv_toe (y := 1) (s_isLibrary_1 hb6) ?_
  refine lv_if_eq (tgt := 29) hx hb dM_act_12 rfl (fun h9 => absurd h9 (by decide)) (fun _ => ?_)
  refine lv_iload_n hx hb dM_act_15 rfl (lv_at hl 1 rfl) ?_
  refine lv_aload_n hx hb dM_act_16 rfl (lv_at hl 0 rfl) ?_
  refine ew_get (v := .ref (X 11 0)) hx hb hts hown hK hV fM_25 hi0 (cR_0 _ _ _) rfl dM_act_17 ?_
  refine lv_iload_n hx hb dM_act_20 rfl (lv_at hl 2 rfl) ?_
  refine ew_iald (v := A 11 0 ln) hx hb hK hV (hE 11 (by decide)) (cR_11 _ _ _) 0 rfl (vp_in_nI (by omega) (by decide)) (er_ix (by omega) rfl) dM_act_21 ?_
  refine lv_toe (y := nI rq) q11 ?_
  refine lv_icmp_ne (tgt := 29) hx hb dM_act_22 rfl (fun _ => ?_) (fun h9 => absurd h9 (fun z9 => hbr ((nI_eq (a := b) (b := rq) (by omega) (by omega)).mp z9)))
  refine lv_iconst (v := 0) hx hb dM_act_29 (by decide) ?_
  refine lv_istore (lv' := [(5, .int 0), (0, .ref (X 0 0)), (1, .int (nI b)), (2, .int (nI ln)), (3, .int 10), (4, .int cc)]) hx hb dM_act_30 hl (by decide) rfl (fun ls hl => ?_)
  refine lv_aload_n hx hb dM_act_32 rfl (lv_at hl 1 rfl) ?_
  refine lv_iload_n hx hb dM_act_33 rfl (lv_at hl 3 rfl) ?_
  refine er_calli (va_runV (As := [.int (nI ln)]) (rest := []) ⟨hx, hb, hml, hown, hts⟩ (r_isLoan l D T X L tg _ hE A (nI ln)) (cwV 1 hts gM_172 rfl rfl rfl (by decide +kernel) ⟨Nat.le_of_ble_eq_true rfl, Nat.le_of_ble_eq_true rfl⟩) (er_preV hK hV hi0 (cR_0 _ _ _) rfl) rfl rfl hl.1 rfl (lv_room (Nat.le_of_ble_eq_true rfl)) dM_act_34 ⟨Nat.le_of_ble_eq_true rfl, Nat.le_of_ble_eq_true rfl⟩) hV hS hA (fun r u H locs hp hV hS => ?_)
  obtain ⟨rfl, eu9⟩ := hp
  rw [eu9] at hV
  refine lv_toe (y := 1) (s_isLoan_1 q2 hnl hn2) ?_
  refine lv_if_eq (tgt := 65) hx hb dM_act_37 rfl (fun h9 => absurd h9 (by decide)) (fun _ => ?_)
  refine lv_iload_n hx hb dM_act_40 rfl (lv_at hl 2 rfl) ?_
  refine er_calli (va_runS (As := [.int (nI b)]) (rest := []) ⟨hx, hb, hml, hown, hts⟩ (r_isLibrary l D T X L tg _ hE A (nI b)) (cwS 1 hts gM_142 rfl rfl rfl (by decide +kernel) ⟨Nat.le_of_ble_eq_true rfl, Nat.le_of_ble_eq_true rfl⟩) (er_preS hK hV) rfl rfl hl.1 rfl (lv_room (Nat.le_of_ble_eq_true rfl)) dM_act_41 ⟨Nat.le_of_ble_eq_true rfl, Nat.le_of_ble_eq_true rfl⟩) hV hS hA (fun r u H locs hp hV hS => ?_)
  obtain ⟨rfl, eu9⟩ := hp
  rw [eu9] at hV
  refine lv_toe (y := 1) (s_isLibrary_1 hb6) ?_
  refine lv_if_eq (tgt := 65) hx hb dM_act_44 rfl (fun h9 => absurd h9 (by decide)) (fun _ => ?_)
  refine lv_aload_n hx hb dM_act_47 rfl (lv_at hl 1 rfl) ?_
  refine ew_get (v := .ref (X 22 0)) hx hb hts hown hK hV fM_58 hi0 (cR_0 _ _ _) rfl dM_act_48 ?_
  refine lv_bipush (v := 6) hx hb dM_act_51 (by decide) ?_
  refine lv_iload_n hx hb dM_act_53 rfl (lv_at hl 3 rfl) ?_
  refine lv_imul hx hb dM_act_54 ?_
  refine lv_toe (y := nI (6 * ln)) (pk_mul 6 ln) ?_
  refine lv_iload_n hx hb dM_act_55 rfl (lv_at hl 2 rfl) ?_
  refine lv_iadd hx hb dM_act_56 ?_
  refine lv_toe (y := nI ((6 * ln) + b)) (nI_add (6 * ln) b) ?_
  refine ew_zald (v := A 22 0 ((6 * ln) + b)) hx hb hK hV (hE 22 (by decide)) (cR_22 _ _ _) 1 rfl (vp_in_nI (by omega) (by decide)) (er_ix (by omega) rfl) dM_act_57 ?_
  refine lv_if_eq (tgt := 65) hx hb dM_act_58 rfl (fun h1 => ?_) (fun h1 => ?_)
  · refine lv_iconst (v := 0) hx hb dM_act_65 (by decide) ?_
    refine lv_istore (lv' := [(6, .int 0), (5, .int 0), (0, .ref (X 0 0)), (1, .int (nI b)), (2, .int (nI ln)), (3, .int 10), (4, .int cc)]) hx hb dM_act_66 hl (by decide) rfl (fun ls hl => ?_)
    refine lv_iload_n hx hb dM_act_68 rfl (lv_at hl 5 rfl) ?_
    refine lv_if_lt (tgt := 83) hx hb dM_act_69 rfl (fun h9 => absurd h9 (by decide)) (fun _ => ?_)
    refine lv_iload_n hx hb dM_act_72 rfl (lv_at hl 5 rfl) ?_
    refine lv_bipush (v := 7) hx hb dM_act_73 (by decide) ?_
    refine lv_icmp_ge (tgt := 83) hx hb dM_act_75 rfl (fun _ => ?_) (fun h9 => absurd (by decide) h9)
    refine lv_iload_n hx hb dM_act_83 rfl (lv_at hl 5 rfl) ?_
    refine lv_bipush (v := 6) hx hb dM_act_84 (by decide) ?_
    refine lv_icmp_le (tgt := 104) hx hb dM_act_86 rfl (fun h9 => absurd h9 (by decide)) (fun _ => ?_)
    refine lv_iload_n hx hb dM_act_89 rfl (lv_at hl 5 rfl) ?_
    refine lv_bipush (v := 15) hx hb dM_act_90 (by decide) ?_
    refine lv_icmp_ge (tgt := 104) hx hb dM_act_92 rfl (fun h9 => absurd h9 (by decide)) (fun _ => ?_)
    refine lv_iload hx hb dM_act_95 (lv_at hl 0 rfl) ?_
    refine lv_if_eq (tgt := 104) hx hb dM_act_97 rfl (fun _ => ?_) (fun h9 => absurd (by decide) h9)
    refine lv_iconst (v := 0) hx hb dM_act_104 (by decide) ?_
    refine lv_istore (lv' := [(7, .int 0), (6, .int 0), (5, .int 0), (0, .ref (X 0 0)), (1, .int (nI b)), (2, .int (nI ln)), (3, .int 10), (4, .int cc)]) hx hb dM_act_105 hl (by decide) rfl (fun ls hl => ?_)
    refine lv_aload_n hx hb dM_act_107 rfl (lv_at hl 3 rfl) ?_
    refine lv_iload hx hb dM_act_108 (lv_at hl 0 rfl) ?_
    refine lv_if_ne (tgt := 117) hx hb dM_act_110 rfl (fun h9 => absurd (by decide) h9) (fun _ => ?_)
    refine lv_iconst (v := 1) hx hb dM_act_113 (by decide) ?_
    refine lv_goto (tgt := 118) hx hb dM_act_114 rfl ?_
    refine lv_iload hx hb dM_act_118 (lv_at hl 0 rfl) ?_
    refine lv_if_eq (tgt := 156) hx hb dM_act_120 rfl (fun _ => ?_) (fun h9 => absurd (by decide) h9)
    refine lv_iconst (v := 0) hx hb dM_act_156 (by decide) ?_
    refine er_calli (va_runV (As := [.int 1, .int 0]) (rest := []) ⟨hx, hb, hml, hown, hts⟩ (r_refuses_a l D T X L tg _ hE A 0) (cwV 2 hts gM_152 rfl rfl rfl (by decide +kernel) ⟨Nat.le_of_ble_eq_true rfl, Nat.le_of_ble_eq_true rfl⟩) (er_preV hK hV hi0 (cR_0 _ _ _) rfl) rfl rfl hl.1 rfl (lv_room (Nat.le_of_ble_eq_true rfl)) dM_act_157 ⟨Nat.le_of_ble_eq_true rfl, Nat.le_of_ble_eq_true rfl⟩) hV hS hA (fun r u H locs hp hV hS => ?_)
    obtain ⟨rfl, rfl⟩ := hp
    refine lv_if_eq (tgt := 165) hx hb dM_act_160 rfl (fun h9 => absurd h9 (by decide)) (fun _ => ?_)
    refine lv_iconst (v := 0) hx hb dM_act_163 (by decide) ?_
    exact er_iret hx hb hr hlocks hV hS dM_act_164 ⟨Eq.symm (by unfold s_act_10r; simp only [if_pos h1]), Eq.symm (by unfold s_act_10r; simp only [if_pos h1])⟩
  · refine lv_iconst (v := 1) hx hb dM_act_61 (by decide) ?_
    refine lv_goto (tgt := 66) hx hb dM_act_62 rfl ?_
    refine lv_istore (lv' := [(6, .int 1), (5, .int 0), (0, .ref (X 0 0)), (1, .int (nI b)), (2, .int (nI ln)), (3, .int 10), (4, .int cc)]) hx hb dM_act_66 hl (by decide) rfl (fun ls hl => ?_)
    refine lv_iload_n hx hb dM_act_68 rfl (lv_at hl 5 rfl) ?_
    refine lv_if_lt (tgt := 83) hx hb dM_act_69 rfl (fun h9 => absurd h9 (by decide)) (fun _ => ?_)
    refine lv_iload_n hx hb dM_act_72 rfl (lv_at hl 5 rfl) ?_
    refine lv_bipush (v := 7) hx hb dM_act_73 (by decide) ?_
    refine lv_icmp_ge (tgt := 83) hx hb dM_act_75 rfl (fun _ => ?_) (fun h9 => absurd (by decide) h9)
    refine lv_iload_n hx hb dM_act_83 rfl (lv_at hl 5 rfl) ?_
    refine lv_bipush (v := 6) hx hb dM_act_84 (by decide) ?_
    refine lv_icmp_le (tgt := 104) hx hb dM_act_86 rfl (fun h9 => absurd h9 (by decide)) (fun _ => ?_)
    refine lv_iload_n hx hb dM_act_89 rfl (lv_at hl 5 rfl) ?_
    refine lv_bipush (v := 15) hx hb dM_act_90 (by decide) ?_
    refine lv_icmp_ge (tgt := 104) hx hb dM_act_92 rfl (fun h9 => absurd h9 (by decide)) (fun _ => ?_)
    refine lv_iload hx hb dM_act_95 (lv_at hl 0 rfl) ?_
    refine lv_if_eq (tgt := 104) hx hb dM_act_97 rfl (fun h9 => absurd h9 (by decide)) (fun _ => ?_)
    refine lv_iconst (v := 1) hx hb dM_act_100 (by decide) ?_
    refine lv_goto (tgt := 105) hx hb dM_act_101 rfl ?_
    refine lv_istore (lv' := [(7, .int 1), (6, .int 1), (5, .int 0), (0, .ref (X 0 0)), (1, .int (nI b)), (2, .int (nI ln)), (3, .int 10), (4, .int cc)]) hx hb dM_act_105 hl (by decide) rfl (fun ls hl => ?_)
    refine lv_aload_n hx hb dM_act_107 rfl (lv_at hl 3 rfl) ?_
    refine lv_iload hx hb dM_act_108 (lv_at hl 0 rfl) ?_
    refine lv_if_ne (tgt := 117) hx hb dM_act_110 rfl (fun _ => ?_) (fun h9 => absurd h9 (by decide))
    refine lv_iconst (v := 0) hx hb dM_act_117 (by decide) ?_
    refine lv_iload hx hb dM_act_118 (lv_at hl 0 rfl) ?_
    refine lv_if_eq (tgt := 156) hx hb dM_act_120 rfl (fun h9 => absurd h9 (by decide)) (fun _ => ?_)
    refine lv_iload hx hb dM_act_123 (lv_at hl 2 rfl) ?_
    refine lv_if_eq (tgt := 140) hx hb dM_act_125 rfl (fun _ => ?_) (fun h9 => absurd (by decide) h9)
    refine lv_aload_n hx hb dM_act_140 rfl (lv_at hl 3 rfl) ?_
    refine lv_iload_n hx hb dM_act_141 rfl (lv_at hl 5 rfl) ?_
    refine lv_iload_n hx hb dM_act_142 rfl (lv_at hl 4 rfl) ?_
    refine lv_iload_n hx hb dM_act_143 rfl (lv_at hl 6 rfl) ?_
    refine lv_iload hx hb dM_act_144 (lv_at hl 7 rfl) ?_
    refine er_calli (va_runV (As := [.int (nI ln), .int (nI b), .int 10, .int cc]) (rest := [.int 0, .ref (X 0 0)]) ⟨hx, hb, hml, hown, hts⟩ (r_maySupplier_10 l D T X L tg _ hE A ln b cc (by omega) hb6) (cwV 4 hts gM_179 rfl rfl rfl (by decide +kernel) ⟨Nat.le_of_ble_eq_true rfl, Nat.le_of_ble_eq_true rfl⟩) (er_preV hK hV hi0 (cR_0 _ _ _) rfl) rfl rfl hl.1 rfl (lv_room (Nat.le_of_ble_eq_true rfl)) dM_act_146 ⟨Nat.le_of_ble_eq_true rfl, Nat.le_of_ble_eq_true rfl⟩) hV hS hA (fun r u H locs hp hV hS => ?_)
    obtain ⟨rfl, eu9⟩ := hp
    rw [eu9] at hV
    refine lv_toe (y := 0) hmay ?_
    refine lv_if_ne (tgt := 156) hx hb dM_act_149 rfl (fun h9 => absurd (by decide) h9) (fun _ => ?_)
    refine lv_iconst (v := 1) hx hb dM_act_152 (by decide) ?_
    refine lv_goto (tgt := 157) hx hb dM_act_153 rfl ?_
    refine er_calli (va_runV (As := [.int 0, .int 1]) (rest := []) ⟨hx, hb, hml, hown, hts⟩ (r_refuses_b l D T X L tg _ hE A) (cwV 2 hts gM_152 rfl rfl rfl (by decide +kernel) ⟨Nat.le_of_ble_eq_true rfl, Nat.le_of_ble_eq_true rfl⟩) (er_preV hK hV hi0 (cR_0 _ _ _) rfl) rfl rfl hl.1 rfl (lv_room (Nat.le_of_ble_eq_true rfl)) dM_act_157 ⟨Nat.le_of_ble_eq_true rfl, Nat.le_of_ble_eq_true rfl⟩) hV hS hA (fun r u H locs hp hV hS => ?_)
    obtain ⟨rfl, rfl⟩ := hp
    refine lv_if_eq (tgt := 165) hx hb dM_act_160 rfl (fun h9 => absurd h9 (by decide)) (fun _ => ?_)
    refine lv_iconst (v := 0) hx hb dM_act_163 (by decide) ?_
    exact er_iret hx hb hr hlocks hV hS dM_act_164 ⟨Eq.symm (by unfold s_act_10r; simp only [if_neg h1]), Eq.symm (by unfold s_act_10r; simp only [if_neg h1])⟩

def s_act_11r (A : ew_R) (b : Nat) (ln : Nat) (cc : Int32) (nl : Nat) (rq : Nat) : Int32 × ew_R :=
  if A 22 0 ((6 * ln) + b) = 0 then
    (0, up3 A 0 0 0 1)
  else
    (0, up3 A 0 0 0 2)
set_option maxHeartbeats 4000000 in
set_option maxRecDepth 100000 in
theorem r_act_11r (l : Launch) (D : va_G) (T : Nat → ClassId) (X : Nat → Nat → Nat) (L : List Nat) (tg : Nat → Nat × Nat) (sz : Nat) (hE : eR_E X L tg) (A : ew_R) (b : Nat) (ln : Nat) (cc : Int32) (nl : Nat) (rq : Nat) (hb6 : b < 6) (hnl : ln < nl) (hn2 : nl ≤ 32) (q2 : A 0 0 2 = nI nl) (hrq : rq < 6) (q11 : A 11 0 ln = nI rq) (hbr : ¬ b = rq) (hmay : s_maySupplier_11 A ln b cc = 0) : Met l yM_act wsM_act ({ frames := 5, cells := 0, slots := 0, locals := 114 }) (er_Pc D vwCl (tysA T) (cfR T) X L tg A sz [.ref (X 0 0), .int (nI b), .int (nI ln), .int 11, .int cc]) (er_Qi D vwCl (cfR T) X L tg sz (fun r u => r = (s_act_11r A b ln cc nl rq).1 ∧ u = (s_act_11r A b ln cc nl rq).2)) 0 0 (ew_A L sz) := by
  refine er_met (by decide) rfl (Nat.le_of_ble_eq_true rfl) ?_
  intro p e s m below meth c ls hx hb hr hts hown hlocks hml hV hK hS hA hl hsz
  subst hsz
  have hi0 := hE 0 (by decide)
  have hl : lv_has ls 8 [(0, .ref (X 0 0)), (1, .int (nI b)), (2, .int (nI ln)), (3, .int 11), (4, .int cc)] := hl
  refine lv_aload_n hx hb dM_act_0 rfl (lv_at hl 0 rfl) ?_
  refine lv_iload_n hx hb dM_act_1 rfl (lv_at hl 2 rfl) ?_
  refine er_calli (va_runV (As := [.int (nI ln)]) (rest := []) ⟨hx, hb, hml, hown, hts⟩ (r_isLoan l D T X L tg _ hE A (nI ln)) (cwV 1 hts gM_172 rfl rfl rfl (by decide +kernel) ⟨Nat.le_of_ble_eq_true rfl, Nat.le_of_ble_eq_true rfl⟩) (er_preV hK hV hi0 (cR_0 _ _ _) rfl) rfl rfl hl.1 rfl (lv_room (Nat.le_of_ble_eq_true rfl)) dM_act_2 ⟨Nat.le_of_ble_eq_true rfl, Nat.le_of_ble_eq_true rfl⟩) hV hS hA (fun r u H locs hp hV hS => ?_)
  obtain ⟨rfl, eu9⟩ := hp
  rw [eu9] at hV
  refine lv_toe (y := 1) (s_isLoan_1 q2 hnl hn2) ?_
  refine lv_if_eq (tgt := 29) hx hb dM_act_5 rfl (fun h9 => absurd h9 (by decide)) (fun _ => ?_)
  refine lv_iload_n hx hb dM_act_8 rfl (lv_at hl 1 rfl) ?_
  refine er_calli (va_runS (As := [.int (nI b)]) (rest := []) ⟨hx, hb, hml, hown, hts⟩ (r_isLibrary l D T X L tg _ hE A (nI b)) (cwS 1 hts gM_142 rfl rfl rfl (by decide +kernel) ⟨Nat.le_of_ble_eq_true rfl, Nat.le_of_ble_eq_true rfl⟩) (er_preS hK hV) rfl rfl hl.1 rfl (lv_room (Nat.le_of_ble_eq_true rfl)) dM_act_9 ⟨Nat.le_of_ble_eq_true rfl, Nat.le_of_ble_eq_true rfl⟩) hV hS hA (fun r u H locs hp hV hS => ?_)
  obtain ⟨rfl, eu9⟩ := hp
  rw [eu9] at hV
  refine lv_toe (y := 1) (s_isLibrary_1 hb6) ?_
  refine lv_if_eq (tgt := 29) hx hb dM_act_12 rfl (fun h9 => absurd h9 (by decide)) (fun _ => ?_)
  refine lv_iload_n hx hb dM_act_15 rfl (lv_at hl 1 rfl) ?_
  refine lv_aload_n hx hb dM_act_16 rfl (lv_at hl 0 rfl) ?_
  refine ew_get (v := .ref (X 11 0)) hx hb hts hown hK hV fM_25 hi0 (cR_0 _ _ _) rfl dM_act_17 ?_
  refine lv_iload_n hx hb dM_act_20 rfl (lv_at hl 2 rfl) ?_
  refine ew_iald (v := A 11 0 ln) hx hb hK hV (hE 11 (by decide)) (cR_11 _ _ _) 0 rfl (vp_in_nI (by omega) (by decide)) (er_ix (by omega) rfl) dM_act_21 ?_
  refine lv_toe (y := nI rq) q11 ?_
  refine lv_icmp_ne (tgt := 29) hx hb dM_act_22 rfl (fun _ => ?_) (fun h9 => absurd h9 (fun z9 => hbr ((nI_eq (a := b) (b := rq) (by omega) (by omega)).mp z9)))
  refine lv_iconst (v := 0) hx hb dM_act_29 (by decide) ?_
  refine lv_istore (lv' := [(5, .int 0), (0, .ref (X 0 0)), (1, .int (nI b)), (2, .int (nI ln)), (3, .int 11), (4, .int cc)]) hx hb dM_act_30 hl (by decide) rfl (fun ls hl => ?_)
  refine lv_aload_n hx hb dM_act_32 rfl (lv_at hl 1 rfl) ?_
  refine lv_iload_n hx hb dM_act_33 rfl (lv_at hl 3 rfl) ?_
  refine er_calli (va_runV (As := [.int (nI ln)]) (rest := []) ⟨hx, hb, hml, hown, hts⟩ (r_isLoan l D T X L tg _ hE A (nI ln)) (cwV 1 hts gM_172 rfl rfl rfl (by decide +kernel) ⟨Nat.le_of_ble_eq_true rfl, Nat.le_of_ble_eq_true rfl⟩) (er_preV hK hV hi0 (cR_0 _ _ _) rfl) rfl rfl hl.1 rfl (lv_room (Nat.le_of_ble_eq_true rfl)) dM_act_34 ⟨Nat.le_of_ble_eq_true rfl, Nat.le_of_ble_eq_true rfl⟩) hV hS hA (fun r u H locs hp hV hS => ?_)
  obtain ⟨rfl, eu9⟩ := hp
  rw [eu9] at hV
  refine lv_toe (y := 1) (s_isLoan_1 q2 hnl hn2) ?_
  refine lv_if_eq (tgt := 65) hx hb dM_act_37 rfl (fun h9 => absurd h9 (by decide)) (fun _ => ?_)
  refine lv_iload_n hx hb dM_act_40 rfl (lv_at hl 2 rfl) ?_
  refine er_calli (va_runS (As := [.int (nI b)]) (rest := []) ⟨hx, hb, hml, hown, hts⟩ (r_isLibrary l D T X L tg _ hE A (nI b)) (cwS 1 hts gM_142 rfl rfl rfl (by decide +kernel) ⟨Nat.le_of_ble_eq_true rfl, Nat.le_of_ble_eq_true rfl⟩) (er_preS hK hV) rfl rfl hl.1 rfl (lv_room (Nat.le_of_ble_eq_true rfl)) dM_act_41 ⟨Nat.le_of_ble_eq_true rfl, Nat.le_of_ble_eq_true rfl⟩) hV hS hA (fun r u H locs hp hV hS => ?_)
  obtain ⟨rfl, eu9⟩ := hp
  rw [eu9] at hV
  refine lv_toe (y := 1) (s_isLibrary_1 hb6) ?_
  refine lv_if_eq (tgt := 65) hx hb dM_act_44 rfl (fun h9 => absurd h9 (by decide)) (fun _ => ?_)
  refine lv_aload_n hx hb dM_act_47 rfl (lv_at hl 1 rfl) ?_
  refine ew_get (v := .ref (X 22 0)) hx hb hts hown hK hV fM_58 hi0 (cR_0 _ _ _) rfl dM_act_48 ?_
  refine lv_bipush (v := 6) hx hb dM_act_51 (by decide) ?_
  refine lv_iload_n hx hb dM_act_53 rfl (lv_at hl 3 rfl) ?_
  refine lv_imul hx hb dM_act_54 ?_
  refine lv_toe (y := nI (6 * ln)) (pk_mul 6 ln) ?_
  refine lv_iload_n hx hb dM_act_55 rfl (lv_at hl 2 rfl) ?_
  refine lv_iadd hx hb dM_act_56 ?_
  refine lv_toe (y := nI ((6 * ln) + b)) (nI_add (6 * ln) b) ?_
  refine ew_zald (v := A 22 0 ((6 * ln) + b)) hx hb hK hV (hE 22 (by decide)) (cR_22 _ _ _) 1 rfl (vp_in_nI (by omega) (by decide)) (er_ix (by omega) rfl) dM_act_57 ?_
  refine lv_if_eq (tgt := 65) hx hb dM_act_58 rfl (fun h1 => ?_) (fun h1 => ?_)
  · refine lv_iconst (v := 0) hx hb dM_act_65 (by decide) ?_
    refine lv_istore (lv' := [(6, .int 0), (5, .int 0), (0, .ref (X 0 0)), (1, .int (nI b)), (2, .int (nI ln)), (3, .int 11), (4, .int cc)]) hx hb dM_act_66 hl (by decide) rfl (fun ls hl => ?_)
    refine lv_iload_n hx hb dM_act_68 rfl (lv_at hl 5 rfl) ?_
    refine lv_if_lt (tgt := 83) hx hb dM_act_69 rfl (fun h9 => absurd h9 (by decide)) (fun _ => ?_)
    refine lv_iload_n hx hb dM_act_72 rfl (lv_at hl 5 rfl) ?_
    refine lv_bipush (v := 7) hx hb dM_act_73 (by decide) ?_
    refine lv_icmp_ge (tgt := 83) hx hb dM_act_75 rfl (fun _ => ?_) (fun h9 => absurd (by decide) h9)
    refine lv_iload_n hx hb dM_act_83 rfl (lv_at hl 5 rfl) ?_
    refine lv_bipush (v := 6) hx hb dM_act_84 (by decide) ?_
    refine lv_icmp_le (tgt := 104) hx hb dM_act_86 rfl (fun h9 => absurd h9 (by decide)) (fun _ => ?_)
    refine lv_iload_n hx hb dM_act_89 rfl (lv_at hl 5 rfl) ?_
    refine lv_bipush (v := 15) hx hb dM_act_90 (by decide) ?_
    refine lv_icmp_ge (tgt := 104) hx hb dM_act_92 rfl (fun h9 => absurd h9 (by decide)) (fun _ => ?_)
    refine lv_iload hx hb dM_act_95 (lv_at hl 0 rfl) ?_
    refine lv_if_eq (tgt := 104) hx hb dM_act_97 rfl (fun _ => ?_) (fun h9 => absurd (by decide) h9)
    refine lv_iconst (v := 0) hx hb dM_act_104 (by decide) ?_
    refine lv_istore (lv' := [(7, .int 0), (6, .int 0), (5, .int 0), (0, .ref (X 0 0)), (1, .int (nI b)), (2, .int (nI ln)), (3, .int 11), (4, .int cc)]) hx hb dM_act_105 hl (by decide) rfl (fun ls hl => ?_)
    refine lv_aload_n hx hb dM_act_107 rfl (lv_at hl 3 rfl) ?_
    refine lv_iload hx hb dM_act_108 (lv_at hl 0 rfl) ?_
    refine lv_if_ne (tgt := 117) hx hb dM_act_110 rfl (fun h9 => absurd (by decide) h9) (fun _ => ?_)
    refine lv_iconst (v := 1) hx hb dM_act_113 (by decide) ?_
    refine lv_goto (tgt := 118) hx hb dM_act_114 rfl ?_
    refine lv_iload hx hb dM_act_118 (lv_at hl 0 rfl) ?_
    refine lv_if_eq (tgt := 156) hx hb dM_act_120 rfl (fun _ => ?_) (fun h9 => absurd (by decide) h9)
    refine lv_iconst (v := 0) hx hb dM_act_156 (by decide) ?_
    refine er_calli (va_runV (As := [.int 1, .int 0]) (rest := []) ⟨hx, hb, hml, hown, hts⟩ (r_refuses_a l D T X L tg _ hE A 0) (cwV 2 hts gM_152 rfl rfl rfl (by decide +kernel) ⟨Nat.le_of_ble_eq_true rfl, Nat.le_of_ble_eq_true rfl⟩) (er_preV hK hV hi0 (cR_0 _ _ _) rfl) rfl rfl hl.1 rfl (lv_room (Nat.le_of_ble_eq_true rfl)) dM_act_157 ⟨Nat.le_of_ble_eq_true rfl, Nat.le_of_ble_eq_true rfl⟩) hV hS hA (fun r u H locs hp hV hS => ?_)
    obtain ⟨rfl, rfl⟩ := hp
    refine lv_if_eq (tgt := 165) hx hb dM_act_160 rfl (fun h9 => absurd h9 (by decide)) (fun _ => ?_)
    refine lv_iconst (v := 0) hx hb dM_act_163 (by decide) ?_
    exact er_iret hx hb hr hlocks hV hS dM_act_164 ⟨Eq.symm (by unfold s_act_11r; simp only [if_pos h1]), Eq.symm (by unfold s_act_11r; simp only [if_pos h1])⟩
  · refine lv_iconst (v := 1) hx hb dM_act_61 (by decide) ?_
    refine lv_goto (tgt := 66) hx hb dM_act_62 rfl ?_
    refine lv_istore (lv' := [(6, .int 1), (5, .int 0), (0, .ref (X 0 0)), (1, .int (nI b)), (2, .int (nI ln)), (3, .int 11), (4, .int cc)]) hx hb dM_act_66 hl (by decide) rfl (fun ls hl => ?_)
    refine lv_iload_n hx hb dM_act_68 rfl (lv_at hl 5 rfl) ?_
    refine lv_if_lt (tgt := 83) hx hb dM_act_69 rfl (fun h9 => absurd h9 (by decide)) (fun _ => ?_)
    refine lv_iload_n hx hb dM_act_72 rfl (lv_at hl 5 rfl) ?_
    refine lv_bipush (v := 7) hx hb dM_act_73 (by decide) ?_
    refine lv_icmp_ge (tgt := 83) hx hb dM_act_75 rfl (fun _ => ?_) (fun h9 => absurd (by decide) h9)
    refine lv_iload_n hx hb dM_act_83 rfl (lv_at hl 5 rfl) ?_
    refine lv_bipush (v := 6) hx hb dM_act_84 (by decide) ?_
    refine lv_icmp_le (tgt := 104) hx hb dM_act_86 rfl (fun h9 => absurd h9 (by decide)) (fun _ => ?_)
    refine lv_iload_n hx hb dM_act_89 rfl (lv_at hl 5 rfl) ?_
    refine lv_bipush (v := 15) hx hb dM_act_90 (by decide) ?_
    refine lv_icmp_ge (tgt := 104) hx hb dM_act_92 rfl (fun h9 => absurd h9 (by decide)) (fun _ => ?_)
    refine lv_iload hx hb dM_act_95 (lv_at hl 0 rfl) ?_
    refine lv_if_eq (tgt := 104) hx hb dM_act_97 rfl (fun h9 => absurd h9 (by decide)) (fun _ => ?_)
    refine lv_iconst (v := 1) hx hb dM_act_100 (by decide) ?_
    refine lv_goto (tgt := 105) hx hb dM_act_101 rfl ?_
    refine lv_istore (lv' := [(7, .int 1), (6, .int 1), (5, .int 0), (0, .ref (X 0 0)), (1, .int (nI b)), (2, .int (nI ln)), (3, .int 11), (4, .int cc)]) hx hb dM_act_105 hl (by decide) rfl (fun ls hl => ?_)
    refine lv_aload_n hx hb dM_act_107 rfl (lv_at hl 3 rfl) ?_
    refine lv_iload hx hb dM_act_108 (lv_at hl 0 rfl) ?_
    refine lv_if_ne (tgt := 117) hx hb dM_act_110 rfl (fun _ => ?_) (fun h9 => absurd h9 (by decide))
    refine lv_iconst (v := 0) hx hb dM_act_117 (by decide) ?_
    refine lv_iload hx hb dM_act_118 (lv_at hl 0 rfl) ?_
    refine lv_if_eq (tgt := 156) hx hb dM_act_120 rfl (fun h9 => absurd h9 (by decide)) (fun _ => ?_)
    refine lv_iload hx hb dM_act_123 (lv_at hl 2 rfl) ?_
    refine lv_if_eq (tgt := 140) hx hb dM_act_125 rfl (fun _ => ?_) (fun h9 => absurd (by decide) h9)
    refine lv_aload_n hx hb dM_act_140 rfl (lv_at hl 3 rfl) ?_
    refine lv_iload_n hx hb dM_act_141 rfl (lv_at hl 5 rfl) ?_
    refine lv_iload_n hx hb dM_act_142 rfl (lv_at hl 4 rfl) ?_
    refine lv_iload_n hx hb dM_act_143 rfl (lv_at hl 6 rfl) ?_
    refine lv_iload hx hb dM_act_144 (lv_at hl 7 rfl) ?_
    refine er_calli (va_runV (As := [.int (nI ln), .int (nI b), .int 11, .int cc]) (rest := [.int 0, .ref (X 0 0)]) ⟨hx, hb, hml, hown, hts⟩ (r_maySupplier_11 l D T X L tg _ hE A ln b cc (by omega) hb6) (cwV 4 hts gM_179 rfl rfl rfl (by decide +kernel) ⟨Nat.le_of_ble_eq_true rfl, Nat.le_of_ble_eq_true rfl⟩) (er_preV hK hV hi0 (cR_0 _ _ _) rfl) rfl rfl hl.1 rfl (lv_room (Nat.le_of_ble_eq_true rfl)) dM_act_146 ⟨Nat.le_of_ble_eq_true rfl, Nat.le_of_ble_eq_true rfl⟩) hV hS hA (fun r u H locs hp hV hS => ?_)
    obtain ⟨rfl, eu9⟩ := hp
    rw [eu9] at hV
    refine lv_toe (y := 0) hmay ?_
    refine lv_if_ne (tgt := 156) hx hb dM_act_149 rfl (fun h9 => absurd (by decide) h9) (fun _ => ?_)
    refine lv_iconst (v := 1) hx hb dM_act_152 (by decide) ?_
    refine lv_goto (tgt := 157) hx hb dM_act_153 rfl ?_
    refine er_calli (va_runV (As := [.int 0, .int 1]) (rest := []) ⟨hx, hb, hml, hown, hts⟩ (r_refuses_b l D T X L tg _ hE A) (cwV 2 hts gM_152 rfl rfl rfl (by decide +kernel) ⟨Nat.le_of_ble_eq_true rfl, Nat.le_of_ble_eq_true rfl⟩) (er_preV hK hV hi0 (cR_0 _ _ _) rfl) rfl rfl hl.1 rfl (lv_room (Nat.le_of_ble_eq_true rfl)) dM_act_157 ⟨Nat.le_of_ble_eq_true rfl, Nat.le_of_ble_eq_true rfl⟩) hV hS hA (fun r u H locs hp hV hS => ?_)
    obtain ⟨rfl, rfl⟩ := hp
    refine lv_if_eq (tgt := 165) hx hb dM_act_160 rfl (fun h9 => absurd h9 (by decide)) (fun _ => ?_)
    refine lv_iconst (v := 0) hx hb dM_act_163 (by decide) ?_
    exact er_iret hx hb hr hlocks hV hS dM_act_164 ⟨Eq.symm (by unfold s_act_11r; simp only [if_neg h1]), Eq.symm (by unfold s_act_11r; simp only [if_neg h1])⟩

def s_act_12r (A : ew_R) (b : Nat) (ln : Nat) (cc : Int32) (nl : Nat) (rq : Nat) : Int32 × ew_R :=
  if A 22 0 ((6 * ln) + b) = 0 then
    (0, up3 A 0 0 0 1)
  else
    (0, up3 A 0 0 0 2)
set_option maxHeartbeats 4000000 in
set_option maxRecDepth 100000 in
theorem r_act_12r (l : Launch) (D : va_G) (T : Nat → ClassId) (X : Nat → Nat → Nat) (L : List Nat) (tg : Nat → Nat × Nat) (sz : Nat) (hE : eR_E X L tg) (A : ew_R) (b : Nat) (ln : Nat) (cc : Int32) (nl : Nat) (rq : Nat) (hb6 : b < 6) (hnl : ln < nl) (hn2 : nl ≤ 32) (q2 : A 0 0 2 = nI nl) (hrq : rq < 6) (q11 : A 11 0 ln = nI rq) (hbr : ¬ b = rq) (hmay : s_maySupplier_12 A ln b cc = 0) : Met l yM_act wsM_act ({ frames := 5, cells := 0, slots := 0, locals := 114 }) (er_Pc D vwCl (tysA T) (cfR T) X L tg A sz [.ref (X 0 0), .int (nI b), .int (nI ln), .int 12, .int cc]) (er_Qi D vwCl (cfR T) X L tg sz (fun r u => r = (s_act_12r A b ln cc nl rq).1 ∧ u = (s_act_12r A b ln cc nl rq).2)) 0 0 (ew_A L sz) := by
  refine er_met (by decide) rfl (Nat.le_of_ble_eq_true rfl) ?_
  intro p e s m below meth c ls hx hb hr hts hown hlocks hml hV hK hS hA hl hsz
  subst hsz
  have hi0 := hE 0 (by decide)
  have hl : lv_has ls 8 [(0, .ref (X 0 0)), (1, .int (nI b)), (2, .int (nI ln)), (3, .int 12), (4, .int cc)] := hl
  refine lv_aload_n hx hb dM_act_0 rfl (lv_at hl 0 rfl) ?_
  refine lv_iload_n hx hb dM_act_1 rfl (lv_at hl 2 rfl) ?_
  refine er_calli (va_runV (As := [.int (nI ln)]) (rest := []) ⟨hx, hb, hml, hown, hts⟩ (r_isLoan l D T X L tg _ hE A (nI ln)) (cwV 1 hts gM_172 rfl rfl rfl (by decide +kernel) ⟨Nat.le_of_ble_eq_true rfl, Nat.le_of_ble_eq_true rfl⟩) (er_preV hK hV hi0 (cR_0 _ _ _) rfl) rfl rfl hl.1 rfl (lv_room (Nat.le_of_ble_eq_true rfl)) dM_act_2 ⟨Nat.le_of_ble_eq_true rfl, Nat.le_of_ble_eq_true rfl⟩) hV hS hA (fun r u H locs hp hV hS => ?_)
  obtain ⟨rfl, eu9⟩ := hp
  rw [eu9] at hV
  refine lv_toe (y := 1) (s_isLoan_1 q2 hnl hn2) ?_
  refine lv_if_eq (tgt := 29) hx hb dM_act_5 rfl (fun h9 => absurd h9 (by decide)) (fun _ => ?_)
  refine lv_iload_n hx hb dM_act_8 rfl (lv_at hl 1 rfl) ?_
  refine er_calli (va_runS (As := [.int (nI b)]) (rest := []) ⟨hx, hb, hml, hown, hts⟩ (r_isLibrary l D T X L tg _ hE A (nI b)) (cwS 1 hts gM_142 rfl rfl rfl (by decide +kernel) ⟨Nat.le_of_ble_eq_true rfl, Nat.le_of_ble_eq_true rfl⟩) (er_preS hK hV) rfl rfl hl.1 rfl (lv_room (Nat.le_of_ble_eq_true rfl)) dM_act_9 ⟨Nat.le_of_ble_eq_true rfl, Nat.le_of_ble_eq_true rfl⟩) hV hS hA (fun r u H locs hp hV hS => ?_)
  obtain ⟨rfl, eu9⟩ := hp
  rw [eu9] at hV
  refine lv_toe (y := 1) (s_isLibrary_1 hb6) ?_
  refine lv_if_eq (tgt := 29) hx hb dM_act_12 rfl (fun h9 => absurd h9 (by decide)) (fun _ => ?_)
  refine lv_iload_n hx hb dM_act_15 rfl (lv_at hl 1 rfl) ?_
  refine lv_aload_n hx hb dM_act_16 rfl (lv_at hl 0 rfl) ?_
  refine ew_get (v := .ref (X 11 0)) hx hb hts hown hK hV fM_25 hi0 (cR_0 _ _ _) rfl dM_act_17 ?_
  refine lv_iload_n hx hb dM_act_20 rfl (lv_at hl 2 rfl) ?_
  refine ew_iald (v := A 11 0 ln) hx hb hK hV (hE 11 (by decide)) (cR_11 _ _ _) 0 rfl (vp_in_nI (by omega) (by decide)) (er_ix (by omega) rfl) dM_act_21 ?_
  refine lv_toe (y := nI rq) q11 ?_
  refine lv_icmp_ne (tgt := 29) hx hb dM_act_22 rfl (fun _ => ?_) (fun h9 => absurd h9 (fun z9 => hbr ((nI_eq (a := b) (b := rq) (by omega) (by omega)).mp z9)))
  refine lv_iconst (v := 0) hx hb dM_act_29 (by decide) ?_
  refine lv_istore (lv' := [(5, .int 0), (0, .ref (X 0 0)), (1, .int (nI b)), (2, .int (nI ln)), (3, .int 12), (4, .int cc)]) hx hb dM_act_30 hl (by decide) rfl (fun ls hl => ?_)
  refine lv_aload_n hx hb dM_act_32 rfl (lv_at hl 1 rfl) ?_
  refine lv_iload_n hx hb dM_act_33 rfl (lv_at hl 3 rfl) ?_
  refine er_calli (va_runV (As := [.int (nI ln)]) (rest := []) ⟨hx, hb, hml, hown, hts⟩ (r_isLoan l D T X L tg _ hE A (nI ln)) (cwV 1 hts gM_172 rfl rfl rfl (by decide +kernel) ⟨Nat.le_of_ble_eq_true rfl, Nat.le_of_ble_eq_true rfl⟩) (er_preV hK hV hi0 (cR_0 _ _ _) rfl) rfl rfl hl.1 rfl (lv_room (Nat.le_of_ble_eq_true rfl)) dM_act_34 ⟨Nat.le_of_ble_eq_true rfl, Nat.le_of_ble_eq_true rfl⟩) hV hS hA (fun r u H locs hp hV hS => ?_)
  obtain ⟨rfl, eu9⟩ := hp
  rw [eu9] at hV
  refine lv_toe (y := 1) (s_isLoan_1 q2 hnl hn2) ?_
  refine lv_if_eq (tgt := 65) hx hb dM_act_37 rfl (fun h9 => absurd h9 (by decide)) (fun _ => ?_)
  refine lv_iload_n hx hb dM_act_40 rfl (lv_at hl 2 rfl) ?_
  refine er_calli (va_runS (As := [.int (nI b)]) (rest := []) ⟨hx, hb, hml, hown, hts⟩ (r_isLibrary l D T X L tg _ hE A (nI b)) (cwS 1 hts gM_142 rfl rfl rfl (by decide +kernel) ⟨Nat.le_of_ble_eq_true rfl, Nat.le_of_ble_eq_true rfl⟩) (er_preS hK hV) rfl rfl hl.1 rfl (lv_room (Nat.le_of_ble_eq_true rfl)) dM_act_41 ⟨Nat.le_of_ble_eq_true rfl, Nat.le_of_ble_eq_true rfl⟩) hV hS hA (fun r u H locs hp hV hS => ?_)
  obtain ⟨rfl, eu9⟩ := hp
  rw [eu9] at hV
  refine lv_toe (y := 1) (s_isLibrary_1 hb6) ?_
  refine lv_if_eq (tgt := 65) hx hb dM_act_44 rfl (fun h9 => absurd h9 (by decide)) (fun _ => ?_)
  refine lv_aload_n hx hb dM_act_47 rfl (lv_at hl 1 rfl) ?_
  refine ew_get (v := .ref (X 22 0)) hx hb hts hown hK hV fM_58 hi0 (cR_0 _ _ _) rfl dM_act_48 ?_
  refine lv_bipush (v := 6) hx hb dM_act_51 (by decide) ?_
  refine lv_iload_n hx hb dM_act_53 rfl (lv_at hl 3 rfl) ?_
  refine lv_imul hx hb dM_act_54 ?_
  refine lv_toe (y := nI (6 * ln)) (pk_mul 6 ln) ?_
  refine lv_iload_n hx hb dM_act_55 rfl (lv_at hl 2 rfl) ?_
  refine lv_iadd hx hb dM_act_56 ?_
  refine lv_toe (y := nI ((6 * ln) + b)) (nI_add (6 * ln) b) ?_
  refine ew_zald (v := A 22 0 ((6 * ln) + b)) hx hb hK hV (hE 22 (by decide)) (cR_22 _ _ _) 1 rfl (vp_in_nI (by omega) (by decide)) (er_ix (by omega) rfl) dM_act_57 ?_
  refine lv_if_eq (tgt := 65) hx hb dM_act_58 rfl (fun h1 => ?_) (fun h1 => ?_)
  · refine lv_iconst (v := 0) hx hb dM_act_65 (by decide) ?_
    refine lv_istore (lv' := [(6, .int 0), (5, .int 0), (0, .ref (X 0 0)), (1, .int (nI b)), (2, .int (nI ln)), (3, .int 12), (4, .int cc)]) hx hb dM_act_66 hl (by decide) rfl (fun ls hl => ?_)
    refine lv_iload_n hx hb dM_act_68 rfl (lv_at hl 5 rfl) ?_
    refine lv_if_lt (tgt := 83) hx hb dM_act_69 rfl (fun h9 => absurd h9 (by decide)) (fun _ => ?_)
    refine lv_iload_n hx hb dM_act_72 rfl (lv_at hl 5 rfl) ?_
    refine lv_bipush (v := 7) hx hb dM_act_73 (by decide) ?_
    refine lv_icmp_ge (tgt := 83) hx hb dM_act_75 rfl (fun _ => ?_) (fun h9 => absurd (by decide) h9)
    refine lv_iload_n hx hb dM_act_83 rfl (lv_at hl 5 rfl) ?_
    refine lv_bipush (v := 6) hx hb dM_act_84 (by decide) ?_
    refine lv_icmp_le (tgt := 104) hx hb dM_act_86 rfl (fun h9 => absurd h9 (by decide)) (fun _ => ?_)
    refine lv_iload_n hx hb dM_act_89 rfl (lv_at hl 5 rfl) ?_
    refine lv_bipush (v := 15) hx hb dM_act_90 (by decide) ?_
    refine lv_icmp_ge (tgt := 104) hx hb dM_act_92 rfl (fun h9 => absurd h9 (by decide)) (fun _ => ?_)
    refine lv_iload hx hb dM_act_95 (lv_at hl 0 rfl) ?_
    refine lv_if_eq (tgt := 104) hx hb dM_act_97 rfl (fun _ => ?_) (fun h9 => absurd (by decide) h9)
    refine lv_iconst (v := 0) hx hb dM_act_104 (by decide) ?_
    refine lv_istore (lv' := [(7, .int 0), (6, .int 0), (5, .int 0), (0, .ref (X 0 0)), (1, .int (nI b)), (2, .int (nI ln)), (3, .int 12), (4, .int cc)]) hx hb dM_act_105 hl (by decide) rfl (fun ls hl => ?_)
    refine lv_aload_n hx hb dM_act_107 rfl (lv_at hl 3 rfl) ?_
    refine lv_iload hx hb dM_act_108 (lv_at hl 0 rfl) ?_
    refine lv_if_ne (tgt := 117) hx hb dM_act_110 rfl (fun h9 => absurd (by decide) h9) (fun _ => ?_)
    refine lv_iconst (v := 1) hx hb dM_act_113 (by decide) ?_
    refine lv_goto (tgt := 118) hx hb dM_act_114 rfl ?_
    refine lv_iload hx hb dM_act_118 (lv_at hl 0 rfl) ?_
    refine lv_if_eq (tgt := 156) hx hb dM_act_120 rfl (fun _ => ?_) (fun h9 => absurd (by decide) h9)
    refine lv_iconst (v := 0) hx hb dM_act_156 (by decide) ?_
    refine er_calli (va_runV (As := [.int 1, .int 0]) (rest := []) ⟨hx, hb, hml, hown, hts⟩ (r_refuses_a l D T X L tg _ hE A 0) (cwV 2 hts gM_152 rfl rfl rfl (by decide +kernel) ⟨Nat.le_of_ble_eq_true rfl, Nat.le_of_ble_eq_true rfl⟩) (er_preV hK hV hi0 (cR_0 _ _ _) rfl) rfl rfl hl.1 rfl (lv_room (Nat.le_of_ble_eq_true rfl)) dM_act_157 ⟨Nat.le_of_ble_eq_true rfl, Nat.le_of_ble_eq_true rfl⟩) hV hS hA (fun r u H locs hp hV hS => ?_)
    obtain ⟨rfl, rfl⟩ := hp
    refine lv_if_eq (tgt := 165) hx hb dM_act_160 rfl (fun h9 => absurd h9 (by decide)) (fun _ => ?_)
    refine lv_iconst (v := 0) hx hb dM_act_163 (by decide) ?_
    exact er_iret hx hb hr hlocks hV hS dM_act_164 ⟨Eq.symm (by unfold s_act_12r; simp only [if_pos h1]), Eq.symm (by unfold s_act_12r; simp only [if_pos h1])⟩
  · refine lv_iconst (v := 1) hx hb dM_act_61 (by decide) ?_
    refine lv_goto (tgt := 66) hx hb dM_act_62 rfl ?_
    refine lv_istore (lv' := [(6, .int 1), (5, .int 0), (0, .ref (X 0 0)), (1, .int (nI b)), (2, .int (nI ln)), (3, .int 12), (4, .int cc)]) hx hb dM_act_66 hl (by decide) rfl (fun ls hl => ?_)
    refine lv_iload_n hx hb dM_act_68 rfl (lv_at hl 5 rfl) ?_
    refine lv_if_lt (tgt := 83) hx hb dM_act_69 rfl (fun h9 => absurd h9 (by decide)) (fun _ => ?_)
    refine lv_iload_n hx hb dM_act_72 rfl (lv_at hl 5 rfl) ?_
    refine lv_bipush (v := 7) hx hb dM_act_73 (by decide) ?_
    refine lv_icmp_ge (tgt := 83) hx hb dM_act_75 rfl (fun _ => ?_) (fun h9 => absurd (by decide) h9)
    refine lv_iload_n hx hb dM_act_83 rfl (lv_at hl 5 rfl) ?_
    refine lv_bipush (v := 6) hx hb dM_act_84 (by decide) ?_
    refine lv_icmp_le (tgt := 104) hx hb dM_act_86 rfl (fun h9 => absurd h9 (by decide)) (fun _ => ?_)
    refine lv_iload_n hx hb dM_act_89 rfl (lv_at hl 5 rfl) ?_
    refine lv_bipush (v := 15) hx hb dM_act_90 (by decide) ?_
    refine lv_icmp_ge (tgt := 104) hx hb dM_act_92 rfl (fun h9 => absurd h9 (by decide)) (fun _ => ?_)
    refine lv_iload hx hb dM_act_95 (lv_at hl 0 rfl) ?_
    refine lv_if_eq (tgt := 104) hx hb dM_act_97 rfl (fun h9 => absurd h9 (by decide)) (fun _ => ?_)
    refine lv_iconst (v := 1) hx hb dM_act_100 (by decide) ?_
    refine lv_goto (tgt := 105) hx hb dM_act_101 rfl ?_
    refine lv_istore (lv' := [(7, .int 1), (6, .int 1), (5, .int 0), (0, .ref (X 0 0)), (1, .int (nI b)), (2, .int (nI ln)), (3, .int 12), (4, .int cc)]) hx hb dM_act_105 hl (by decide) rfl (fun ls hl => ?_)
    refine lv_aload_n hx hb dM_act_107 rfl (lv_at hl 3 rfl) ?_
    refine lv_iload hx hb dM_act_108 (lv_at hl 0 rfl) ?_
    refine lv_if_ne (tgt := 117) hx hb dM_act_110 rfl (fun _ => ?_) (fun h9 => absurd h9 (by decide))
    refine lv_iconst (v := 0) hx hb dM_act_117 (by decide) ?_
    refine lv_iload hx hb dM_act_118 (lv_at hl 0 rfl) ?_
    refine lv_if_eq (tgt := 156) hx hb dM_act_120 rfl (fun h9 => absurd h9 (by decide)) (fun _ => ?_)
    refine lv_iload hx hb dM_act_123 (lv_at hl 2 rfl) ?_
    refine lv_if_eq (tgt := 140) hx hb dM_act_125 rfl (fun _ => ?_) (fun h9 => absurd (by decide) h9)
    refine lv_aload_n hx hb dM_act_140 rfl (lv_at hl 3 rfl) ?_
    refine lv_iload_n hx hb dM_act_141 rfl (lv_at hl 5 rfl) ?_
    refine lv_iload_n hx hb dM_act_142 rfl (lv_at hl 4 rfl) ?_
    refine lv_iload_n hx hb dM_act_143 rfl (lv_at hl 6 rfl) ?_
    refine lv_iload hx hb dM_act_144 (lv_at hl 7 rfl) ?_
    refine er_calli (va_runV (As := [.int (nI ln), .int (nI b), .int 12, .int cc]) (rest := [.int 0, .ref (X 0 0)]) ⟨hx, hb, hml, hown, hts⟩ (r_maySupplier_12 l D T X L tg _ hE A ln b cc (by omega) hb6) (cwV 4 hts gM_179 rfl rfl rfl (by decide +kernel) ⟨Nat.le_of_ble_eq_true rfl, Nat.le_of_ble_eq_true rfl⟩) (er_preV hK hV hi0 (cR_0 _ _ _) rfl) rfl rfl hl.1 rfl (lv_room (Nat.le_of_ble_eq_true rfl)) dM_act_146 ⟨Nat.le_of_ble_eq_true rfl, Nat.le_of_ble_eq_true rfl⟩) hV hS hA (fun r u H locs hp hV hS => ?_)
    obtain ⟨rfl, eu9⟩ := hp
    rw [eu9] at hV
    refine lv_toe (y := 0) hmay ?_
    refine lv_if_ne (tgt := 156) hx hb dM_act_149 rfl (fun h9 => absurd (by decide) h9) (fun _ => ?_)
    refine lv_iconst (v := 1) hx hb dM_act_152 (by decide) ?_
    refine lv_goto (tgt := 157) hx hb dM_act_153 rfl ?_
    refine er_calli (va_runV (As := [.int 0, .int 1]) (rest := []) ⟨hx, hb, hml, hown, hts⟩ (r_refuses_b l D T X L tg _ hE A) (cwV 2 hts gM_152 rfl rfl rfl (by decide +kernel) ⟨Nat.le_of_ble_eq_true rfl, Nat.le_of_ble_eq_true rfl⟩) (er_preV hK hV hi0 (cR_0 _ _ _) rfl) rfl rfl hl.1 rfl (lv_room (Nat.le_of_ble_eq_true rfl)) dM_act_157 ⟨Nat.le_of_ble_eq_true rfl, Nat.le_of_ble_eq_true rfl⟩) hV hS hA (fun r u H locs hp hV hS => ?_)
    obtain ⟨rfl, rfl⟩ := hp
    refine lv_if_eq (tgt := 165) hx hb dM_act_160 rfl (fun h9 => absurd h9 (by decide)) (fun _ => ?_)
    refine lv_iconst (v := 0) hx hb dM_act_163 (by decide) ?_
    exact er_iret hx hb hr hlocks hV hS dM_act_164 ⟨Eq.symm (by unfold s_act_12r; simp only [if_neg h1]), Eq.symm (by unfold s_act_12r; simp only [if_neg h1])⟩

def s_act_13r (A : ew_R) (b : Nat) (ln : Nat) (cc : Int32) (nl : Nat) (rq : Nat) : Int32 × ew_R :=
  if A 22 0 ((6 * ln) + b) = 0 then
    (0, up3 A 0 0 0 1)
  else
    (0, up3 A 0 0 0 2)
set_option maxHeartbeats 4000000 in
set_option maxRecDepth 100000 in
theorem r_act_13r (l : Launch) (D : va_G) (T : Nat → ClassId) (X : Nat → Nat → Nat) (L : List Nat) (tg : Nat → Nat × Nat) (sz : Nat) (hE : eR_E X L tg) (A : ew_R) (b : Nat) (ln : Nat) (cc : Int32) (nl : Nat) (rq : Nat) (hb6 : b < 6) (hnl : ln < nl) (hn2 : nl ≤ 32) (q2 : A 0 0 2 = nI nl) (hrq : rq < 6) (q11 : A 11 0 ln = nI rq) (hbr : ¬ b = rq) (hmay : s_maySupplier_13 A ln b cc = 0) : Met l yM_act wsM_act ({ frames := 5, cells := 0, slots := 0, locals := 114 }) (er_Pc D vwCl (tysA T) (cfR T) X L tg A sz [.ref (X 0 0), .int (nI b), .int (nI ln), .int 13, .int cc]) (er_Qi D vwCl (cfR T) X L tg sz (fun r u => r = (s_act_13r A b ln cc nl rq).1 ∧ u = (s_act_13r A b ln cc nl rq).2)) 0 0 (ew_A L sz) := by
  refine er_met (by decide) rfl (Nat.le_of_ble_eq_true rfl) ?_
  intro p e s m below meth c ls hx hb hr hts hown hlocks hml hV hK hS hA hl hsz
  subst hsz
  have hi0 := hE 0 (by decide)
  have hl : lv_has ls 8 [(0, .ref (X 0 0)), (1, .int (nI b)), (2, .int (nI ln)), (3, .int 13), (4, .int cc)] := hl
  refine lv_aload_n hx hb dM_act_0 rfl (lv_at hl 0 rfl) ?_
  refine lv_iload_n hx hb dM_act_1 rfl (lv_at hl 2 rfl) ?_
  refine er_calli (va_runV (As := [.int (nI ln)]) (rest := []) ⟨hx, hb, hml, hown, hts⟩ (r_isLoan l D T X L tg _ hE A (nI ln)) (cwV 1 hts gM_172 rfl rfl rfl (by decide +kernel) ⟨Nat.le_of_ble_eq_true rfl, Nat.le_of_ble_eq_true rfl⟩) (er_preV hK hV hi0 (cR_0 _ _ _) rfl) rfl rfl hl.1 rfl (lv_room (Nat.le_of_ble_eq_true rfl)) dM_act_2 ⟨Nat.le_of_ble_eq_true rfl, Nat.le_of_ble_eq_true rfl⟩) hV hS hA (fun r u H locs hp hV hS => ?_)
  obtain ⟨rfl, eu9⟩ := hp
  rw [eu9] at hV
  refine lv_toe (y := 1) (s_isLoan_1 q2 hnl hn2) ?_
  refine lv_if_eq (tgt := 29) hx hb dM_act_5 rfl (fun h9 => absurd h9 (by decide)) (fun _ => ?_)
  refine lv_iload_n hx hb dM_act_8 rfl (lv_at hl 1 rfl) ?_
  refine er_calli (va_runS (As := [.int (nI b)]) (rest := []) ⟨hx, hb, hml, hown, hts⟩ (r_isLibrary l D T X L tg _ hE A (nI b)) (cwS 1 hts gM_142 rfl rfl rfl (by decide +kernel) ⟨Nat.le_of_ble_eq_true rfl, Nat.le_of_ble_eq_true rfl⟩) (er_preS hK hV) rfl rfl hl.1 rfl (lv_room (Nat.le_of_ble_eq_true rfl)) dM_act_9 ⟨Nat.le_of_ble_eq_true rfl, Nat.le_of_ble_eq_true rfl⟩) hV hS hA (fun r u H locs hp hV hS => ?_)
  obtain ⟨rfl, eu9⟩ := hp
  rw [eu9] at hV
  refine lv_toe (y := 1) (s_isLibrary_1 hb6) ?_
  refine lv_if_eq (tgt := 29) hx hb dM_act_12 rfl (fun h9 => absurd h9 (by decide)) (fun _ => ?_)
  refine lv_iload_n hx hb dM_act_15 rfl (lv_at hl 1 rfl) ?_
  refine lv_aload_n hx hb dM_act_16 rfl (lv_at hl 0 rfl) ?_
  refine ew_get (v := .ref (X 11 0)) hx hb hts hown hK hV fM_25 hi0 (cR_0 _ _ _) rfl dM_act_17 ?_
  refine lv_iload_n hx hb dM_act_20 rfl (lv_at hl 2 rfl) ?_
  refine ew_iald (v := A 11 0 ln) hx hb hK hV (hE 11 (by decide)) (cR_11 _ _ _) 0 rfl (vp_in_nI (by omega) (by decide)) (er_ix (by omega) rfl) dM_act_21 ?_
  refine lv_toe (y := nI rq) q11 ?_
  refine lv_icmp_ne (tgt := 29) hx hb dM_act_22 rfl (fun _ => ?_) (fun h9 => absurd h9 (fun z9 => hbr ((nI_eq (a := b) (b := rq) (by omega) (by omega)).mp z9)))
  refine lv_iconst (v := 0) hx hb dM_act_29 (by decide) ?_
  refine lv_istore (lv' := [(5, .int 0), (0, .ref (X 0 0)), (1, .int (nI b)), (2, .int (nI ln)), (3, .int 13), (4, .int cc)]) hx hb dM_act_30 hl (by decide) rfl (fun ls hl => ?_)
  refine lv_aload_n hx hb dM_act_32 rfl (lv_at hl 1 rfl) ?_
  refine lv_iload_n hx hb dM_act_33 rfl (lv_at hl 3 rfl) ?_
  refine er_calli (va_runV (As := [.int (nI ln)]) (rest := []) ⟨hx, hb, hml, hown, hts⟩ (r_isLoan l D T X L tg _ hE A (nI ln)) (cwV 1 hts gM_172 rfl rfl rfl (by decide +kernel) ⟨Nat.le_of_ble_eq_true rfl, Nat.le_of_ble_eq_true rfl⟩) (er_preV hK hV hi0 (cR_0 _ _ _) rfl) rfl rfl hl.1 rfl (lv_room (Nat.le_of_ble_eq_true rfl)) dM_act_34 ⟨Nat.le_of_ble_eq_true rfl, Nat.le_of_ble_eq_true rfl⟩) hV hS hA (fun r u H locs hp hV hS => ?_)
  obtain ⟨rfl, eu9⟩ := hp
  rw [eu9] at hV
  refine lv_toe (y := 1) (s_isLoan_1 q2 hnl hn2) ?_
  refine lv_if_eq (tgt := 65) hx hb dM_act_37 rfl (fun h9 => absurd h9 (by decide)) (fun _ => ?_)
  refine lv_iload_n hx hb dM_act_40 rfl (lv_at hl 2 rfl) ?_
  refine er_calli (va_runS (As := [.int (nI b)]) (rest := []) ⟨hx, hb, hml, hown, hts⟩ (r_isLibrary l D T X L tg _ hE A (nI b)) (cwS 1 hts gM_142 rfl rfl rfl (by decide +kernel) ⟨Nat.le_of_ble_eq_true rfl, Nat.le_of_ble_eq_true rfl⟩) (er_preS hK hV) rfl rfl hl.1 rfl (lv_room (Nat.le_of_ble_eq_true rfl)) dM_act_41 ⟨Nat.le_of_ble_eq_true rfl, Nat.le_of_ble_eq_true rfl⟩) hV hS hA (fun r u H locs hp hV hS => ?_)
  obtain ⟨rfl, eu9⟩ := hp
  rw [eu9] at hV
  refine lv_toe (y := 1) (s_isLibrary_1 hb6) ?_
  refine lv_if_eq (tgt := 65) hx hb dM_act_44 rfl (fun h9 => absurd h9 (by decide)) (fun _ => ?_)
  refine lv_aload_n hx hb dM_act_47 rfl (lv_at hl 1 rfl) ?_
  refine ew_get (v := .ref (X 22 0)) hx hb hts hown hK hV fM_58 hi0 (cR_0 _ _ _) rfl dM_act_48 ?_
  refine lv_bipush (v := 6) hx hb dM_act_51 (by decide) ?_
  refine lv_iload_n hx hb dM_act_53 rfl (lv_at hl 3 rfl) ?_
  refine lv_imul hx hb dM_act_54 ?_
  refine lv_toe (y := nI (6 * ln)) (pk_mul 6 ln) ?_
  refine lv_iload_n hx hb dM_act_55 rfl (lv_at hl 2 rfl) ?_
  refine lv_iadd hx hb dM_act_56 ?_
  refine lv_toe (y := nI ((6 * ln) + b)) (nI_add (6 * ln) b) ?_
  refine ew_zald (v := A 22 0 ((6 * ln) + b)) hx hb hK hV (hE 22 (by decide)) (cR_22 _ _ _) 1 rfl (vp_in_nI (by omega) (by decide)) (er_ix (by omega) rfl) dM_act_57 ?_
  refine lv_if_eq (tgt := 65) hx hb dM_act_58 rfl (fun h1 => ?_) (fun h1 => ?_)
  · refine lv_iconst (v := 0) hx hb dM_act_65 (by decide) ?_
    refine lv_istore (lv' := [(6, .int 0), (5, .int 0), (0, .ref (X 0 0)), (1, .int (nI b)), (2, .int (nI ln)), (3, .int 13), (4, .int cc)]) hx hb dM_act_66 hl (by decide) rfl (fun ls hl => ?_)
    refine lv_iload_n hx hb dM_act_68 rfl (lv_at hl 5 rfl) ?_
    refine lv_if_lt (tgt := 83) hx hb dM_act_69 rfl (fun h9 => absurd h9 (by decide)) (fun _ => ?_)
    refine lv_iload_n hx hb dM_act_72 rfl (lv_at hl 5 rfl) ?_
    refine lv_bipush (v := 7) hx hb dM_act_73 (by decide) ?_
    refine lv_icmp_ge (tgt := 83) hx hb dM_act_75 rfl (fun _ => ?_) (fun h9 => absurd (by decide) h9)
    refine lv_iload_n hx hb dM_act_83 rfl (lv_at hl 5 rfl) ?_
    refine lv_bipush (v := 6) hx hb dM_act_84 (by decide) ?_
    refine lv_icmp_le (tgt := 104) hx hb dM_act_86 rfl (fun h9 => absurd h9 (by decide)) (fun _ => ?_)
    refine lv_iload_n hx hb dM_act_89 rfl (lv_at hl 5 rfl) ?_
    refine lv_bipush (v := 15) hx hb dM_act_90 (by decide) ?_
    refine lv_icmp_ge (tgt := 104) hx hb dM_act_92 rfl (fun h9 => absurd h9 (by decide)) (fun _ => ?_)
    refine lv_iload hx hb dM_act_95 (lv_at hl 0 rfl) ?_
    refine lv_if_eq (tgt := 104) hx hb dM_act_97 rfl (fun _ => ?_) (fun h9 => absurd (by decide) h9)
    refine lv_iconst (v := 0) hx hb dM_act_104 (by decide) ?_
    refine lv_istore (lv' := [(7, .int 0), (6, .int 0), (5, .int 0), (0, .ref (X 0 0)), (1, .int (nI b)), (2, .int (nI ln)), (3, .int 13), (4, .int cc)]) hx hb dM_act_105 hl (by decide) rfl (fun ls hl => ?_)
    refine lv_aload_n hx hb dM_act_107 rfl (lv_at hl 3 rfl) ?_
    refine lv_iload hx hb dM_act_108 (lv_at hl 0 rfl) ?_
    refine lv_if_ne (tgt := 117) hx hb dM_act_110 rfl (fun h9 => absurd (by decide) h9) (fun _ => ?_)
    refine lv_iconst (v := 1) hx hb dM_act_113 (by decide) ?_
    refine lv_goto (tgt := 118) hx hb dM_act_114 rfl ?_
    refine lv_iload hx hb dM_act_118 (lv_at hl 0 rfl) ?_
    refine lv_if_eq (tgt := 156) hx hb dM_act_120 rfl (fun _ => ?_) (fun h9 => absurd (by decide) h9)
    refine lv_iconst (v := 0) hx hb dM_act_156 (by decide) ?_
    refine er_calli (va_runV (As := [.int 1, .int 0]) (rest := []) ⟨hx, hb, hml, hown, hts⟩ (r_refuses_a l D T X L tg _ hE A 0) (cwV 2 hts gM_152 rfl rfl rfl (by decide +kernel) ⟨Nat.le_of_ble_eq_true rfl, Nat.le_of_ble_eq_true rfl⟩) (er_preV hK hV hi0 (cR_0 _ _ _) rfl) rfl rfl hl.1 rfl (lv_room (Nat.le_of_ble_eq_true rfl)) dM_act_157 ⟨Nat.le_of_ble_eq_true rfl, Nat.le_of_ble_eq_true rfl⟩) hV hS hA (fun r u H locs hp hV hS => ?_)
    obtain ⟨rfl, rfl⟩ := hp
    refine lv_if_eq (tgt := 165) hx hb dM_act_160 rfl (fun h9 => absurd h9 (by decide)) (fun _ => ?_)
    refine lv_iconst (v := 0) hx hb dM_act_163 (by decide) ?_
    exact er_iret hx hb hr hlocks hV hS dM_act_164 ⟨Eq.symm (by unfold s_act_13r; simp only [if_pos h1]), Eq.symm (by unfold s_act_13r; simp only [if_pos h1])⟩
  · refine lv_iconst (v := 1) hx hb dM_act_61 (by decide) ?_
    refine lv_goto (tgt := 66) hx hb dM_act_62 rfl ?_
    refine lv_istore (lv' := [(6, .int 1), (5, .int 0), (0, .ref (X 0 0)), (1, .int (nI b)), (2, .int (nI ln)), (3, .int 13), (4, .int cc)]) hx hb dM_act_66 hl (by decide) rfl (fun ls hl => ?_)
    refine lv_iload_n hx hb dM_act_68 rfl (lv_at hl 5 rfl) ?_
    refine lv_if_lt (tgt := 83) hx hb dM_act_69 rfl (fun h9 => absurd h9 (by decide)) (fun _ => ?_)
    refine lv_iload_n hx hb dM_act_72 rfl (lv_at hl 5 rfl) ?_
    refine lv_bipush (v := 7) hx hb dM_act_73 (by decide) ?_
    refine lv_icmp_ge (tgt := 83) hx hb dM_act_75 rfl (fun _ => ?_) (fun h9 => absurd (by decide) h9)
    refine lv_iload_n hx hb dM_act_83 rfl (lv_at hl 5 rfl) ?_
    refine lv_bipush (v := 6) hx hb dM_act_84 (by decide) ?_
    refine lv_icmp_le (tgt := 104) hx hb dM_act_86 rfl (fun h9 => absurd h9 (by decide)) (fun _ => ?_)
    refine lv_iload_n hx hb dM_act_89 rfl (lv_at hl 5 rfl) ?_
    refine lv_bipush (v := 15) hx hb dM_act_90 (by decide) ?_
    refine lv_icmp_ge (tgt := 104) hx hb dM_act_92 rfl (fun h9 => absurd h9 (by decide)) (fun _ => ?_)
    refine lv_iload hx hb dM_act_95 (lv_at hl 0 rfl) ?_
    refine lv_if_eq (tgt := 104) hx hb dM_act_97 rfl (fun h9 => absurd h9 (by decide)) (fun _ => ?_)
    refine lv_iconst (v := 1) hx hb dM_act_100 (by decide) ?_
    refine lv_goto (tgt := 105) hx hb dM_act_101 rfl ?_
    refine lv_istore (lv' := [(7, .int 1), (6, .int 1), (5, .int 0), (0, .ref (X 0 0)), (1, .int (nI b)), (2, .int (nI ln)), (3, .int 13), (4, .int cc)]) hx hb dM_act_105 hl (by decide) rfl (fun ls hl => ?_)
    refine lv_aload_n hx hb dM_act_107 rfl (lv_at hl 3 rfl) ?_
    refine lv_iload hx hb dM_act_108 (lv_at hl 0 rfl) ?_
    refine lv_if_ne (tgt := 117) hx hb dM_act_110 rfl (fun _ => ?_) (fun h9 => absurd h9 (by decide))
    refine lv_iconst (v := 0) hx hb dM_act_117 (by decide) ?_
    refine lv_iload hx hb dM_act_118 (lv_at hl 0 rfl) ?_
    refine lv_if_eq (tgt := 156) hx hb dM_act_120 rfl (fun h9 => absurd h9 (by decide)) (fun _ => ?_)
    refine lv_iload hx hb dM_act_123 (lv_at hl 2 rfl) ?_
    refine lv_if_eq (tgt := 140) hx hb dM_act_125 rfl (fun _ => ?_) (fun h9 => absurd (by decide) h9)
    refine lv_aload_n hx hb dM_act_140 rfl (lv_at hl 3 rfl) ?_
    refine lv_iload_n hx hb dM_act_141 rfl (lv_at hl 5 rfl) ?_
    refine lv_iload_n hx hb dM_act_142 rfl (lv_at hl 4 rfl) ?_
    refine lv_iload_n hx hb dM_act_143 rfl (lv_at hl 6 rfl) ?_
    refine lv_iload hx hb dM_act_144 (lv_at hl 7 rfl) ?_
    refine er_calli (va_runV (As := [.int (nI ln), .int (nI b), .int 13, .int cc]) (rest := [.int 0, .ref (X 0 0)]) ⟨hx, hb, hml, hown, hts⟩ (r_maySupplier_13 l D T X L tg _ hE A ln b cc (by omega) hb6) (cwV 4 hts gM_179 rfl rfl rfl (by decide +kernel) ⟨Nat.le_of_ble_eq_true rfl, Nat.le_of_ble_eq_true rfl⟩) (er_preV hK hV hi0 (cR_0 _ _ _) rfl) rfl rfl hl.1 rfl (lv_room (Nat.le_of_ble_eq_true rfl)) dM_act_146 ⟨Nat.le_of_ble_eq_true rfl, Nat.le_of_ble_eq_true rfl⟩) hV hS hA (fun r u H locs hp hV hS => ?_)
    obtain ⟨rfl, eu9⟩ := hp
    rw [eu9] at hV
    refine lv_toe (y := 0) hmay ?_
    refine lv_if_ne (tgt := 156) hx hb dM_act_149 rfl (fun h9 => absurd (by decide) h9) (fun _ => ?_)
    refine lv_iconst (v := 1) hx hb dM_act_152 (by decide) ?_
    refine lv_goto (tgt := 157) hx hb dM_act_153 rfl ?_
    refine er_calli (va_runV (As := [.int 0, .int 1]) (rest := []) ⟨hx, hb, hml, hown, hts⟩ (r_refuses_b l D T X L tg _ hE A) (cwV 2 hts gM_152 rfl rfl rfl (by decide +kernel) ⟨Nat.le_of_ble_eq_true rfl, Nat.le_of_ble_eq_true rfl⟩) (er_preV hK hV hi0 (cR_0 _ _ _) rfl) rfl rfl hl.1 rfl (lv_room (Nat.le_of_ble_eq_true rfl)) dM_act_157 ⟨Nat.le_of_ble_eq_true rfl, Nat.le_of_ble_eq_true rfl⟩) hV hS hA (fun r u H locs hp hV hS => ?_)
    obtain ⟨rfl, rfl⟩ := hp
    refine lv_if_eq (tgt := 165) hx hb dM_act_160 rfl (fun h9 => absurd h9 (by decide)) (fun _ => ?_)
    refine lv_iconst (v := 0) hx hb dM_act_163 (by decide) ?_
    exact er_iret hx hb hr hlocks hV hS dM_act_164 ⟨Eq.symm (by unfold s_act_13r; simp only [if_neg h1]), Eq.symm (by unfold s_act_13r; simp only [if_neg h1])⟩

def s_act_14r (A : ew_R) (b : Nat) (ln : Nat) (cc : Int32) (nl : Nat) (rq : Nat) : Int32 × ew_R :=
  if A 22 0 ((6 * ln) + b) = 0 then
    (0, up3 A 0 0 0 1)
  else
    (0, up3 A 0 0 0 2)
set_option maxHeartbeats 4000000 in
set_option maxRecDepth 100000 in
theorem r_act_14r (l : Launch) (D : va_G) (T : Nat → ClassId) (X : Nat → Nat → Nat) (L : List Nat) (tg : Nat → Nat × Nat) (sz : Nat) (hE : eR_E X L tg) (A : ew_R) (b : Nat) (ln : Nat) (cc : Int32) (nl : Nat) (rq : Nat) (hb6 : b < 6) (hnl : ln < nl) (hn2 : nl ≤ 32) (q2 : A 0 0 2 = nI nl) (hrq : rq < 6) (q11 : A 11 0 ln = nI rq) (hbr : ¬ b = rq) (hmay : s_maySupplier_14 A ln b cc = 0) : Met l yM_act wsM_act ({ frames := 5, cells := 0, slots := 0, locals := 114 }) (er_Pc D vwCl (tysA T) (cfR T) X L tg A sz [.ref (X 0 0), .int (nI b), .int (nI ln), .int 14, .int cc]) (er_Qi D vwCl (cfR T) X L tg sz (fun r u => r = (s_act_14r A b ln cc nl rq).1 ∧ u = (s_act_14r A b ln cc nl rq).2)) 0 0 (ew_A L sz) := by
  refine er_met (by decide) rfl (Nat.le_of_ble_eq_true rfl) ?_
  intro p e s m below meth c ls hx hb hr hts hown hlocks hml hV hK hS hA hl hsz
  subst hsz
  have hi0 := hE 0 (by decide)
  have hl : lv_has ls 8 [(0, .ref (X 0 0)), (1, .int (nI b)), (2, .int (nI ln)), (3, .int 14), (4, .int cc)] := hl
  refine lv_aload_n hx hb dM_act_0 rfl (lv_at hl 0 rfl) ?_
  refine lv_iload_n hx hb dM_act_1 rfl (lv_at hl 2 rfl) ?_
  refine er_calli (va_runV (As := [.int (nI ln)]) (rest := []) ⟨hx, hb, hml, hown, hts⟩ (r_isLoan l D T X L tg _ hE A (nI ln)) (cwV 1 hts gM_172 rfl rfl rfl (by decide +kernel) ⟨Nat.le_of_ble_eq_true rfl, Nat.le_of_ble_eq_true rfl⟩) (er_preV hK hV hi0 (cR_0 _ _ _) rfl) rfl rfl hl.1 rfl (lv_room (Nat.le_of_ble_eq_true rfl)) dM_act_2 ⟨Nat.le_of_ble_eq_true rfl, Nat.le_of_ble_eq_true rfl⟩) hV hS hA (fun r u H locs hp hV hS => ?_)
  obtain ⟨rfl, eu9⟩ := hp
  rw [eu9] at hV
  refine lv_toe (y := 1) (s_isLoan_1 q2 hnl hn2) ?_
  refine lv_if_eq (tgt := 29) hx hb dM_act_5 rfl (fun h9 => absurd h9 (by decide)) (fun _ => ?_)
  refine lv_iload_n hx hb dM_act_8 rfl (lv_at hl 1 rfl) ?_
  refine er_calli (va_runS (As := [.int (nI b)]) (rest := []) ⟨hx, hb, hml, hown, hts⟩ (r_isLibrary l D T X L tg _ hE A (nI b)) (cwS 1 hts gM_142 rfl rfl rfl (by decide +kernel) ⟨Nat.le_of_ble_eq_true rfl, Nat.le_of_ble_eq_true rfl⟩) (er_preS hK hV) rfl rfl hl.1 rfl (lv_room (Nat.le_of_ble_eq_true rfl)) dM_act_9 ⟨Nat.le_of_ble_eq_true rfl, Nat.le_of_ble_eq_true rfl⟩) hV hS hA (fun r u H locs hp hV hS => ?_)
  obtain ⟨rfl, eu9⟩ := hp
  rw [eu9] at hV
  refine lv_toe (y := 1) (s_isLibrary_1 hb6) ?_
  refine lv_if_eq (tgt := 29) hx hb dM_act_12 rfl (fun h9 => absurd h9 (by decide)) (fun _ => ?_)
  refine lv_iload_n hx hb dM_act_15 rfl (lv_at hl 1 rfl) ?_
  refine lv_aload_n hx hb dM_act_16 rfl (lv_at hl 0 rfl) ?_
  refine ew_get (v := .ref (X 11 0)) hx hb hts hown hK hV fM_25 hi0 (cR_0 _ _ _) rfl dM_act_17 ?_
  refine lv_iload_n hx hb dM_act_20 rfl (lv_at hl 2 rfl) ?_
  refine ew_iald (v := A 11 0 ln) hx hb hK hV (hE 11 (by decide)) (cR_11 _ _ _) 0 rfl (vp_in_nI (by omega) (by decide)) (er_ix (by omega) rfl) dM_act_21 ?_
  refine lv_toe (y := nI rq) q11 ?_
  refine lv_icmp_ne (tgt := 29) hx hb dM_act_22 rfl (fun _ => ?_) (fun h9 => absurd h9 (fun z9 => hbr ((nI_eq (a := b) (b := rq) (by omega) (by omega)).mp z9)))
  refine lv_iconst (v := 0) hx hb dM_act_29 (by decide) ?_
  refine lv_istore (lv' := [(5, .int 0), (0, .ref (X 0 0)), (1, .int (nI b)), (2, .int (nI ln)), (3, .int 14), (4, .int cc)]) hx hb dM_act_30 hl (by decide) rfl (fun ls hl => ?_)
  refine lv_aload_n hx hb dM_act_32 rfl (lv_at hl 1 rfl) ?_
  refine lv_iload_n hx hb dM_act_33 rfl (lv_at hl 3 rfl) ?_
  refine er_calli (va_runV (As := [.int (nI ln)]) (rest := []) ⟨hx, hb, hml, hown, hts⟩ (r_isLoan l D T X L tg _ hE A (nI ln)) (cwV 1 hts gM_172 rfl rfl rfl (by decide +kernel) ⟨Nat.le_of_ble_eq_true rfl, Nat.le_of_ble_eq_true rfl⟩) (er_preV hK hV hi0 (cR_0 _ _ _) rfl) rfl rfl hl.1 rfl (lv_room (Nat.le_of_ble_eq_true rfl)) dM_act_34 ⟨Nat.le_of_ble_eq_true rfl, Nat.le_of_ble_eq_true rfl⟩) hV hS hA (fun r u H locs hp hV hS => ?_)
  obtain ⟨rfl, eu9⟩ := hp
  rw [eu9] at hV
  refine lv_toe (y := 1) (s_isLoan_1 q2 hnl hn2) ?_
  refine lv_if_eq (tgt := 65) hx hb dM_act_37 rfl (fun h9 => absurd h9 (by decide)) (fun _ => ?_)
  refine lv_iload_n hx hb dM_act_40 rfl (lv_at hl 2 rfl) ?_
  refine er_calli (va_runS (As := [.int (nI b)]) (rest := []) ⟨hx, hb, hml, hown, hts⟩ (r_isLibrary l D T X L tg _ hE A (nI b)) (cwS 1 hts gM_142 rfl rfl rfl (by decide +kernel) ⟨Nat.le_of_ble_eq_true rfl, Nat.le_of_ble_eq_true rfl⟩) (er_preS hK hV) rfl rfl hl.1 rfl (lv_room (Nat.le_of_ble_eq_true rfl)) dM_act_41 ⟨Nat.le_of_ble_eq_true rfl, Nat.le_of_ble_eq_true rfl⟩) hV hS hA (fun r u H locs hp hV hS => ?_)
  obtain ⟨rfl, eu9⟩ := hp
  rw [eu9] at hV
  refine lv_toe (y := 1) (s_isLibrary_1 hb6) ?_
  refine lv_if_eq (tgt := 65) hx hb dM_act_44 rfl (fun h9 => absurd h9 (by decide)) (fun _ => ?_)
  refine lv_aload_n hx hb dM_act_47 rfl (lv_at hl 1 rfl) ?_
  refine ew_get (v := .ref (X 22 0)) hx hb hts hown hK hV fM_58 hi0 (cR_0 _ _ _) rfl dM_act_48 ?_
  refine lv_bipush (v := 6) hx hb dM_act_51 (by decide) ?_
  refine lv_iload_n hx hb dM_act_53 rfl (lv_at hl 3 rfl) ?_
  refine lv_imul hx hb dM_act_54 ?_
  refine lv_toe (y := nI (6 * ln)) (pk_mul 6 ln) ?_
  refine lv_iload_n hx hb dM_act_55 rfl (lv_at hl 2 rfl) ?_
  refine lv_iadd hx hb dM_act_56 ?_
  refine lv_toe (y := nI ((6 * ln) + b)) (nI_add (6 * ln) b) ?_
  refine ew_zald (v := A 22 0 ((6 * ln) + b)) hx hb hK hV (hE 22 (by decide)) (cR_22 _ _ _) 1 rfl (vp_in_nI (by omega) (by decide)) (er_ix (by omega) rfl) dM_act_57 ?_
  refine lv_if_eq (tgt := 65) hx hb dM_act_58 rfl (fun h1 => ?_) (fun h1 => ?_)
  · refine lv_iconst (v := 0) hx hb dM_act_65 (by decide) ?_
    refine lv_istore (lv' := [(6, .int 0), (5, .int 0), (0, .ref (X 0 0)), (1, .int (nI b)), (2, .int (nI ln)), (3, .int 14), (4, .int cc)]) hx hb dM_act_66 hl (by decide) rfl (fun ls hl => ?_)
    refine lv_iload_n hx hb dM_act_68 rfl (lv_at hl 5 rfl) ?_
    refine lv_if_lt (tgt := 83) hx hb dM_act_69 rfl (fun h9 => absurd h9 (by decide)) (fun _ => ?_)
    refine lv_iload_n hx hb dM_act_72 rfl (lv_at hl 5 rfl) ?_
    refine lv_bipush (v := 7) hx hb dM_act_73 (by decide) ?_
    refine lv_icmp_ge (tgt := 83) hx hb dM_act_75 rfl (fun _ => ?_) (fun h9 => absurd (by decide) h9)
    refine lv_iload_n hx hb dM_act_83 rfl (lv_at hl 5 rfl) ?_
    refine lv_bipush (v := 6) hx hb dM_act_84 (by decide) ?_
    refine lv_icmp_le (tgt := 104) hx hb dM_act_86 rfl (fun h9 => absurd h9 (by decide)) (fun _ => ?_)
    refine lv_iload_n hx hb dM_act_89 rfl (lv_at hl 5 rfl) ?_
    refine lv_bipush (v := 15) hx hb dM_act_90 (by decide) ?_
    refine lv_icmp_ge (tgt := 104) hx hb dM_act_92 rfl (fun h9 => absurd h9 (by decide)) (fun _ => ?_)
    refine lv_iload hx hb dM_act_95 (lv_at hl 0 rfl) ?_
    refine lv_if_eq (tgt := 104) hx hb dM_act_97 rfl (fun _ => ?_) (fun h9 => absurd (by decide) h9)
    refine lv_iconst (v := 0) hx hb dM_act_104 (by decide) ?_
    refine lv_istore (lv' := [(7, .int 0), (6, .int 0), (5, .int 0), (0, .ref (X 0 0)), (1, .int (nI b)), (2, .int (nI ln)), (3, .int 14), (4, .int cc)]) hx hb dM_act_105 hl (by decide) rfl (fun ls hl => ?_)
    refine lv_aload_n hx hb dM_act_107 rfl (lv_at hl 3 rfl) ?_
    refine lv_iload hx hb dM_act_108 (lv_at hl 0 rfl) ?_
    refine lv_if_ne (tgt := 117) hx hb dM_act_110 rfl (fun h9 => absurd (by decide) h9) (fun _ => ?_)
    refine lv_iconst (v := 1) hx hb dM_act_113 (by decide) ?_
    refine lv_goto (tgt := 118) hx hb dM_act_114 rfl ?_
    refine lv_iload hx hb dM_act_118 (lv_at hl 0 rfl) ?_
    refine lv_if_eq (tgt := 156) hx hb dM_act_120 rfl (fun _ => ?_) (fun h9 => absurd (by decide) h9)
    refine lv_iconst (v := 0) hx hb dM_act_156 (by decide) ?_
    refine er_calli (va_runV (As := [.int 1, .int 0]) (rest := []) ⟨hx, hb, hml, hown, hts⟩ (r_refuses_a l D T X L tg _ hE A 0) (cwV 2 hts gM_152 rfl rfl rfl (by decide +kernel) ⟨Nat.le_of_ble_eq_true rfl, Nat.le_of_ble_eq_true rfl⟩) (er_preV hK hV hi0 (cR_0 _ _ _) rfl) rfl rfl hl.1 rfl (lv_room (Nat.le_of_ble_eq_true rfl)) dM_act_157 ⟨Nat.le_of_ble_eq_true rfl, Nat.le_of_ble_eq_true rfl⟩) hV hS hA (fun r u H locs hp hV hS => ?_)
    obtain ⟨rfl, rfl⟩ := hp
    refine lv_if_eq (tgt := 165) hx hb dM_act_160 rfl (fun h9 => absurd h9 (by decide)) (fun _ => ?_)
    refine lv_iconst (v := 0) hx hb dM_act_163 (by decide) ?_
    exact er_iret hx hb hr hlocks hV hS dM_act_164 ⟨Eq.symm (by unfold s_act_14r; simp only [if_pos h1]), Eq.symm (by unfold s_act_14r; simp only [if_pos h1])⟩
  · refine lv_iconst (v := 1) hx hb dM_act_61 (by decide) ?_
    refine lv_goto (tgt := 66) hx hb dM_act_62 rfl ?_
    refine lv_istore (lv' := [(6, .int 1), (5, .int 0), (0, .ref (X 0 0)), (1, .int (nI b)), (2, .int (nI ln)), (3, .int 14), (4, .int cc)]) hx hb dM_act_66 hl (by decide) rfl (fun ls hl => ?_)
    refine lv_iload_n hx hb dM_act_68 rfl (lv_at hl 5 rfl) ?_
    refine lv_if_lt (tgt := 83) hx hb dM_act_69 rfl (fun h9 => absurd h9 (by decide)) (fun _ => ?_)
    refine lv_iload_n hx hb dM_act_72 rfl (lv_at hl 5 rfl) ?_
    refine lv_bipush (v := 7) hx hb dM_act_73 (by decide) ?_
    refine lv_icmp_ge (tgt := 83) hx hb dM_act_75 rfl (fun _ => ?_) (fun h9 => absurd (by decide) h9)
    refine lv_iload_n hx hb dM_act_83 rfl (lv_at hl 5 rfl) ?_
    refine lv_bipush (v := 6) hx hb dM_act_84 (by decide) ?_
    refine lv_icmp_le (tgt := 104) hx hb dM_act_86 rfl (fun h9 => absurd h9 (by decide)) (fun _ => ?_)
    refine lv_iload_n hx hb dM_act_89 rfl (lv_at hl 5 rfl) ?_
    refine lv_bipush (v := 15) hx hb dM_act_90 (by decide) ?_
    refine lv_icmp_ge (tgt := 104) hx hb dM_act_92 rfl (fun h9 => absurd h9 (by decide)) (fun _ => ?_)
    refine lv_iload hx hb dM_act_95 (lv_at hl 0 rfl) ?_
    refine lv_if_eq (tgt := 104) hx hb dM_act_97 rfl (fun h9 => absurd h9 (by decide)) (fun _ => ?_)
    refine lv_iconst (v := 1) hx hb dM_act_100 (by decide) ?_
    refine lv_goto (tgt := 105) hx hb dM_act_101 rfl ?_
    refine lv_istore (lv' := [(7, .int 1), (6, .int 1), (5, .int 0), (0, .ref (X 0 0)), (1, .int (nI b)), (2, .int (nI ln)), (3, .int 14), (4, .int cc)]) hx hb dM_act_105 hl (by decide) rfl (fun ls hl => ?_)
    refine lv_aload_n hx hb dM_act_107 rfl (lv_at hl 3 rfl) ?_
    refine lv_iload hx hb dM_act_108 (lv_at hl 0 rfl) ?_
    refine lv_if_ne (tgt := 117) hx hb dM_act_110 rfl (fun _ => ?_) (fun h9 => absurd h9 (by decide))
    refine lv_iconst (v := 0) hx hb dM_act_117 (by decide) ?_
    refine lv_iload hx hb dM_act_118 (lv_at hl 0 rfl) ?_
    refine lv_if_eq (tgt := 156) hx hb dM_act_120 rfl (fun h9 => absurd h9 (by decide)) (fun _ => ?_)
    refine lv_iload hx hb dM_act_123 (lv_at hl 2 rfl) ?_
    refine lv_if_eq (tgt := 140) hx hb dM_act_125 rfl (fun _ => ?_) (fun h9 => absurd (by decide) h9)
    refine lv_aload_n hx hb dM_act_140 rfl (lv_at hl 3 rfl) ?_
    refine lv_iload_n hx hb dM_act_141 rfl (lv_at hl 5 rfl) ?_
    refine lv_iload_n hx hb dM_act_142 rfl (lv_at hl 4 rfl) ?_
    refine lv_iload_n hx hb dM_act_143 rfl (lv_at hl 6 rfl) ?_
    refine lv_iload hx hb dM_act_144 (lv_at hl 7 rfl) ?_
    refine er_calli (va_runV (As := [.int (nI ln), .int (nI b), .int 14, .int cc]) (rest := [.int 0, .ref (X 0 0)]) ⟨hx, hb, hml, hown, hts⟩ (r_maySupplier_14 l D T X L tg _ hE A ln b cc (by omega) hb6) (cwV 4 hts gM_179 rfl rfl rfl (by decide +kernel) ⟨Nat.le_of_ble_eq_true rfl, Nat.le_of_ble_eq_true rfl⟩) (er_preV hK hV hi0 (cR_0 _ _ _) rfl) rfl rfl hl.1 rfl (lv_room (Nat.le_of_ble_eq_true rfl)) dM_act_146 ⟨Nat.le_of_ble_eq_true rfl, Nat.le_of_ble_eq_true rfl⟩) hV hS hA (fun r u H locs hp hV hS => ?_)
    obtain ⟨rfl, eu9⟩ := hp
    rw [eu9] at hV
    refine lv_toe (y := 0) hmay ?_
    refine lv_if_ne (tgt := 156) hx hb dM_act_149 rfl (fun h9 => absurd (by decide) h9) (fun _ => ?_)
    refine lv_iconst (v := 1) hx hb dM_act_152 (by decide) ?_
    refine lv_goto (tgt := 157) hx hb dM_act_153 rfl ?_
    refine er_calli (va_runV (As := [.int 0, .int 1]) (rest := []) ⟨hx, hb, hml, hown, hts⟩ (r_refuses_b l D T X L tg _ hE A) (cwV 2 hts gM_152 rfl rfl rfl (by decide +kernel) ⟨Nat.le_of_ble_eq_true rfl, Nat.le_of_ble_eq_true rfl⟩) (er_preV hK hV hi0 (cR_0 _ _ _) rfl) rfl rfl hl.1 rfl (lv_room (Nat.le_of_ble_eq_true rfl)) dM_act_157 ⟨Nat.le_of_ble_eq_true rfl, Nat.le_of_ble_eq_true rfl⟩) hV hS hA (fun r u H locs hp hV hS => ?_)
    obtain ⟨rfl, rfl⟩ := hp
    refine lv_if_eq (tgt := 165) hx hb dM_act_160 rfl (fun h9 => absurd h9 (by decide)) (fun _ => ?_)
    refine lv_iconst (v := 0) hx hb dM_act_163 (by decide) ?_
    exact er_iret hx hb hr hlocks hV hS dM_act_164 ⟨Eq.symm (by unfold s_act_14r; simp only [if_neg h1]), Eq.symm (by unfold s_act_14r; simp only [if_neg h1])⟩
