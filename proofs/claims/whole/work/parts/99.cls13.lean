def z_L_supplierIsCancelled_x (A : ew_R) (d : Nat) : ew_R :=
  A
set_option maxHeartbeats 4000000 in
set_option maxRecDepth 100000 in
theorem c_L_supplierIsCancelled_x (l : Launch) (D : va_G) (T : Nat → ClassId) (X : Nat → Nat → Nat) (L : List Nat) (tg : Nat → Nat × Nat) (sz : Nat) (A : ew_R) (d : Nat) (th : Nat) (hth : ew_in X L tg 0 0 th) (dl : Nat) (hdl : ew_in X L tg 4 d dl) (e17_0 : ew_in X L tg 17 d (X 17 d)) (hst : A 17 d 0 = 11) : Met l yL_supplierIsCancelled wsL_supplierIsCancelled ({ frames := 10, cells := 0, slots := 0, locals := 227 }) (ec_Pc D vwCl (tysA T) (cfC T) X L tg A sz [.ref th, .ref dl]) (er_Qv D vwCl (cfC T) X L tg sz (fun u => u = z_L_supplierIsCancelled_x A d)) 0 0 (ew_A L sz) := by
  refine ec_met (by decide) rfl (Nat.le_of_ble_eq_true rfl) ?_
  intro p e s m below meth c ls hx hb hr hts hown hlocks hml hV hK hN hS hA hl hsz
  subst hsz
  have hl : lv_has ls 3 [(0, .ref th), (1, .ref dl)] := hl
  refine lv_aload_n hx hb dL_supplierIsCancelled_0 rfl (lv_at hl 1 rfl) ?_
  refine ew_get (v := .ref (X 17 d)) hx hb hts hown hK hV fL_128 hdl (cC_4 _ _ _ _) rfl dL_supplierIsCancelled_1 ?_
  refine ew_get (v := .int (A 17 d 0)) hx hb hts hown hK hV fL_111 e17_0 (cC_17 _ _ _ _) rfl dL_supplierIsCancelled_4 ?_
  refine lv_istore_n (lv' := [(2, .int (A 17 d 0)), (0, .ref th), (1, .ref dl)]) hx hb dL_supplierIsCancelled_7 rfl hl (by decide) rfl (fun ls hl => ?_)
  refine lv_iload_n hx hb dL_supplierIsCancelled_8 rfl (lv_at hl 0 rfl) ?_
  refine lv_iconst (v := 1) hx hb dL_supplierIsCancelled_9 (by decide) ?_
  refine lv_icmp_eq (tgt := 23) hx hb dL_supplierIsCancelled_10 rfl (fun h9 => absurd h9 (i3_ne2 hst (by decide))) (fun _ => ?_)
  refine lv_iload_n hx hb dL_supplierIsCancelled_13 rfl (lv_at hl 0 rfl) ?_
  refine lv_iconst (v := 2) hx hb dL_supplierIsCancelled_14 (by decide) ?_
  refine lv_icmp_eq (tgt := 23) hx hb dL_supplierIsCancelled_15 rfl (fun h9 => absurd h9 (i3_ne2 hst (by decide))) (fun _ => ?_)
  refine lv_iload_n hx hb dL_supplierIsCancelled_18 rfl (lv_at hl 0 rfl) ?_
  refine lv_iconst (v := 3) hx hb dL_supplierIsCancelled_19 (by decide) ?_
  refine lv_icmp_ne (tgt := 38) hx hb dL_supplierIsCancelled_20 rfl (fun _ => ?_) (fun h9 => absurd h9 (i3_ne2 hst (by decide)))
  exact er_vret hx hb hr hlocks hV hS dL_supplierIsCancelled_38 (Eq.symm (by unfold z_L_supplierIsCancelled_x; rfl))

def z_L_supplierTakes_x (A : ew_R) (d : Nat) (t : Nat) : ew_R :=
  if A 6 t 1 = 1 then
    (z_Deal_turn A d 0 1)
  else
    if A 6 t 1 = 2 then
      A
    else
      if A 6 t 1 = 3 then
        A
      else
        if A 6 t 1 = 4 then
          A
        else
          if A 6 t 1 = 5 then
            (z_Deal_turn A d 0 1)
          else
            if A 6 t 1 = 6 then
              (z_Deal_turn A d 0 10)
            else
              if A 6 t 1 = 7 then
                A
              else
                if A 6 t 1 = 8 then
                  (z_Deal_turn A d 0 5)
                else
                  if A 6 t 1 = 9 then
                    (z_Deal_turn A d 0 6)
                  else
                    if A 6 t 1 = 10 then
                      A
                    else
                      if A 6 t 1 = 11 then
                        A
                      else
                        if A 6 t 1 = 12 then
                          (z_Deal_turn A d (z_Lender_isOut (A 17 d 0)) 8)
                        else
                          if A 6 t 1 = 13 then
                            A
                          else
                            if A 6 t 1 = 14 then
                              (z_L_supplierHearsOfLoss_n A d)
                            else
                              if A 6 t 1 = 15 then
                                (z_L_supplierIsCancelled_x A d)
                              else
                                A
set_option maxHeartbeats 4000000 in
set_option maxRecDepth 100000 in
theorem c_L_supplierTakes_x (l : Launch) (D : va_G) (T : Nat → ClassId) (X : Nat → Nat → Nat) (L : List Nat) (tg : Nat → Nat × Nat) (sz : Nat) (A : ew_R) (d : Nat) (t : Nat) (th : Nat) (hth : ew_in X L tg 0 0 th) (dl : Nat) (hdl : ew_in X L tg 4 d dl) (lt : Nat) (hlt : ew_in X L tg 6 t lt) (e17_0 : ew_in X L tg 17 d (X 17 d)) (hst : A 17 d 0 = 11) : Met l yL_supplierTakes wsL_supplierTakes ({ frames := 11, cells := 0, slots := 0, locals := 249 }) (ec_Pc D vwCl (tysA T) (cfC T) X L tg A sz [.ref th, .ref dl, .ref lt]) (er_Qv D vwCl (cfC T) X L tg sz (fun u => u = z_L_supplierTakes_x A d t)) 0 0 (ew_A L sz) := by
  refine ec_met (by decide) rfl (Nat.le_of_ble_eq_true rfl) ?_
  intro p e s m below meth c ls hx hb hr hts hown hlocks hml hV hK hN hS hA hl hsz
  subst hsz
  have hl : lv_has ls 4 [(0, .ref th), (1, .ref dl), (2, .ref lt)] := hl
  refine lv_aload_n hx hb dL_supplierTakes_0 rfl (lv_at hl 1 rfl) ?_
  refine ew_get (v := .ref (X 17 d)) hx hb hts hown hK hV fL_128 hdl (cC_4 _ _ _ _) rfl dL_supplierTakes_1 ?_
  refine ew_get (v := .int (A 17 d 0)) hx hb hts hown hK hV fL_111 e17_0 (cC_17 _ _ _ _) rfl dL_supplierTakes_4 ?_
  refine lv_istore_n (lv' := [(3, .int (A 17 d 0)), (0, .ref th), (1, .ref dl), (2, .ref lt)]) hx hb dL_supplierTakes_7 rfl hl (by decide) rfl (fun ls hl => ?_)
  refine lv_aload_n hx hb dL_supplierTakes_8 rfl (lv_at hl 3 rfl) ?_
  refine ew_get (v := .int (A 6 t 1)) hx hb hts hown hK hV fL_350 hlt (cC_6 _ _ _ _) rfl dL_supplierTakes_9 ?_
  by_cases h1 : A 6 t 1 = 1
  · refine lv_tableIn (tgt := 88) hx hb dL_supplierTakes_12 (by rw [h1]; decide) (by rw [h1]; decide) (by rw [h1]; rfl) rfl ?_
    refine lv_aload_n hx hb dL_supplierTakes_88 rfl (lv_at hl 2 rfl) ?_
    refine lv_iload_n hx hb dL_supplierTakes_89 rfl (lv_at hl 0 rfl) ?_
    refine lv_if_ne (tgt := 97) hx hb dL_supplierTakes_90 rfl (fun _ => ?_) (fun h9 => absurd h9 (i3_ne2 hst (by decide)))
    refine lv_iconst (v := 0) hx hb dL_supplierTakes_97 (by decide) ?_
    refine lv_iconst (v := 1) hx hb dL_supplierTakes_98 (by decide) ?_
    refine er_callv (va_runV (As := [.int 0, .int 1]) (rest := []) ⟨hx, hb, hml, hown, hts⟩ (c_Deal_turn l D T X L tg _ A d dl hdl 0 1 e17_0) (cwV 2 hts gL_353 rfl rfl rfl (by decide +kernel) ⟨Nat.le_of_ble_eq_true rfl, Nat.le_of_ble_eq_true rfl⟩) (ec_preV hK hN hV hdl (cC_4 _ _ _ _) rfl) rfl rfl hl.1 rfl (lv_room (Nat.le_of_ble_eq_true rfl)) dL_supplierTakes_99 ⟨Nat.le_of_ble_eq_true rfl, Nat.le_of_ble_eq_true rfl⟩) hV hS hA (fun u2 H locs eu2 hV hS => ?_)
    have eu2 : u2 = z_Deal_turn A d 0 1 := eu2
    refine lv_goto (tgt := 208) hx hb dL_supplierTakes_102 rfl ?_
    rw [eu2] at hV
    exact er_vret hx hb hr hlocks hV hS dL_supplierTakes_208 (Eq.symm (by unfold z_L_supplierTakes_x; simp only [if_pos h1]))
  · by_cases h3 : A 6 t 1 = 2
    · refine lv_tableIn (tgt := 208) hx hb dL_supplierTakes_12 (by rw [h3]; decide) (by rw [h3]; decide) (by rw [h3]; rfl) rfl ?_
      exact er_vret hx hb hr hlocks hV hS dL_supplierTakes_208 (Eq.symm (by unfold z_L_supplierTakes_x; simp only [if_neg h1, if_pos h3]))
    · by_cases h4 : A 6 t 1 = 3
      · refine lv_tableIn (tgt := 208) hx hb dL_supplierTakes_12 (by rw [h4]; decide) (by rw [h4]; decide) (by rw [h4]; rfl) rfl ?_
        exact er_vret hx hb hr hlocks hV hS dL_supplierTakes_208 (Eq.symm (by unfold z_L_supplierTakes_x; simp only [if_neg h1, if_neg h3, if_pos h4]))
      · by_cases h5 : A 6 t 1 = 4
        · refine lv_tableIn (tgt := 208) hx hb dL_supplierTakes_12 (by rw [h5]; decide) (by rw [h5]; decide) (by rw [h5]; rfl) rfl ?_
          exact er_vret hx hb hr hlocks hV hS dL_supplierTakes_208 (Eq.symm (by unfold z_L_supplierTakes_x; simp only [if_neg h1, if_neg h3, if_neg h4, if_pos h5]))
        · by_cases h6 : A 6 t 1 = 5
          · refine lv_tableIn (tgt := 105) hx hb dL_supplierTakes_12 (by rw [h6]; decide) (by rw [h6]; decide) (by rw [h6]; rfl) rfl ?_
            refine lv_aload_n hx hb dL_supplierTakes_105 rfl (lv_at hl 2 rfl) ?_
            refine lv_iload_n hx hb dL_supplierTakes_106 rfl (lv_at hl 0 rfl) ?_
            refine lv_iconst (v := 2) hx hb dL_supplierTakes_107 (by decide) ?_
            refine lv_icmp_ne (tgt := 115) hx hb dL_supplierTakes_108 rfl (fun _ => ?_) (fun h9 => absurd h9 (i3_ne2 hst (by decide)))
            refine lv_iconst (v := 0) hx hb dL_supplierTakes_115 (by decide) ?_
            refine lv_iconst (v := 1) hx hb dL_supplierTakes_116 (by decide) ?_
            refine er_callv (va_runV (As := [.int 0, .int 1]) (rest := []) ⟨hx, hb, hml, hown, hts⟩ (c_Deal_turn l D T X L tg _ A d dl hdl 0 1 e17_0) (cwV 2 hts gL_353 rfl rfl rfl (by decide +kernel) ⟨Nat.le_of_ble_eq_true rfl, Nat.le_of_ble_eq_true rfl⟩) (ec_preV hK hN hV hdl (cC_4 _ _ _ _) rfl) rfl rfl hl.1 rfl (lv_room (Nat.le_of_ble_eq_true rfl)) dL_supplierTakes_117 ⟨Nat.le_of_ble_eq_true rfl, Nat.le_of_ble_eq_true rfl⟩) hV hS hA (fun u7 H locs eu7 hV hS => ?_)
            have eu7 : u7 = z_Deal_turn A d 0 1 := eu7
            refine lv_goto (tgt := 208) hx hb dL_supplierTakes_120 rfl ?_
            rw [eu7] at hV
            exact er_vret hx hb hr hlocks hV hS dL_supplierTakes_208 (Eq.symm (by unfold z_L_supplierTakes_x; simp only [if_neg h1, if_neg h3, if_neg h4, if_neg h5, if_pos h6]))
          · by_cases h8 : A 6 t 1 = 6
            · refine lv_tableIn (tgt := 123) hx hb dL_supplierTakes_12 (by rw [h8]; decide) (by rw [h8]; decide) (by rw [h8]; rfl) rfl ?_
              refine lv_aload_n hx hb dL_supplierTakes_123 rfl (lv_at hl 2 rfl) ?_
              refine lv_iload_n hx hb dL_supplierTakes_124 rfl (lv_at hl 0 rfl) ?_
              refine lv_iconst (v := 2) hx hb dL_supplierTakes_125 (by decide) ?_
              refine lv_icmp_ne (tgt := 133) hx hb dL_supplierTakes_126 rfl (fun _ => ?_) (fun h9 => absurd h9 (i3_ne2 hst (by decide)))
              refine lv_iconst (v := 0) hx hb dL_supplierTakes_133 (by decide) ?_
              refine lv_bipush (v := 10) hx hb dL_supplierTakes_134 (by decide) ?_
              refine er_callv (va_runV (As := [.int 0, .int 10]) (rest := []) ⟨hx, hb, hml, hown, hts⟩ (c_Deal_turn l D T X L tg _ A d dl hdl 0 10 e17_0) (cwV 2 hts gL_353 rfl rfl rfl (by decide +kernel) ⟨Nat.le_of_ble_eq_true rfl, Nat.le_of_ble_eq_true rfl⟩) (ec_preV hK hN hV hdl (cC_4 _ _ _ _) rfl) rfl rfl hl.1 rfl (lv_room (Nat.le_of_ble_eq_true rfl)) dL_supplierTakes_136 ⟨Nat.le_of_ble_eq_true rfl, Nat.le_of_ble_eq_true rfl⟩) hV hS hA (fun u9 H locs eu9 hV hS => ?_)
              have eu9 : u9 = z_Deal_turn A d 0 10 := eu9
              refine lv_goto (tgt := 208) hx hb dL_supplierTakes_139 rfl ?_
              rw [eu9] at hV
              exact er_vret hx hb hr hlocks hV hS dL_supplierTakes_208 (Eq.symm (by unfold z_L_supplierTakes_x; simp only [if_neg h1, if_neg h3, if_neg h4, if_neg h5, if_neg h6, if_pos h8]))
            · by_cases h10 : A 6 t 1 = 7
              · refine lv_tableIn (tgt := 208) hx hb dL_supplierTakes_12 (by rw [h10]; decide) (by rw [h10]; decide) (by rw [h10]; rfl) rfl ?_
                exact er_vret hx hb hr hlocks hV hS dL_supplierTakes_208 (Eq.symm (by unfold z_L_supplierTakes_x; simp only [if_neg h1, if_neg h3, if_neg h4, if_neg h5, if_neg h6, if_neg h8, if_pos h10]))
              · by_cases h11 : A 6 t 1 = 8
                · refine lv_tableIn (tgt := 150) hx hb dL_supplierTakes_12 (by rw [h11]; decide) (by rw [h11]; decide) (by rw [h11]; rfl) rfl ?_
                  refine lv_aload_n hx hb dL_supplierTakes_150 rfl (lv_at hl 2 rfl) ?_
                  refine lv_iload_n hx hb dL_supplierTakes_151 rfl (lv_at hl 0 rfl) ?_
                  refine lv_iconst (v := 4) hx hb dL_supplierTakes_152 (by decide) ?_
                  refine lv_icmp_ne (tgt := 160) hx hb dL_supplierTakes_153 rfl (fun _ => ?_) (fun h9 => absurd h9 (i3_ne2 hst (by decide)))
                  refine lv_iconst (v := 0) hx hb dL_supplierTakes_160 (by decide) ?_
                  refine lv_iconst (v := 5) hx hb dL_supplierTakes_161 (by decide) ?_
                  refine er_callv (va_runV (As := [.int 0, .int 5]) (rest := []) ⟨hx, hb, hml, hown, hts⟩ (c_Deal_turn l D T X L tg _ A d dl hdl 0 5 e17_0) (cwV 2 hts gL_353 rfl rfl rfl (by decide +kernel) ⟨Nat.le_of_ble_eq_true rfl, Nat.le_of_ble_eq_true rfl⟩) (ec_preV hK hN hV hdl (cC_4 _ _ _ _) rfl) rfl rfl hl.1 rfl (lv_room (Nat.le_of_ble_eq_true rfl)) dL_supplierTakes_162 ⟨Nat.le_of_ble_eq_true rfl, Nat.le_of_ble_eq_true rfl⟩) hV hS hA (fun u12 H locs eu12 hV hS => ?_)
                  have eu12 : u12 = z_Deal_turn A d 0 5 := eu12
                  refine lv_goto (tgt := 208) hx hb dL_supplierTakes_165 rfl ?_
                  rw [eu12] at hV
                  exact er_vret hx hb hr hlocks hV hS dL_supplierTakes_208 (Eq.symm (by unfold z_L_supplierTakes_x; simp only [if_neg h1, if_neg h3, if_neg h4, if_neg h5, if_neg h6, if_neg h8, if_neg h10, if_pos h11]))
                · by_cases h13 : A 6 t 1 = 9
                  · refine lv_tableIn (tgt := 168) hx hb dL_supplierTakes_12 (by rw [h13]; decide) (by rw [h13]; decide) (by rw [h13]; rfl) rfl ?_
                    refine lv_aload_n hx hb dL_supplierTakes_168 rfl (lv_at hl 2 rfl) ?_
                    refine lv_iload_n hx hb dL_supplierTakes_169 rfl (lv_at hl 0 rfl) ?_
                    refine lv_iconst (v := 5) hx hb dL_supplierTakes_170 (by decide) ?_
                    refine lv_icmp_ne (tgt := 178) hx hb dL_supplierTakes_171 rfl (fun _ => ?_) (fun h9 => absurd h9 (i3_ne2 hst (by decide)))
                    refine lv_iconst (v := 0) hx hb dL_supplierTakes_178 (by decide) ?_
                    refine lv_bipush (v := 6) hx hb dL_supplierTakes_179 (by decide) ?_
                    refine er_callv (va_runV (As := [.int 0, .int 6]) (rest := []) ⟨hx, hb, hml, hown, hts⟩ (c_Deal_turn l D T X L tg _ A d dl hdl 0 6 e17_0) (cwV 2 hts gL_353 rfl rfl rfl (by decide +kernel) ⟨Nat.le_of_ble_eq_true rfl, Nat.le_of_ble_eq_true rfl⟩) (ec_preV hK hN hV hdl (cC_4 _ _ _ _) rfl) rfl rfl hl.1 rfl (lv_room (Nat.le_of_ble_eq_true rfl)) dL_supplierTakes_181 ⟨Nat.le_of_ble_eq_true rfl, Nat.le_of_ble_eq_true rfl⟩) hV hS hA (fun u14 H locs eu14 hV hS => ?_)
                    have eu14 : u14 = z_Deal_turn A d 0 6 := eu14
                    refine lv_goto (tgt := 208) hx hb dL_supplierTakes_184 rfl ?_
                    rw [eu14] at hV
                    exact er_vret hx hb hr hlocks hV hS dL_supplierTakes_208 (Eq.symm (by unfold z_L_supplierTakes_x; simp only [if_neg h1, if_neg h3, if_neg h4, if_neg h5, if_neg h6, if_neg h8, if_neg h10, if_neg h11, if_pos h13]))
                  · by_cases h15 : A 6 t 1 = 10
                    · refine lv_tableIn (tgt := 208) hx hb dL_supplierTakes_12 (by rw [h15]; decide) (by rw [h15]; decide) (by rw [h15]; rfl) rfl ?_
                      exact er_vret hx hb hr hlocks hV hS dL_supplierTakes_208 (Eq.symm (by unfold z_L_supplierTakes_x; simp only [if_neg h1, if_neg h3, if_neg h4, if_neg h5, if_neg h6, if_neg h8, if_neg h10, if_neg h11, if_neg h13, if_pos h15]))
                    · by_cases h16 : A 6 t 1 = 11
                      · refine lv_tableIn (tgt := 208) hx hb dL_supplierTakes_12 (by rw [h16]; decide) (by rw [h16]; decide) (by rw [h16]; rfl) rfl ?_
                        exact er_vret hx hb hr hlocks hV hS dL_supplierTakes_208 (Eq.symm (by unfold z_L_supplierTakes_x; simp only [if_neg h1, if_neg h3, if_neg h4, if_neg h5, if_neg h6, if_neg h8, if_neg h10, if_neg h11, if_neg h13, if_neg h15, if_pos h16]))
                      · by_cases h17 : A 6 t 1 = 12
                        · refine lv_tableIn (tgt := 187) hx hb dL_supplierTakes_12 (by rw [h17]; decide) (by rw [h17]; decide) (by rw [h17]; rfl) rfl ?_
                          refine lv_aload_n hx hb dL_supplierTakes_187 rfl (lv_at hl 2 rfl) ?_
                          refine lv_iload_n hx hb dL_supplierTakes_188 rfl (lv_at hl 0 rfl) ?_
                          refine er_calli (va_runS (As := [.int (A 17 d 0)]) (rest := [.ref dl]) ⟨hx, hb, hml, hown, hts⟩ (c_Lender_isOut l D T X L tg _ A (A 17 d 0)) ⟨callB_of 1 hts gL_361.1 rfl rfl rfl (hts _ gL_361.2.2.2) (hts _ gL_361.2.1) (by decide +kernel) ⟨Nat.le_of_ble_eq_true rfl, Nat.le_of_ble_eq_true rfl⟩, hts _ gL_361.2.2.1⟩ (ec_preS hK hN hV) rfl rfl hl.1 rfl (lv_room (Nat.le_of_ble_eq_true rfl)) dL_supplierTakes_189 ⟨Nat.le_of_ble_eq_true rfl, Nat.le_of_ble_eq_true rfl⟩) hV hS hA (fun r u H locs hp hV hS => ?_)
                          obtain ⟨rfl, eu9⟩ := hp
                          rw [eu9] at hV
                          refine lv_bipush (v := 8) hx hb dL_supplierTakes_192 (by decide) ?_
                          refine er_callv (va_runV (As := [.int (z_Lender_isOut (A 17 d 0)), .int 8]) (rest := []) ⟨hx, hb, hml, hown, hts⟩ (c_Deal_turn l D T X L tg _ A d dl hdl (z_Lender_isOut (A 17 d 0)) 8 e17_0) (cwV 2 hts gL_353 rfl rfl rfl (by decide +kernel) ⟨Nat.le_of_ble_eq_true rfl, Nat.le_of_ble_eq_true rfl⟩) (ec_preV hK hN hV hdl (cC_4 _ _ _ _) rfl) rfl rfl hl.1 rfl (lv_room (Nat.le_of_ble_eq_true rfl)) dL_supplierTakes_194 ⟨Nat.le_of_ble_eq_true rfl, Nat.le_of_ble_eq_true rfl⟩) hV hS hA (fun u18 H locs eu18 hV hS => ?_)
                          have eu18 : u18 = z_Deal_turn A d (z_Lender_isOut (A 17 d 0)) 8 := eu18
                          refine lv_goto (tgt := 208) hx hb dL_supplierTakes_197 rfl ?_
                          rw [eu18] at hV
                          exact er_vret hx hb hr hlocks hV hS dL_supplierTakes_208 (Eq.symm (by unfold z_L_supplierTakes_x; simp only [if_neg h1, if_neg h3, if_neg h4, if_neg h5, if_neg h6, if_neg h8, if_neg h10, if_neg h11, if_neg h13, if_neg h15, if_neg h16, if_pos h17]))
                        · by_cases h19 : A 6 t 1 = 13
                          · refine lv_tableIn (tgt := 208) hx hb dL_supplierTakes_12 (by rw [h19]; decide) (by rw [h19]; decide) (by rw [h19]; rfl) rfl ?_
                            exact er_vret hx hb hr hlocks hV hS dL_supplierTakes_208 (Eq.symm (by unfold z_L_supplierTakes_x; simp only [if_neg h1, if_neg h3, if_neg h4, if_neg h5, if_neg h6, if_neg h8, if_neg h10, if_neg h11, if_neg h13, if_neg h15, if_neg h16, if_neg h17, if_pos h19]))
                          · by_cases h20 : A 6 t 1 = 14
                            · refine lv_tableIn (tgt := 200) hx hb dL_supplierTakes_12 (by rw [h20]; decide) (by rw [h20]; decide) (by rw [h20]; rfl) rfl ?_
                              refine lv_aload_n hx hb dL_supplierTakes_200 rfl (lv_at hl 1 rfl) ?_
                              refine lv_aload_n hx hb dL_supplierTakes_201 rfl (lv_at hl 2 rfl) ?_
                              refine er_callv (va_runV (As := [.ref dl]) (rest := []) ⟨hx, hb, hml, hown, hts⟩ (c_L_supplierHearsOfLoss_n l D T X L tg _ A d th hth dl hdl e17_0 (by rw [hst]; decide)) (cwV 1 hts gL_364 rfl rfl rfl (by decide +kernel) ⟨Nat.le_of_ble_eq_true rfl, Nat.le_of_ble_eq_true rfl⟩) (ec_preV hK hN hV hth (cC_0 _ _ _ _) rfl) rfl rfl hl.1 rfl (lv_room (Nat.le_of_ble_eq_true rfl)) dL_supplierTakes_202 ⟨Nat.le_of_ble_eq_true rfl, Nat.le_of_ble_eq_true rfl⟩) hV hS hA (fun u21 H locs eu21 hV hS => ?_)
                              have eu21 : u21 = z_L_supplierHearsOfLoss_n A d := eu21
                              refine lv_goto (tgt := 208) hx hb dL_supplierTakes_205 rfl ?_
                              rw [eu21] at hV
                              exact er_vret hx hb hr hlocks hV hS dL_supplierTakes_208 (Eq.symm (by unfold z_L_supplierTakes_x; simp only [if_neg h1, if_neg h3, if_neg h4, if_neg h5, if_neg h6, if_neg h8, if_neg h10, if_neg h11, if_neg h13, if_neg h15, if_neg h16, if_neg h17, if_neg h19, if_pos h20]))
                            · by_cases h22 : A 6 t 1 = 15
                              · refine lv_tableIn (tgt := 142) hx hb dL_supplierTakes_12 (by rw [h22]; decide) (by rw [h22]; decide) (by rw [h22]; rfl) rfl ?_
                                refine lv_aload_n hx hb dL_supplierTakes_142 rfl (lv_at hl 1 rfl) ?_
                                refine lv_aload_n hx hb dL_supplierTakes_143 rfl (lv_at hl 2 rfl) ?_
                                refine er_callv (va_runV (As := [.ref dl]) (rest := []) ⟨hx, hb, hml, hown, hts⟩ (c_L_supplierIsCancelled_x l D T X L tg _ A d th hth dl hdl e17_0 hst) (cwV 1 hts gL_357 rfl rfl rfl (by decide +kernel) ⟨Nat.le_of_ble_eq_true rfl, Nat.le_of_ble_eq_true rfl⟩) (ec_preV hK hN hV hth (cC_0 _ _ _ _) rfl) rfl rfl hl.1 rfl (lv_room (Nat.le_of_ble_eq_true rfl)) dL_supplierTakes_144 ⟨Nat.le_of_ble_eq_true rfl, Nat.le_of_ble_eq_true rfl⟩) hV hS hA (fun u23 H locs eu23 hV hS => ?_)
                                have eu23 : u23 = z_L_supplierIsCancelled_x A d := eu23
                                refine lv_goto (tgt := 208) hx hb dL_supplierTakes_147 rfl ?_
                                rw [eu23] at hV
                                exact er_vret hx hb hr hlocks hV hS dL_supplierTakes_208 (Eq.symm (by unfold z_L_supplierTakes_x; simp only [if_neg h1, if_neg h3, if_neg h4, if_neg h5, if_neg h6, if_neg h8, if_neg h10, if_neg h11, if_neg h13, if_neg h15, if_neg h16, if_neg h17, if_neg h19, if_neg h20, if_pos h22]))
                              · refine lv_tableOut (tgt := 208) hx hb dL_supplierTakes_12 (by have a0 := lv_neT (a := 1) h1 (by decide); have a1 := lv_neT (a := 2) h3 (by decide); have a2 := lv_neT (a := 3) h4 (by decide); have a3 := lv_neT (a := 4) h5 (by decide); have a4 := lv_neT (a := 5) h6 (by decide); have a5 := lv_neT (a := 6) h8 (by decide); have a6 := lv_neT (a := 7) h10 (by decide); have a7 := lv_neT (a := 8) h11 (by decide); have a8 := lv_neT (a := 9) h13 (by decide); have a9 := lv_neT (a := 10) h15 (by decide); have a10 := lv_neT (a := 11) h16 (by decide); have a11 := lv_neT (a := 12) h17 (by decide); have a12 := lv_neT (a := 13) h19 (by decide); have a13 := lv_neT (a := 14) h20 (by decide); have a14 := lv_neT (a := 15) h22 (by decide); omega) rfl ?_
                                exact er_vret hx hb hr hlocks hV hS dL_supplierTakes_208 (Eq.symm (by unfold z_L_supplierTakes_x; simp only [if_neg h1, if_neg h3, if_neg h4, if_neg h5, if_neg h6, if_neg h8, if_neg h10, if_neg h11, if_neg h13, if_neg h15, if_neg h16, if_neg h17, if_neg h19, if_neg h20, if_neg h22]))
