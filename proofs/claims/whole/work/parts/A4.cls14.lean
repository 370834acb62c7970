def z_L_supplierIsCancelled_y (A : ew_R) (d : Nat) : ew_R :=
  A
set_option maxHeartbeats 4000000 in
set_option maxRecDepth 100000 in
theorem c_L_supplierIsCancelled_y (l : Launch) (D : va_G) (T : Nat → ClassId) (X : Nat → Nat → Nat) (L : List Nat) (tg : Nat → Nat × Nat) (sz : Nat) (A : ew_R) (d : Nat) (th : Nat) (hth : ew_in X L tg 0 0 th) (dl : Nat) (hdl : ew_in X L tg 4 d dl) (e17_0 : ew_in X L tg 17 d (X 17 d)) (s1 : ¬ A 17 d 0 = 1) (s2 : ¬ A 17 d 0 = 2) (s3 : ¬ A 17 d 0 = 3) : Met l yL_supplierIsCancelled wsL_supplierIsCancelled ({ frames := 10, cells := 0, slots := 0, locals := 227 }) (ec_Pc D vwCl (tysA T) (cfC T) X L tg A sz [.ref th, .ref dl]) (er_Qv D vwCl (cfC T) X L tg sz (fun u => u = z_L_supplierIsCancelled_y A d)) 0 0 (ew_A L sz) := by
  refine ec_met (by decide) rfl (Nat.le_of_ble_eq_true rfl) ?_
  intro p e s m below meth c ls hx hb hr hts hown hlocks hml hV hK hN hS hA hl hsz
  subst hsz
  have hl : lv_has ls 3 [(0, .ref th), (1, .ref dl)] := hl
  refine lv_aload_n hx hb dL_supplierIsCancelled_0 rfl (lv_at hl 1 rfl) ?_
  refine ew_get (v := .ref (X 17 d)) hx hb hts hown hK hV fL_128 hdl (cC_4 _ _ _ _) rfl dL_supplierIsCancelled_1 ?_
  refine ew_get (v := .int (A 17 d 0)) hx hb hts hown hK hV fL_111 e17_0 (cC_17 _ _ _ _) rfl dL_supplierIsCancelled_4 ?_
  refine lv_istore_n (lv' := [(2, .int (A 17 d 0)), (0, .ref th), (1, .ref dl)]) hx hb dL_supplierIsCancelled_7 rfl hl (by decide) rfl (fun ls hl => ?_)
  refine lv_iload_n hx hb dL_supplierIsCancelled_8 rfl (lv_at hl 0 rfl) ?_
  refine lv_iconst (v := 1) hx hb dL_supplierIsCancelled_9 (by decide) ?_
  refine lv_icmp_eq (tgt := 23) hx hb dL_supplierIsCancelled_10 rfl (fun h9 => absurd h9 s1) (fun _ => ?_)
  refine lv_iload_n hx hb dL_supplierIsCancelled_13 rfl (lv_at hl 0 rfl) ?_
  refine lv_iconst (v := 2) hx hb dL_supplierIsCancelled_14 (by decide) ?_
  refine lv_icmp_eq (tgt := 23) hx hb dL_supplierIsCancelled_15 rfl (fun h9 => absurd h9 s2) (fun _ => ?_)
  refine lv_iload_n hx hb dL_supplierIsCancelled_18 rfl (lv_at hl 0 rfl) ?_
  refine lv_iconst (v := 3) hx hb dL_supplierIsCancelled_19 (by decide) ?_
  refine lv_icmp_ne (tgt := 38) hx hb dL_supplierIsCancelled_20 rfl (fun _ => ?_) (fun h9 => absurd h9 s3)
  exact er_vret hx hb hr hlocks hV hS dL_supplierIsCancelled_38 (Eq.symm (by unfold z_L_supplierIsCancelled_y; rfl))

def z_L_supplierTakes_pn (A : ew_R) (d : Nat) (t : Nat) : ew_R :=
  if A 6 t 1 = 1 then
    if A 17 d 0 = 0 then
      (z_Deal_turn A d 1 1)
    else
      (z_Deal_turn A d 0 1)
  else
    if A 6 t 1 = 2 then
      A
    else
      if A 6 t 1 = 3 then
        A
      else
        if A 6 t 1 = 4 then
          A
        else
          if A 6 t 1 = 5 then
            if A 17 d 0 = 2 then
              (z_Deal_turn A d 1 1)
            else
              (z_Deal_turn A d 0 1)
          else
            if A 6 t 1 = 6 then
              if A 17 d 0 = 2 then
                (z_Deal_turn A d 1 10)
              else
                (z_Deal_turn A d 0 10)
            else
              if A 6 t 1 = 7 then
                A
              else
                if A 6 t 1 = 8 then
                  if A 17 d 0 = 4 then
                    (z_Deal_turn A d 1 5)
                  else
                    (z_Deal_turn A d 0 5)
                else
                  if A 6 t 1 = 9 then
                    if A 17 d 0 = 5 then
                      (z_Deal_turn A d 1 6)
                    else
                      (z_Deal_turn A d 0 6)
                  else
                    if A 6 t 1 = 10 then
                      A
                    else
                      if A 6 t 1 = 11 then
                        A
                      else
                        if A 6 t 1 = 12 then
                          (z_Deal_turn A d (z_Lender_isOut (A 17 d 0)) 8)
                        else
                          if A 6 t 1 = 13 then
                            A
                          else
                            if A 6 t 1 = 14 then
                              (z_L_supplierHearsOfLoss_n A d)
                            else
                              A
set_option maxHeartbeats 4000000 in
set_option maxRecDepth 100000 in
theorem c_L_supplierTakes_pn (l : Launch) (D : va_G) (T : Nat → ClassId) (X : Nat → Nat → Nat) (L : List Nat) (tg : Nat → Nat × Nat) (sz : Nat) (A : ew_R) (d : Nat) (t : Nat) (th : Nat) (hth : ew_in X L tg 0 0 th) (dl : Nat) (hdl : ew_in X L tg 4 d dl) (lt : Nat) (hlt : ew_in X L tg 6 t lt) (e17_0 : ew_in X L tg 17 d (X 17 d)) (hout : z_Lender_isOut (A 17 d 0) = 0) (hk15 : ¬ A 6 t 1 = 15) : Met l yL_supplierTakes wsL_supplierTakes ({ frames := 11, cells := 0, slots := 0, locals := 249 }) (ec_Pc D vwCl (tysA T) (cfC T) X L tg A sz [.ref th, .ref dl, .ref lt]) (er_Qv D vwCl (cfC T) X L tg sz (fun u => u = z_L_supplierTakes_pn A d t)) 0 0 (ew_A L sz) := by
  refine ec_met (by decide) rfl (Nat.le_of_ble_eq_true rfl) ?_
  intro p e s m below meth c ls hx hb hr hts hown hlocks hml hV hK hN hS hA hl hsz
  subst hsz
  have hl : lv_has ls 4 [(0, .ref th), (1, .ref dl), (2, .ref lt)] := hl
  refine lv_aload_n hx hb dL_supplierTakes_0 rfl (lv_at hl 1 rfl) ?_
  refine ew_get (v := .ref (X 17 d)) hx hb hts hown hK hV fL_128 hdl (cC_4 _ _ _ _) rfl dL_supplierTakes_1 ?_
  refine ew_get (v := .int (A 17 d 0)) hx hb hts hown hK hV fL_111 e17_0 (cC_17 _ _ _ _) rfl dL_supplierTakes_4 ?_
  refine lv_istore_n (lv' := [(3, .int (A 17 d 0)), (0, .ref th), (1, .ref dl), (2, .ref lt)]) hx hb dL_supplierTakes_7 rfl hl (by decide) rfl (fun ls hl => ?_)
  refine lv_aload_n hx hb dL_supplierTakes_8 rfl (lv_at hl 3 rfl) ?_
  refine ew_get (v := .int (A 6 t 1)) hx hb hts hown hK hV fL_350 hlt (cC_6 _ _ _ _) rfl dL_supplierTakes_9 ?_
  by_cases h1 : A 6 t 1 = 1
  · refine lv_tableIn (tgt := 88) hx hb dL_supplierTakes_12 (by rw [h1]; decide) (by rw [h1]; decide) (by rw [h1]; rfl) rfl ?_
    refine lv_aload_n hx hb dL_supplierTakes_88 rfl (lv_at hl 2 rfl) ?_
    refine lv_iload_n hx hb dL_supplierTakes_89 rfl (lv_at hl 0 rfl) ?_
    refine lv_if_ne (tgt := 97) hx hb dL_supplierTakes_90 rfl (fun h2 => ?_) (fun h2 => ?_)
    · refine lv_iconst (v := 0) hx hb dL_supplierTakes_97 (by decide) ?_
      refine lv_iconst (v := 1) hx hb dL_supplierTakes_98 (by decide) ?_
      refine er_callv (va_runV (As := [.int 0, .int 1]) (rest := []) ⟨hx, hb, hml, hown, hts⟩ (c_Deal_turn l D T X L tg _ A d dl hdl 0 1 e17_0) (cwV 2 hts gL_353 rfl rfl rfl (by decide +kernel) ⟨Nat.le_of_ble_eq_true rfl, Nat.le_of_ble_eq_true rfl⟩) (ec_preV hK hN hV hdl (cC_4 _ _ _ _) rfl) rfl rfl hl.1 rfl (lv_room (Nat.le_of_ble_eq_true rfl)) dL_supplierTakes_99 ⟨Nat.le_of_ble_eq_true rfl, Nat.le_of_ble_eq_true rfl⟩) hV hS hA (fun u3 H locs eu3 hV hS => ?_)
      have eu3 : u3 = z_Deal_turn A d 0 1 := eu3
      refine lv_goto (tgt := 208) hx hb dL_supplierTakes_102 rfl ?_
      rw [eu3] at hV
      exact er_vret hx hb hr hlocks hV hS dL_supplierTakes_208 (Eq.symm (by unfold z_L_supplierTakes_pn; simp only [if_pos h1, if_neg h2]))
    · refine lv_iconst (v := 1) hx hb dL_supplierTakes_93 (by decide) ?_
      refine lv_goto (tgt := 98) hx hb dL_supplierTakes_94 rfl ?_
      refine lv_iconst (v := 1) hx hb dL_supplierTakes_98 (by decide) ?_
      refine er_callv (va_runV (As := [.int 1, .int 1]) (rest := []) ⟨hx, hb, hml, hown, hts⟩ (c_Deal_turn l D T X L tg _ A d dl hdl 1 1 e17_0) (cwV 2 hts gL_353 rfl rfl rfl (by decide +kernel) ⟨Nat.le_of_ble_eq_true rfl, Nat.le_of_ble_eq_true rfl⟩) (ec_preV hK hN hV hdl (cC_4 _ _ _ _) rfl) rfl rfl hl.1 rfl (lv_room (Nat.le_of_ble_eq_true rfl)) dL_supplierTakes_99 ⟨Nat.le_of_ble_eq_true rfl, Nat.le_of_ble_eq_true rfl⟩) hV hS hA (fun u4 H locs eu4 hV hS => ?_)
      have eu4 : u4 = z_Deal_turn A d 1 1 := eu4
      refine lv_goto (tgt := 208) hx hb dL_supplierTakes_102 rfl ?_
      rw [eu4] at hV
      exact er_vret hx hb hr hlocks hV hS dL_supplierTakes_208 (Eq.symm (by unfold z_L_supplierTakes_pn; simp only [if_pos h1, if_pos h2]))
  · by_cases h5 : A 6 t 1 = 2
    · refine lv_tableIn (tgt := 208) hx hb dL_supplierTakes_12 (by rw [h5]; decide) (by rw [h5]; decide) (by rw [h5]; rfl) rfl ?_
      exact er_vret hx hb hr hlocks hV hS dL_supplierTakes_208 (Eq.symm (by unfold z_L_supplierTakes_pn; simp only [if_neg h1, if_pos h5]))
    · by_cases h6 : A 6 t 1 = 3
      · refine lv_tableIn (tgt := 208) hx hb dL_supplierTakes_12 (by rw [h6]; decide) (by rw [h6]; decide) (by rw [h6]; rfl) rfl ?_
        exact er_vret hx hb hr hlocks hV hS dL_supplierTakes_208 (Eq.symm (by unfold z_L_supplierTakes_pn; simp only [if_neg h1, if_neg h5, if_pos h6]))
      · by_cases h7 : A 6 t 1 = 4
        · refine lv_tableIn (tgt := 208) hx hb dL_supplierTakes_12 (by rw [h7]; decide) (by rw [h7]; decide) (by rw [h7]; rfl) rfl ?_
          exact er_vret hx hb hr hlocks hV hS dL_supplierTakes_208 (Eq.symm (by unfold z_L_supplierTakes_pn; simp only [if_neg h1, if_neg h5, if_neg h6, if_pos h7]))
        · by_cases h8 : A 6 t 1 = 5
          · refine lv_tableIn (tgt := 105) hx hb dL_supplierTakes_12 (by rw [h8]; decide) (by rw [h8]; decide) (by rw [h8]; rfl) rfl ?_
            refine lv_aload_n hx hb dL_supplierTakes_105 rfl (lv_at hl 2 rfl) ?_
            refine lv_iload_n hx hb dL_supplierTakes_106 rfl (lv_at hl 0 rfl) ?_
            refine lv_iconst (v := 2) hx hb dL_supplierTakes_107 (by decide) ?_
            refine lv_icmp_ne (tgt := 115) hx hb dL_supplierTakes_108 rfl (fun h9 => ?_) (fun h9 => ?_)
            · refine lv_iconst (v := 0) hx hb dL_supplierTakes_115 (by decide) ?_
              refine lv_iconst (v := 1) hx hb dL_supplierTakes_116 (by decide) ?_
              refine er_callv (va_runV (As := [.int 0, .int 1]) (rest := []) ⟨hx, hb, hml, hown, hts⟩ (c_Deal_turn l D T X L tg _ A d dl hdl 0 1 e17_0) (cwV 2 hts gL_353 rfl rfl rfl (by decide +kernel) ⟨Nat.le_of_ble_eq_true rfl, Nat.le_of_ble_eq_true rfl⟩) (ec_preV hK hN hV hdl (cC_4 _ _ _ _) rfl) rfl rfl hl.1 rfl (lv_room (Nat.le_of_ble_eq_true rfl)) dL_supplierTakes_117 ⟨Nat.le_of_ble_eq_true rfl, Nat.le_of_ble_eq_true rfl⟩) hV hS hA (fun u10 H locs eu10 hV hS => ?_)
              have eu10 : u10 = z_Deal_turn A d 0 1 := eu10
              refine lv_goto (tgt := 208) hx hb dL_supplierTakes_120 rfl ?_
              rw [eu10] at hV
              exact er_vret hx hb hr hlocks hV hS dL_supplierTakes_208 (Eq.symm (by unfold z_L_supplierTakes_pn; simp only [if_neg h1, if_neg h5, if_neg h6, if_neg h7, if_pos h8, if_neg h9]))
            · refine lv_iconst (v := 1) hx hb dL_supplierTakes_111 (by decide) ?_
              refine lv_goto (tgt := 116) hx hb dL_supplierTakes_112 rfl ?_
              refine lv_iconst (v := 1) hx hb dL_supplierTakes_116 (by decide) ?_
              refine er_callv (va_runV (As := [.int 1, .int 1]) (rest := []) ⟨hx, hb, hml, hown, hts⟩ (c_Deal_turn l D T X L tg _ A d dl hdl 1 1 e17_0) (cwV 2 hts gL_353 rfl rfl rfl (by decide +kernel) ⟨Nat.le_of_ble_eq_true rfl, Nat.le_of_ble_eq_true rfl⟩) (ec_preV hK hN hV hdl (cC_4 _ _ _ _) rfl) rfl rfl hl.1 rfl (lv_room (Nat.le_of_ble_eq_true rfl)) dL_supplierTakes_117 ⟨Nat.le_of_ble_eq_true rfl, Nat.le_of_ble_eq_true rfl⟩) hV hS hA (fun u11 H locs eu11 hV hS => ?_)
              have eu11 : u11 = z_Deal_turn A d 1 1 := eu11
              refine lv_goto (tgt := 208) hx hb dL_supplierTakes_120 rfl ?_
              rw [eu11] at hV
              exact er_vret hx hb hr hlocks hV hS dL_supplierTakes_208 (Eq.symm (by unfold z_L_supplierTakes_pn; simp only [if_neg h1, if_neg h5, if_neg h6, if_neg h7, if_pos h8, if_pos h9]))
          · by_cases h12 : A 6 t 1 = 6
            · refine lv_tableIn (tgt := 123) hx hb dL_supplierTakes_12 (by rw [h12]; decide) (by rw [h12]; decide) (by rw [h12]; rfl) rfl ?_
              refine lv_aload_n hx hb dL_supplierTakes_123 rfl (lv_at hl 2 rfl) ?_
              refine lv_iload_n hx hb dL_supplierTakes_124 rfl (lv_at hl 0 rfl) ?_
              refine lv_iconst (v := 2) hx hb dL_supplierTakes_125 (by decide) ?_
              refine lv_icmp_ne (tgt := 133) hx hb dL_supplierTakes_126 rfl (fun h13 => ?_) (fun h13 => ?_)
              · refine lv_iconst (v := 0) hx hb dL_supplierTakes_133 (by decide) ?_
                refine lv_bipush (v := 10) hx hb dL_supplierTakes_134 (by decide) ?_
                refine er_callv (va_runV (As := [.int 0, .int 10]) (rest := []) ⟨hx, hb, hml, hown, hts⟩ (c_Deal_turn l D T X L tg _ A d dl hdl 0 10 e17_0) (cwV 2 hts gL_353 rfl rfl rfl (by decide +kernel) ⟨Nat.le_of_ble_eq_true rfl, Nat.le_of_ble_eq_true rfl⟩) (ec_preV hK hN hV hdl (cC_4 _ _ _ _) rfl) rfl rfl hl.1 rfl (lv_room (Nat.le_of_ble_eq_true rfl)) dL_supplierTakes_136 ⟨Nat.le_of_ble_eq_true rfl, Nat.le_of_ble_eq_true rfl⟩) hV hS hA (fun u14 H locs eu14 hV hS => ?_)
                have eu14 : u14 = z_Deal_turn A d 0 10 := eu14
                refine lv_goto (tgt := 208) hx hb dL_supplierTakes_139 rfl ?_
                rw [eu14] at hV
                exact er_vret hx hb hr hlocks hV hS dL_supplierTakes_208 (Eq.symm (by unfold z_L_supplierTakes_pn; simp only [if_neg h1, if_neg h5, if_neg h6, if_neg h7, if_neg h8, if_pos h12, if_neg h13]))
              · refine lv_iconst (v := 1) hx hb dL_supplierTakes_129 (by decide) ?_
                refine lv_goto (tgt := 134) hx hb dL_supplierTakes_130 rfl ?_
                refine lv_bipush (v := 10) hx hb dL_supplierTakes_134 (by decide) ?_
                refine er_callv (va_runV (As := [.int 1, .int 10]) (rest := []) ⟨hx, hb, hml, hown, hts⟩ (c_Deal_turn l D T X L tg _ A d dl hdl 1 10 e17_0) (cwV 2 hts gL_353 rfl rfl rfl (by decide +kernel) ⟨Nat.le_of_ble_eq_true rfl, Nat.le_of_ble_eq_true rfl⟩) (ec_preV hK hN hV hdl (cC_4 _ _ _ _) rfl) rfl rfl hl.1 rfl (lv_room (Nat.le_of_ble_eq_true rfl)) dL_supplierTakes_136 ⟨Nat.le_of_ble_eq_true rfl, Nat.le_of_ble_eq_true rfl⟩) hV hS hA (fun u15 H locs eu15 hV hS => ?_)
                have eu15 : u15 = z_Deal_turn A d 1 10 := eu15
                refine lv_goto (tgt := 208) hx hb dL_supplierTakes_139 rfl ?_
                rw [eu15] at hV
                exact er_vret hx hb hr hlocks hV hS dL_supplierTakes_208 (Eq.symm (by unfold z_L_supplierTakes_pn; simp only [if_neg h1, if_neg h5, if_neg h6, if_neg h7, if_neg h8, if_pos h12, if_pos h13]))
            · by_cases h16 : A 6 t 1 = 7
              · refine lv_tableIn (tgt := 208) hx hb dL_supplierTakes_12 (by rw [h16]; decide) (by rw [h16]; decide) (by rw [h16]; rfl) rfl ?_
                exact er_vret hx hb hr hlocks hV hS dL_supplierTakes_208 (Eq.symm (by unfold z_L_supplierTakes_pn; simp only [if_neg h1, if_neg h5, if_neg h6, if_neg h7, if_neg h8, if_neg h12, if_pos h16]))
              · by_cases h17 : A 6 t 1 = 8
                · refine lv_tableIn (tgt := 150) hx hb dL_supplierTakes_12 (by rw [h17]; decide) (by rw [h17]; decide) (by rw [h17]; rfl) rfl ?_
                  refine lv_aload_n hx hb dL_supplierTakes_150 rfl (lv_at hl 2 rfl) ?_
                  refine lv_iload_n hx hb dL_supplierTakes_151 rfl (lv_at hl 0 rfl) ?_
                  refine lv_iconst (v := 4) hx hb dL_supplierTakes_152 (by decide) ?_
                  refine lv_icmp_ne (tgt := 160) hx hb dL_supplierTakes_153 rfl (fun h18 => ?_) (fun h18 => ?_)
                  · refine lv_iconst (v := 0) hx hb dL_supplierTakes_160 (by decide) ?_
                    refine lv_iconst (v := 5) hx hb dL_supplierTakes_161 (by decide) ?_
                    refine er_callv (va_runV (As := [.int 0, .int 5]) (rest := []) ⟨hx, hb, hml, hown, hts⟩ (c_Deal_turn l D T X L tg _ A d dl hdl 0 5 e17_0) (cwV 2 hts gL_353 rfl rfl rfl (by decide +kernel) ⟨Nat.le_of_ble_eq_true rfl, Nat.le_of_ble_eq_true rfl⟩) (ec_preV hK hN hV hdl (cC_4 _ _ _ _) rfl) rfl rfl hl.1 rfl (lv_room (Nat.le_of_ble_eq_true rfl)) dL_supplierTakes_162 ⟨Nat.le_of_ble_eq_true rfl, Nat.le_of_ble_eq_true rfl⟩) hV hS hA (fun u19 H locs eu19 hV hS => ?_)
                    have eu19 : u19 = z_Deal_turn A d 0 5 := eu19
                    refine lv_goto (tgt := 208) hx hb dL_supplierTakes_165 rfl ?_
                    rw [eu19] at hV
                    exact er_vret hx hb hr hlocks hV hS dL_supplierTakes_208 (Eq.symm (by unfold z_L_supplierTakes_pn; simp only [if_neg h1, if_neg h5, if_neg h6, if_neg h7, if_neg h8, if_neg h12, if_neg h16, if_pos h17, if_neg h18]))
                  · refine lv_iconst (v := 1) hx hb dL_supplierTakes_156 (by decide) ?_
                    refine lv_goto (tgt := 161) hx hb dL_supplierTakes_157 rfl ?_
                    refine lv_iconst (v := 5) hx hb dL_supplierTakes_161 (by decide) ?_
                    refine er_callv (va_runV (As := [.int 1, .int 5]) (rest := []) ⟨hx, hb, hml, hown, hts⟩ (c_Deal_turn l D T X L tg _ A d dl hdl 1 5 e17_0) (cwV 2 hts gL_353 rfl rfl rfl (by decide +kernel) ⟨Nat.le_of_ble_eq_true rfl, Nat.le_of_ble_eq_true rfl⟩) (ec_preV hK hN hV hdl (cC_4 _ _ _ _) rfl) rfl rfl hl.1 rfl (lv_room (Nat.le_of_ble_eq_true rfl)) dL_supplierTakes_162 ⟨Nat.le_of_ble_eq_true rfl, Nat.le_of_ble_eq_true rfl⟩) hV hS hA (fun u20 H locs eu20 hV hS => ?_)
                    have eu20 : u20 = z_Deal_turn A d 1 5 := eu20
                    refine lv_goto (tgt := 208) hx hb dL_supplierTakes_165 rfl ?_
                    rw [eu20] at hV
                    exact er_vret hx hb hr hlocks hV hS dL_supplierTakes_208 (Eq.symm (by unfold z_L_supplierTakes_pn; simp only [if_neg h1, if_neg h5, if_neg h6, if_neg h7, if_neg h8, if_neg h12, if_neg h16, if_pos h17, if_pos h18]))
                · by_cases h21 : A 6 t 1 = 9
                  · refine lv_tableIn (tgt := 168) hx hb dL_supplierTakes_12 (by rw [h21]; decide) (by rw [h21]; decide) (by rw [h21]; rfl) rfl ?_
                    refine lv_aload_n hx hb dL_supplierTakes_168 rfl (lv_at hl 2 rfl) ?_
                    refine lv_iload_n hx hb dL_supplierTakes_169 rfl (lv_at hl 0 rfl) ?_
                    refine lv_iconst (v := 5) hx hb dL_supplierTakes_170 (by decide) ?_
                    refine lv_icmp_ne (tgt := 178) hx hb dL_supplierTakes_171 rfl (fun h22 => ?_) (fun h22 => ?_)
                    · refine lv_iconst (v := 0) hx hb dL_supplierTakes_178 (by decide) ?_
                      refine lv_bipush (v := 6) hx hb dL_supplierTakes_179 (by decide) ?_
                      refine er_callv (va_runV (As := [.int 0, .int 6]) (rest := []) ⟨hx, hb, hml, hown, hts⟩ (c_Deal_turn l D T X L tg _ A d dl hdl 0 6 e17_0) (cwV 2 hts gL_353 rfl rfl rfl (by decide +kernel) ⟨Nat.le_of_ble_eq_true rfl, Nat.le_of_ble_eq_true rfl⟩) (ec_preV hK hN hV hdl (cC_4 _ _ _ _) rfl) rfl rfl hl.1 rfl (lv_room (Nat.le_of_ble_eq_true rfl)) dL_supplierTakes_181 ⟨Nat.le_of_ble_eq_true rfl, Nat.le_of_ble_eq_true rfl⟩) hV hS hA (fun u23 H locs eu23 hV hS => ?_)
                      have eu23 : u23 = z_Deal_turn A d 0 6 := eu23
                      refine lv_goto (tgt := 208) hx hb dL_supplierTakes_184 rfl ?_
                      rw [eu23] at hV
                      exact er_vret hx hb hr hlocks hV hS dL_supplierTakes_208 (Eq.symm (by unfold z_L_supplierTakes_pn; simp only [if_neg h1, if_neg h5, if_neg h6, if_neg h7, if_neg h8, if_neg h12, if_neg h16, if_neg h17, if_pos h21, if_neg h22]))
                    · refine lv_iconst (v := 1) hx hb dL_supplierTakes_174 (by decide) ?_
                      refine lv_goto (tgt := 179) hx hb dL_supplierTakes_175 rfl ?_
                      refine lv_bipush (v := 6) hx hb dL_supplierTakes_179 (by decide) ?_
                      refine er_callv (va_runV (As := [.int 1, .int 6]) (rest := []) ⟨hx, hb, hml, hown, hts⟩ (c_Deal_turn l D T X L tg _ A d dl hdl 1 6 e17_0) (cwV 2 hts gL_353 rfl rfl rfl (by decide +kernel) ⟨Nat.le_of_ble_eq_true rfl, Nat.le_of_ble_eq_true rfl⟩) (ec_preV hK hN hV hdl (cC_4 _ _ _ _) rfl) rfl rfl hl.1 rfl (lv_room (Nat.le_of_ble_eq_true rfl)) dL_supplierTakes_181 ⟨Nat.le_of_ble_eq_true rfl, Nat.le_of_ble_eq_true rfl⟩) hV hS hA (fun u24 H locs eu24 hV hS => ?_)
                      have eu24 : u24 = z_Deal_turn A d 1 6 := eu24
                      refine lv_goto (tgt := 208) hx hb dL_supplierTakes_184 rfl ?_
                      rw [eu24] at hV
                      exact er_vret hx hb hr hlocks hV hS dL_supplierTakes_208 (Eq.symm (by unfold z_L_supplierTakes_pn; simp only [if_neg h1, if_neg h5, if_neg h6, if_neg h7, if_neg h8, if_neg h12, if_neg h16, if_neg h17, if_pos h21, if_pos h22]))
                  · by_cases h25 : A 6 t 1 = 10
                    · refine lv_tableIn (tgt := 208) hx hb dL_supplierTakes_12 (by rw [h25]; decide) (by rw [h25]; decide) (by rw [h25]; rfl) rfl ?_
                      exact er_vret hx hb hr hlocks hV hS dL_supplierTakes_208 (Eq.symm (by unfold z_L_supplierTakes_pn; simp only [if_neg h1, if_neg h5, if_neg h6, if_neg h7, if_neg h8, if_neg h12, if_neg h16, if_neg h17, if_neg h21, if_pos h25]))
                    · by_cases h26 : A 6 t 1 = 11
                      · refine lv_tableIn (tgt := 208) hx hb dL_supplierTakes_12 (by rw [h26]; decide) (by rw [h26]; decide) (by rw [h26]; rfl) rfl ?_
                        exact er_vret hx hb hr hlocks hV hS dL_supplierTakes_208 (Eq.symm (by unfold z_L_supplierTakes_pn; simp only [if_neg h1, if_neg h5, if_neg h6, if_neg h7, if_neg h8, if_neg h12, if_neg h16, if_neg h17, if_neg h21, if_neg h25, if_pos h26]))
                      · by_cases h27 : A 6 t 1 = 12
                        · refine lv_tableIn (tgt := 187) hx hb dL_supplierTakes_12 (by rw [h27]; decide) (by rw [h27]; decide) (by rw [h27]; rfl) rfl ?_
                          refine lv_aload_n hx hb dL_supplierTakes_187 rfl (lv_at hl 2 rfl) ?_
                          refine lv_iload_n hx hb dL_supplierTakes_188 rfl (lv_at hl 0 rfl) ?_
                          refine er_calli (va_runS (As := [.int (A 17 d 0)]) (rest := [.ref dl]) ⟨hx, hb, hml, hown, hts⟩ (c_Lender_isOut l D T X L tg _ A (A 17 d 0)) ⟨callB_of 1 hts gL_361.1 rfl rfl rfl (hts _ gL_361.2.2.2) (hts _ gL_361.2.1) (by decide +kernel) ⟨Nat.le_of_ble_eq_true rfl, Nat.le_of_ble_eq_true rfl⟩, hts _ gL_361.2.2.1⟩ (ec_preS hK hN hV) rfl rfl hl.1 rfl (lv_room (Nat.le_of_ble_eq_true rfl)) dL_supplierTakes_189 ⟨Nat.le_of_ble_eq_true rfl, Nat.le_of_ble_eq_true rfl⟩) hV hS hA (fun r u H locs hp hV hS => ?_)
                          obtain ⟨rfl, eu9⟩ := hp
                          rw [eu9] at hV
                          refine lv_bipush (v := 8) hx hb dL_supplierTakes_192 (by decide) ?_
                          refine er_callv (va_runV (As := [.int (z_Lender_isOut (A 17 d 0)), .int 8]) (rest := []) ⟨hx, hb, hml, hown, hts⟩ (c_Deal_turn l D T X L tg _ A d dl hdl (z_Lender_isOut (A 17 d 0)) 8 e17_0) (cwV 2 hts gL_353 rfl rfl rfl (by decide +kernel) ⟨Nat.le_of_ble_eq_true rfl, Nat.le_of_ble_eq_true rfl⟩) (ec_preV hK hN hV hdl (cC_4 _ _ _ _) rfl) rfl rfl hl.1 rfl (lv_room (Nat.le_of_ble_eq_true rfl)) dL_supplierTakes_194 ⟨Nat.le_of_ble_eq_true rfl, Nat.le_of_ble_eq_true rfl⟩) hV hS hA (fun u28 H locs eu28 hV hS => ?_)
                          have eu28 : u28 = z_Deal_turn A d (z_Lender_isOut (A 17 d 0)) 8 := eu28
                          refine lv_goto (tgt := 208) hx hb dL_supplierTakes_197 rfl ?_
                          rw [eu28] at hV
                          exact er_vret hx hb hr hlocks hV hS dL_supplierTakes_208 (Eq.symm (by unfold z_L_supplierTakes_pn; simp only [if_neg h1, if_neg h5, if_neg h6, if_neg h7, if_neg h8, if_neg h12, if_neg h16, if_neg h17, if_neg h21, if_neg h25, if_neg h26, if_pos h27]))
                        · by_cases h29 : A 6 t 1 = 13
                          · refine lv_tableIn (tgt := 208) hx hb dL_supplierTakes_12 (by rw [h29]; decide) (by rw [h29]; decide) (by rw [h29]; rfl) rfl ?_
                            exact er_vret hx hb hr hlocks hV hS dL_supplierTakes_208 (Eq.symm (by unfold z_L_supplierTakes_pn; simp only [if_neg h1, if_neg h5, if_neg h6, if_neg h7, if_neg h8, if_neg h12, if_neg h16, if_neg h17, if_neg h21, if_neg h25, if_neg h26, if_neg h27, if_pos h29]))
                          · by_cases h30 : A 6 t 1 = 14
                            · refine lv_tableIn (tgt := 200) hx hb dL_supplierTakes_12 (by rw [h30]; decide) (by rw [h30]; decide) (by rw [h30]; rfl) rfl ?_
                              refine lv_aload_n hx hb dL_supplierTakes_200 rfl (lv_at hl 1 rfl) ?_
                              refine lv_aload_n hx hb dL_supplierTakes_201 rfl (lv_at hl 2 rfl) ?_
                              refine er_callv (va_runV (As := [.ref dl]) (rest := []) ⟨hx, hb, hml, hown, hts⟩ (c_L_supplierHearsOfLoss_n l D T X L tg _ A d th hth dl hdl e17_0 hout) (cwV 1 hts gL_364 rfl rfl rfl (by decide +kernel) ⟨Nat.le_of_ble_eq_true rfl, Nat.le_of_ble_eq_true rfl⟩) (ec_preV hK hN hV hth (cC_0 _ _ _ _) rfl) rfl rfl hl.1 rfl (lv_room (Nat.le_of_ble_eq_true rfl)) dL_supplierTakes_202 ⟨Nat.le_of_ble_eq_true rfl, Nat.le_of_ble_eq_true rfl⟩) hV hS hA (fun u31 H locs eu31 hV hS => ?_)
                              have eu31 : u31 = z_L_supplierHearsOfLoss_n A d := eu31
                              refine lv_goto (tgt := 208) hx hb dL_supplierTakes_205 rfl ?_
                              rw [eu31] at hV
                              exact er_vret hx hb hr hlocks hV hS dL_supplierTakes_208 (Eq.symm (by unfold z_L_supplierTakes_pn; simp only [if_neg h1, if_neg h5, if_neg h6, if_neg h7, if_neg h8, if_neg h12, if_neg h16, if_neg h17, if_neg h21, if_neg h25, if_neg h26, if_neg h27, if_neg h29, if_pos h30]))
                            · refine lv_tableOut (tgt := 208) hx hb dL_supplierTakes_12 (by have a0 := lv_neT (a := 1) h1 (by decide); have a1 := lv_neT (a := 2) h5 (by decide); have a2 := lv_neT (a := 3) h6 (by decide); have a3 := lv_neT (a := 4) h7 (by decide); have a4 := lv_neT (a := 5) h8 (by decide); have a5 := lv_neT (a := 6) h12 (by decide); have a6 := lv_neT (a := 7) h16 (by decide); have a7 := lv_neT (a := 8) h17 (by decide); have a8 := lv_neT (a := 9) h21 (by decide); have a9 := lv_neT (a := 10) h25 (by decide); have a10 := lv_neT (a := 11) h26 (by decide); have a11 := lv_neT (a := 12) h27 (by decide); have a12 := lv_neT (a := 13) h29 (by decide); have a13 := lv_neT (a := 14) h30 (by decide); have a14 := lv_neT (a := 15) hk15 (by decide); omega) rfl ?_
                              exact er_vret hx hb hr hlocks hV hS dL_supplierTakes_208 (Eq.symm (by unfold z_L_supplierTakes_pn; simp only [if_neg h1, if_neg h5, if_neg h6, if_neg h7, if_neg h8, if_neg h12, if_neg h16, if_neg h17, if_neg h21, if_neg h25, if_neg h26, if_neg h27, if_neg h29, if_neg h30]))

def z_L_supplierTakes_pc (A : ew_R) (d : Nat) (t : Nat) (cp : Nat) (b : Nat) : ew_R :=
  if A 6 t 1 = 1 then
    if A 17 d 0 = 0 then
      (z_Deal_turn A d 1 1)
    else
      (z_Deal_turn A d 0 1)
  else
    if A 6 t 1 = 2 then
      A
    else
      if A 6 t 1 = 3 then
        A
      else
        if A 6 t 1 = 4 then
          A
        else
          if A 6 t 1 = 5 then
            if A 17 d 0 = 2 then
              (z_Deal_turn A d 1 1)
            else
              (z_Deal_turn A d 0 1)
          else
            if A 6 t 1 = 6 then
              if A 17 d 0 = 2 then
                (z_Deal_turn A d 1 10)
              else
                (z_Deal_turn A d 0 10)
            else
              if A 6 t 1 = 7 then
                A
              else
                if A 6 t 1 = 8 then
                  if A 17 d 0 = 4 then
                    (z_Deal_turn A d 1 5)
                  else
                    (z_Deal_turn A d 0 5)
                else
                  if A 6 t 1 = 9 then
                    if A 17 d 0 = 5 then
                      (z_Deal_turn A d 1 6)
                    else
                      (z_Deal_turn A d 0 6)
                  else
                    if A 6 t 1 = 10 then
                      A
                    else
                      if A 6 t 1 = 11 then
                        A
                      else
                        if A 6 t 1 = 12 then
                          (z_Deal_turn A d (z_Lender_isOut (A 17 d 0)) 8)
                        else
                          if A 6 t 1 = 13 then
                            A
                          else
                            if A 6 t 1 = 14 then
                              (z_L_supplierHearsOfLoss_c A d cp b)
                            else
                              A
set_option maxHeartbeats 4000000 in
set_option maxRecDepth 100000 in
theorem c_L_supplierTakes_pc (l : Launch) (D : va_G) (T : Nat → ClassId) (X : Nat → Nat → Nat) (L : List Nat) (tg : Nat → Nat × Nat) (sz : Nat) (A : ew_R) (d : Nat) (t : Nat) (th : Nat) (hth : ew_in X L tg 0 0 th) (dl : Nat) (hdl : ew_in X L tg 4 d dl) (lt : Nat) (hlt : ew_in X L tg 6 t lt) (cp : Nat) (b : Nat) (e17_0 : ew_in X L tg 17 d (X 17 d)) (e1_1 : ew_in X L tg 1 cp (X 1 cp)) (e11_2 : ew_in X L tg 11 0 (X 11 0)) (hcp : cp < 32) (q4 : A 4 d 4 = nI cp) (hb6 : b < 6) (q0 : A 4 d 0 = nI b) (hk15 : ¬ A 6 t 1 = 15) : Met l yL_supplierTakes wsL_supplierTakes ({ frames := 11, cells := 0, slots := 0, locals := 249 }) (ec_Pc D vwCl (tysA T) (cfC T) X L tg A sz [.ref th, .ref dl, .ref lt]) (er_Qv D vwCl (cfC T) X L tg sz (fun u => u = z_L_supplierTakes_pc A d t cp b)) 0 0 (ew_A L sz) := by
  refine ec_met (by decide) rfl (Nat.le_of_ble_eq_true rfl) ?_
  intro p e s m below meth c ls hx hb hr hts hown hlocks hml hV hK hN hS hA hl hsz
  subst hsz
  have hl : lv_has ls 4 [(0, .ref th), (1, .ref dl), (2, .ref lt)] := hl
  refine lv_aload_n hx hb dL_supplierTakes_0 rfl (lv_at hl 1 rfl) ?_
  refine ew_get (v := .ref (X 17 d)) hx hb hts hown hK hV fL_128 hdl (cC_4 _ _ _ _) rfl dL_supplierTakes_1 ?_
  refine ew_get (v := .int (A 17 d 0)) hx hb hts hown hK hV fL_111 e17_0 (cC_17 _ _ _ _) rfl dL_supplierTakes_4 ?_
  refine lv_istore_n (lv' := [(3, .int (A 17 d 0)), (0, .ref th), (1, .ref dl), (2, .ref lt)]) hx hb dL_supplierTakes_7 rfl hl (by decide) rfl (fun ls hl => ?_)
  refine lv_aload_n hx hb dL_supplierTakes_8 rfl (lv_at hl 3 rfl) ?_
  refine ew_get (v := .int (A 6 t 1)) hx hb hts hown hK hV fL_350 hlt (cC_6 _ _ _ _) rfl dL_supplierTakes_9 ?_
  by_cases h1 : A 6 t 1 = 1
  · refine lv_tableIn (tgt := 88) hx hb dL_supplierTakes_12 (by rw [h1]; decide) (by rw [h1]; decide) (by rw [h1]; rfl) rfl ?_
    refine lv_aload_n hx hb dL_supplierTakes_88 rfl (lv_at hl 2 rfl) ?_
    refine lv_iload_n hx hb dL_supplierTakes_89 rfl (lv_at hl 0 rfl) ?_
    refine lv_if_ne (tgt := 97) hx hb dL_supplierTakes_90 rfl (fun h2 => ?_) (fun h2 => ?_)
    · refine lv_iconst (v := 0) hx hb dL_supplierTakes_97 (by decide) ?_
      refine lv_iconst (v := 1) hx hb dL_supplierTakes_98 (by decide) ?_
      refine er_callv (va_runV (As := [.int 0, .int 1]) (rest := []) ⟨hx, hb, hml, hown, hts⟩ (c_Deal_turn l D T X L tg _ A d dl hdl 0 1 e17_0) (cwV 2 hts gL_353 rfl rfl rfl (by decide +kernel) ⟨Nat.le_of_ble_eq_true rfl, Nat.le_of_ble_eq_true rfl⟩) (ec_preV hK hN hV hdl (cC_4 _ _ _ _) rfl) rfl rfl hl.1 rfl (lv_room (Nat.le_of_ble_eq_true rfl)) dL_supplierTakes_99 ⟨Nat.le_of_ble_eq_true rfl, Nat.le_of_ble_eq_true rfl⟩) hV hS hA (fun u3 H locs eu3 hV hS => ?_)
      have eu3 : u3 = z_Deal_turn A d 0 1 := eu3
      refine lv_goto (tgt := 208) hx hb dL_supplierTakes_102 rfl ?_
      rw [eu3] at hV
      exact er_vret hx hb hr hlocks hV hS dL_supplierTakes_208 (Eq.symm (by unfold z_L_supplierTakes_pc; simp only [if_pos h1, if_neg h2]))
    · refine lv_iconst (v := 1) hx hb dL_supplierTakes_93 (by decide) ?_
      refine lv_goto (tgt := 98) hx hb dL_supplierTakes_94 rfl ?_
      refine lv_iconst (v := 1) hx hb dL_supplierTakes_98 (by decide) ?_
      refine er_callv (va_runV (As := [.int 1, .int 1]) (rest := []) ⟨hx, hb, hml, hown, hts⟩ (c_Deal_turn l D T X L tg _ A d dl hdl 1 1 e17_0) (cwV 2 hts gL_353 rfl rfl rfl (by decide +kernel) ⟨Nat.le_of_ble_eq_true rfl, Nat.le_of_ble_eq_true rfl⟩) (ec_preV hK hN hV hdl (cC_4 _ _ _ _) rfl) rfl rfl hl.1 rfl (lv_room (Nat.le_of_ble_eq_true rfl)) dL_supplierTakes_99 ⟨Nat.le_of_ble_eq_true rfl, Nat.le_of_ble_eq_true rfl⟩) hV hS hA (fun u4 H locs eu4 hV hS => ?_)
      have eu4 : u4 = z_Deal_turn A d 1 1 := eu4
      refine lv_goto (tgt := 208) hx hb dL_supplierTakes_102 rfl ?_
      rw [eu4] at hV
      exact er_vret hx hb hr hlocks hV hS dL_supplierTakes_208 (Eq.symm (by unfold z_L_supplierTakes_pc; simp only [if_pos h1, if_pos h2]))
  · by_cases h5 : A 6 t 1 = 2
    · refine lv_tableIn (tgt := 208) hx hb dL_supplierTakes_12 (by rw [h5]; decide) (by rw [h5]; decide) (by rw [h5]; rfl) rfl ?_
      exact er_vret hx hb hr hlocks hV hS dL_supplierTakes_208 (Eq.symm (by unfold z_L_supplierTakes_pc; simp only [if_neg h1, if_pos h5]))
    · by_cases h6 : A 6 t 1 = 3
      · refine lv_tableIn (tgt := 208) hx hb dL_supplierTakes_12 (by rw [h6]; decide) (by rw [h6]; decide) (by rw [h6]; rfl) rfl ?_
        exact er_vret hx hb hr hlocks hV hS dL_supplierTakes_208 (Eq.symm (by unfold z_L_supplierTakes_pc; simp only [if_neg h1, if_neg h5, if_pos h6]))
      · by_cases h7 : A 6 t 1 = 4
        · refine lv_tableIn (tgt := 208) hx hb dL_supplierTakes_12 (by rw [h7]; decide) (by rw [h7]; decide) (by rw [h7]; rfl) rfl ?_
          exact er_vret hx hb hr hlocks hV hS dL_supplierTakes_208 (Eq.symm (by unfold z_L_supplierTakes_pc; simp only [if_neg h1, if_neg h5, if_neg h6, if_pos h7]))
        · by_cases h8 : A 6 t 1 = 5
          · refine lv_tableIn (tgt := 105) hx hb dL_supplierTakes_12 (by rw [h8]; decide) (by rw [h8]; decide) (by rw [h8]; rfl) rfl ?_
            refine lv_aload_n hx hb dL_supplierTakes_105 rfl (lv_at hl 2 rfl) ?_
            refine lv_iload_n hx hb dL_supplierTakes_106 rfl (lv_at hl 0 rfl) ?_
            refine lv_iconst (v := 2) hx hb dL_supplierTakes_107 (by decide) ?_
            refine lv_icmp_ne (tgt := 115) hx hb dL_supplierTakes_108 rfl (fun h9 => ?_) (fun h9 => ?_)
            · refine lv_iconst (v := 0) hx hb dL_supplierTakes_115 (by decide) ?_
              refine lv_iconst (v := 1) hx hb dL_supplierTakes_116 (by decide) ?_
              refine er_callv (va_runV (As := [.int 0, .int 1]) (rest := []) ⟨hx, hb, hml, hown, hts⟩ (c_Deal_turn l D T X L tg _ A d dl hdl 0 1 e17_0) (cwV 2 hts gL_353 rfl rfl rfl (by decide +kernel) ⟨Nat.le_of_ble_eq_true rfl, Nat.le_of_ble_eq_true rfl⟩) (ec_preV hK hN hV hdl (cC_4 _ _ _ _) rfl) rfl rfl hl.1 rfl (lv_room (Nat.le_of_ble_eq_true rfl)) dL_supplierTakes_117 ⟨Nat.le_of_ble_eq_true rfl, Nat.le_of_ble_eq_true rfl⟩) hV hS hA (fun u10 H locs eu10 hV hS => ?_)
              have eu10 : u10 = z_Deal_turn A d 0 1 := eu10
              refine lv_goto (tgt := 208) hx hb dL_supplierTakes_120 rfl ?_
              rw [eu10] at hV
              exact er_vret hx hb hr hlocks hV hS dL_supplierTakes_208 (Eq.symm (by unfold z_L_supplierTakes_pc; simp only [if_neg h1, if_neg h5, if_neg h6, if_neg h7, if_pos h8, if_neg h9]))
            · refine lv_iconst (v := 1) hx hb dL_supplierTakes_111 (by decide) ?_
              refine lv_goto (tgt := 116) hx hb dL_supplierTakes_112 rfl ?_
              refine lv_iconst (v := 1) hx hb dL_supplierTakes_116 (by decide) ?_
              refine er_callv (va_runV (As := [.int 1, .int 1]) (rest := []) ⟨hx, hb, hml, hown, hts⟩ (c_Deal_turn l D T X L tg _ A d dl hdl 1 1 e17_0) (cwV 2 hts gL_353 rfl rfl rfl (by decide +kernel) ⟨Nat.le_of_ble_eq_true rfl, Nat.le_of_ble_eq_true rfl⟩) (ec_preV hK hN hV hdl (cC_4 _ _ _ _) rfl) rfl rfl hl.1 rfl (lv_room (Nat.le_of_ble_eq_true rfl)) dL_supplierTakes_117 ⟨Nat.le_of_ble_eq_true rfl, Nat.le_of_ble_eq_true rfl⟩) hV hS hA (fun u11 H locs eu11 hV hS => ?_)
              have eu11 : u11 = z_Deal_turn A d 1 1 := eu11
              refine lv_goto (tgt := 208) hx hb dL_supplierTakes_120 rfl ?_
              rw [eu11] at hV
              exact er_vret hx hb hr hlocks hV hS dL_supplierTakes_208 (Eq.symm (by unfold z_L_supplierTakes_pc; simp only [if_neg h1, if_neg h5, if_neg h6, if_neg h7, if_pos h8, if_pos h9]))
          · by_cases h12 : A 6 t 1 = 6
            · refine lv_tableIn (tgt := 123) hx hb dL_supplierTakes_12 (by rw [h12]; decide) (by rw [h12]; decide) (by rw [h12]; rfl) rfl ?_
              refine lv_aload_n hx hb dL_supplierTakes_123 rfl (lv_at hl 2 rfl) ?_
              refine lv_iload_n hx hb dL_supplierTakes_124 rfl (lv_at hl 0 rfl) ?_
              refine lv_iconst (v := 2) hx hb dL_supplierTakes_125 (by decide) ?_
              refine lv_icmp_ne (tgt := 133) hx hb dL_supplierTakes_126 rfl (fun h13 => ?_) (fun h13 => ?_)
              · refine lv_iconst (v := 0) hx hb dL_supplierTakes_133 (by decide) ?_
                refine lv_bipush (v := 10) hx hb dL_supplierTakes_134 (by decide) ?_
                refine er_callv (va_runV (As := [.int 0, .int 10]) (rest := []) ⟨hx, hb, hml, hown, hts⟩ (c_Deal_turn l D T X L tg _ A d dl hdl 0 10 e17_0) (cwV 2 hts gL_353 rfl rfl rfl (by decide +kernel) ⟨Nat.le_of_ble_eq_true rfl, Nat.le_of_ble_eq_true rfl⟩) (ec_preV hK hN hV hdl (cC_4 _ _ _ _) rfl) rfl rfl hl.1 rfl (lv_room (Nat.le_of_ble_eq_true rfl)) dL_supplierTakes_136 ⟨Nat.le_of_ble_eq_true rfl, Nat.le_of_ble_eq_true rfl⟩) hV hS hA (fun u14 H locs eu14 hV hS => ?_)
                have eu14 : u14 = z_Deal_turn A d 0 10 := eu14
                refine lv_goto (tgt := 208) hx hb dL_supplierTakes_139 rfl ?_
                rw [eu14] at hV
                exact er_vret hx hb hr hlocks hV hS dL_supplierTakes_208 (Eq.symm (by unfold z_L_supplierTakes_pc; simp only [if_neg h1, if_neg h5, if_neg h6, if_neg h7, if_neg h8, if_pos h12, if_neg h13]))
              · refine lv_iconst (v := 1) hx hb dL_supplierTakes_129 (by decide) ?_
                refine lv_goto (tgt := 134) hx hb dL_supplierTakes_130 rfl ?_
                refine lv_bipush (v := 10) hx hb dL_supplierTakes_134 (by decide) ?_
                refine er_callv (va_runV (As := [.int 1, .int 10]) (rest := []) ⟨hx, hb, hml, hown, hts⟩ (c_Deal_turn l D T X L tg _ A d dl hdl 1 10 e17_0) (cwV 2 hts gL_353 rfl rfl rfl (by decide +kernel) ⟨Nat.le_of_ble_eq_true rfl, Nat.le_of_ble_eq_true rfl⟩) (ec_preV hK hN hV hdl (cC_4 _ _ _ _) rfl) rfl rfl hl.1 rfl (lv_room (Nat.le_of_ble_eq_true rfl)) dL_supplierTakes_136 ⟨Nat.le_of_ble_eq_true rfl, Nat.le_of_ble_eq_true rfl⟩) hV hS hA (fun u15 H locs eu15 hV hS => ?_)
                have eu15 : u15 = z_Deal_turn A d 1 10 := eu15
                refine lv_goto (tgt := 208) hx hb dL_supplierTakes_139 rfl ?_
                rw [eu15] at hV
                exact er_vret hx hb hr hlocks hV hS dL_supplierTakes_208 (Eq.symm (by unfold z_L_supplierTakes_pc; simp only [if_neg h1, if_neg h5, if_neg h6, if_neg h7, if_neg h8, if_pos h12, if_pos h13]))
            · by_cases h16 : A 6 t 1 = 7
              · refine lv_tableIn (tgt := 208) hx hb dL_supplierTakes_12 (by rw [h16]; decide) (by rw [h16]; decide) (by rw [h16]; rfl) rfl ?_
                exact er_vret hx hb hr hlocks hV hS dL_supplierTakes_208 (Eq.symm (by unfold z_L_supplierTakes_pc; simp only [if_neg h1, if_neg h5, if_neg h6, if_neg h7, if_neg h8, if_neg h12, if_pos h16]))
              · by_cases h17 : A 6 t 1 = 8
                · refine lv_tableIn (tgt := 150) hx hb dL_supplierTakes_12 (by rw [h17]; decide) (by rw [h17]; decide) (by rw [h17]; rfl) rfl ?_
                  refine lv_aload_n hx hb dL_supplierTakes_150 rfl (lv_at hl 2 rfl) ?_
                  refine lv_iload_n hx hb dL_supplierTakes_151 rfl (lv_at hl 0 rfl) ?_
                  refine lv_iconst (v := 4) hx hb dL_supplierTakes_152 (by decide) ?_
                  refine lv_icmp_ne (tgt := 160) hx hb dL_supplierTakes_153 rfl (fun h18 => ?_) (fun h18 => ?_)
                  · refine lv_iconst (v := 0) hx hb dL_supplierTakes_160 (by decide) ?_
                    refine lv_iconst (v := 5) hx hb dL_supplierTakes_161 (by decide) ?_
                    refine er_callv (va_runV (As := [.int 0, .int 5]) (rest := []) ⟨hx, hb, hml, hown, hts⟩ (c_Deal_turn l D T X L tg _ A d dl hdl 0 5 e17_0) (cwV 2 hts gL_353 rfl rfl rfl (by decide +kernel) ⟨Nat.le_of_ble_eq_true rfl, Nat.le_of_ble_eq_true rfl⟩) (ec_preV hK hN hV hdl (cC_4 _ _ _ _) rfl) rfl rfl hl.1 rfl (lv_room (Nat.le_of_ble_eq_true rfl)) dL_supplierTakes_162 ⟨Nat.le_of_ble_eq_true rfl, Nat.le_of_ble_eq_true rfl⟩) hV hS hA (fun u19 H locs eu19 hV hS => ?_)
                    have eu19 : u19 = z_Deal_turn A d 0 5 := eu19
                    refine lv_goto (tgt := 208) hx hb dL_supplierTakes_165 rfl ?_
                    rw [eu19] at hV
                    exact er_vret hx hb hr hlocks hV hS dL_supplierTakes_208 (Eq.symm (by unfold z_L_supplierTakes_pc; simp only [if_neg h1, if_neg h5, if_neg h6, if_neg h7, if_neg h8, if_neg h12, if_neg h16, if_pos h17, if_neg h18]))
                  · refine lv_iconst (v := 1) hx hb dL_supplierTakes_156 (by decide) ?_
                    refine lv_goto (tgt := 161) hx hb dL_supplierTakes_157 rfl ?_
                    refine lv_iconst (v := 5) hx hb dL_supplierTakes_161 (by decide) ?_
                    refine er_callv (va_runV (As := [.int 1, .int 5]) (rest := []) ⟨hx, hb, hml, hown, hts⟩ (c_Deal_turn l D T X L tg _ A d dl hdl 1 5 e17_0) (cwV 2 hts gL_353 rfl rfl rfl (by decide +kernel) ⟨Nat.le_of_ble_eq_true rfl, Nat.le_of_ble_eq_true rfl⟩) (ec_preV hK hN hV hdl (cC_4 _ _ _ _) rfl) rfl rfl hl.1 rfl (lv_room (Nat.le_of_ble_eq_true rfl)) dL_supplierTakes_162 ⟨Nat.le_of_ble_eq_true rfl, Nat.le_of_ble_eq_true rfl⟩) hV hS hA (fun u20 H locs eu20 hV hS => ?_)
                    have eu20 : u20 = z_Deal_turn A d 1 5 := eu20
                    refine lv_goto (tgt := 208) hx hb dL_supplierTakes_165 rfl ?_
                    rw [eu20] at hV
                    exact er_vret hx hb hr hlocks hV hS dL_supplierTakes_208 (Eq.symm (by unfold z_L_supplierTakes_pc; simp only [if_neg h1, if_neg h5, if_neg h6, if_neg h7, if_neg h8, if_neg h12, if_neg h16, if_pos h17, if_pos h18]))
                · by_cases h21 : A 6 t 1 = 9
                  · refine lv_tableIn (tgt := 168) hx hb dL_supplierTakes_12 (by rw [h21]; decide) (by rw [h21]; decide) (by rw [h21]; rfl) rfl ?_
                    refine lv_aload_n hx hb dL_supplierTakes_168 rfl (lv_at hl 2 rfl) ?_
                    refine lv_iload_n hx hb dL_supplierTakes_169 rfl (lv_at hl 0 rfl) ?_
                    refine lv_iconst (v := 5) hx hb dL_supplierTakes_170 (by decide) ?_
                    refine lv_icmp_ne (tgt := 178) hx hb dL_supplierTakes_171 rfl (fun h22 => ?_) (fun h22 => ?_)
                    · refine lv_iconst (v := 0) hx hb dL_supplierTakes_178 (by decide) ?_
                      refine lv_bipush (v := 6) hx hb dL_supplierTakes_179 (by decide) ?_
                      refine er_callv (va_runV (As := [.int 0, .int 6]) (rest := []) ⟨hx, hb, hml, hown, hts⟩ (c_Deal_turn l D T X L tg _ A d dl hdl 0 6 e17_0) (cwV 2 hts gL_353 rfl rfl rfl (by decide +kernel) ⟨Nat.le_of_ble_eq_true rfl, Nat.le_of_ble_eq_true rfl⟩) (ec_preV hK hN hV hdl (cC_4 _ _ _ _) rfl) rfl rfl hl.1 rfl (lv_room (Nat.le_of_ble_eq_true rfl)) dL_supplierTakes_181 ⟨Nat.le_of_ble_eq_true rfl, Nat.le_of_ble_eq_true rfl⟩) hV hS hA (fun u23 H locs eu23 hV hS => ?_)
                      have eu23 : u23 = z_Deal_turn A d 0 6 := eu23
                      refine lv_goto (tgt := 208) hx hb dL_supplierTakes_184 rfl ?_
                      rw [eu23] at hV
                      exact er_vret hx hb hr hlocks hV hS dL_supplierTakes_208 (Eq.symm (by unfold z_L_supplierTakes_pc; simp only [if_neg h1, if_neg h5, if_neg h6, if_neg h7, if_neg h8, if_neg h12, if_neg h16, if_neg h17, if_pos h21, if_neg h22]))
                    · refine lv_iconst (v := 1) hx hb dL_supplierTakes_174 (by decide) ?_
                      refine lv_goto (tgt := 179) hx hb dL_supplierTakes_175 rfl ?_
                      refine lv_bipush (v := 6) hx hb dL_supplierTakes_179 (by decide) ?_
                      refine er_callv (va_runV (As := [.int 1, .int 6]) (rest := []) ⟨hx, hb, hml, hown, hts⟩ (c_Deal_turn l D T X L tg _ A d dl hdl 1 6 e17_0) (cwV 2 hts gL_353 rfl rfl rfl (by decide +kernel) ⟨Nat.le_of_ble_eq_true rfl, Nat.le_of_ble_eq_true rfl⟩) (ec_preV hK hN hV hdl (cC_4 _ _ _ _) rfl) rfl rfl hl.1 rfl (lv_room (Nat.le_of_ble_eq_true rfl)) dL_supplierTakes_181 ⟨Nat.le_of_ble_eq_true rfl, Nat.le_of_ble_eq_true rfl⟩) hV hS hA (fun u24 H locs eu24 hV hS => ?_)
                      have eu24 : u24 = z_Deal_turn A d 1 6 := eu24
                      refine lv_goto (tgt := 208) hx hb dL_supplierTakes_184 rfl ?_
                      rw [eu24] at hV
                      exact er_vret hx hb hr hlocks hV hS dL_supplierTakes_208 (Eq.symm (by unfold z_L_supplierTakes_pc; simp only [if_neg h1, if_neg h5, if_neg h6, if_neg h7, if_neg h8, if_neg h12, if_neg h16, if_neg h17, if_pos h21, if_pos h22]))
                  · by_cases h25 : A 6 t 1 = 10
                    · refine lv_tableIn (tgt := 208) hx hb dL_supplierTakes_12 (by rw [h25]; decide) (by rw [h25]; decide) (by rw [h25]; rfl) rfl ?_
                      exact er_vret hx hb hr hlocks hV hS dL_supplierTakes_208 (Eq.symm (by unfold z_L_supplierTakes_pc; simp only [if_neg h1, if_neg h5, if_neg h6, if_neg h7, if_neg h8, if_neg h12, if_neg h16, if_neg h17, if_neg h21, if_pos h25]))
                    · by_cases h26 : A 6 t 1 = 11
                      · refine lv_tableIn (tgt := 208) hx hb dL_supplierTakes_12 (by rw [h26]; decide) (by rw [h26]; decide) (by rw [h26]; rfl) rfl ?_
                        exact er_vret hx hb hr hlocks hV hS dL_supplierTakes_208 (Eq.symm (by unfold z_L_supplierTakes_pc; simp only [if_neg h1, if_neg h5, if_neg h6, if_neg h7, if_neg h8, if_neg h12, if_neg h16, if_neg h17, if_neg h21, if_neg h25, if_pos h26]))
                      · by_cases h27 : A 6 t 1 = 12
                        · refine lv_tableIn (tgt := 187) hx hb dL_supplierTakes_12 (by rw [h27]; decide) (by rw [h27]; decide) (by rw [h27]; rfl) rfl ?_
                          refine lv_aload_n hx hb dL_supplierTakes_187 rfl (lv_at hl 2 rfl) ?_
                          refine lv_iload_n hx hb dL_supplierTakes_188 rfl (lv_at hl 0 rfl) ?_
                          refine er_calli (va_runS (As := [.int (A 17 d 0)]) (rest := [.ref dl]) ⟨hx, hb, hml, hown, hts⟩ (c_Lender_isOut l D T X L tg _ A (A 17 d 0)) ⟨callB_of 1 hts gL_361.1 rfl rfl rfl (hts _ gL_361.2.2.2) (hts _ gL_361.2.1) (by decide +kernel) ⟨Nat.le_of_ble_eq_true rfl, Nat.le_of_ble_eq_true rfl⟩, hts _ gL_361.2.2.1⟩ (ec_preS hK hN hV) rfl rfl hl.1 rfl (lv_room (Nat.le_of_ble_eq_true rfl)) dL_supplierTakes_189 ⟨Nat.le_of_ble_eq_true rfl, Nat.le_of_ble_eq_true rfl⟩) hV hS hA (fun r u H locs hp hV hS => ?_)
                          obtain ⟨rfl, eu9⟩ := hp
                          rw [eu9] at hV
                          refine lv_bipush (v := 8) hx hb dL_supplierTakes_192 (by decide) ?_
                          refine er_callv (va_runV (As := [.int (z_Lender_isOut (A 17 d 0)), .int 8]) (rest := []) ⟨hx, hb, hml, hown, hts⟩ (c_Deal_turn l D T X L tg _ A d dl hdl (z_Lender_isOut (A 17 d 0)) 8 e17_0) (cwV 2 hts gL_353 rfl rfl rfl (by decide +kernel) ⟨Nat.le_of_ble_eq_true rfl, Nat.le_of_ble_eq_true rfl⟩) (ec_preV hK hN hV hdl (cC_4 _ _ _ _) rfl) rfl rfl hl.1 rfl (lv_room (Nat.le_of_ble_eq_true rfl)) dL_supplierTakes_194 ⟨Nat.le_of_ble_eq_true rfl, Nat.le_of_ble_eq_true rfl⟩) hV hS hA (fun u28 H locs eu28 hV hS => ?_)
                          have eu28 : u28 = z_Deal_turn A d (z_Lender_isOut (A 17 d 0)) 8 := eu28
                          refine lv_goto (tgt := 208) hx hb dL_supplierTakes_197 rfl ?_
                          rw [eu28] at hV
                          exact er_vret hx hb hr hlocks hV hS dL_supplierTakes_208 (Eq.symm (by unfold z_L_supplierTakes_pc; simp only [if_neg h1, if_neg h5, if_neg h6, if_neg h7, if_neg h8, if_neg h12, if_neg h16, if_neg h17, if_neg h21, if_neg h25, if_neg h26, if_pos h27]))
                        · by_cases h29 : A 6 t 1 = 13
                          · refine lv_tableIn (tgt := 208) hx hb dL_supplierTakes_12 (by rw [h29]; decide) (by rw [h29]; decide) (by rw [h29]; rfl) rfl ?_
                            exact er_vret hx hb hr hlocks hV hS dL_supplierTakes_208 (Eq.symm (by unfold z_L_supplierTakes_pc; simp only [if_neg h1, if_neg h5, if_neg h6, if_neg h7, if_neg h8, if_neg h12, if_neg h16, if_neg h17, if_neg h21, if_neg h25, if_neg h26, if_neg h27, if_pos h29]))
                          · by_cases h30 : A 6 t 1 = 14
                            · refine lv_tableIn (tgt := 200) hx hb dL_supplierTakes_12 (by rw [h30]; decide) (by rw [h30]; decide) (by rw [h30]; rfl) rfl ?_
                              refine lv_aload_n hx hb dL_supplierTakes_200 rfl (lv_at hl 1 rfl) ?_
                              refine lv_aload_n hx hb dL_supplierTakes_201 rfl (lv_at hl 2 rfl) ?_
                              refine er_callv (va_runV (As := [.ref dl]) (rest := []) ⟨hx, hb, hml, hown, hts⟩ (c_L_supplierHearsOfLoss_c l D T X L tg _ A d th hth dl hdl cp b e17_0 e1_1 e11_2 hcp q4 hb6 q0) (cwV 1 hts gL_364 rfl rfl rfl (by decide +kernel) ⟨Nat.le_of_ble_eq_true rfl, Nat.le_of_ble_eq_true rfl⟩) (ec_preV hK hN hV hth (cC_0 _ _ _ _) rfl) rfl rfl hl.1 rfl (lv_room (Nat.le_of_ble_eq_true rfl)) dL_supplierTakes_202 ⟨Nat.le_of_ble_eq_true rfl, Nat.le_of_ble_eq_true rfl⟩) hV hS hA (fun u31 H locs eu31 hV hS => ?_)
                              have eu31 : u31 = z_L_supplierHearsOfLoss_c A d cp b := eu31
                              refine lv_goto (tgt := 208) hx hb dL_supplierTakes_205 rfl ?_
                              rw [eu31] at hV
                              exact er_vret hx hb hr hlocks hV hS dL_supplierTakes_208 (Eq.symm (by unfold z_L_supplierTakes_pc; simp only [if_neg h1, if_neg h5, if_neg h6, if_neg h7, if_neg h8, if_neg h12, if_neg h16, if_neg h17, if_neg h21, if_neg h25, if_neg h26, if_neg h27, if_neg h29, if_pos h30]))
                            · refine lv_tableOut (tgt := 208) hx hb dL_supplierTakes_12 (by have a0 := lv_neT (a := 1) h1 (by decide); have a1 := lv_neT (a := 2) h5 (by decide); have a2 := lv_neT (a := 3) h6 (by decide); have a3 := lv_neT (a := 4) h7 (by decide); have a4 := lv_neT (a := 5) h8 (by decide); have a5 := lv_neT (a := 6) h12 (by decide); have a6 := lv_neT (a := 7) h16 (by decide); have a7 := lv_neT (a := 8) h17 (by decide); have a8 := lv_neT (a := 9) h21 (by decide); have a9 := lv_neT (a := 10) h25 (by decide); have a10 := lv_neT (a := 11) h26 (by decide); have a11 := lv_neT (a := 12) h27 (by decide); have a12 := lv_neT (a := 13) h29 (by decide); have a13 := lv_neT (a := 14) h30 (by decide); have a14 := lv_neT (a := 15) hk15 (by decide); omega) rfl ?_
                              exact er_vret hx hb hr hlocks hV hS dL_supplierTakes_208 (Eq.symm (by unfold z_L_supplierTakes_pc; simp only [if_neg h1, if_neg h5, if_neg h6, if_neg h7, if_neg h8, if_neg h12, if_neg h16, if_neg h17, if_neg h21, if_neg h25, if_neg h26, if_neg h27, if_neg h29, if_neg h30]))

def z_L_supplierTakes_q (A : ew_R) (d : Nat) (t : Nat) : ew_R :=
  (z_L_supplierIsCancelled_y A d)
set_option maxHeartbeats 4000000 in
set_option maxRecDepth 100000 in
theorem c_L_supplierTakes_q (l : Launch) (D : va_G) (T : Nat → ClassId) (X : Nat → Nat → Nat) (L : List Nat) (tg : Nat → Nat × Nat) (sz : Nat) (A : ew_R) (d : Nat) (t : Nat) (th : Nat) (hth : ew_in X L tg 0 0 th) (dl : Nat) (hdl : ew_in X L tg 4 d dl) (lt : Nat) (hlt : ew_in X L tg 6 t lt) (e17_0 : ew_in X L tg 17 d (X 17 d)) (s1 : ¬ A 17 d 0 = 1) (s2 : ¬ A 17 d 0 = 2) (s3 : ¬ A 17 d 0 = 3) (hk15 : A 6 t 1 = 15) : Met l yL_supplierTakes wsL_supplierTakes ({ frames := 11, cells := 0, slots := 0, locals := 249 }) (ec_Pc D vwCl (tysA T) (cfC T) X L tg A sz [.ref th, .ref dl, .ref lt]) (er_Qv D vwCl (cfC T) X L tg sz (fun u => u = z_L_supplierTakes_q A d t)) 0 0 (ew_A L sz) := by
  refine ec_met (by decide) rfl (Nat.le_of_ble_eq_true rfl) ?_
  intro p e s m below meth c ls hx hb hr hts hown hlocks hml hV hK hN hS hA hl hsz
  subst hsz
  have hl : lv_has ls 4 [(0, .ref th), (1, .ref dl), (2, .ref lt)] := hl
  refine lv_aload_n hx hb dL_supplierTakes_0 rfl (lv_at hl 1 rfl) ?_
  refine ew_get (v := .ref (X 17 d)) hx hb hts hown hK hV fL_128 hdl (cC_4 _ _ _ _) rfl dL_supplierTakes_1 ?_
  refine ew_get (v := .int (A 17 d 0)) hx hb hts hown hK hV fL_111 e17_0 (cC_17 _ _ _ _) rfl dL_supplierTakes_4 ?_
  refine lv_istore_n (lv' := [(3, .int (A 17 d 0)), (0, .ref th), (1, .ref dl), (2, .ref lt)]) hx hb dL_supplierTakes_7 rfl hl (by decide) rfl (fun ls hl => ?_)
  refine lv_aload_n hx hb dL_supplierTakes_8 rfl (lv_at hl 3 rfl) ?_
  refine ew_get (v := .int (A 6 t 1)) hx hb hts hown hK hV fL_350 hlt (cC_6 _ _ _ _) rfl dL_supplierTakes_9 ?_
  refine lv_tableIn (tgt := 142) hx hb dL_supplierTakes_12 (by rw [hk15]; decide) (by rw [hk15]; decide) (by rw [hk15]; rfl) rfl ?_
  refine lv_aload_n hx hb dL_supplierTakes_142 rfl (lv_at hl 1 rfl) ?_
  refine lv_aload_n hx hb dL_supplierTakes_143 rfl (lv_at hl 2 rfl) ?_
  refine er_callv (va_runV (As := [.ref dl]) (rest := []) ⟨hx, hb, hml, hown, hts⟩ (c_L_supplierIsCancelled_y l D T X L tg _ A d th hth dl hdl e17_0 s1 s2 s3) (cwV 1 hts gL_357 rfl rfl rfl (by decide +kernel) ⟨Nat.le_of_ble_eq_true rfl, Nat.le_of_ble_eq_true rfl⟩) (ec_preV hK hN hV hth (cC_0 _ _ _ _) rfl) rfl rfl hl.1 rfl (lv_room (Nat.le_of_ble_eq_true rfl)) dL_supplierTakes_144 ⟨Nat.le_of_ble_eq_true rfl, Nat.le_of_ble_eq_true rfl⟩) hV hS hA (fun u1 H locs eu1 hV hS => ?_)
  have eu1 : u1 = z_L_supplierIsCancelled_y A d := eu1
  refine lv_goto (tgt := 208) hx hb dL_supplierTakes_147 rfl ?_
  rw [eu1] at hV
  exact er_vret hx hb hr hlocks hV hS dL_supplierTakes_208 (Eq.symm (by unfold z_L_supplierTakes_q; rfl))
