def s_letGo (A : ew_R) (k : Nat) : ew_R :=
  if A 28 0 k = (-1) then
    up3 A 28 0 k (-1)
  else
    up3 (up3 A 10 0 ((A 28 0 k).toNatClampNeg) (-1)) 28 0 k (-1)
set_option maxHeartbeats 4000000 in
set_option maxRecDepth 100000 in
theorem r_letGo (l : Launch) (D : va_G) (T : Nat → ClassId) (X : Nat → Nat → Nat) (L : List Nat) (tg : Nat → Nat × Nat) (sz : Nat) (hE : eR_E X L tg) (A : ew_R) (k : Nat) (hk : k < 192) (hcp : A 28 0 k = (-1) ∨ vp_in (A 28 0 k) 32) : Met l yM_letGo wsM_letGo ({ frames := 0, cells := 0, slots := 0, locals := 0 }) (er_Pc D vwCl (tysA T) (cfR T) X L tg A sz [.ref (X 0 0), .int (nI k)]) (er_Qv D vwCl (cfR T) X L tg sz (fun u => u = s_letGo A k)) 0 0 (ew_A L sz) := by
  refine er_met (by decide) rfl (Nat.le_of_ble_eq_true rfl) ?_
  intro p e s m below meth c ls hx hb hr hts hown hlocks hml hV hK hS hA hl hsz
  subst hsz
  have hi0 := hE 0 (by decide)
  have hl : lv_has ls 2 [(0, .ref (X 0 0)), (1, .int (nI k))] := hl
  refine lv_aload_n hx hb dM_letGo_0 rfl (lv_at hl 0 rfl) ?_
  refine ew_get (v := .ref (X 28 0)) hx hb hts hown hK hV fM_77 hi0 (cR_0 _ _ _) rfl dM_letGo_1 ?_
  refine lv_iload_n hx hb dM_letGo_4 rfl (lv_at hl 1 rfl) ?_
  refine ew_iald (v := A 28 0 k) hx hb hK hV (hE 28 (by decide)) (cR_28 _ _ _) 0 rfl (vp_in_nI (by omega) (by decide)) (er_ix (by omega) rfl) dM_letGo_5 ?_
  refine lv_iconst (v := (-1)) hx hb dM_letGo_6 (by decide) ?_
  refine lv_icmp_eq (tgt := 22) hx hb dM_letGo_7 rfl (fun h1 => ?_) (fun h1 => ?_)
  · refine lv_aload_n hx hb dM_letGo_22 rfl (lv_at hl 0 rfl) ?_
    refine ew_get (v := .ref (X 28 0)) hx hb hts hown hK hV fM_77 hi0 (cR_0 _ _ _) rfl dM_letGo_23 ?_
    refine lv_iload_n hx hb dM_letGo_26 rfl (lv_at hl 1 rfl) ?_
    refine lv_iconst (v := (-1)) hx hb dM_letGo_27 (by decide) ?_
    refine ew_iast hx hb hK hV hS (hE 28 (by decide)) (cR_28 _ _ _) 0 rfl (vp_in_nI (by omega) (by decide)) k (nI_clamp (by omega)) (qR_28 _ _ _ _ _) dM_letGo_28 (fun H locs hV hS => ?_)
    exact er_vret hx hb hr hlocks hV hS dM_letGo_29 (Eq.symm (by unfold s_letGo; simp only [if_pos h1]))
  · refine lv_aload_n hx hb dM_letGo_10 rfl (lv_at hl 0 rfl) ?_
    refine ew_get (v := .ref (X 10 0)) hx hb hts hown hK hV fM_22 hi0 (cR_0 _ _ _) rfl dM_letGo_11 ?_
    refine lv_aload_n hx hb dM_letGo_14 rfl (lv_at hl 0 rfl) ?_
    refine ew_get (v := .ref (X 28 0)) hx hb hts hown hK hV fM_77 hi0 (cR_0 _ _ _) rfl dM_letGo_15 ?_
    refine lv_iload_n hx hb dM_letGo_18 rfl (lv_at hl 1 rfl) ?_
    refine ew_iald (v := A 28 0 k) hx hb hK hV (hE 28 (by decide)) (cR_28 _ _ _) 0 rfl (vp_in_nI (by omega) (by decide)) (er_ix (by omega) rfl) dM_letGo_19 ?_
    refine lv_iconst (v := (-1)) hx hb dM_letGo_20 (by decide) ?_
    refine ew_iast hx hb hK hV hS (hE 10 (by decide)) (cR_10 _ _ _) 0 rfl (hcp.resolve_left h1) ((A 28 0 k).toNatClampNeg) rfl (qR_10 _ _ _ _ _) dM_letGo_21 (fun H locs hV hS => ?_)
    refine lv_aload_n hx hb dM_letGo_22 rfl (lv_at hl 0 rfl) ?_
    refine ew_get (v := .ref (X 28 0)) hx hb hts hown hK hV fM_77 hi0 (cR_0 _ _ _) rfl dM_letGo_23 ?_
    refine lv_iload_n hx hb dM_letGo_26 rfl (lv_at hl 1 rfl) ?_
    refine lv_iconst (v := (-1)) hx hb dM_letGo_27 (by decide) ?_
    refine ew_iast hx hb hK hV hS (hE 28 (by decide)) (cR_28 _ _ _) 0 rfl (vp_in_nI (by omega) (by decide)) k (nI_clamp (by omega)) (qR_28 _ _ _ _ _) dM_letGo_28 (fun H locs hV hS => ?_)
    exact er_vret hx hb hr hlocks hV hS dM_letGo_29 (Eq.symm (by unfold s_letGo; simp only [if_neg h1]))

theorem s_letGo_lt (A : ew_R) (k : Nat) {c : Nat} (h : c ≠ 10) (h2 : c ≠ 28) (a j : Nat) : s_letGo A k c a j = A c a j := by
  unfold s_letGo
  split
  · rw [up3_ne _ _ (by omega)]
  · rw [up3_ne _ _ (by omega), up3_ne _ _ (by omega)]

def s_takeSupplier (A : ew_R) (ln : Nat) (k : Nat) (what : Int32) (w : Nat) (lg : Nat) : ew_R :=
  if A 23 0 k = 5 then
    if what = 1 then
      A
    else
      if what = 5 then
        A
      else
        if what = 6 then
          A
        else
          if what = 8 then
            A
          else
            if what = 9 then
              up3 A 23 0 k 6
            else
              if what = 12 then
                up3 A 23 0 k 8
              else
                if what = 14 then
                  (s_letGo (up3 (up3 A 23 0 k 12) 6 0 (k - (6 * ln)) ((A 6 0 (k - (6 * ln))) + 4000)) k)
                else
                  if what = 15 then
                    A
                  else
                    A
  else
    if A 23 0 k = 6 then
      if what = 1 then
        A
      else
        if what = 5 then
          A
        else
          if what = 6 then
            A
          else
            if what = 8 then
              A
            else
              if what = 9 then
                A
              else
                if what = 12 then
                  up3 A 23 0 k 8
                else
                  if what = 14 then
                    (s_letGo (up3 (up3 A 23 0 k 12) 6 0 (k - (6 * ln)) ((A 6 0 (k - (6 * ln))) + 4000)) k)
                  else
                    if what = 15 then
                      A
                    else
                      A
    else
      if A 23 0 k = 7 then
        if what = 1 then
          A
        else
          if what = 5 then
            A
          else
            if what = 6 then
              A
            else
              if what = 8 then
                A
              else
                if what = 9 then
                  A
                else
                  if what = 12 then
                    up3 A 23 0 k 8
                  else
                    if what = 14 then
                      (s_letGo (up3 (up3 A 23 0 k 12) 6 0 (k - (6 * ln)) ((A 6 0 (k - (6 * ln))) + 4000)) k)
                    else
                      if what = 15 then
                        A
                      else
                        A
      else
        if what = 1 then
          if A 23 0 k = 0 then
            up3 A 23 0 k 1
          else
            A
        else
          if what = 5 then
            if A 23 0 k = 2 then
              up3 A 23 0 k 1
            else
              A
          else
            if what = 6 then
              if A 23 0 k = 2 then
                up3 A 23 0 k 10
              else
                A
            else
              if what = 8 then
                if A 23 0 k = 4 then
                  up3 A 23 0 k 5
                else
                  A
              else
                if what = 9 then
                  A
                else
                  if what = 12 then
                    A
                  else
                    if what = 14 then
                      A
                    else
                      if what = 15 then
                        if A 23 0 k ≤ 0 then
                          A
                        else
                          if 4 ≤ A 23 0 k then
                            A
                          else
                            (s_write (up3 (s_letGo A k) 23 0 k 11) ((2 * k) + 1) 16 0 w lg)
                      else
                        A
set_option maxHeartbeats 4000000 in
set_option maxRecDepth 100000 in
theorem r_takeSupplier (l : Launch) (D : va_G) (T : Nat → ClassId) (X : Nat → Nat → Nat) (L : List Nat) (tg : Nat → Nat × Nat) (sz : Nat) (hE : eR_E X L tg) (A : ew_R) (ln : Nat) (k : Nat) (what : Int32) (w : Nat) (lg : Nat) (hk : k < 192) (hln : ln < 32) (hlk : 6 * ln ≤ k) (hkl : k < 6 * ln + 6) (hcp : A 28 0 k = (-1) ∨ vp_in (A 28 0 k) 32) (hw : w ≤ 64) (hq : A 0 0 4 = nI w) (hlg : lg < 3000) (hg : A 0 0 5 = nI lg) : Met l yM_takeSupplier wsM_takeSupplier ({ frames := 3, cells := 0, slots := 0, locals := 67 }) (er_Pc D vwCl (tysA T) (cfR T) X L tg A sz [.ref (X 0 0), .int (nI ln), .int (nI k), .int what]) (er_Qv D vwCl (cfR T) X L tg sz (fun u => u = s_takeSupplier A ln k what w lg)) 0 0 (ew_A L sz) := by
  refine er_met (by decide) rfl (Nat.le_of_ble_eq_true rfl) ?_
  intro p e s m below meth c ls hx hb hr hts hown hlocks hml hV hK hS hA hl hsz
  subst hsz
  have hi0 := hE 0 (by decide)
  have hl : lv_has ls 6 [(0, .ref (X 0 0)), (1, .int (nI ln)), (2, .int (nI k)), (3, .int what)] := hl
  refine lv_aload_n hx hb dM_takeSupplier_0 rfl (lv_at hl 0 rfl) ?_
  refine ew_get (v := .ref (X 23 0)) hx hb hts hown hK hV fM_62 hi0 (cR_0 _ _ _) rfl dM_takeSupplier_1 ?_
  refine lv_iload_n hx hb dM_takeSupplier_4 rfl (lv_at hl 2 rfl) ?_
  refine ew_iald (v := A 23 0 k) hx hb hK hV (hE 23 (by decide)) (cR_23 _ _ _) 0 rfl (vp_in_nI (by omega) (by decide)) (er_ix (by omega) rfl) dM_takeSupplier_5 ?_
  refine lv_istore (lv' := [(4, .int (A 23 0 k)), (0, .ref (X 0 0)), (1, .int (nI ln)), (2, .int (nI k)), (3, .int what)]) hx hb dM_takeSupplier_6 hl (by decide) rfl (fun ls hl => ?_)
  refine lv_iload hx hb dM_takeSupplier_8 (lv_at hl 0 rfl) ?_
  refine lv_iconst (v := 5) hx hb dM_takeSupplier_10 (by decide) ?_
  refine lv_icmp_eq (tgt := 28) hx hb dM_takeSupplier_11 rfl (fun h1 => ?_) (fun h1 => ?_)
  · refine lv_iconst (v := 1) hx hb dM_takeSupplier_28 (by decide) ?_
    refine lv_goto (tgt := 33) hx hb dM_takeSupplier_29 rfl ?_
    refine lv_istore (lv' := [(5, .int 1), (4, .int (A 23 0 k)), (0, .ref (X 0 0)), (1, .int (nI ln)), (2, .int (nI k)), (3, .int what)]) hx hb dM_takeSupplier_33 hl (by decide) rfl (fun ls hl => ?_)
    refine lv_iload_n hx hb dM_takeSupplier_35 rfl (lv_at hl 5 rfl) ?_
    refine lv_iconst (v := 1) hx hb dM_takeSupplier_36 (by decide) ?_
    refine lv_icmp_ne (tgt := 45) hx hb dM_takeSupplier_37 rfl (fun h2 => ?_) (fun h2 => ?_)
    · refine lv_iload_n hx hb dM_takeSupplier_45 rfl (lv_at hl 5 rfl) ?_
      refine lv_iconst (v := 5) hx hb dM_takeSupplier_46 (by decide) ?_
      refine lv_icmp_ne (tgt := 63) hx hb dM_takeSupplier_47 rfl (fun h3 => ?_) (fun h3 => ?_)
      · refine lv_iload_n hx hb dM_takeSupplier_63 rfl (lv_at hl 5 rfl) ?_
        refine lv_bipush (v := 6) hx hb dM_takeSupplier_64 (by decide) ?_
        refine lv_icmp_ne (tgt := 83) hx hb dM_takeSupplier_66 rfl (fun h4 => ?_) (fun h4 => ?_)
        · refine lv_iload_n hx hb dM_takeSupplier_83 rfl (lv_at hl 5 rfl) ?_
          refine lv_bipush (v := 8) hx hb dM_takeSupplier_84 (by decide) ?_
          refine lv_icmp_ne (tgt := 102) hx hb dM_takeSupplier_86 rfl (fun h5 => ?_) (fun h5 => ?_)
          · refine lv_iload_n hx hb dM_takeSupplier_102 rfl (lv_at hl 5 rfl) ?_
            refine lv_bipush (v := 9) hx hb dM_takeSupplier_103 (by decide) ?_
            refine lv_icmp_ne (tgt := 122) hx hb dM_takeSupplier_105 rfl (fun h6 => ?_) (fun h6 => ?_)
            · refine lv_iload_n hx hb dM_takeSupplier_122 rfl (lv_at hl 5 rfl) ?_
              refine lv_bipush (v := 12) hx hb dM_takeSupplier_123 (by decide) ?_
              refine lv_icmp_ne (tgt := 141) hx hb dM_takeSupplier_125 rfl (fun h7 => ?_) (fun h7 => ?_)
              · refine lv_iload_n hx hb dM_takeSupplier_141 rfl (lv_at hl 5 rfl) ?_
                refine lv_bipush (v := 14) hx hb dM_takeSupplier_142 (by decide) ?_
                refine lv_icmp_ne (tgt := 182) hx hb dM_takeSupplier_144 rfl (fun h8 => ?_) (fun h8 => ?_)
                · refine lv_iload_n hx hb dM_takeSupplier_182 rfl (lv_at hl 5 rfl) ?_
                  refine lv_bipush (v := 15) hx hb dM_takeSupplier_183 (by decide) ?_
                  refine lv_icmp_ne (tgt := 224) hx hb dM_takeSupplier_185 rfl (fun h9 => ?_) (fun h9 => ?_)
                  · exact er_vret hx hb hr hlocks hV hS dM_takeSupplier_224 (Eq.symm (by unfold s_takeSupplier; simp only [if_pos h1, if_neg h2, if_neg h3, if_neg h4, if_neg h5, if_neg h6, if_neg h7, if_neg h8, if_neg h9]))
                  · refine lv_iload hx hb dM_takeSupplier_188 (lv_at hl 1 rfl) ?_
                    refine lv_if_le (tgt := 224) hx hb dM_takeSupplier_190 rfl (fun h9 => absurd h9 (by rw [h1]; decide)) (fun _ => ?_)
                    refine lv_iload hx hb dM_takeSupplier_193 (lv_at hl 1 rfl) ?_
                    refine lv_iconst (v := 4) hx hb dM_takeSupplier_195 (by decide) ?_
                    refine lv_icmp_ge (tgt := 224) hx hb dM_takeSupplier_196 rfl (fun _ => ?_) (fun h9 => absurd (by rw [h1]; decide) h9)
                    exact er_vret hx hb hr hlocks hV hS dM_takeSupplier_224 (Eq.symm (by unfold s_takeSupplier; simp only [if_pos h1, if_neg h2, if_neg h3, if_neg h4, if_neg h5, if_neg h6, if_neg h7, if_neg h8, if_pos h9]))
                · refine lv_iload hx hb dM_takeSupplier_147 (lv_at hl 0 rfl) ?_
                  refine lv_if_eq (tgt := 182) hx hb dM_takeSupplier_149 rfl (fun h9 => absurd h9 (by decide)) (fun _ => ?_)
                  refine lv_aload_n hx hb dM_takeSupplier_152 rfl (lv_at hl 2 rfl) ?_
                  refine ew_get (v := .ref (X 23 0)) hx hb hts hown hK hV fM_62 hi0 (cR_0 _ _ _) rfl dM_takeSupplier_153 ?_
                  refine lv_iload_n hx hb dM_takeSupplier_156 rfl (lv_at hl 4 rfl) ?_
                  refine lv_bipush (v := 12) hx hb dM_takeSupplier_157 (by decide) ?_
                  refine ew_iast hx hb hK hV hS (hE 23 (by decide)) (cR_23 _ _ _) 0 rfl (vp_in_nI (by omega) (by decide)) k (nI_clamp (by omega)) (qR_23 _ _ _ _ _) dM_takeSupplier_159 (fun H locs hV hS => ?_)
                  refine lv_aload_n hx hb dM_takeSupplier_160 rfl (lv_at hl 2 rfl) ?_
                  refine ew_get (v := .ref (X 6 0)) hx hb hts hown hK hV fM_7 hi0 (cR_0 _ _ _) rfl dM_takeSupplier_161 ?_
                  refine lv_iload_n hx hb dM_takeSupplier_164 rfl (lv_at hl 4 rfl) ?_
                  refine lv_bipush (v := 6) hx hb dM_takeSupplier_165 (by decide) ?_
                  refine lv_iload_n hx hb dM_takeSupplier_167 rfl (lv_at hl 3 rfl) ?_
                  refine lv_imul hx hb dM_takeSupplier_168 ?_
                  refine lv_toe (y := nI (6 * ln)) (pk_mul 6 ln) ?_
                  refine lv_isub hx hb dM_takeSupplier_169 ?_
                  refine lv_toe (y := nI (k - (6 * ln))) (pk_sub (a := k) (b := 6 * ln) (by omega)) ?_
                  refine lv_dup2_11 hx hb dM_takeSupplier_170 rfl rfl ?_
                  refine ew_iald (v := A 6 0 (k - (6 * ln))) hx hb hK hV (hE 6 (by decide)) (cR_6 _ _ _) 0 rfl (vp_in_nI (by omega) (by decide)) (er_ix (by omega) rfl) dM_takeSupplier_171 ?_
                  refine lv_sipush (v := 4000) hx hb dM_takeSupplier_172 (by decide) ?_
                  refine lv_iadd hx hb dM_takeSupplier_175 ?_
                  refine ew_iast hx hb hK hV hS (hE 6 (by decide)) (cR_6 _ _ _) 0 rfl (vp_in_nI (by omega) (by decide)) (k - (6 * ln)) (nI_clamp (by omega)) (qR_6 _ _ _ _ _) dM_takeSupplier_176 (fun H locs hV hS => ?_)
                  refine lv_aload_n hx hb dM_takeSupplier_177 rfl (lv_at hl 2 rfl) ?_
                  refine lv_iload_n hx hb dM_takeSupplier_178 rfl (lv_at hl 4 rfl) ?_
                  refine er_callv (va_runV (As := [.int (nI k)]) (rest := []) ⟨hx, hb, hml, hown, hts⟩ (r_letGo l D T X L tg _ hE (up3 (up3 A 23 0 k 12) 6 0 (k - (6 * ln)) ((A 6 0 (k - (6 * ln))) + 4000)) k hk hcp) (cwV 1 hts gM_169 rfl rfl rfl (by decide +kernel) ⟨Nat.le_of_ble_eq_true rfl, Nat.le_of_ble_eq_true rfl⟩) (er_preV hK hV hi0 (cR_0 _ _ _) rfl) rfl rfl hl.1 rfl (lv_room (Nat.le_of_ble_eq_true rfl)) dM_takeSupplier_179 ⟨Nat.le_of_ble_eq_true rfl, Nat.le_of_ble_eq_true rfl⟩) hV hS hA (fun u10 H locs eu10 hV hS => ?_)
                  have eu10 : u10 = s_letGo (up3 (up3 A 23 0 k 12) 6 0 (k - (6 * ln)) ((A 6 0 (k - (6 * ln))) + 4000)) k := eu10
                  refine lv_iload_n hx hb dM_takeSupplier_182 rfl (lv_at hl 5 rfl) ?_
                  refine lv_bipush (v := 15) hx hb dM_takeSupplier_183 (by decide) ?_
                  refine lv_icmp_ne (tgt := 224) hx hb dM_takeSupplier_185 rfl (fun _ => ?_) (fun h9 => absurd h9 (by rw [h8]; decide))
                  subst eu10
                  exact er_vret hx hb hr hlocks hV hS dM_takeSupplier_224 (Eq.symm (by unfold s_takeSupplier; simp only [if_pos h1, if_neg h2, if_neg h3, if_neg h4, if_neg h5, if_neg h6, if_neg h7, if_pos h8]))
              · refine lv_iload hx hb dM_takeSupplier_128 (lv_at hl 0 rfl) ?_
                refine lv_if_eq (tgt := 141) hx hb dM_takeSupplier_130 rfl (fun h9 => absurd h9 (by decide)) (fun _ => ?_)
                refine lv_aload_n hx hb dM_takeSupplier_133 rfl (lv_at hl 2 rfl) ?_
                refine ew_get (v := .ref (X 23 0)) hx hb hts hown hK hV fM_62 hi0 (cR_0 _ _ _) rfl dM_takeSupplier_134 ?_
                refine lv_iload_n hx hb dM_takeSupplier_137 rfl (lv_at hl 4 rfl) ?_
                refine lv_bipush (v := 8) hx hb dM_takeSupplier_138 (by decide) ?_
                refine ew_iast hx hb hK hV hS (hE 23 (by decide)) (cR_23 _ _ _) 0 rfl (vp_in_nI (by omega) (by decide)) k (nI_clamp (by omega)) (qR_23 _ _ _ _ _) dM_takeSupplier_140 (fun H locs hV hS => ?_)
                refine lv_iload_n hx hb dM_takeSupplier_141 rfl (lv_at hl 5 rfl) ?_
                refine lv_bipush (v := 14) hx hb dM_takeSupplier_142 (by decide) ?_
                refine lv_icmp_ne (tgt := 182) hx hb dM_takeSupplier_144 rfl (fun _ => ?_) (fun h9 => absurd h9 (by rw [h7]; decide))
                refine lv_iload_n hx hb dM_takeSupplier_182 rfl (lv_at hl 5 rfl) ?_
                refine lv_bipush (v := 15) hx hb dM_takeSupplier_183 (by decide) ?_
                refine lv_icmp_ne (tgt := 224) hx hb dM_takeSupplier_185 rfl (fun _ => ?_) (fun h9 => absurd h9 (by rw [h7]; decide))
                exact er_vret hx hb hr hlocks hV hS dM_takeSupplier_224 (Eq.symm (by unfold s_takeSupplier; simp only [if_pos h1, if_neg h2, if_neg h3, if_neg h4, if_neg h5, if_neg h6, if_pos h7]))
            · refine lv_iload hx hb dM_takeSupplier_108 (lv_at hl 1 rfl) ?_
              refine lv_iconst (v := 5) hx hb dM_takeSupplier_110 (by decide) ?_
              refine lv_icmp_ne (tgt := 122) hx hb dM_takeSupplier_111 rfl (fun h9 => absurd h1 h9) (fun _ => ?_)
              refine lv_aload_n hx hb dM_takeSupplier_114 rfl (lv_at hl 2 rfl) ?_
              refine ew_get (v := .ref (X 23 0)) hx hb hts hown hK hV fM_62 hi0 (cR_0 _ _ _) rfl dM_takeSupplier_115 ?_
              refine lv_iload_n hx hb dM_takeSupplier_118 rfl (lv_at hl 4 rfl) ?_
              refine lv_bipush (v := 6) hx hb dM_takeSupplier_119 (by decide) ?_
              refine ew_iast hx hb hK hV hS (hE 23 (by decide)) (cR_23 _ _ _) 0 rfl (vp_in_nI (by omega) (by decide)) k (nI_clamp (by omega)) (qR_23 _ _ _ _ _) dM_takeSupplier_121 (fun H locs hV hS => ?_)
              refine lv_iload_n hx hb dM_takeSupplier_122 rfl (lv_at hl 5 rfl) ?_
              refine lv_bipush (v := 12) hx hb dM_takeSupplier_123 (by decide) ?_
              refine lv_icmp_ne (tgt := 141) hx hb dM_takeSupplier_125 rfl (fun _ => ?_) (fun h9 => absurd h9 (by rw [h6]; decide))
              refine lv_iload_n hx hb dM_takeSupplier_141 rfl (lv_at hl 5 rfl) ?_
              refine lv_bipush (v := 14) hx hb dM_takeSupplier_142 (by decide) ?_
              refine lv_icmp_ne (tgt := 182) hx hb dM_takeSupplier_144 rfl (fun _ => ?_) (fun h9 => absurd h9 (by rw [h6]; decide))
              refine lv_iload_n hx hb dM_takeSupplier_182 rfl (lv_at hl 5 rfl) ?_
              refine lv_bipush (v := 15) hx hb dM_takeSupplier_183 (by decide) ?_
              refine lv_icmp_ne (tgt := 224) hx hb dM_takeSupplier_185 rfl (fun _ => ?_) (fun h9 => absurd h9 (by rw [h6]; decide))
              exact er_vret hx hb hr hlocks hV hS dM_takeSupplier_224 (Eq.symm (by unfold s_takeSupplier; simp only [if_pos h1, if_neg h2, if_neg h3, if_neg h4, if_neg h5, if_pos h6]))
          · refine lv_iload hx hb dM_takeSupplier_89 (lv_at hl 1 rfl) ?_
            refine lv_iconst (v := 4) hx hb dM_takeSupplier_91 (by decide) ?_
            refine lv_icmp_ne (tgt := 102) hx hb dM_takeSupplier_92 rfl (fun _ => ?_) (fun h9 => absurd h9 (by rw [h1]; decide))
            refine lv_iload_n hx hb dM_takeSupplier_102 rfl (lv_at hl 5 rfl) ?_
            refine lv_bipush (v := 9) hx hb dM_takeSupplier_103 (by decide) ?_
            refine lv_icmp_ne (tgt := 122) hx hb dM_takeSupplier_105 rfl (fun _ => ?_) (fun h9 => absurd h9 (by rw [h5]; decide))
            refine lv_iload_n hx hb dM_takeSupplier_122 rfl (lv_at hl 5 rfl) ?_
            refine lv_bipush (v := 12) hx hb dM_takeSupplier_123 (by decide) ?_
            refine lv_icmp_ne (tgt := 141) hx hb dM_takeSupplier_125 rfl (fun _ => ?_) (fun h9 => absurd h9 (by rw [h5]; decide))
            refine lv_iload_n hx hb dM_takeSupplier_141 rfl (lv_at hl 5 rfl) ?_
            refine lv_bipush (v := 14) hx hb dM_takeSupplier_142 (by decide) ?_
            refine lv_icmp_ne (tgt := 182) hx hb dM_takeSupplier_144 rfl (fun _ => ?_) (fun h9 => absurd h9 (by rw [h5]; decide))
            refine lv_iload_n hx hb dM_takeSupplier_182 rfl (lv_at hl 5 rfl) ?_
            refine lv_bipush (v := 15) hx hb dM_takeSupplier_183 (by decide) ?_
            refine lv_icmp_ne (tgt := 224) hx hb dM_takeSupplier_185 rfl (fun _ => ?_) (fun h9 => absurd h9 (by rw [h5]; decide))
            exact er_vret hx hb hr hlocks hV hS dM_takeSupplier_224 (Eq.symm (by unfold s_takeSupplier; simp only [if_pos h1, if_neg h2, if_neg h3, if_neg h4, if_pos h5]))
        · refine lv_iload hx hb dM_takeSupplier_69 (lv_at hl 1 rfl) ?_
          refine lv_iconst (v := 2) hx hb dM_takeSupplier_71 (by decide) ?_
          refine lv_icmp_ne (tgt := 83) hx hb dM_takeSupplier_72 rfl (fun _ => ?_) (fun h9 => absurd h9 (by rw [h1]; decide))
          refine lv_iload_n hx hb dM_takeSupplier_83 rfl (lv_at hl 5 rfl) ?_
          refine lv_bipush (v := 8) hx hb dM_takeSupplier_84 (by decide) ?_
          refine lv_icmp_ne (tgt := 102) hx hb dM_takeSupplier_86 rfl (fun _ => ?_) (fun h9 => absurd h9 (by rw [h4]; decide))
          refine lv_iload_n hx hb dM_takeSupplier_102 rfl (lv_at hl 5 rfl) ?_
          refine lv_bipush (v := 9) hx hb dM_takeSupplier_103 (by decide) ?_
          refine lv_icmp_ne (tgt := 122) hx hb dM_takeSupplier_105 rfl (fun _ => ?_) (fun h9 => absurd h9 (by rw [h4]; decide))
          refine lv_iload_n hx hb dM_takeSupplier_122 rfl (lv_at hl 5 rfl) ?_
          refine lv_bipush (v := 12) hx hb dM_takeSupplier_123 (by decide) ?_
          refine lv_icmp_ne (tgt := 141) hx hb dM_takeSupplier_125 rfl (fun _ => ?_) (fun h9 => absurd h9 (by rw [h4]; decide))
          refine lv_iload_n hx hb dM_takeSupplier_141 rfl (lv_at hl 5 rfl) ?_
          refine lv_bipush (v := 14) hx hb dM_takeSupplier_142 (by decide) ?_
          refine lv_icmp_ne (tgt := 182) hx hb dM_takeSupplier_144 rfl (fun _ => ?_) (fun h9 => absurd h9 (by rw [h4]; decide))
          refine lv_iload_n hx hb dM_takeSupplier_182 rfl (lv_at hl 5 rfl) ?_
          refine lv_bipush (v := 15) hx hb dM_takeSupplier_183 (by decide) ?_
          refine lv_icmp_ne (tgt := 224) hx hb dM_takeSupplier_185 rfl (fun _ => ?_) (fun h9 => absurd h9 (by rw [h4]; decide))
          exact er_vret hx hb hr hlocks hV hS dM_takeSupplier_224 (Eq.symm (by unfold s_takeSupplier; simp only [if_pos h1, if_neg h2, if_neg h3, if_pos h4]))
      · refine lv_iload hx hb dM_takeSupplier_50 (lv_at hl 1 rfl) ?_
        refine lv_iconst (v := 2) hx hb dM_takeSupplier_52 (by decide) ?_
        refine lv_icmp_ne (tgt := 63) hx hb dM_takeSupplier_53 rfl (fun _ => ?_) (fun h9 => absurd h9 (by rw [h1]; decide))
        refine lv_iload_n hx hb dM_takeSupplier_63 rfl (lv_at hl 5 rfl) ?_
        refine lv_bipush (v := 6) hx hb dM_takeSupplier_64 (by decide) ?_
        refine lv_icmp_ne (tgt := 83) hx hb dM_takeSupplier_66 rfl (fun _ => ?_) (fun h9 => absurd h9 (by rw [h3]; decide))
        refine lv_iload_n hx hb dM_takeSupplier_83 rfl (lv_at hl 5 rfl) ?_
        refine lv_bipush (v := 8) hx hb dM_takeSupplier_84 (by decide) ?_
        refine lv_icmp_ne (tgt := 102) hx hb dM_takeSupplier_86 rfl (fun _ => ?_) (fun h9 => absurd h9 (by rw [h3]; decide))
        refine lv_iload_n hx hb dM_takeSupplier_102 rfl (lv_at hl 5 rfl) ?_
        refine lv_bipush (v := 9) hx hb dM_takeSupplier_103 (by decide) ?_
        refine lv_icmp_ne (tgt := 122) hx hb dM_takeSupplier_105 rfl (fun _ => ?_) (fun h9 => absurd h9 (by rw [h3]; decide))
        refine lv_iload_n hx hb dM_takeSupplier_122 rfl (lv_at hl 5 rfl) ?_
        refine lv_bipush (v := 12) hx hb dM_takeSupplier_123 (by decide) ?_
        refine lv_icmp_ne (tgt := 141) hx hb dM_takeSupplier_125 rfl (fun _ => ?_) (fun h9 => absurd h9 (by rw [h3]; decide))
        refine lv_iload_n hx hb dM_takeSupplier_141 rfl (lv_at hl 5 rfl) ?_
        refine lv_bipush (v := 14) hx hb dM_takeSupplier_142 (by decide) ?_
        refine lv_icmp_ne (tgt := 182) hx hb dM_takeSupplier_144 rfl (fun _ => ?_) (fun h9 => absurd h9 (by rw [h3]; decide))
        refine lv_iload_n hx hb dM_takeSupplier_182 rfl (lv_at hl 5 rfl) ?_
        refine lv_bipush (v := 15) hx hb dM_takeSupplier_183 (by decide) ?_
        refine lv_icmp_ne (tgt := 224) hx hb dM_takeSupplier_185 rfl (fun _ => ?_) (fun h9 => absurd h9 (by rw [h3]; decide))
        exact er_vret hx hb hr hlocks hV hS dM_takeSupplier_224 (Eq.symm (by unfold s_takeSupplier; simp only [if_pos h1, if_neg h2, if_pos h3]))
    · refine lv_iload hx hb dM_takeSupplier_40 (lv_at hl 1 rfl) ?_
      refine lv_if_eq (tgt := 56) hx hb dM_takeSupplier_42 rfl (fun h9 => absurd h9 (by rw [h1]; decide)) (fun _ => ?_)
      refine lv_iload_n hx hb dM_takeSupplier_45 rfl (lv_at hl 5 rfl) ?_
      refine lv_iconst (v := 5) hx hb dM_takeSupplier_46 (by decide) ?_
      refine lv_icmp_ne (tgt := 63) hx hb dM_takeSupplier_47 rfl (fun _ => ?_) (fun h9 => absurd h9 (by rw [h2]; decide))
      refine lv_iload_n hx hb dM_takeSupplier_63 rfl (lv_at hl 5 rfl) ?_
      refine lv_bipush (v := 6) hx hb dM_takeSupplier_64 (by decide) ?_
      refine lv_icmp_ne (tgt := 83) hx hb dM_takeSupplier_66 rfl (fun _ => ?_) (fun h9 => absurd h9 (by rw [h2]; decide))
      refine lv_iload_n hx hb dM_takeSupplier_83 rfl (lv_at hl 5 rfl) ?_
      refine lv_bipush (v := 8) hx hb dM_takeSupplier_84 (by decide) ?_
      refine lv_icmp_ne (tgt := 102) hx hb dM_takeSupplier_86 rfl (fun _ => ?_) (fun h9 => absurd h9 (by rw [h2]; decide))
      refine lv_iload_n hx hb dM_takeSupplier_102 rfl (lv_at hl 5 rfl) ?_
      refine lv_bipush (v := 9) hx hb dM_takeSupplier_103 (by decide) ?_
      refine lv_icmp_ne (tgt := 122) hx hb dM_takeSupplier_105 rfl (fun _ => ?_) (fun h9 => absurd h9 (by rw [h2]; decide))
      refine lv_iload_n hx hb dM_takeSupplier_122 rfl (lv_at hl 5 rfl) ?_
      refine lv_bipush (v := 12) hx hb dM_takeSupplier_123 (by decide) ?_
      refine lv_icmp_ne (tgt := 141) hx hb dM_takeSupplier_125 rfl (fun _ => ?_) (fun h9 => absurd h9 (by rw [h2]; decide))
      refine lv_iload_n hx hb dM_takeSupplier_141 rfl (lv_at hl 5 rfl) ?_
      refine lv_bipush (v := 14) hx hb dM_takeSupplier_142 (by decide) ?_
      refine lv_icmp_ne (tgt := 182) hx hb dM_takeSupplier_144 rfl (fun _ => ?_) (fun h9 => absurd h9 (by rw [h2]; decide))
      refine lv_iload_n hx hb dM_takeSupplier_182 rfl (lv_at hl 5 rfl) ?_
      refine lv_bipush (v := 15) hx hb dM_takeSupplier_183 (by decide) ?_
      refine lv_icmp_ne (tgt := 224) hx hb dM_takeSupplier_185 rfl (fun _ => ?_) (fun h9 => absurd h9 (by rw [h2]; decide))
      exact er_vret hx hb hr hlocks hV hS dM_takeSupplier_224 (Eq.symm (by unfold s_takeSupplier; simp only [if_pos h1, if_pos h2]))
  · refine lv_iload hx hb dM_takeSupplier_14 (lv_at hl 0 rfl) ?_
    refine lv_bipush (v := 6) hx hb dM_takeSupplier_16 (by decide) ?_
    refine lv_icmp_eq (tgt := 28) hx hb dM_takeSupplier_18 rfl (fun h11 => ?_) (fun h11 => ?_)
    · refine lv_iconst (v := 1) hx hb dM_takeSupplier_28 (by decide) ?_
      refine lv_goto (tgt := 33) hx hb dM_takeSupplier_29 rfl ?_
      refine lv_istore (lv' := [(5, .int 1), (4, .int (A 23 0 k)), (0, .ref (X 0 0)), (1, .int (nI ln)), (2, .int (nI k)), (3, .int what)]) hx hb dM_takeSupplier_33 hl (by decide) rfl (fun ls hl => ?_)
      refine lv_iload_n hx hb dM_takeSupplier_35 rfl (lv_at hl 5 rfl) ?_
      refine lv_iconst (v := 1) hx hb dM_takeSupplier_36 (by decide) ?_
      refine lv_icmp_ne (tgt := 45) hx hb dM_takeSupplier_37 rfl (fun h12 => ?_) (fun h12 => ?_)
      · refine lv_iload_n hx hb dM_takeSupplier_45 rfl (lv_at hl 5 rfl) ?_
        refine lv_iconst (v := 5) hx hb dM_takeSupplier_46 (by decide) ?_
        refine lv_icmp_ne (tgt := 63) hx hb dM_takeSupplier_47 rfl (fun h13 => ?_) (fun h13 => ?_)
        · refine lv_iload_n hx hb dM_takeSupplier_63 rfl (lv_at hl 5 rfl) ?_
          refine lv_bipush (v := 6) hx hb dM_takeSupplier_64 (by decide) ?_
          refine lv_icmp_ne (tgt := 83) hx hb dM_takeSupplier_66 rfl (fun h14 => ?_) (fun h14 => ?_)
          · refine lv_iload_n hx hb dM_takeSupplier_83 rfl (lv_at hl 5 rfl) ?_
            refine lv_bipush (v := 8) hx hb dM_takeSupplier_84 (by decide) ?_
            refine lv_icmp_ne (tgt := 102) hx hb dM_takeSupplier_86 rfl (fun h15 => ?_) (fun h15 => ?_)
            · refine lv_iload_n hx hb dM_takeSupplier_102 rfl (lv_at hl 5 rfl) ?_
              refine lv_bipush (v := 9) hx hb dM_takeSupplier_103 (by decide) ?_
              refine lv_icmp_ne (tgt := 122) hx hb dM_takeSupplier_105 rfl (fun h16 => ?_) (fun h16 => ?_)
              · refine lv_iload_n hx hb dM_takeSupplier_122 rfl (lv_at hl 5 rfl) ?_
                refine lv_bipush (v := 12) hx hb dM_takeSupplier_123 (by decide) ?_
                refine lv_icmp_ne (tgt := 141) hx hb dM_takeSupplier_125 rfl (fun h17 => ?_) (fun h17 => ?_)
                · refine lv_iload_n hx hb dM_takeSupplier_141 rfl (lv_at hl 5 rfl) ?_
                  refine lv_bipush (v := 14) hx hb dM_takeSupplier_142 (by decide) ?_
                  refine lv_icmp_ne (tgt := 182) hx hb dM_takeSupplier_144 rfl (fun h18 => ?_) (fun h18 => ?_)
                  · refine lv_iload_n hx hb dM_takeSupplier_182 rfl (lv_at hl 5 rfl) ?_
                    refine lv_bipush (v := 15) hx hb dM_takeSupplier_183 (by decide) ?_
                    refine lv_icmp_ne (tgt := 224) hx hb dM_takeSupplier_185 rfl (fun h19 => ?_) (fun h19 => ?_)
                    · exact er_vret hx hb hr hlocks hV hS dM_takeSupplier_224 (Eq.symm (by unfold s_takeSupplier; simp only [if_neg h1, if_pos h11, if_neg h12, if_neg h13, if_neg h14, if_neg h15, if_neg h16, if_neg h17, if_neg h18, if_neg h19]))
                    · refine lv_iload hx hb dM_takeSupplier_188 (lv_at hl 1 rfl) ?_
                      refine lv_if_le (tgt := 224) hx hb dM_takeSupplier_190 rfl (fun h9 => absurd h9 (by rw [h11]; decide)) (fun _ => ?_)
                      refine lv_iload hx hb dM_takeSupplier_193 (lv_at hl 1 rfl) ?_
                      refine lv_iconst (v := 4) hx hb dM_takeSupplier_195 (by decide) ?_
                      refine lv_icmp_ge (tgt := 224) hx hb dM_takeSupplier_196 rfl (fun _ => ?_) (fun h9 => absurd (by rw [h11]; decide) h9)
                      exact er_vret hx hb hr hlocks hV hS dM_takeSupplier_224 (Eq.symm (by unfold s_takeSupplier; simp only [if_neg h1, if_pos h11, if_neg h12, if_neg h13, if_neg h14, if_neg h15, if_neg h16, if_neg h17, if_neg h18, if_pos h19]))
                  · refine lv_iload hx hb dM_takeSupplier_147 (lv_at hl 0 rfl) ?_
                    refine lv_if_eq (tgt := 182) hx hb dM_takeSupplier_149 rfl (fun h9 => absurd h9 (by decide)) (fun _ => ?_)
                    refine lv_aload_n hx hb dM_takeSupplier_152 rfl (lv_at hl 2 rfl) ?_
                    refine ew_get (v := .ref (X 23 0)) hx hb hts hown hK hV fM_62 hi0 (cR_0 _ _ _) rfl dM_takeSupplier_153 ?_
                    refine lv_iload_n hx hb dM_takeSupplier_156 rfl (lv_at hl 4 rfl) ?_
                    refine lv_bipush (v := 12) hx hb dM_takeSupplier_157 (by decide) ?_
                    refine ew_iast hx hb hK hV hS (hE 23 (by decide)) (cR_23 _ _ _) 0 rfl (vp_in_nI (by omega) (by decide)) k (nI_clamp (by omega)) (qR_23 _ _ _ _ _) dM_takeSupplier_159 (fun H locs hV hS => ?_)
                    refine lv_aload_n hx hb dM_takeSupplier_160 rfl (lv_at hl 2 rfl) ?_
                    refine ew_get (v := .ref (X 6 0)) hx hb hts hown hK hV fM_7 hi0 (cR_0 _ _ _) rfl dM_takeSupplier_161 ?_
                    refine lv_iload_n hx hb dM_takeSupplier_164 rfl (lv_at hl 4 rfl) ?_
                    refine lv_bipush (v := 6) hx hb dM_takeSupplier_165 (by decide) ?_
                    refine lv_iload_n hx hb dM_takeSupplier_167 rfl (lv_at hl 3 rfl) ?_
                    refine lv_imul hx hb dM_takeSupplier_168 ?_
                    refine lv_toe (y := nI (6 * ln)) (pk_mul 6 ln) ?_
                    refine lv_isub hx hb dM_takeSupplier_169 ?_
                    refine lv_toe (y := nI (k - (6 * ln))) (pk_sub (a := k) (b := 6 * ln) (by omega)) ?_
                    refine lv_dup2_11 hx hb dM_takeSupplier_170 rfl rfl ?_
                    refine ew_iald (v := A 6 0 (k - (6 * ln))) hx hb hK hV (hE 6 (by decide)) (cR_6 _ _ _) 0 rfl (vp_in_nI (by omega) (by decide)) (er_ix (by omega) rfl) dM_takeSupplier_171 ?_
                    refine lv_sipush (v := 4000) hx hb dM_takeSupplier_172 (by decide) ?_
                    refine lv_iadd hx hb dM_takeSupplier_175 ?_
                    refine ew_iast hx hb hK hV hS (hE 6 (by decide)) (cR_6 _ _ _) 0 rfl (vp_in_nI (by omega) (by decide)) (k - (6 * ln)) (nI_clamp (by omega)) (qR_6 _ _ _ _ _) dM_takeSupplier_176 (fun H locs hV hS => ?_)
                    refine lv_aload_n hx hb dM_takeSupplier_177 rfl (lv_at hl 2 rfl) ?_
                    refine lv_iload_n hx hb dM_takeSupplier_178 rfl (lv_at hl 4 rfl) ?_
                    refine er_callv (va_runV (As := [.int (nI k)]) (rest := []) ⟨hx, hb, hml, hown, hts⟩ (r_letGo l D T X L tg _ hE (up3 (up3 A 23 0 k 12) 6 0 (k - (6 * ln)) ((A 6 0 (k - (6 * ln))) + 4000)) k hk hcp) (cwV 1 hts gM_169 rfl rfl rfl (by decide +kernel) ⟨Nat.le_of_ble_eq_true rfl, Nat.le_of_ble_eq_true rfl⟩) (er_preV hK hV hi0 (cR_0 _ _ _) rfl) rfl rfl hl.1 rfl (lv_room (Nat.le_of_ble_eq_true rfl)) dM_takeSupplier_179 ⟨Nat.le_of_ble_eq_true rfl, Nat.le_of_ble_eq_true rfl⟩) hV hS hA (fun u20 H locs eu20 hV hS => ?_)
                    have eu20 : u20 = s_letGo (up3 (up3 A 23 0 k 12) 6 0 (k - (6 * ln)) ((A 6 0 (k - (6 * ln))) + 4000)) k := eu20
                    refine lv_iload_n hx hb dM_takeSupplier_182 rfl (lv_at hl 5 rfl) ?_
                    refine lv_bipush (v := 15) hx hb dM_takeSupplier_183 (by decide) ?_
                    refine lv_icmp_ne (tgt := 224) hx hb dM_takeSupplier_185 rfl (fun _ => ?_) (fun h9 => absurd h9 (by rw [h18]; decide))
                    subst eu20
                    exact er_vret hx hb hr hlocks hV hS dM_takeSupplier_224 (Eq.symm (by unfold s_takeSupplier; simp only [if_neg h1, if_pos h11, if_neg h12, if_neg h13, if_neg h14, if_neg h15, if_neg h16, if_neg h17, if_pos h18]))
                · refine lv_iload hx hb dM_takeSupplier_128 (lv_at hl 0 rfl) ?_
                  refine lv_if_eq (tgt := 141) hx hb dM_takeSupplier_130 rfl (fun h9 => absurd h9 (by decide)) (fun _ => ?_)
                  refine lv_aload_n hx hb dM_takeSupplier_133 rfl (lv_at hl 2 rfl) ?_
                  refine ew_get (v := .ref (X 23 0)) hx hb hts hown hK hV fM_62 hi0 (cR_0 _ _ _) rfl dM_takeSupplier_134 ?_
                  refine lv_iload_n hx hb dM_takeSupplier_137 rfl (lv_at hl 4 rfl) ?_
                  refine lv_bipush (v := 8) hx hb dM_takeSupplier_138 (by decide) ?_
                  refine ew_iast hx hb hK hV hS (hE 23 (by decide)) (cR_23 _ _ _) 0 rfl (vp_in_nI (by omega) (by decide)) k (nI_clamp (by omega)) (qR_23 _ _ _ _ _) dM_takeSupplier_140 (fun H locs hV hS => ?_)
                  refine lv_iload_n hx hb dM_takeSupplier_141 rfl (lv_at hl 5 rfl) ?_
                  refine lv_bipush (v := 14) hx hb dM_takeSupplier_142 (by decide) ?_
                  refine lv_icmp_ne (tgt := 182) hx hb dM_takeSupplier_144 rfl (fun _ => ?_) (fun h9 => absurd h9 (by rw [h17]; decide))
                  refine lv_iload_n hx hb dM_takeSupplier_182 rfl (lv_at hl 5 rfl) ?_
                  refine lv_bipush (v := 15) hx hb dM_takeSupplier_183 (by decide) ?_
                  refine lv_icmp_ne (tgt := 224) hx hb dM_takeSupplier_185 rfl (fun _ => ?_) (fun h9 => absurd h9 (by rw [h17]; decide))
                  exact er_vret hx hb hr hlocks hV hS dM_takeSupplier_224 (Eq.symm (by unfold s_takeSupplier; simp only [if_neg h1, if_pos h11, if_neg h12, if_neg h13, if_neg h14, if_neg h15, if_neg h16, if_pos h17]))
              · refine lv_iload hx hb dM_takeSupplier_108 (lv_at hl 1 rfl) ?_
                refine lv_iconst (v := 5) hx hb dM_takeSupplier_110 (by decide) ?_
                refine lv_icmp_ne (tgt := 122) hx hb dM_takeSupplier_111 rfl (fun _ => ?_) (fun h9 => absurd h9 h1)
                refine lv_iload_n hx hb dM_takeSupplier_122 rfl (lv_at hl 5 rfl) ?_
                refine lv_bipush (v := 12) hx hb dM_takeSupplier_123 (by decide) ?_
                refine lv_icmp_ne (tgt := 141) hx hb dM_takeSupplier_125 rfl (fun _ => ?_) (fun h9 => absurd h9 (by rw [h16]; decide))
                refine lv_iload_n hx hb dM_takeSupplier_141 rfl (lv_at hl 5 rfl) ?_
                refine lv_bipush (v := 14) hx hb dM_takeSupplier_142 (by decide) ?_
                refine lv_icmp_ne (tgt := 182) hx hb dM_takeSupplier_144 rfl (fun _ => ?_) (fun h9 => absurd h9 (by rw [h16]; decide))
                refine lv_iload_n hx hb dM_takeSupplier_182 rfl (lv_at hl 5 rfl) ?_
                refine lv_bipush (v := 15) hx hb dM_takeSupplier_183 (by decide) ?_
                refine lv_icmp_ne (tgt := 224) hx hb dM_takeSupplier_185 rfl (fun _ => ?_) (fun h9 => absurd h9 (by rw [h16]; decide))
                exact er_vret hx hb hr hlocks hV hS dM_takeSupplier_224 (Eq.symm (by unfold s_takeSupplier; simp only [if_neg h1, if_pos h11, if_neg h12, if_neg h13, if_neg h14, if_neg h15, if_pos h16]))
            · refine lv_iload hx hb dM_takeSupplier_89 (lv_at hl 1 rfl) ?_
              refine lv_iconst (v := 4) hx hb dM_takeSupplier_91 (by decide) ?_
              refine lv_icmp_ne (tgt := 102) hx hb dM_takeSupplier_92 rfl (fun _ => ?_) (fun h9 => absurd h9 (by rw [h11]; decide))
              refine lv_iload_n hx hb dM_takeSupplier_102 rfl (lv_at hl 5 rfl) ?_
              refine lv_bipush (v := 9) hx hb dM_takeSupplier_103 (by decide) ?_
              refine lv_icmp_ne (tgt := 122) hx hb dM_takeSupplier_105 rfl (fun _ => ?_) (fun h9 => absurd h9 (by rw [h15]; decide))
              refine lv_iload_n hx hb dM_takeSupplier_122 rfl (lv_at hl 5 rfl) ?_
              refine lv_bipush (v := 12) hx hb dM_takeSupplier_123 (by decide) ?_
              refine lv_icmp_ne (tgt := 141) hx hb dM_takeSupplier_125 rfl (fun _ => ?_) (fun h9 => absurd h9 (by rw [h15]; decide))
              refine lv_iload_n hx hb dM_takeSupplier_141 rfl (lv_at hl 5 rfl) ?_
              refine lv_bipush (v := 14) hx hb dM_takeSupplier_142 (by decide) ?_
              refine lv_icmp_ne (tgt := 182) hx hb dM_takeSupplier_144 rfl (fun _ => ?_) (fun h9 => absurd h9 (by rw [h15]; decide))
              refine lv_iload_n hx hb dM_takeSupplier_182 rfl (lv_at hl 5 rfl) ?_
              refine lv_bipush (v := 15) hx hb dM_takeSupplier_183 (by decide) ?_
              refine lv_icmp_ne (tgt := 224) hx hb dM_takeSupplier_185 rfl (fun _ => ?_) (fun h9 => absurd h9 (by rw [h15]; decide))
              exact er_vret hx hb hr hlocks hV hS dM_takeSupplier_224 (Eq.symm (by unfold s_takeSupplier; simp only [if_neg h1, if_pos h11, if_neg h12, if_neg h13, if_neg h14, if_pos h15]))
          · refine lv_iload hx hb dM_takeSupplier_69 (lv_at hl 1 rfl) ?_
            refine lv_iconst (v := 2) hx hb dM_takeSupplier_71 (by decide) ?_
            refine lv_icmp_ne (tgt := 83) hx hb dM_takeSupplier_72 rfl (fun _ => ?_) (fun h9 => absurd h9 (by rw [h11]; decide))
            refine lv_iload_n hx hb dM_takeSupplier_83 rfl (lv_at hl 5 rfl) ?_
            refine lv_bipush (v := 8) hx hb dM_takeSupplier_84 (by decide) ?_
            refine lv_icmp_ne (tgt := 102) hx hb dM_takeSupplier_86 rfl (fun _ => ?_) (fun h9 => absurd h9 (by rw [h14]; decide))
            refine lv_iload_n hx hb dM_takeSupplier_102 rfl (lv_at hl 5 rfl) ?_
            refine lv_bipush (v := 9) hx hb dM_takeSupplier_103 (by decide) ?_
            refine lv_icmp_ne (tgt := 122) hx hb dM_takeSupplier_105 rfl (fun _ => ?_) (fun h9 => absurd h9 (by rw [h14]; decide))
            refine lv_iload_n hx hb dM_takeSupplier_122 rfl (lv_at hl 5 rfl) ?_
            refine lv_bipush (v := 12) hx hb dM_takeSupplier_123 (by decide) ?_
            refine lv_icmp_ne (tgt := 141) hx hb dM_takeSupplier_125 rfl (fun _ => ?_) (fun h9 => absurd h9 (by rw [h14]; decide))
            refine lv_iload_n hx hb dM_takeSupplier_141 rfl (lv_at hl 5 rfl) ?_
            refine lv_bipush (v := 14) hx hb dM_takeSupplier_142 (by decide) ?_
            refine lv_icmp_ne (tgt := 182) hx hb dM_takeSupplier_144 rfl (fun _ => ?_) (fun h9 => absurd h9 (by rw [h14]; decide))
            refine lv_iload_n hx hb dM_takeSupplier_182 rfl (lv_at hl 5 rfl) ?_
            refine lv_bipush (v := 15) hx hb dM_takeSupplier_183 (by decide) ?_
            refine lv_icmp_ne (tgt := 224) hx hb dM_takeSupplier_185 rfl (fun _ => ?_) (fun h9 => absurd h9 (by rw [h14]; decide))
            exact er_vret hx hb hr hlocks hV hS dM_takeSupplier_224 (Eq.symm (by unfold s_takeSupplier; simp only [if_neg h1, if_pos h11, if_neg h12, if_neg h13, if_pos h14]))
        · refine lv_iload hx hb dM_takeSupplier_50 (lv_at hl 1 rfl) ?_
          refine lv_iconst (v := 2) hx hb dM_takeSupplier_52 (by decide) ?_
          refine lv_icmp_ne (tgt := 63) hx hb dM_takeSupplier_53 rfl (fun _ => ?_) (fun h9 => absurd h9 (by rw [h11]; decide))
          refine lv_iload_n hx hb dM_takeSupplier_63 rfl (lv_at hl 5 rfl) ?_
          refine lv_bipush (v := 6) hx hb dM_takeSupplier_64 (by decide) ?_
          refine lv_icmp_ne (tgt := 83) hx hb dM_takeSupplier_66 rfl (fun _ => ?_) (fun h9 => absurd h9 (by rw [h13]; decide))
          refine lv_iload_n hx hb dM_takeSupplier_83 rfl (lv_at hl 5 rfl) ?_
          refine lv_bipush (v := 8) hx hb dM_takeSupplier_84 (by decide) ?_
          refine lv_icmp_ne (tgt := 102) hx hb dM_takeSupplier_86 rfl (fun _ => ?_) (fun h9 => absurd h9 (by rw [h13]; decide))
          refine lv_iload_n hx hb dM_takeSupplier_102 rfl (lv_at hl 5 rfl) ?_
          refine lv_bipush (v := 9) hx hb dM_takeSupplier_103 (by decide) ?_
          refine lv_icmp_ne (tgt := 122) hx hb dM_takeSupplier_105 rfl (fun _ => ?_) (fun h9 => absurd h9 (by rw [h13]; decide))
          refine lv_iload_n hx hb dM_takeSupplier_122 rfl (lv_at hl 5 rfl) ?_
          refine lv_bipush (v := 12) hx hb dM_takeSupplier_123 (by decide) ?_
          refine lv_icmp_ne (tgt := 141) hx hb dM_takeSupplier_125 rfl (fun _ => ?_) (fun h9 => absurd h9 (by rw [h13]; decide))
          refine lv_iload_n hx hb dM_takeSupplier_141 rfl (lv_at hl 5 rfl) ?_
          refine lv_bipush (v := 14) hx hb dM_takeSupplier_142 (by decide) ?_
          refine lv_icmp_ne (tgt := 182) hx hb dM_takeSupplier_144 rfl (fun _ => ?_) (fun h9 => absurd h9 (by rw [h13]; decide))
          refine lv_iload_n hx hb dM_takeSupplier_182 rfl (lv_at hl 5 rfl) ?_
          refine lv_bipush (v := 15) hx hb dM_takeSupplier_183 (by decide) ?_
          refine lv_icmp_ne (tgt := 224) hx hb dM_takeSupplier_185 rfl (fun _ => ?_) (fun h9 => absurd h9 (by rw [h13]; decide))
          exact er_vret hx hb hr hlocks hV hS dM_takeSupplier_224 (Eq.symm (by unfold s_takeSupplier; simp only [if_neg h1, if_pos h11, if_neg h12, if_pos h13]))
      · refine lv_iload hx hb dM_takeSupplier_40 (lv_at hl 1 rfl) ?_
        refine lv_if_eq (tgt := 56) hx hb dM_takeSupplier_42 rfl (fun h9 => absurd h9 (by rw [h11]; decide)) (fun _ => ?_)
        refine lv_iload_n hx hb dM_takeSupplier_45 rfl (lv_at hl 5 rfl) ?_
        refine lv_iconst (v := 5) hx hb dM_takeSupplier_46 (by decide) ?_
        refine lv_icmp_ne (tgt := 63) hx hb dM_takeSupplier_47 rfl (fun _ => ?_) (fun h9 => absurd h9 (by rw [h12]; decide))
        refine lv_iload_n hx hb dM_takeSupplier_63 rfl (lv_at hl 5 rfl) ?_
        refine lv_bipush (v := 6) hx hb dM_takeSupplier_64 (by decide) ?_
        refine lv_icmp_ne (tgt := 83) hx hb dM_takeSupplier_66 rfl (fun _ => ?_) (fun h9 => absurd h9 (by rw [h12]; decide))
        refine lv_iload_n hx hb dM_takeSupplier_83 rfl (lv_at hl 5 rfl) ?_
        refine lv_bipush (v := 8) hx hb dM_takeSupplier_84 (by decide) ?_
        refine lv_icmp_ne (tgt := 102) hx hb dM_takeSupplier_86 rfl (fun _ => ?_) (fun h9 => absurd h9 (by rw [h12]; decide))
        refine lv_iload_n hx hb dM_takeSupplier_102 rfl (lv_at hl 5 rfl) ?_
        refine lv_bipush (v := 9) hx hb dM_takeSupplier_103 (by decide) ?_
        refine lv_icmp_ne (tgt := 122) hx hb dM_takeSupplier_105 rfl (fun _ => ?_) (fun h9 => absurd h9 (by rw [h12]; decide))
        refine lv_iload_n hx hb dM_takeSupplier_122 rfl (lv_at hl 5 rfl) ?_
        refine lv_bipush (v := 12) hx hb dM_takeSupplier_123 (by decide) ?_
        refine lv_icmp_ne (tgt := 141) hx hb dM_takeSupplier_125 rfl (fun _ => ?_) (fun h9 => absurd h9 (by rw [h12]; decide))
        refine lv_iload_n hx hb dM_takeSupplier_141 rfl (lv_at hl 5 rfl) ?_
        refine lv_bipush (v := 14) hx hb dM_takeSupplier_142 (by decide) ?_
        refine lv_icmp_ne (tgt := 182) hx hb dM_takeSupplier_144 rfl (fun _ => ?_) (fun h9 => absurd h9 (by rw [h12]; decide))
        refine lv_iload_n hx hb dM_takeSupplier_182 rfl (lv_at hl 5 rfl) ?_
        refine lv_bipush (v := 15) hx hb dM_takeSupplier_183 (by decide) ?_
        refine lv_icmp_ne (tgt := 224) hx hb dM_takeSupplier_185 rfl (fun _ => ?_) (fun h9 => absurd h9 (by rw [h12]; decide))
        exact er_vret hx hb hr hlocks hV hS dM_takeSupplier_224 (Eq.symm (by unfold s_takeSupplier; simp only [if_neg h1, if_pos h11, if_pos h12]))
    · refine lv_iload hx hb dM_takeSupplier_21 (lv_at hl 0 rfl) ?_
      refine lv_bipush (v := 7) hx hb dM_takeSupplier_23 (by decide) ?_
      refine lv_icmp_ne (tgt := 32) hx hb dM_takeSupplier_25 rfl (fun h21 => ?_) (fun h21 => ?_)
      · refine lv_iconst (v := 0) hx hb dM_takeSupplier_32 (by decide) ?_
        refine lv_istore (lv' := [(5, .int 0), (4, .int (A 23 0 k)), (0, .ref (X 0 0)), (1, .int (nI ln)), (2, .int (nI k)), (3, .int what)]) hx hb dM_takeSupplier_33 hl (by decide) rfl (fun ls hl => ?_)
        refine lv_iload_n hx hb dM_takeSupplier_35 rfl (lv_at hl 5 rfl) ?_
        refine lv_iconst (v := 1) hx hb dM_takeSupplier_36 (by decide) ?_
        refine lv_icmp_ne (tgt := 45) hx hb dM_takeSupplier_37 rfl (fun h22 => ?_) (fun h22 => ?_)
        · refine lv_iload_n hx hb dM_takeSupplier_45 rfl (lv_at hl 5 rfl) ?_
          refine lv_iconst (v := 5) hx hb dM_takeSupplier_46 (by decide) ?_
          refine lv_icmp_ne (tgt := 63) hx hb dM_takeSupplier_47 rfl (fun h23 => ?_) (fun h23 => ?_)
          · refine lv_iload_n hx hb dM_takeSupplier_63 rfl (lv_at hl 5 rfl) ?_
            refine lv_bipush (v := 6) hx hb dM_takeSupplier_64 (by decide) ?_
            refine lv_icmp_ne (tgt := 83) hx hb dM_takeSupplier_66 rfl (fun h24 => ?_) (fun h24 => ?_)
            · refine lv_iload_n hx hb dM_takeSupplier_83 rfl (lv_at hl 5 rfl) ?_
              refine lv_bipush (v := 8) hx hb dM_takeSupplier_84 (by decide) ?_
              refine lv_icmp_ne (tgt := 102) hx hb dM_takeSupplier_86 rfl (fun h25 => ?_) (fun h25 => ?_)
              · refine lv_iload_n hx hb dM_takeSupplier_102 rfl (lv_at hl 5 rfl) ?_
                refine lv_bipush (v := 9) hx hb dM_takeSupplier_103 (by decide) ?_
                refine lv_icmp_ne (tgt := 122) hx hb dM_takeSupplier_105 rfl (fun h26 => ?_) (fun h26 => ?_)
                · refine lv_iload_n hx hb dM_takeSupplier_122 rfl (lv_at hl 5 rfl) ?_
                  refine lv_bipush (v := 12) hx hb dM_takeSupplier_123 (by decide) ?_
                  refine lv_icmp_ne (tgt := 141) hx hb dM_takeSupplier_125 rfl (fun h27 => ?_) (fun h27 => ?_)
                  · refine lv_iload_n hx hb dM_takeSupplier_141 rfl (lv_at hl 5 rfl) ?_
                    refine lv_bipush (v := 14) hx hb dM_takeSupplier_142 (by decide) ?_
                    refine lv_icmp_ne (tgt := 182) hx hb dM_takeSupplier_144 rfl (fun h28 => ?_) (fun h28 => ?_)
                    · refine lv_iload_n hx hb dM_takeSupplier_182 rfl (lv_at hl 5 rfl) ?_
                      refine lv_bipush (v := 15) hx hb dM_takeSupplier_183 (by decide) ?_
                      refine lv_icmp_ne (tgt := 224) hx hb dM_takeSupplier_185 rfl (fun h29 => ?_) (fun h29 => ?_)
                      · exact er_vret hx hb hr hlocks hV hS dM_takeSupplier_224 (Eq.symm (by unfold s_takeSupplier; simp only [if_neg h1, if_neg h11, if_neg h21, if_neg h22, if_neg h23, if_neg h24, if_neg h25, if_neg h26, if_neg h27, if_neg h28, if_neg h29]))
                      · refine lv_iload hx hb dM_takeSupplier_188 (lv_at hl 1 rfl) ?_
                        refine lv_if_le (tgt := 224) hx hb dM_takeSupplier_190 rfl (fun h30 => ?_) (fun h30 => ?_)
                        · exact er_vret hx hb hr hlocks hV hS dM_takeSupplier_224 (Eq.symm (by unfold s_takeSupplier; simp only [if_neg h1, if_neg h11, if_neg h21, if_neg h22, if_neg h23, if_neg h24, if_neg h25, if_neg h26, if_neg h27, if_neg h28, if_pos h29, if_pos h30]))
                        · refine lv_iload hx hb dM_takeSupplier_193 (lv_at hl 1 rfl) ?_
                          refine lv_iconst (v := 4) hx hb dM_takeSupplier_195 (by decide) ?_
                          refine lv_icmp_ge (tgt := 224) hx hb dM_takeSupplier_196 rfl (fun h31 => ?_) (fun h31 => ?_)
                          · exact er_vret hx hb hr hlocks hV hS dM_takeSupplier_224 (Eq.symm (by unfold s_takeSupplier; simp only [if_neg h1, if_neg h11, if_neg h21, if_neg h22, if_neg h23, if_neg h24, if_neg h25, if_neg h26, if_neg h27, if_neg h28, if_pos h29, if_neg h30, if_pos h31]))
                          · refine lv_aload_n hx hb dM_takeSupplier_199 rfl (lv_at hl 2 rfl) ?_
                            refine lv_iload_n hx hb dM_takeSupplier_200 rfl (lv_at hl 4 rfl) ?_
                            refine er_callv (va_runV (As := [.int (nI k)]) (rest := []) ⟨hx, hb, hml, hown, hts⟩ (r_letGo l D T X L tg _ hE A k hk hcp) (cwV 1 hts gM_169 rfl rfl rfl (by decide +kernel) ⟨Nat.le_of_ble_eq_true rfl, Nat.le_of_ble_eq_true rfl⟩) (er_preV hK hV hi0 (cR_0 _ _ _) rfl) rfl rfl hl.1 rfl (lv_room (Nat.le_of_ble_eq_true rfl)) dM_takeSupplier_201 ⟨Nat.le_of_ble_eq_true rfl, Nat.le_of_ble_eq_true rfl⟩) hV hS hA (fun u32 H locs eu32 hV hS => ?_)
                            have eu32 : u32 = s_letGo A k := eu32
                            refine lv_aload_n hx hb dM_takeSupplier_204 rfl (lv_at hl 2 rfl) ?_
                            refine ew_get (v := .ref (X 23 0)) hx hb hts hown hK hV fM_62 hi0 (cR_0 _ _ _) rfl dM_takeSupplier_205 ?_
                            refine lv_iload_n hx hb dM_takeSupplier_208 rfl (lv_at hl 4 rfl) ?_
                            refine lv_bipush (v := 11) hx hb dM_takeSupplier_209 (by decide) ?_
                            refine ew_iast hx hb hK hV hS (hE 23 (by decide)) (cR_23 _ _ _) 0 rfl (vp_in_nI (by omega) (by decide)) k (nI_clamp (by omega)) (qR_23 _ _ _ _ _) dM_takeSupplier_211 (fun H locs hV hS => ?_)
                            refine lv_aload_n hx hb dM_takeSupplier_212 rfl (lv_at hl 2 rfl) ?_
                            refine lv_iconst (v := 2) hx hb dM_takeSupplier_213 (by decide) ?_
                            refine lv_iload_n hx hb dM_takeSupplier_214 rfl (lv_at hl 4 rfl) ?_
                            refine lv_imul hx hb dM_takeSupplier_215 ?_
                            refine lv_toe (y := nI (2 * k)) (pk_mul 2 k) ?_
                            refine lv_iconst (v := 1) hx hb dM_takeSupplier_216 (by decide) ?_
                            refine lv_iadd hx hb dM_takeSupplier_217 ?_
                            refine lv_toe (y := nI ((2 * k) + 1)) (nI_add (2 * k) 1) ?_
                            refine lv_bipush (v := 16) hx hb dM_takeSupplier_218 (by decide) ?_
                            refine lv_iconst (v := 0) hx hb dM_takeSupplier_220 (by decide) ?_
                            refine er_callv (va_runV (As := [.int (nI ((2 * k) + 1)), .int 16, .int 0]) (rest := []) ⟨hx, hb, hml, hown, hts⟩ (r_write l D T X L tg _ hE (up3 u32 23 0 k 11) ((2 * k) + 1) 16 0 w lg (by omega) hw (by first | (rw [eu32]; exact ((s_letGo_lt _ _ (by decide) (by decide) _ _).trans hq)) | exact ((s_letGo_lt _ _ (by decide) (by decide) _ _).trans hq)) hlg (by first | (rw [eu32]; exact ((s_letGo_lt _ _ (by decide) (by decide) _ _).trans hg)) | exact ((s_letGo_lt _ _ (by decide) (by decide) _ _).trans hg))) (cwV 3 hts gM_138 rfl rfl rfl (by decide +kernel) ⟨Nat.le_of_ble_eq_true rfl, Nat.le_of_ble_eq_true rfl⟩) (er_preV hK hV hi0 (cR_0 _ _ _) rfl) rfl rfl hl.1 rfl (lv_room (Nat.le_of_ble_eq_true rfl)) dM_takeSupplier_221 ⟨Nat.le_of_ble_eq_true rfl, Nat.le_of_ble_eq_true rfl⟩) hV hS hA (fun u33 H locs eu33 hV hS => ?_)
                            have eu33 : u33 = s_write (up3 u32 23 0 k 11) ((2 * k) + 1) 16 0 w lg := eu33
                            subst eu33
                            subst eu32
                            exact er_vret hx hb hr hlocks hV hS dM_takeSupplier_224 (Eq.symm (by unfold s_takeSupplier; simp only [if_neg h1, if_neg h11, if_neg h21, if_neg h22, if_neg h23, if_neg h24, if_neg h25, if_neg h26, if_neg h27, if_neg h28, if_pos h29, if_neg h30, if_neg h31]))
                    · refine lv_iload hx hb dM_takeSupplier_147 (lv_at hl 0 rfl) ?_
                      refine lv_if_eq (tgt := 182) hx hb dM_takeSupplier_149 rfl (fun _ => ?_) (fun h9 => absurd (by decide) h9)
                      refine lv_iload_n hx hb dM_takeSupplier_182 rfl (lv_at hl 5 rfl) ?_
                      refine lv_bipush (v := 15) hx hb dM_takeSupplier_183 (by decide) ?_
                      refine lv_icmp_ne (tgt := 224) hx hb dM_takeSupplier_185 rfl (fun _ => ?_) (fun h9 => absurd h9 (by rw [h28]; decide))
                      exact er_vret hx hb hr hlocks hV hS dM_takeSupplier_224 (Eq.symm (by unfold s_takeSupplier; simp only [if_neg h1, if_neg h11, if_neg h21, if_neg h22, if_neg h23, if_neg h24, if_neg h25, if_neg h26, if_neg h27, if_pos h28]))
                  · refine lv_iload hx hb dM_takeSupplier_128 (lv_at hl 0 rfl) ?_
                    refine lv_if_eq (tgt := 141) hx hb dM_takeSupplier_130 rfl (fun _ => ?_) (fun h9 => absurd (by decide) h9)
                    refine lv_iload_n hx hb dM_takeSupplier_141 rfl (lv_at hl 5 rfl) ?_
                    refine lv_bipush (v := 14) hx hb dM_takeSupplier_142 (by decide) ?_
                    refine lv_icmp_ne (tgt := 182) hx hb dM_takeSupplier_144 rfl (fun _ => ?_) (fun h9 => absurd h9 (by rw [h27]; decide))
                    refine lv_iload_n hx hb dM_takeSupplier_182 rfl (lv_at hl 5 rfl) ?_
                    refine lv_bipush (v := 15) hx hb dM_takeSupplier_183 (by decide) ?_
                    refine lv_icmp_ne (tgt := 224) hx hb dM_takeSupplier_185 rfl (fun _ => ?_) (fun h9 => absurd h9 (by rw [h27]; decide))
                    exact er_vret hx hb hr hlocks hV hS dM_takeSupplier_224 (Eq.symm (by unfold s_takeSupplier; simp only [if_neg h1, if_neg h11, if_neg h21, if_neg h22, if_neg h23, if_neg h24, if_neg h25, if_neg h26, if_pos h27]))
                · refine lv_iload hx hb dM_takeSupplier_108 (lv_at hl 1 rfl) ?_
                  refine lv_iconst (v := 5) hx hb dM_takeSupplier_110 (by decide) ?_
                  refine lv_icmp_ne (tgt := 122) hx hb dM_takeSupplier_111 rfl (fun _ => ?_) (fun h9 => absurd h9 h1)
                  refine lv_iload_n hx hb dM_takeSupplier_122 rfl (lv_at hl 5 rfl) ?_
                  refine lv_bipush (v := 12) hx hb dM_takeSupplier_123 (by decide) ?_
                  refine lv_icmp_ne (tgt := 141) hx hb dM_takeSupplier_125 rfl (fun _ => ?_) (fun h9 => absurd h9 (by rw [h26]; decide))
                  refine lv_iload_n hx hb dM_takeSupplier_141 rfl (lv_at hl 5 rfl) ?_
                  refine lv_bipush (v := 14) hx hb dM_takeSupplier_142 (by decide) ?_
                  refine lv_icmp_ne (tgt := 182) hx hb dM_takeSupplier_144 rfl (fun _ => ?_) (fun h9 => absurd h9 (by rw [h26]; decide))
                  refine lv_iload_n hx hb dM_takeSupplier_182 rfl (lv_at hl 5 rfl) ?_
                  refine lv_bipush (v := 15) hx hb dM_takeSupplier_183 (by decide) ?_
                  refine lv_icmp_ne (tgt := 224) hx hb dM_takeSupplier_185 rfl (fun _ => ?_) (fun h9 => absurd h9 (by rw [h26]; decide))
                  exact er_vret hx hb hr hlocks hV hS dM_takeSupplier_224 (Eq.symm (by unfold s_takeSupplier; simp only [if_neg h1, if_neg h11, if_neg h21, if_neg h22, if_neg h23, if_neg h24, if_neg h25, if_pos h26]))
              · refine lv_iload hx hb dM_takeSupplier_89 (lv_at hl 1 rfl) ?_
                refine lv_iconst (v := 4) hx hb dM_takeSupplier_91 (by decide) ?_
                refine lv_icmp_ne (tgt := 102) hx hb dM_takeSupplier_92 rfl (fun h34 => ?_) (fun h34 => ?_)
                · refine lv_iload_n hx hb dM_takeSupplier_102 rfl (lv_at hl 5 rfl) ?_
                  refine lv_bipush (v := 9) hx hb dM_takeSupplier_103 (by decide) ?_
                  refine lv_icmp_ne (tgt := 122) hx hb dM_takeSupplier_105 rfl (fun _ => ?_) (fun h9 => absurd h9 (by rw [h25]; decide))
                  refine lv_iload_n hx hb dM_takeSupplier_122 rfl (lv_at hl 5 rfl) ?_
                  refine lv_bipush (v := 12) hx hb dM_takeSupplier_123 (by decide) ?_
                  refine lv_icmp_ne (tgt := 141) hx hb dM_takeSupplier_125 rfl (fun _ => ?_) (fun h9 => absurd h9 (by rw [h25]; decide))
                  refine lv_iload_n hx hb dM_takeSupplier_141 rfl (lv_at hl 5 rfl) ?_
                  refine lv_bipush (v := 14) hx hb dM_takeSupplier_142 (by decide) ?_
                  refine lv_icmp_ne (tgt := 182) hx hb dM_takeSupplier_144 rfl (fun _ => ?_) (fun h9 => absurd h9 (by rw [h25]; decide))
                  refine lv_iload_n hx hb dM_takeSupplier_182 rfl (lv_at hl 5 rfl) ?_
                  refine lv_bipush (v := 15) hx hb dM_takeSupplier_183 (by decide) ?_
                  refine lv_icmp_ne (tgt := 224) hx hb dM_takeSupplier_185 rfl (fun _ => ?_) (fun h9 => absurd h9 (by rw [h25]; decide))
                  exact er_vret hx hb hr hlocks hV hS dM_takeSupplier_224 (Eq.symm (by unfold s_takeSupplier; simp only [if_neg h1, if_neg h11, if_neg h21, if_neg h22, if_neg h23, if_neg h24, if_pos h25, if_neg h34]))
                · refine lv_aload_n hx hb dM_takeSupplier_95 rfl (lv_at hl 2 rfl) ?_
                  refine ew_get (v := .ref (X 23 0)) hx hb hts hown hK hV fM_62 hi0 (cR_0 _ _ _) rfl dM_takeSupplier_96 ?_
                  refine lv_iload_n hx hb dM_takeSupplier_99 rfl (lv_at hl 4 rfl) ?_
                  refine lv_iconst (v := 5) hx hb dM_takeSupplier_100 (by decide) ?_
                  refine ew_iast hx hb hK hV hS (hE 23 (by decide)) (cR_23 _ _ _) 0 rfl (vp_in_nI (by omega) (by decide)) k (nI_clamp (by omega)) (qR_23 _ _ _ _ _) dM_takeSupplier_101 (fun H locs hV hS => ?_)
                  refine lv_iload_n hx hb dM_takeSupplier_102 rfl (lv_at hl 5 rfl) ?_
                  refine lv_bipush (v := 9) hx hb dM_takeSupplier_103 (by decide) ?_
                  refine lv_icmp_ne (tgt := 122) hx hb dM_takeSupplier_105 rfl (fun _ => ?_) (fun h9 => absurd h9 (by rw [h25]; decide))
                  refine lv_iload_n hx hb dM_takeSupplier_122 rfl (lv_at hl 5 rfl) ?_
                  refine lv_bipush (v := 12) hx hb dM_takeSupplier_123 (by decide) ?_
                  refine lv_icmp_ne (tgt := 141) hx hb dM_takeSupplier_125 rfl (fun _ => ?_) (fun h9 => absurd h9 (by rw [h25]; decide))
                  refine lv_iload_n hx hb dM_takeSupplier_141 rfl (lv_at hl 5 rfl) ?_
                  refine lv_bipush (v := 14) hx hb dM_takeSupplier_142 (by decide) ?_
                  refine lv_icmp_ne (tgt := 182) hx hb dM_takeSupplier_144 rfl (fun _ => ?_) (fun h9 => absurd h9 (by rw [h25]; decide))
                  refine lv_iload_n hx hb dM_takeSupplier_182 rfl (lv_at hl 5 rfl) ?_
                  refine lv_bipush (v := 15) hx hb dM_takeSupplier_183 (by decide) ?_
                  refine lv_icmp_ne (tgt := 224) hx hb dM_takeSupplier_185 rfl (fun _ => ?_) (fun h9 => absurd h9 (by rw [h25]; decide))
                  exact er_vret hx hb hr hlocks hV hS dM_takeSupplier_224 (Eq.symm (by unfold s_takeSupplier; simp only [if_neg h1, if_neg h11, if_neg h21, if_neg h22, if_neg h23, if_neg h24, if_pos h25, if_pos h34]))
            · refine lv_iload hx hb dM_takeSupplier_69 (lv_at hl 1 rfl) ?_
              refine lv_iconst (v := 2) hx hb dM_takeSupplier_71 (by decide) ?_
              refine lv_icmp_ne (tgt := 83) hx hb dM_takeSupplier_72 rfl (fun h35 => ?_) (fun h35 => ?_)
              · refine lv_iload_n hx hb dM_takeSupplier_83 rfl (lv_at hl 5 rfl) ?_
                refine lv_bipush (v := 8) hx hb dM_takeSupplier_84 (by decide) ?_
                refine lv_icmp_ne (tgt := 102) hx hb dM_takeSupplier_86 rfl (fun _ => ?_) (fun h9 => absurd h9 (by rw [h24]; decide))
                refine lv_iload_n hx hb dM_takeSupplier_102 rfl (lv_at hl 5 rfl) ?_
                refine lv_bipush (v := 9) hx hb dM_takeSupplier_103 (by decide) ?_
                refine lv_icmp_ne (tgt := 122) hx hb dM_takeSupplier_105 rfl (fun _ => ?_) (fun h9 => absurd h9 (by rw [h24]; decide))
                refine lv_iload_n hx hb dM_takeSupplier_122 rfl (lv_at hl 5 rfl) ?_
                refine lv_bipush (v := 12) hx hb dM_takeSupplier_123 (by decide) ?_
                refine lv_icmp_ne (tgt := 141) hx hb dM_takeSupplier_125 rfl (fun _ => ?_) (fun h9 => absurd h9 (by rw [h24]; decide))
                refine lv_iload_n hx hb dM_takeSupplier_141 rfl (lv_at hl 5 rfl) ?_
                refine lv_bipush (v := 14) hx hb dM_takeSupplier_142 (by decide) ?_
                refine lv_icmp_ne (tgt := 182) hx hb dM_takeSupplier_144 rfl (fun _ => ?_) (fun h9 => absurd h9 (by rw [h24]; decide))
                refine lv_iload_n hx hb dM_takeSupplier_182 rfl (lv_at hl 5 rfl) ?_
                refine lv_bipush (v := 15) hx hb dM_takeSupplier_183 (by decide) ?_
                refine lv_icmp_ne (tgt := 224) hx hb dM_takeSupplier_185 rfl (fun _ => ?_) (fun h9 => absurd h9 (by rw [h24]; decide))
                exact er_vret hx hb hr hlocks hV hS dM_takeSupplier_224 (Eq.symm (by unfold s_takeSupplier; simp only [if_neg h1, if_neg h11, if_neg h21, if_neg h22, if_neg h23, if_pos h24, if_neg h35]))
              · refine lv_aload_n hx hb dM_takeSupplier_75 rfl (lv_at hl 2 rfl) ?_
                refine ew_get (v := .ref (X 23 0)) hx hb hts hown hK hV fM_62 hi0 (cR_0 _ _ _) rfl dM_takeSupplier_76 ?_
                refine lv_iload_n hx hb dM_takeSupplier_79 rfl (lv_at hl 4 rfl) ?_
                refine lv_bipush (v := 10) hx hb dM_takeSupplier_80 (by decide) ?_
                refine ew_iast hx hb hK hV hS (hE 23 (by decide)) (cR_23 _ _ _) 0 rfl (vp_in_nI (by omega) (by decide)) k (nI_clamp (by omega)) (qR_23 _ _ _ _ _) dM_takeSupplier_82 (fun H locs hV hS => ?_)
                refine lv_iload_n hx hb dM_takeSupplier_83 rfl (lv_at hl 5 rfl) ?_
                refine lv_bipush (v := 8) hx hb dM_takeSupplier_84 (by decide) ?_
                refine lv_icmp_ne (tgt := 102) hx hb dM_takeSupplier_86 rfl (fun _ => ?_) (fun h9 => absurd h9 (by rw [h24]; decide))
                refine lv_iload_n hx hb dM_takeSupplier_102 rfl (lv_at hl 5 rfl) ?_
                refine lv_bipush (v := 9) hx hb dM_takeSupplier_103 (by decide) ?_
                refine lv_icmp_ne (tgt := 122) hx hb dM_takeSupplier_105 rfl (fun _ => ?_) (fun h9 => absurd h9 (by rw [h24]; decide))
                refine lv_iload_n hx hb dM_takeSupplier_122 rfl (lv_at hl 5 rfl) ?_
                refine lv_bipush (v := 12) hx hb dM_takeSupplier_123 (by decide) ?_
                refine lv_icmp_ne (tgt := 141) hx hb dM_takeSupplier_125 rfl (fun _ => ?_) (fun h9 => absurd h9 (by rw [h24]; decide))
                refine lv_iload_n hx hb dM_takeSupplier_141 rfl (lv_at hl 5 rfl) ?_
                refine lv_bipush (v := 14) hx hb dM_takeSupplier_142 (by decide) ?_
                refine lv_icmp_ne (tgt := 182) hx hb dM_takeSupplier_144 rfl (fun _ => ?_) (fun h9 => absurd h9 (by rw [h24]; decide))
                refine lv_iload_n hx hb dM_takeSupplier_182 rfl (lv_at hl 5 rfl) ?_
                refine lv_bipush (v := 15) hx hb dM_takeSupplier_183 (by decide) ?_
                refine lv_icmp_ne (tgt := 224) hx hb dM_takeSupplier_185 rfl (fun _ => ?_) (fun h9 => absurd h9 (by rw [h24]; decide))
                exact er_vret hx hb hr hlocks hV hS dM_takeSupplier_224 (Eq.symm (by unfold s_takeSupplier; simp only [if_neg h1, if_neg h11, if_neg h21, if_neg h22, if_neg h23, if_pos h24, if_pos h35]))
          · refine lv_iload hx hb dM_takeSupplier_50 (lv_at hl 1 rfl) ?_
            refine lv_iconst (v := 2) hx hb dM_takeSupplier_52 (by decide) ?_
            refine lv_icmp_ne (tgt := 63) hx hb dM_takeSupplier_53 rfl (fun h36 => ?_) (fun h36 => ?_)
            · refine lv_iload_n hx hb dM_takeSupplier_63 rfl (lv_at hl 5 rfl) ?_
              refine lv_bipush (v := 6) hx hb dM_takeSupplier_64 (by decide) ?_
              refine lv_icmp_ne (tgt := 83) hx hb dM_takeSupplier_66 rfl (fun _ => ?_) (fun h9 => absurd h9 (by rw [h23]; decide))
              refine lv_iload_n hx hb dM_takeSupplier_83 rfl (lv_at hl 5 rfl) ?_
              refine lv_bipush (v := 8) hx hb dM_takeSupplier_84 (by decide) ?_
              refine lv_icmp_ne (tgt := 102) hx hb dM_takeSupplier_86 rfl (fun _ => ?_) (fun h9 => absurd h9 (by rw [h23]; decide))
              refine lv_iload_n hx hb dM_takeSupplier_102 rfl (lv_at hl 5 rfl) ?_
              refine lv_bipush (v := 9) hx hb dM_takeSupplier_103 (by decide) ?_
              refine lv_icmp_ne (tgt := 122) hx hb dM_takeSupplier_105 rfl (fun _ => ?_) (fun h9 => absurd h9 (by rw [h23]; decide))
              refine lv_iload_n hx hb dM_takeSupplier_122 rfl (lv_at hl 5 rfl) ?_
              refine lv_bipush (v := 12) hx hb dM_takeSupplier_123 (by decide) ?_
              refine lv_icmp_ne (tgt := 141) hx hb dM_takeSupplier_125 rfl (fun _ => ?_) (fun h9 => absurd h9 (by rw [h23]; decide))
              refine lv_iload_n hx hb dM_takeSupplier_141 rfl (lv_at hl 5 rfl) ?_
              refine lv_bipush (v := 14) hx hb dM_takeSupplier_142 (by decide) ?_
              refine lv_icmp_ne (tgt := 182) hx hb dM_takeSupplier_144 rfl (fun _ => ?_) (fun h9 => absurd h9 (by rw [h23]; decide))
              refine lv_iload_n hx hb dM_takeSupplier_182 rfl (lv_at hl 5 rfl) ?_
              refine lv_bipush (v := 15) hx hb dM_takeSupplier_183 (by decide) ?_
              refine lv_icmp_ne (tgt := 224) hx hb dM_takeSupplier_185 rfl (fun _ => ?_) (fun h9 => absurd h9 (by rw [h23]; decide))
              exact er_vret hx hb hr hlocks hV hS dM_takeSupplier_224 (Eq.symm (by unfold s_takeSupplier; simp only [if_neg h1, if_neg h11, if_neg h21, if_neg h22, if_pos h23, if_neg h36]))
            · refine lv_aload_n hx hb dM_takeSupplier_56 rfl (lv_at hl 2 rfl) ?_
              refine ew_get (v := .ref (X 23 0)) hx hb hts hown hK hV fM_62 hi0 (cR_0 _ _ _) rfl dM_takeSupplier_57 ?_
              refine lv_iload_n hx hb dM_takeSupplier_60 rfl (lv_at hl 4 rfl) ?_
              refine lv_iconst (v := 1) hx hb dM_takeSupplier_61 (by decide) ?_
              refine ew_iast hx hb hK hV hS (hE 23 (by decide)) (cR_23 _ _ _) 0 rfl (vp_in_nI (by omega) (by decide)) k (nI_clamp (by omega)) (qR_23 _ _ _ _ _) dM_takeSupplier_62 (fun H locs hV hS => ?_)
              refine lv_iload_n hx hb dM_takeSupplier_63 rfl (lv_at hl 5 rfl) ?_
              refine lv_bipush (v := 6) hx hb dM_takeSupplier_64 (by decide) ?_
              refine lv_icmp_ne (tgt := 83) hx hb dM_takeSupplier_66 rfl (fun _ => ?_) (fun h9 => absurd h9 (by rw [h23]; decide))
              refine lv_iload_n hx hb dM_takeSupplier_83 rfl (lv_at hl 5 rfl) ?_
              refine lv_bipush (v := 8) hx hb dM_takeSupplier_84 (by decide) ?_
              refine lv_icmp_ne (tgt := 102) hx hb dM_takeSupplier_86 rfl (fun _ => ?_) (fun h9 => absurd h9 (by rw [h23]; decide))
              refine lv_iload_n hx hb dM_takeSupplier_102 rfl (lv_at hl 5 rfl) ?_
              refine lv_bipush (v := 9) hx hb dM_takeSupplier_103 (by decide) ?_
              refine lv_icmp_ne (tgt := 122) hx hb dM_takeSupplier_105 rfl (fun _ => ?_) (fun h9 => absurd h9 (by rw [h23]; decide))
              refine lv_iload_n hx hb dM_takeSupplier_122 rfl (lv_at hl 5 rfl) ?_
              refine lv_bipush (v := 12) hx hb dM_takeSupplier_123 (by decide) ?_
              refine lv_icmp_ne (tgt := 141) hx hb dM_takeSupplier_125 rfl (fun _ => ?_) (fun h9 => absurd h9 (by rw [h23]; decide))
              refine lv_iload_n hx hb dM_takeSupplier_141 rfl (lv_at hl 5 rfl) ?_
              refine lv_bipush (v := 14) hx hb dM_takeSupplier_142 (by decide) ?_
              refine lv_icmp_ne (tgt := 182) hx hb dM_takeSupplier_144 rfl (fun _ => ?_) (fun h9 => absurd h9 (by rw [h23]; decide))
              refine lv_iload_n hx hb dM_takeSupplier_182 rfl (lv_at hl 5 rfl) ?_
              refine lv_bipush (v := 15) hx hb dM_takeSupplier_183 (by decide) ?_
              refine lv_icmp_ne (tgt := 224) hx hb dM_takeSupplier_185 rfl (fun _ => ?_) (fun h9 => absurd h9 (by rw [h23]; decide))
              exact er_vret hx hb hr hlocks hV hS dM_takeSupplier_224 (Eq.symm (by unfold s_takeSupplier; simp only [if_neg h1, if_neg h11, if_neg h21, if_neg h22, if_pos h23, if_pos h36]))
        · refine lv_iload hx hb dM_takeSupplier_40 (lv_at hl 1 rfl) ?_
          refine lv_if_eq (tgt := 56) hx hb dM_takeSupplier_42 rfl (fun h37 => ?_) (fun h37 => ?_)
          · refine lv_aload_n hx hb dM_takeSupplier_56 rfl (lv_at hl 2 rfl) ?_
            refine ew_get (v := .ref (X 23 0)) hx hb hts hown hK hV fM_62 hi0 (cR_0 _ _ _) rfl dM_takeSupplier_57 ?_
            refine lv_iload_n hx hb dM_takeSupplier_60 rfl (lv_at hl 4 rfl) ?_
            refine lv_iconst (v := 1) hx hb dM_takeSupplier_61 (by decide) ?_
            refine ew_iast hx hb hK hV hS (hE 23 (by decide)) (cR_23 _ _ _) 0 rfl (vp_in_nI (by omega) (by decide)) k (nI_clamp (by omega)) (qR_23 _ _ _ _ _) dM_takeSupplier_62 (fun H locs hV hS => ?_)
            refine lv_iload_n hx hb dM_takeSupplier_63 rfl (lv_at hl 5 rfl) ?_
            refine lv_bipush (v := 6) hx hb dM_takeSupplier_64 (by decide) ?_
            refine lv_icmp_ne (tgt := 83) hx hb dM_takeSupplier_66 rfl (fun _ => ?_) (fun h9 => absurd h9 (by rw [h22]; decide))
            refine lv_iload_n hx hb dM_takeSupplier_83 rfl (lv_at hl 5 rfl) ?_
            refine lv_bipush (v := 8) hx hb dM_takeSupplier_84 (by decide) ?_
            refine lv_icmp_ne (tgt := 102) hx hb dM_takeSupplier_86 rfl (fun _ => ?_) (fun h9 => absurd h9 (by rw [h22]; decide))
            refine lv_iload_n hx hb dM_takeSupplier_102 rfl (lv_at hl 5 rfl) ?_
            refine lv_bipush (v := 9) hx hb dM_takeSupplier_103 (by decide) ?_
            refine lv_icmp_ne (tgt := 122) hx hb dM_takeSupplier_105 rfl (fun _ => ?_) (fun h9 => absurd h9 (by rw [h22]; decide))
            refine lv_iload_n hx hb dM_takeSupplier_122 rfl (lv_at hl 5 rfl) ?_
            refine lv_bipush (v := 12) hx hb dM_takeSupplier_123 (by decide) ?_
            refine lv_icmp_ne (tgt := 141) hx hb dM_takeSupplier_125 rfl (fun _ => ?_) (fun h9 => absurd h9 (by rw [h22]; decide))
            refine lv_iload_n hx hb dM_takeSupplier_141 rfl (lv_at hl 5 rfl) ?_
            refine lv_bipush (v := 14) hx hb dM_takeSupplier_142 (by decide) ?_
            refine lv_icmp_ne (tgt := 182) hx hb dM_takeSupplier_144 rfl (fun _ => ?_) (fun h9 => absurd h9 (by rw [h22]; decide))
            refine lv_iload_n hx hb dM_takeSupplier_182 rfl (lv_at hl 5 rfl) ?_
            refine lv_bipush (v := 15) hx hb dM_takeSupplier_183 (by decide) ?_
            refine lv_icmp_ne (tgt := 224) hx hb dM_takeSupplier_185 rfl (fun _ => ?_) (fun h9 => absurd h9 (by rw [h22]; decide))
            exact er_vret hx hb hr hlocks hV hS dM_takeSupplier_224 (Eq.symm (by unfold s_takeSupplier; simp only [if_neg h1, if_neg h11, if_neg h21, if_pos h22, if_pos h37]))
          · refine lv_iload_n hx hb dM_takeSupplier_45 rfl (lv_at hl 5 rfl) ?_
            refine lv_iconst (v := 5) hx hb dM_takeSupplier_46 (by decide) ?_
            refine lv_icmp_ne (tgt := 63) hx hb dM_takeSupplier_47 rfl (fun _ => ?_) (fun h9 => absurd h9 (by rw [h22]; decide))
            refine lv_iload_n hx hb dM_takeSupplier_63 rfl (lv_at hl 5 rfl) ?_
            refine lv_bipush (v := 6) hx hb dM_takeSupplier_64 (by decide) ?_
            refine lv_icmp_ne (tgt := 83) hx hb dM_takeSupplier_66 rfl (fun _ => ?_) (fun h9 => absurd h9 (by rw [h22]; decide))
            refine lv_iload_n hx hb dM_takeSupplier_83 rfl (lv_at hl 5 rfl) ?_
            refine lv_bipush (v := 8) hx hb dM_takeSupplier_84 (by decide) ?_
            refine lv_icmp_ne (tgt := 102) hx hb dM_takeSupplier_86 rfl (fun _ => ?_) (fun h9 => absurd h9 (by rw [h22]; decide))
            refine lv_iload_n hx hb dM_takeSupplier_102 rfl (lv_at hl 5 rfl) ?_
            refine lv_bipush (v := 9) hx hb dM_takeSupplier_103 (by decide) ?_
            refine lv_icmp_ne (tgt := 122) hx hb dM_takeSupplier_105 rfl (fun _ => ?_) (fun h9 => absurd h9 (by rw [h22]; decide))
            refine lv_iload_n hx hb dM_takeSupplier_122 rfl (lv_at hl 5 rfl) ?_
            refine lv_bipush (v := 12) hx hb dM_takeSupplier_123 (by decide) ?_
            refine lv_icmp_ne (tgt := 141) hx hb dM_takeSupplier_125 rfl (fun _ => ?_) (fun h9 => absurd h9 (by rw [h22]; decide))
            refine lv_iload_n hx hb dM_takeSupplier_141 rfl (lv_at hl 5 rfl) ?_
            refine lv_bipush (v := 14) hx hb dM_takeSupplier_142 (by decide) ?_
            refine lv_icmp_ne (tgt := 182) hx hb dM_takeSupplier_144 rfl (fun _ => ?_) (fun h9 => absurd h9 (by rw [h22]; decide))
            refine lv_iload_n hx hb dM_takeSupplier_182 rfl (lv_at hl 5 rfl) ?_
            refine lv_bipush (v := 15) hx hb dM_takeSupplier_183 (by decide) ?_
            refine lv_icmp_ne (tgt := 224) hx hb dM_takeSupplier_185 rfl (fun _ => ?_) (fun h9 => absurd h9 (by rw [h22]; decide))
            exact er_vret hx hb hr hlocks hV hS dM_takeSupplier_224 (Eq.symm (by unfold s_takeSupplier; simp only [if_neg h1, if_neg h11, if_neg h21, if_pos h22, if_neg h37]))
      · refine lv_iconst (v := 1) hx hb dM_takeSupplier_28 (by decide) ?_
        refine lv_goto (tgt := 33) hx hb dM_takeSupplier_29 rfl ?_
        refine lv_istore (lv' := [(5, .int 1), (4, .int (A 23 0 k)), (0, .ref (X 0 0)), (1, .int (nI ln)), (2, .int (nI k)), (3, .int what)]) hx hb dM_takeSupplier_33 hl (by decide) rfl (fun ls hl => ?_)
        refine lv_iload_n hx hb dM_takeSupplier_35 rfl (lv_at hl 5 rfl) ?_
        refine lv_iconst (v := 1) hx hb dM_takeSupplier_36 (by decide) ?_
        refine lv_icmp_ne (tgt := 45) hx hb dM_takeSupplier_37 rfl (fun h38 => ?_) (fun h38 => ?_)
        · refine lv_iload_n hx hb dM_takeSupplier_45 rfl (lv_at hl 5 rfl) ?_
          refine lv_iconst (v := 5) hx hb dM_takeSupplier_46 (by decide) ?_
          refine lv_icmp_ne (tgt := 63) hx hb dM_takeSupplier_47 rfl (fun h39 => ?_) (fun h39 => ?_)
          · refine lv_iload_n hx hb dM_takeSupplier_63 rfl (lv_at hl 5 rfl) ?_
            refine lv_bipush (v := 6) hx hb dM_takeSupplier_64 (by decide) ?_
            refine lv_icmp_ne (tgt := 83) hx hb dM_takeSupplier_66 rfl (fun h40 => ?_) (fun h40 => ?_)
            · refine lv_iload_n hx hb dM_takeSupplier_83 rfl (lv_at hl 5 rfl) ?_
              refine lv_bipush (v := 8) hx hb dM_takeSupplier_84 (by decide) ?_
              refine lv_icmp_ne (tgt := 102) hx hb dM_takeSupplier_86 rfl (fun h41 => ?_) (fun h41 => ?_)
              · refine lv_iload_n hx hb dM_takeSupplier_102 rfl (lv_at hl 5 rfl) ?_
                refine lv_bipush (v := 9) hx hb dM_takeSupplier_103 (by decide) ?_
                refine lv_icmp_ne (tgt := 122) hx hb dM_takeSupplier_105 rfl (fun h42 => ?_) (fun h42 => ?_)
                · refine lv_iload_n hx hb dM_takeSupplier_122 rfl (lv_at hl 5 rfl) ?_
                  refine lv_bipush (v := 12) hx hb dM_takeSupplier_123 (by decide) ?_
                  refine lv_icmp_ne (tgt := 141) hx hb dM_takeSupplier_125 rfl (fun h43 => ?_) (fun h43 => ?_)
                  · refine lv_iload_n hx hb dM_takeSupplier_141 rfl (lv_at hl 5 rfl) ?_
                    refine lv_bipush (v := 14) hx hb dM_takeSupplier_142 (by decide) ?_
                    refine lv_icmp_ne (tgt := 182) hx hb dM_takeSupplier_144 rfl (fun h44 => ?_) (fun h44 => ?_)
                    · refine lv_iload_n hx hb dM_takeSupplier_182 rfl (lv_at hl 5 rfl) ?_
                      refine lv_bipush (v := 15) hx hb dM_takeSupplier_183 (by decide) ?_
                      refine lv_icmp_ne (tgt := 224) hx hb dM_takeSupplier_185 rfl (fun h45 => ?_) (fun h45 => ?_)
                      · exact er_vret hx hb hr hlocks hV hS dM_takeSupplier_224 (Eq.symm (by unfold s_takeSupplier; simp only [if_neg h1, if_neg h11, if_pos h21, if_neg h38, if_neg h39, if_neg h40, if_neg h41, if_neg h42, if_neg h43, if_neg h44, if_neg h45]))
                      · refine lv_iload hx hb dM_takeSupplier_188 (lv_at hl 1 rfl) ?_
                        refine lv_if_le (tgt := 224) hx hb dM_takeSupplier_190 rfl (fun h9 => absurd h9 (by rw [h21]; decide)) (fun _ => ?_)
                        refine lv_iload hx hb dM_takeSupplier_193 (lv_at hl 1 rfl) ?_
                        refine lv_iconst (v := 4) hx hb dM_takeSupplier_195 (by decide) ?_
                        refine lv_icmp_ge (tgt := 224) hx hb dM_takeSupplier_196 rfl (fun _ => ?_) (fun h9 => absurd (by rw [h21]; decide) h9)
                        exact er_vret hx hb hr hlocks hV hS dM_takeSupplier_224 (Eq.symm (by unfold s_takeSupplier; simp only [if_neg h1, if_neg h11, if_pos h21, if_neg h38, if_neg h39, if_neg h40, if_neg h41, if_neg h42, if_neg h43, if_neg h44, if_pos h45]))
                    · refine lv_iload hx hb dM_takeSupplier_147 (lv_at hl 0 rfl) ?_
                      refine lv_if_eq (tgt := 182) hx hb dM_takeSupplier_149 rfl (fun h9 => absurd h9 (by decide)) (fun _ => ?_)
                      refine lv_aload_n hx hb dM_takeSupplier_152 rfl (lv_at hl 2 rfl) ?_
                      refine ew_get (v := .ref (X 23 0)) hx hb hts hown hK hV fM_62 hi0 (cR_0 _ _ _) rfl dM_takeSupplier_153 ?_
                      refine lv_iload_n hx hb dM_takeSupplier_156 rfl (lv_at hl 4 rfl) ?_
                      refine lv_bipush (v := 12) hx hb dM_takeSupplier_157 (by decide) ?_
                      refine ew_iast hx hb hK hV hS (hE 23 (by decide)) (cR_23 _ _ _) 0 rfl (vp_in_nI (by omega) (by decide)) k (nI_clamp (by omega)) (qR_23 _ _ _ _ _) dM_takeSupplier_159 (fun H locs hV hS => ?_)
                      refine lv_aload_n hx hb dM_takeSupplier_160 rfl (lv_at hl 2 rfl) ?_
                      refine ew_get (v := .ref (X 6 0)) hx hb hts hown hK hV fM_7 hi0 (cR_0 _ _ _) rfl dM_takeSupplier_161 ?_
                      refine lv_iload_n hx hb dM_takeSupplier_164 rfl (lv_at hl 4 rfl) ?_
                      refine lv_bipush (v := 6) hx hb dM_takeSupplier_165 (by decide) ?_
                      refine lv_iload_n hx hb dM_takeSupplier_167 rfl (lv_at hl 3 rfl) ?_
                      refine lv_imul hx hb dM_takeSupplier_168 ?_
                      refine lv_toe (y := nI (6 * ln)) (pk_mul 6 ln) ?_
                      refine lv_isub hx hb dM_takeSupplier_169 ?_
                      refine lv_toe (y := nI (k - (6 * ln))) (pk_sub (a := k) (b := 6 * ln) (by omega)) ?_
                      refine lv_dup2_11 hx hb dM_takeSupplier_170 rfl rfl ?_
                      refine ew_iald (v := A 6 0 (k - (6 * ln))) hx hb hK hV (hE 6 (by decide)) (cR_6 _ _ _) 0 rfl (vp_in_nI (by omega) (by decide)) (er_ix (by omega) rfl) dM_takeSupplier_171 ?_
                      refine lv_sipush (v := 4000) hx hb dM_takeSupplier_172 (by decide) ?_
                      refine lv_iadd hx hb dM_takeSupplier_175 ?_
                      refine ew_iast hx hb hK hV hS (hE 6 (by decide)) (cR_6 _ _ _) 0 rfl (vp_in_nI (by omega) (by decide)) (k - (6 * ln)) (nI_clamp (by omega)) (qR_6 _ _ _ _ _) dM_takeSupplier_176 (fun H locs hV hS => ?_)
                      refine lv_aload_n hx hb dM_takeSupplier_177 rfl (lv_at hl 2 rfl) ?_
                      refine lv_iload_n hx hb dM_takeSupplier_178 rfl (lv_at hl 4 rfl) ?_
                      refine er_callv (va_runV (As := [.int (nI k)]) (rest := []) ⟨hx, hb, hml, hown, hts⟩ (r_letGo l D T X L tg _ hE (up3 (up3 A 23 0 k 12) 6 0 (k - (6 * ln)) ((A 6 0 (k - (6 * ln))) + 4000)) k hk hcp) (cwV 1 hts gM_169 rfl rfl rfl (by decide +kernel) ⟨Nat.le_of_ble_eq_true rfl, Nat.le_of_ble_eq_true rfl⟩) (er_preV hK hV hi0 (cR_0 _ _ _) rfl) rfl rfl hl.1 rfl (lv_room (Nat.le_of_ble_eq_true rfl)) dM_takeSupplier_179 ⟨Nat.le_of_ble_eq_true rfl, Nat.le_of_ble_eq_true rfl⟩) hV hS hA (fun u46 H locs eu46 hV hS => ?_)
                      have eu46 : u46 = s_letGo (up3 (up3 A 23 0 k 12) 6 0 (k - (6 * ln)) ((A 6 0 (k - (6 * ln))) + 4000)) k := eu46
                      refine lv_iload_n hx hb dM_takeSupplier_182 rfl (lv_at hl 5 rfl) ?_
                      refine lv_bipush (v := 15) hx hb dM_takeSupplier_183 (by decide) ?_
                      refine lv_icmp_ne (tgt := 224) hx hb dM_takeSupplier_185 rfl (fun _ => ?_) (fun h9 => absurd h9 (by rw [h44]; decide))
                      subst eu46
                      exact er_vret hx hb hr hlocks hV hS dM_takeSupplier_224 (Eq.symm (by unfold s_takeSupplier; simp only [if_neg h1, if_neg h11, if_pos h21, if_neg h38, if_neg h39, if_neg h40, if_neg h41, if_neg h42, if_neg h43, if_pos h44]))
                  · refine lv_iload hx hb dM_takeSupplier_128 (lv_at hl 0 rfl) ?_
                    refine lv_if_eq (tgt := 141) hx hb dM_takeSupplier_130 rfl (fun h9 => absurd h9 (by decide)) (fun _ => ?_)
                    refine lv_aload_n hx hb dM_takeSupplier_133 rfl (lv_at hl 2 rfl) ?_
                    refine ew_get (v := .ref (X 23 0)) hx hb hts hown hK hV fM_62 hi0 (cR_0 _ _ _) rfl dM_takeSupplier_134 ?_
                    refine lv_iload_n hx hb dM_takeSupplier_137 rfl (lv_at hl 4 rfl) ?_
                    refine lv_bipush (v := 8) hx hb dM_takeSupplier_138 (by decide) ?_
                    refine ew_iast hx hb hK hV hS (hE 23 (by decide)) (cR_23 _ _ _) 0 rfl (vp_in_nI (by omega) (by decide)) k (nI_clamp (by omega)) (qR_23 _ _ _ _ _) dM_takeSupplier_140 (fun H locs hV hS => ?_)
                    refine lv_iload_n hx hb dM_takeSupplier_141 rfl (lv_at hl 5 rfl) ?_
                    refine lv_bipush (v := 14) hx hb dM_takeSupplier_142 (by decide) ?_
                    refine lv_icmp_ne (tgt := 182) hx hb dM_takeSupplier_144 rfl (fun _ => ?_) (fun h9 => absurd h9 (by rw [h43]; decide))
                    refine lv_iload_n hx hb dM_takeSupplier_182 rfl (lv_at hl 5 rfl) ?_
                    refine lv_bipush (v := 15) hx hb dM_takeSupplier_183 (by decide) ?_
                    refine lv_icmp_ne (tgt := 224) hx hb dM_takeSupplier_185 rfl (fun _ => ?_) (fun h9 => absurd h9 (by rw [h43]; decide))
                    exact er_vret hx hb hr hlocks hV hS dM_takeSupplier_224 (Eq.symm (by unfold s_takeSupplier; simp only [if_neg h1, if_neg h11, if_pos h21, if_neg h38, if_neg h39, if_neg h40, if_neg h41, if_neg h42, if_pos h43]))
                · refine lv_iload hx hb dM_takeSupplier_108 (lv_at hl 1 rfl) ?_
                  refine lv_iconst (v := 5) hx hb dM_takeSupplier_110 (by decide) ?_
                  refine lv_icmp_ne (tgt := 122) hx hb dM_takeSupplier_111 rfl (fun _ => ?_) (fun h9 => absurd h9 h1)
                  refine lv_iload_n hx hb dM_takeSupplier_122 rfl (lv_at hl 5 rfl) ?_
                  refine lv_bipush (v := 12) hx hb dM_takeSupplier_123 (by decide) ?_
                  refine lv_icmp_ne (tgt := 141) hx hb dM_takeSupplier_125 rfl (fun _ => ?_) (fun h9 => absurd h9 (by rw [h42]; decide))
                  refine lv_iload_n hx hb dM_takeSupplier_141 rfl (lv_at hl 5 rfl) ?_
                  refine lv_bipush (v := 14) hx hb dM_takeSupplier_142 (by decide) ?_
                  refine lv_icmp_ne (tgt := 182) hx hb dM_takeSupplier_144 rfl (fun _ => ?_) (fun h9 => absurd h9 (by rw [h42]; decide))
                  refine lv_iload_n hx hb dM_takeSupplier_182 rfl (lv_at hl 5 rfl) ?_
                  refine lv_bipush (v := 15) hx hb dM_takeSupplier_183 (by decide) ?_
                  refine lv_icmp_ne (tgt := 224) hx hb dM_takeSupplier_185 rfl (fun _ => ?_) (fun h9 => absurd h9 (by rw [h42]; decide))
                  exact er_vret hx hb hr hlocks hV hS dM_takeSupplier_224 (Eq.symm (by unfold s_takeSupplier; simp only [if_neg h1, if_neg h11, if_pos h21, if_neg h38, if_neg h39, if_neg h40, if_neg h41, if_pos h42]))
              · refine lv_iload hx hb dM_takeSupplier_89 (lv_at hl 1 rfl) ?_
                refine lv_iconst (v := 4) hx hb dM_takeSupplier_91 (by decide) ?_
                refine lv_icmp_ne (tgt := 102) hx hb dM_takeSupplier_92 rfl (fun _ => ?_) (fun h9 => absurd h9 (by rw [h21]; decide))
                refine lv_iload_n hx hb dM_takeSupplier_102 rfl (lv_at hl 5 rfl) ?_
                refine lv_bipush (v := 9) hx hb dM_takeSupplier_103 (by decide) ?_
                refine lv_icmp_ne (tgt := 122) hx hb dM_takeSupplier_105 rfl (fun _ => ?_) (fun h9 => absurd h9 (by rw [h41]; decide))
                refine lv_iload_n hx hb dM_takeSupplier_122 rfl (lv_at hl 5 rfl) ?_
                refine lv_bipush (v := 12) hx hb dM_takeSupplier_123 (by decide) ?_
                refine lv_icmp_ne (tgt := 141) hx hb dM_takeSupplier_125 rfl (fun _ => ?_) (fun h9 => absurd h9 (by rw [h41]; decide))
                refine lv_iload_n hx hb dM_takeSupplier_141 rfl (lv_at hl 5 rfl) ?_
                refine lv_bipush (v := 14) hx hb dM_takeSupplier_142 (by decide) ?_
                refine lv_icmp_ne (tgt := 182) hx hb dM_takeSupplier_144 rfl (fun _ => ?_) (fun h9 => absurd h9 (by rw [h41]; decide))
                refine lv_iload_n hx hb dM_takeSupplier_182 rfl (lv_at hl 5 rfl) ?_
                refine lv_bipush (v := 15) hx hb dM_takeSupplier_183 (by decide) ?_
                refine lv_icmp_ne (tgt := 224) hx hb dM_takeSupplier_185 rfl (fun _ => ?_) (fun h9 => absurd h9 (by rw [h41]; decide))
                exact er_vret hx hb hr hlocks hV hS dM_takeSupplier_224 (Eq.symm (by unfold s_takeSupplier; simp only [if_neg h1, if_neg h11, if_pos h21, if_neg h38, if_neg h39, if_neg h40, if_pos h41]))
            · refine lv_iload hx hb dM_takeSupplier_69 (lv_at hl 1 rfl) ?_
              refine lv_iconst (v := 2) hx hb dM_takeSupplier_71 (by decide) ?_
              refine lv_icmp_ne (tgt := 83) hx hb dM_takeSupplier_72 rfl (fun _ => ?_) (fun h9 => absurd h9 (by rw [h21]; decide))
              refine lv_iload_n hx hb dM_takeSupplier_83 rfl (lv_at hl 5 rfl) ?_
              refine lv_bipush (v := 8) hx hb dM_takeSupplier_84 (by decide) ?_
              refine lv_icmp_ne (tgt := 102) hx hb dM_takeSupplier_86 rfl (fun _ => ?_) (fun h9 => absurd h9 (by rw [h40]; decide))
              refine lv_iload_n hx hb dM_takeSupplier_102 rfl (lv_at hl 5 rfl) ?_
              refine lv_bipush (v := 9) hx hb dM_takeSupplier_103 (by decide) ?_
              refine lv_icmp_ne (tgt := 122) hx hb dM_takeSupplier_105 rfl (fun _ => ?_) (fun h9 => absurd h9 (by rw [h40]; decide))
              refine lv_iload_n hx hb dM_takeSupplier_122 rfl (lv_at hl 5 rfl) ?_
              refine lv_bipush (v := 12) hx hb dM_takeSupplier_123 (by decide) ?_
              refine lv_icmp_ne (tgt := 141) hx hb dM_takeSupplier_125 rfl (fun _ => ?_) (fun h9 => absurd h9 (by rw [h40]; decide))
              refine lv_iload_n hx hb dM_takeSupplier_141 rfl (lv_at hl 5 rfl) ?_
              refine lv_bipush (v := 14) hx hb dM_takeSupplier_142 (by decide) ?_
              refine lv_icmp_ne (tgt := 182) hx hb dM_takeSupplier_144 rfl (fun _ => ?_) (fun h9 => absurd h9 (by rw [h40]; decide))
              refine lv_iload_n hx hb dM_takeSupplier_182 rfl (lv_at hl 5 rfl) ?_
              refine lv_bipush (v := 15) hx hb dM_takeSupplier_183 (by decide) ?_
              refine lv_icmp_ne (tgt := 224) hx hb dM_takeSupplier_185 rfl (fun _ => ?_) (fun h9 => absurd h9 (by rw [h40]; decide))
              exact er_vret hx hb hr hlocks hV hS dM_takeSupplier_224 (Eq.symm (by unfold s_takeSupplier; simp only [if_neg h1, if_neg h11, if_pos h21, if_neg h38, if_neg h39, if_pos h40]))
          · refine lv_iload hx hb dM_takeSupplier_50 (lv_at hl 1 rfl) ?_
            refine lv_iconst (v := 2) hx hb dM_takeSupplier_52 (by decide) ?_
            refine lv_icmp_ne (tgt := 63) hx hb dM_takeSupplier_53 rfl (fun _ => ?_) (fun h9 => absurd h9 (by rw [h21]; decide))
            refine lv_iload_n hx hb dM_takeSupplier_63 rfl (lv_at hl 5 rfl) ?_
            refine lv_bipush (v := 6) hx hb dM_takeSupplier_64 (by decide) ?_
            refine lv_icmp_ne (tgt := 83) hx hb dM_takeSupplier_66 rfl (fun _ => ?_) (fun h9 => absurd h9 (by rw [h39]; decide))
            refine lv_iload_n hx hb dM_takeSupplier_83 rfl (lv_at hl 5 rfl) ?_
            refine lv_bipush (v := 8) hx hb dM_takeSupplier_84 (by decide) ?_
            refine lv_icmp_ne (tgt := 102) hx hb dM_takeSupplier_86 rfl (fun _ => ?_) (fun h9 => absurd h9 (by rw [h39]; decide))
            refine lv_iload_n hx hb dM_takeSupplier_102 rfl (lv_at hl 5 rfl) ?_
            refine lv_bipush (v := 9) hx hb dM_takeSupplier_103 (by decide) ?_
            refine lv_icmp_ne (tgt := 122) hx hb dM_takeSupplier_105 rfl (fun _ => ?_) (fun h9 => absurd h9 (by rw [h39]; decide))
            refine lv_iload_n hx hb dM_takeSupplier_122 rfl (lv_at hl 5 rfl) ?_
            refine lv_bipush (v := 12) hx hb dM_takeSupplier_123 (by decide) ?_
            refine lv_icmp_ne (tgt := 141) hx hb dM_takeSupplier_125 rfl (fun _ => ?_) (fun h9 => absurd h9 (by rw [h39]; decide))
            refine lv_iload_n hx hb dM_takeSupplier_141 rfl (lv_at hl 5 rfl) ?_
            refine lv_bipush (v := 14) hx hb dM_takeSupplier_142 (by decide) ?_
            refine lv_icmp_ne (tgt := 182) hx hb dM_takeSupplier_144 rfl (fun _ => ?_) (fun h9 => absurd h9 (by rw [h39]; decide))
            refine lv_iload_n hx hb dM_takeSupplier_182 rfl (lv_at hl 5 rfl) ?_
            refine lv_bipush (v := 15) hx hb dM_takeSupplier_183 (by decide) ?_
            refine lv_icmp_ne (tgt := 224) hx hb dM_takeSupplier_185 rfl (fun _ => ?_) (fun h9 => absurd h9 (by rw [h39]; decide))
            exact er_vret hx hb hr hlocks hV hS dM_takeSupplier_224 (Eq.symm (by unfold s_takeSupplier; simp only [if_neg h1, if_neg h11, if_pos h21, if_neg h38, if_pos h39]))
        · refine lv_iload hx hb dM_takeSupplier_40 (lv_at hl 1 rfl) ?_
          refine lv_if_eq (tgt := 56) hx hb dM_takeSupplier_42 rfl (fun h9 => absurd h9 (by rw [h21]; decide)) (fun _ => ?_)
          refine lv_iload_n hx hb dM_takeSupplier_45 rfl (lv_at hl 5 rfl) ?_
          refine lv_iconst (v := 5) hx hb dM_takeSupplier_46 (by decide) ?_
          refine lv_icmp_ne (tgt := 63) hx hb dM_takeSupplier_47 rfl (fun _ => ?_) (fun h9 => absurd h9 (by rw [h38]; decide))
          refine lv_iload_n hx hb dM_takeSupplier_63 rfl (lv_at hl 5 rfl) ?_
          refine lv_bipush (v := 6) hx hb dM_takeSupplier_64 (by decide) ?_
          refine lv_icmp_ne (tgt := 83) hx hb dM_takeSupplier_66 rfl (fun _ => ?_) (fun h9 => absurd h9 (by rw [h38]; decide))
          refine lv_iload_n hx hb dM_takeSupplier_83 rfl (lv_at hl 5 rfl) ?_
          refine lv_bipush (v := 8) hx hb dM_takeSupplier_84 (by decide) ?_
          refine lv_icmp_ne (tgt := 102) hx hb dM_takeSupplier_86 rfl (fun _ => ?_) (fun h9 => absurd h9 (by rw [h38]; decide))
          refine lv_iload_n hx hb dM_takeSupplier_102 rfl (lv_at hl 5 rfl) ?_
          refine lv_bipush (v := 9) hx hb dM_takeSupplier_103 (by decide) ?_
          refine lv_icmp_ne (tgt := 122) hx hb dM_takeSupplier_105 rfl (fun _ => ?_) (fun h9 => absurd h9 (by rw [h38]; decide))
          refine lv_iload_n hx hb dM_takeSupplier_122 rfl (lv_at hl 5 rfl) ?_
          refine lv_bipush (v := 12) hx hb dM_takeSupplier_123 (by decide) ?_
          refine lv_icmp_ne (tgt := 141) hx hb dM_takeSupplier_125 rfl (fun _ => ?_) (fun h9 => absurd h9 (by rw [h38]; decide))
          refine lv_iload_n hx hb dM_takeSupplier_141 rfl (lv_at hl 5 rfl) ?_
          refine lv_bipush (v := 14) hx hb dM_takeSupplier_142 (by decide) ?_
          refine lv_icmp_ne (tgt := 182) hx hb dM_takeSupplier_144 rfl (fun _ => ?_) (fun h9 => absurd h9 (by rw [h38]; decide))
          refine lv_iload_n hx hb dM_takeSupplier_182 rfl (lv_at hl 5 rfl) ?_
          refine lv_bipush (v := 15) hx hb dM_takeSupplier_183 (by decide) ?_
          refine lv_icmp_ne (tgt := 224) hx hb dM_takeSupplier_185 rfl (fun _ => ?_) (fun h9 => absurd h9 (by rw [h38]; decide))
          exact er_vret hx hb hr hlocks hV hS dM_takeSupplier_224 (Eq.symm (by unfold s_takeSupplier; simp only [if_neg h1, if_neg h11, if_pos h21, if_pos h38]))

def s_takeRequester (A : ew_R) (ln : Nat) (what : Int32) (tells : Int32) (st : Nat) (ak : Nat) (rq : Nat) (w : Nat) (lg : Nat) : ew_R :=
  if what = 7 then
    if A 18 0 ln = 2 then
      if tells = 0 then
        up3 A 18 0 ln 3
      else
        up3 (up3 A 18 0 ln 3) 19 0 ln tells
    else
      if A 18 0 ln = 10 then
        if tells = 0 then
          up3 A 18 0 ln 3
        else
          up3 (up3 A 18 0 ln 3) 19 0 ln tells
      else
        A
  else
    if what = 10 then
      if A 18 0 ln = 5 then
        if tells = 0 then
          up3 A 18 0 ln 4
        else
          up3 (up3 A 18 0 ln 4) 19 0 ln tells
      else
        A
    else
      if what = 11 then
        if A 18 0 ln = 4 then
          if tells = 0 then
            up3 A 18 0 ln 6
          else
            up3 (up3 A 18 0 ln 6) 19 0 ln tells
        else
          if A 18 0 ln = 5 then
            if tells = 0 then
              up3 A 18 0 ln 6
            else
              up3 (up3 A 18 0 ln 6) 19 0 ln tells
          else
            A
      else
        if what = 2 then
          if A 18 0 ln = 0 then
            up3 A 18 0 ln 2
          else
            A
        else
          if what = 3 then
            if A 18 0 ln = 0 then
              up3 (up3 A 18 0 ln 1) 20 0 ln tells
            else
              A
          else
            if what = 4 then
              if A 18 0 ln = 10 then
                up3 A 18 0 ln 11
              else
                if A 18 0 ln = 0 then
                  (s_askNext A ln st ak rq w lg)
                else
                  A
            else
              if what = 16 then
                if A 18 0 ln = 10 then
                  up3 A 18 0 ln 11
                else
                  A
              else
                if what = 13 then
                  if A 18 0 ln = 7 then
                    up3 (up3 (up3 A 18 0 ln 8) 21 0 ln tells) 6 0 rq ((A 6 0 rq) - tells)
                  else
                    A
                else
                  A
set_option maxHeartbeats 4000000 in
set_option maxRecDepth 100000 in
theorem r_takeRequester (l : Launch) (D : va_G) (T : Nat → ClassId) (X : Nat → Nat → Nat) (L : List Nat) (tg : Nat → Nat × Nat) (sz : Nat) (hE : eR_E X L tg) (A : ew_R) (ln : Nat) (what : Int32) (tells : Int32) (st : Nat) (ak : Nat) (rq : Nat) (w : Nat) (lg : Nat) (hln : ln < 32) (hst : st < 6) (hak : ak ≤ 8) (hrq : rq < 6) (hw : w ≤ 64) (hq : A 0 0 4 = nI w) (hlg : lg < 3000) (hg : A 0 0 5 = nI lg) (q14 : A 14 0 ln = nI st) (q15 : A 15 0 ln = nI ak) (q11 : A 11 0 ln = nI rq) : Met l yM_takeRequester wsM_takeRequester ({ frames := 4, cells := 0, slots := 0, locals := 89 }) (er_Pc D vwCl (tysA T) (cfR T) X L tg A sz [.ref (X 0 0), .int (nI ln), .int what, .int tells]) (er_Qv D vwCl (cfR T) X L tg sz (fun u => u = s_takeRequester A ln what tells st ak rq w lg)) 0 0 (ew_A L sz) := by
  refine er_met (by decide) rfl (Nat.le_of_ble_eq_true rfl) ?_
  intro p e s m below meth c ls hx hb hr hts hown hlocks hml hV hK hS hA hl hsz
  subst hsz
  have hi0 := hE 0 (by decide)
  have hl : lv_has ls 6 [(0, .ref (X 0 0)), (1, .int (nI ln)), (2, .int what), (3, .int tells)] := hl
  refine lv_aload_n hx hb dM_takeRequester_0 rfl (lv_at hl 0 rfl) ?_
  refine ew_get (v := .ref (X 18 0)) hx hb hts hown hK hV fM_46 hi0 (cR_0 _ _ _) rfl dM_takeRequester_1 ?_
  refine lv_iload_n hx hb dM_takeRequester_4 rfl (lv_at hl 1 rfl) ?_
  refine ew_iald (v := A 18 0 ln) hx hb hK hV (hE 18 (by decide)) (cR_18 _ _ _) 0 rfl (vp_in_nI (by omega) (by decide)) (er_ix (by omega) rfl) dM_takeRequester_5 ?_
  refine lv_istore (lv' := [(4, .int (A 18 0 ln)), (0, .ref (X 0 0)), (1, .int (nI ln)), (2, .int what), (3, .int tells)]) hx hb dM_takeRequester_6 hl (by decide) rfl (fun ls hl => ?_)
  refine lv_iload_n hx hb dM_takeRequester_8 rfl (lv_at hl 3 rfl) ?_
  refine lv_bipush (v := 7) hx hb dM_takeRequester_9 (by decide) ?_
  refine lv_icmp_ne (tgt := 27) hx hb dM_takeRequester_11 rfl (fun h1 => ?_) (fun h1 => ?_)
  · refine lv_iload_n hx hb dM_takeRequester_27 rfl (lv_at hl 3 rfl) ?_
    refine lv_bipush (v := 10) hx hb dM_takeRequester_28 (by decide) ?_
    refine lv_icmp_ne (tgt := 39) hx hb dM_takeRequester_30 rfl (fun h2 => ?_) (fun h2 => ?_)
    · refine lv_iload_n hx hb dM_takeRequester_39 rfl (lv_at hl 3 rfl) ?_
      refine lv_bipush (v := 11) hx hb dM_takeRequester_40 (by decide) ?_
      refine lv_icmp_ne (tgt := 61) hx hb dM_takeRequester_42 rfl (fun h3 => ?_) (fun h3 => ?_)
      · refine lv_iconst (v := 0) hx hb dM_takeRequester_61 (by decide) ?_
        refine lv_istore (lv' := [(5, .int 0), (4, .int (A 18 0 ln)), (0, .ref (X 0 0)), (1, .int (nI ln)), (2, .int what), (3, .int tells)]) hx hb dM_takeRequester_62 hl (by decide) rfl (fun ls hl => ?_)
        refine lv_iload hx hb dM_takeRequester_64 (lv_at hl 0 rfl) ?_
        refine lv_if_eq (tgt := 108) hx hb dM_takeRequester_66 rfl (fun _ => ?_) (fun h9 => absurd (by decide) h9)
        refine lv_iload_n hx hb dM_takeRequester_108 rfl (lv_at hl 4 rfl) ?_
        refine lv_iconst (v := 2) hx hb dM_takeRequester_109 (by decide) ?_
        refine lv_icmp_ne (tgt := 125) hx hb dM_takeRequester_110 rfl (fun h4 => ?_) (fun h4 => ?_)
        · refine lv_iload_n hx hb dM_takeRequester_125 rfl (lv_at hl 4 rfl) ?_
          refine lv_iconst (v := 3) hx hb dM_takeRequester_126 (by decide) ?_
          refine lv_icmp_ne (tgt := 149) hx hb dM_takeRequester_127 rfl (fun h5 => ?_) (fun h5 => ?_)
          · refine lv_iload_n hx hb dM_takeRequester_149 rfl (lv_at hl 4 rfl) ?_
            refine lv_iconst (v := 4) hx hb dM_takeRequester_150 (by decide) ?_
            refine lv_icmp_eq (tgt := 160) hx hb dM_takeRequester_151 rfl (fun h6 => ?_) (fun h6 => ?_)
            · refine lv_iload hx hb dM_takeRequester_160 (lv_at hl 1 rfl) ?_
              refine lv_bipush (v := 10) hx hb dM_takeRequester_162 (by decide) ?_
              refine lv_icmp_ne (tgt := 175) hx hb dM_takeRequester_164 rfl (fun h7 => ?_) (fun h7 => ?_)
              · refine lv_iload_n hx hb dM_takeRequester_175 rfl (lv_at hl 4 rfl) ?_
                refine lv_bipush (v := 13) hx hb dM_takeRequester_176 (by decide) ?_
                refine lv_icmp_ne (tgt := 218) hx hb dM_takeRequester_178 rfl (fun _ => ?_) (fun h9 => absurd h9 (by rw [h6]; decide))
                refine lv_iload_n hx hb dM_takeRequester_218 rfl (lv_at hl 4 rfl) ?_
                refine lv_iconst (v := 4) hx hb dM_takeRequester_219 (by decide) ?_
                refine lv_icmp_ne (tgt := 233) hx hb dM_takeRequester_220 rfl (fun h9 => absurd h6 h9) (fun _ => ?_)
                refine lv_iload hx hb dM_takeRequester_223 (lv_at hl 1 rfl) ?_
                refine lv_if_ne (tgt := 233) hx hb dM_takeRequester_225 rfl (fun h8 => ?_) (fun h8 => ?_)
                · exact er_vret hx hb hr hlocks hV hS dM_takeRequester_233 (Eq.symm (by unfold s_takeRequester; simp only [if_neg h1, if_neg h2, if_neg h3, if_neg h4, if_neg h5, if_pos h6, if_neg h7, if_neg h8]))
                · refine lv_aload_n hx hb dM_takeRequester_228 rfl (lv_at hl 2 rfl) ?_
                  refine lv_iload_n hx hb dM_takeRequester_229 rfl (lv_at hl 3 rfl) ?_
                  refine er_callv (va_runV (As := [.int (nI ln)]) (rest := []) ⟨hx, hb, hml, hown, hts⟩ (r_askNext l D T X L tg _ hE A ln st ak rq w lg hln hst hak hrq hw hq hlg hg q14 q15 q11) (cwV 1 hts gM_156 rfl rfl rfl (by decide +kernel) ⟨Nat.le_of_ble_eq_true rfl, Nat.le_of_ble_eq_true rfl⟩) (er_preV hK hV hi0 (cR_0 _ _ _) rfl) rfl rfl hl.1 rfl (lv_room (Nat.le_of_ble_eq_true rfl)) dM_takeRequester_230 ⟨Nat.le_of_ble_eq_true rfl, Nat.le_of_ble_eq_true rfl⟩) hV hS hA (fun u9 H locs eu9 hV hS => ?_)
                  have eu9 : u9 = s_askNext A ln st ak rq w lg := eu9
                  subst eu9
                  exact er_vret hx hb hr hlocks hV hS dM_takeRequester_233 (Eq.symm (by unfold s_takeRequester; simp only [if_neg h1, if_neg h2, if_neg h3, if_neg h4, if_neg h5, if_pos h6, if_neg h7, if_pos h8]))
              · refine lv_aload_n hx hb dM_takeRequester_167 rfl (lv_at hl 2 rfl) ?_
                refine ew_get (v := .ref (X 18 0)) hx hb hts hown hK hV fM_46 hi0 (cR_0 _ _ _) rfl dM_takeRequester_168 ?_
                refine lv_iload_n hx hb dM_takeRequester_171 rfl (lv_at hl 3 rfl) ?_
                refine lv_bipush (v := 11) hx hb dM_takeRequester_172 (by decide) ?_
                refine ew_iast hx hb hK hV hS (hE 18 (by decide)) (cR_18 _ _ _) 0 rfl (vp_in_nI (by omega) (by decide)) ln (nI_clamp (by omega)) (qR_18 _ _ _ _ _) dM_takeRequester_174 (fun H locs hV hS => ?_)
                refine lv_iload_n hx hb dM_takeRequester_175 rfl (lv_at hl 4 rfl) ?_
                refine lv_bipush (v := 13) hx hb dM_takeRequester_176 (by decide) ?_
                refine lv_icmp_ne (tgt := 218) hx hb dM_takeRequester_178 rfl (fun _ => ?_) (fun h9 => absurd h9 (by rw [h6]; decide))
                refine lv_iload_n hx hb dM_takeRequester_218 rfl (lv_at hl 4 rfl) ?_
                refine lv_iconst (v := 4) hx hb dM_takeRequester_219 (by decide) ?_
                refine lv_icmp_ne (tgt := 233) hx hb dM_takeRequester_220 rfl (fun h9 => absurd h6 h9) (fun _ => ?_)
                refine lv_iload hx hb dM_takeRequester_223 (lv_at hl 1 rfl) ?_
                refine lv_if_ne (tgt := 233) hx hb dM_takeRequester_225 rfl (fun _ => ?_) (fun h9 => absurd h9 (by rw [h7]; decide))
                exact er_vret hx hb hr hlocks hV hS dM_takeRequester_233 (Eq.symm (by unfold s_takeRequester; simp only [if_neg h1, if_neg h2, if_neg h3, if_neg h4, if_neg h5, if_pos h6, if_pos h7]))
            · refine lv_iload_n hx hb dM_takeRequester_154 rfl (lv_at hl 4 rfl) ?_
              refine lv_bipush (v := 16) hx hb dM_takeRequester_155 (by decide) ?_
              refine lv_icmp_ne (tgt := 175) hx hb dM_takeRequester_157 rfl (fun h10 => ?_) (fun h10 => ?_)
              · refine lv_iload_n hx hb dM_takeRequester_175 rfl (lv_at hl 4 rfl) ?_
                refine lv_bipush (v := 13) hx hb dM_takeRequester_176 (by decide) ?_
                refine lv_icmp_ne (tgt := 218) hx hb dM_takeRequester_178 rfl (fun h11 => ?_) (fun h11 => ?_)
                · refine lv_iload_n hx hb dM_takeRequester_218 rfl (lv_at hl 4 rfl) ?_
                  refine lv_iconst (v := 4) hx hb dM_takeRequester_219 (by decide) ?_
                  refine lv_icmp_ne (tgt := 233) hx hb dM_takeRequester_220 rfl (fun _ => ?_) (fun h9 => absurd h9 h6)
                  exact er_vret hx hb hr hlocks hV hS dM_takeRequester_233 (Eq.symm (by unfold s_takeRequester; simp only [if_neg h1, if_neg h2, if_neg h3, if_neg h4, if_neg h5, if_neg h6, if_neg h10, if_neg h11]))
                · refine lv_iload hx hb dM_takeRequester_181 (lv_at hl 1 rfl) ?_
                  refine lv_bipush (v := 7) hx hb dM_takeRequester_183 (by decide) ?_
                  refine lv_icmp_ne (tgt := 218) hx hb dM_takeRequester_185 rfl (fun h12 => ?_) (fun h12 => ?_)
                  · refine lv_iload_n hx hb dM_takeRequester_218 rfl (lv_at hl 4 rfl) ?_
                    refine lv_iconst (v := 4) hx hb dM_takeRequester_219 (by decide) ?_
                    refine lv_icmp_ne (tgt := 233) hx hb dM_takeRequester_220 rfl (fun _ => ?_) (fun h9 => absurd h9 h6)
                    exact er_vret hx hb hr hlocks hV hS dM_takeRequester_233 (Eq.symm (by unfold s_takeRequester; simp only [if_neg h1, if_neg h2, if_neg h3, if_neg h4, if_neg h5, if_neg h6, if_neg h10, if_pos h11, if_neg h12]))
                  · refine lv_aload_n hx hb dM_takeRequester_188 rfl (lv_at hl 2 rfl) ?_
                    refine ew_get (v := .ref (X 18 0)) hx hb hts hown hK hV fM_46 hi0 (cR_0 _ _ _) rfl dM_takeRequester_189 ?_
                    refine lv_iload_n hx hb dM_takeRequester_192 rfl (lv_at hl 3 rfl) ?_
                    refine lv_bipush (v := 8) hx hb dM_takeRequester_193 (by decide) ?_
                    refine ew_iast hx hb hK hV hS (hE 18 (by decide)) (cR_18 _ _ _) 0 rfl (vp_in_nI (by omega) (by decide)) ln (nI_clamp (by omega)) (qR_18 _ _ _ _ _) dM_takeRequester_195 (fun H locs hV hS => ?_)
                    refine lv_aload_n hx hb dM_takeRequester_196 rfl (lv_at hl 2 rfl) ?_
                    refine ew_get (v := .ref (X 21 0)) hx hb hts hown hK hV fM_55 hi0 (cR_0 _ _ _) rfl dM_takeRequester_197 ?_
                    refine lv_iload_n hx hb dM_takeRequester_200 rfl (lv_at hl 3 rfl) ?_
                    refine lv_iload_n hx hb dM_takeRequester_201 rfl (lv_at hl 5 rfl) ?_
                    refine ew_iast hx hb hK hV hS (hE 21 (by decide)) (cR_21 _ _ _) 0 rfl (vp_in_nI (by omega) (by decide)) ln (nI_clamp (by omega)) (qR_21 _ _ _ _ _) dM_takeRequester_202 (fun H locs hV hS => ?_)
                    refine lv_aload_n hx hb dM_takeRequester_203 rfl (lv_at hl 2 rfl) ?_
                    refine ew_get (v := .ref (X 6 0)) hx hb hts hown hK hV fM_7 hi0 (cR_0 _ _ _) rfl dM_takeRequester_204 ?_
                    refine lv_aload_n hx hb dM_takeRequester_207 rfl (lv_at hl 2 rfl) ?_
                    refine ew_get (v := .ref (X 11 0)) hx hb hts hown hK hV fM_25 hi0 (cR_0 _ _ _) rfl dM_takeRequester_208 ?_
                    refine lv_iload_n hx hb dM_takeRequester_211 rfl (lv_at hl 3 rfl) ?_
                    refine ew_iald (v := A 11 0 ln) hx hb hK hV (hE 11 (by decide)) (cR_11 _ _ _) 0 rfl (vp_in_nI (by omega) (by decide)) (er_ix (by omega) rfl) dM_takeRequester_212 ?_
                    refine lv_toe (y := nI rq) q11 ?_
                    refine lv_dup2_11 hx hb dM_takeRequester_213 rfl rfl ?_
                    refine ew_iald (v := A 6 0 rq) hx hb hK hV (hE 6 (by decide)) (cR_6 _ _ _) 0 rfl (vp_in_nI (by omega) (by decide)) (er_ix (by omega) rfl) dM_takeRequester_214 ?_
                    refine lv_iload_n hx hb dM_takeRequester_215 rfl (lv_at hl 5 rfl) ?_
                    refine lv_isub hx hb dM_takeRequester_216 ?_
                    refine ew_iast hx hb hK hV hS (hE 6 (by decide)) (cR_6 _ _ _) 0 rfl (vp_in_nI (by omega) (by decide)) rq (nI_clamp (by omega)) (qR_6 _ _ _ _ _) dM_takeRequester_217 (fun H locs hV hS => ?_)
                    refine lv_iload_n hx hb dM_takeRequester_218 rfl (lv_at hl 4 rfl) ?_
                    refine lv_iconst (v := 4) hx hb dM_takeRequester_219 (by decide) ?_
                    refine lv_icmp_ne (tgt := 233) hx hb dM_takeRequester_220 rfl (fun _ => ?_) (fun h9 => absurd h9 h6)
                    exact er_vret hx hb hr hlocks hV hS dM_takeRequester_233 (Eq.symm (by unfold s_takeRequester; simp only [if_neg h1, if_neg h2, if_neg h3, if_neg h4, if_neg h5, if_neg h6, if_neg h10, if_pos h11, if_pos h12]))
              · refine lv_iload hx hb dM_takeRequester_160 (lv_at hl 1 rfl) ?_
                refine lv_bipush (v := 10) hx hb dM_takeRequester_162 (by decide) ?_
                refine lv_icmp_ne (tgt := 175) hx hb dM_takeRequester_164 rfl (fun h13 => ?_) (fun h13 => ?_)
                · refine lv_iload_n hx hb dM_takeRequester_175 rfl (lv_at hl 4 rfl) ?_
                  refine lv_bipush (v := 13) hx hb dM_takeRequester_176 (by decide) ?_
                  refine lv_icmp_ne (tgt := 218) hx hb dM_takeRequester_178 rfl (fun _ => ?_) (fun h9 => absurd h9 (by rw [h10]; decide))
                  refine lv_iload_n hx hb dM_takeRequester_218 rfl (lv_at hl 4 rfl) ?_
                  refine lv_iconst (v := 4) hx hb dM_takeRequester_219 (by decide) ?_
                  refine lv_icmp_ne (tgt := 233) hx hb dM_takeRequester_220 rfl (fun _ => ?_) (fun h9 => absurd h9 h6)
                  exact er_vret hx hb hr hlocks hV hS dM_takeRequester_233 (Eq.symm (by unfold s_takeRequester; simp only [if_neg h1, if_neg h2, if_neg h3, if_neg h4, if_neg h5, if_neg h6, if_pos h10, if_neg h13]))
                · refine lv_aload_n hx hb dM_takeRequester_167 rfl (lv_at hl 2 rfl) ?_
                  refine ew_get (v := .ref (X 18 0)) hx hb hts hown hK hV fM_46 hi0 (cR_0 _ _ _) rfl dM_takeRequester_168 ?_
                  refine lv_iload_n hx hb dM_takeRequester_171 rfl (lv_at hl 3 rfl) ?_
                  refine lv_bipush (v := 11) hx hb dM_takeRequester_172 (by decide) ?_
                  refine ew_iast hx hb hK hV hS (hE 18 (by decide)) (cR_18 _ _ _) 0 rfl (vp_in_nI (by omega) (by decide)) ln (nI_clamp (by omega)) (qR_18 _ _ _ _ _) dM_takeRequester_174 (fun H locs hV hS => ?_)
                  refine lv_iload_n hx hb dM_takeRequester_175 rfl (lv_at hl 4 rfl) ?_
                  refine lv_bipush (v := 13) hx hb dM_takeRequester_176 (by decide) ?_
                  refine lv_icmp_ne (tgt := 218) hx hb dM_takeRequester_178 rfl (fun _ => ?_) (fun h9 => absurd h9 (by rw [h10]; decide))
                  refine lv_iload_n hx hb dM_takeRequester_218 rfl (lv_at hl 4 rfl) ?_
                  refine lv_iconst (v := 4) hx hb dM_takeRequester_219 (by decide) ?_
                  refine lv_icmp_ne (tgt := 233) hx hb dM_takeRequester_220 rfl (fun _ => ?_) (fun h9 => absurd h9 h6)
                  exact er_vret hx hb hr hlocks hV hS dM_takeRequester_233 (Eq.symm (by unfold s_takeRequester; simp only [if_neg h1, if_neg h2, if_neg h3, if_neg h4, if_neg h5, if_neg h6, if_pos h10, if_pos h13]))
          · refine lv_iload hx hb dM_takeRequester_130 (lv_at hl 1 rfl) ?_
            refine lv_if_ne (tgt := 149) hx hb dM_takeRequester_132 rfl (fun h14 => ?_) (fun h14 => ?_)
            · refine lv_iload_n hx hb dM_takeRequester_149 rfl (lv_at hl 4 rfl) ?_
              refine lv_iconst (v := 4) hx hb dM_takeRequester_150 (by decide) ?_
              refine lv_icmp_eq (tgt := 160) hx hb dM_takeRequester_151 rfl (fun h9 => absurd h9 (by rw [h5]; decide)) (fun _ => ?_)
              refine lv_iload_n hx hb dM_takeRequester_154 rfl (lv_at hl 4 rfl) ?_
              refine lv_bipush (v := 16) hx hb dM_takeRequester_155 (by decide) ?_
              refine lv_icmp_ne (tgt := 175) hx hb dM_takeRequester_157 rfl (fun _ => ?_) (fun h9 => absurd h9 (by rw [h5]; decide))
              refine lv_iload_n hx hb dM_takeRequester_175 rfl (lv_at hl 4 rfl) ?_
              refine lv_bipush (v := 13) hx hb dM_takeRequester_176 (by decide) ?_
              refine lv_icmp_ne (tgt := 218) hx hb dM_takeRequester_178 rfl (fun _ => ?_) (fun h9 => absurd h9 (by rw [h5]; decide))
              refine lv_iload_n hx hb dM_takeRequester_218 rfl (lv_at hl 4 rfl) ?_
              refine lv_iconst (v := 4) hx hb dM_takeRequester_219 (by decide) ?_
              refine lv_icmp_ne (tgt := 233) hx hb dM_takeRequester_220 rfl (fun _ => ?_) (fun h9 => absurd h9 (by rw [h5]; decide))
              exact er_vret hx hb hr hlocks hV hS dM_takeRequester_233 (Eq.symm (by unfold s_takeRequester; simp only [if_neg h1, if_neg h2, if_neg h3, if_neg h4, if_pos h5, if_neg h14]))
            · refine lv_aload_n hx hb dM_takeRequester_135 rfl (lv_at hl 2 rfl) ?_
              refine ew_get (v := .ref (X 18 0)) hx hb hts hown hK hV fM_46 hi0 (cR_0 _ _ _) rfl dM_takeRequester_136 ?_
              refine lv_iload_n hx hb dM_takeRequester_139 rfl (lv_at hl 3 rfl) ?_
              refine lv_iconst (v := 1) hx hb dM_takeRequester_140 (by decide) ?_
              refine ew_iast hx hb hK hV hS (hE 18 (by decide)) (cR_18 _ _ _) 0 rfl (vp_in_nI (by omega) (by decide)) ln (nI_clamp (by omega)) (qR_18 _ _ _ _ _) dM_takeRequester_141 (fun H locs hV hS => ?_)
              refine lv_aload_n hx hb dM_takeRequester_142 rfl (lv_at hl 2 rfl) ?_
              refine ew_get (v := .ref (X 20 0)) hx hb hts hown hK hV fM_52 hi0 (cR_0 _ _ _) rfl dM_takeRequester_143 ?_
              refine lv_iload_n hx hb dM_takeRequester_146 rfl (lv_at hl 3 rfl) ?_
              refine lv_iload_n hx hb dM_takeRequester_147 rfl (lv_at hl 5 rfl) ?_
              refine ew_iast hx hb hK hV hS (hE 20 (by decide)) (cR_20 _ _ _) 0 rfl (vp_in_nI (by omega) (by decide)) ln (nI_clamp (by omega)) (qR_20 _ _ _ _ _) dM_takeRequester_148 (fun H locs hV hS => ?_)
              refine lv_iload_n hx hb dM_takeRequester_149 rfl (lv_at hl 4 rfl) ?_
              refine lv_iconst (v := 4) hx hb dM_takeRequester_150 (by decide) ?_
              refine lv_icmp_eq (tgt := 160) hx hb dM_takeRequester_151 rfl (fun h9 => absurd h9 (by rw [h5]; decide)) (fun _ => ?_)
              refine lv_iload_n hx hb dM_takeRequester_154 rfl (lv_at hl 4 rfl) ?_
              refine lv_bipush (v := 16) hx hb dM_takeRequester_155 (by decide) ?_
              refine lv_icmp_ne (tgt := 175) hx hb dM_takeRequester_157 rfl (fun _ => ?_) (fun h9 => absurd h9 (by rw [h5]; decide))
              refine lv_iload_n hx hb dM_takeRequester_175 rfl (lv_at hl 4 rfl) ?_
              refine lv_bipush (v := 13) hx hb dM_takeRequester_176 (by decide) ?_
              refine lv_icmp_ne (tgt := 218) hx hb dM_takeRequester_178 rfl (fun _ => ?_) (fun h9 => absurd h9 (by rw [h5]; decide))
              refine lv_iload_n hx hb dM_takeRequester_218 rfl (lv_at hl 4 rfl) ?_
              refine lv_iconst (v := 4) hx hb dM_takeRequester_219 (by decide) ?_
              refine lv_icmp_ne (tgt := 233) hx hb dM_takeRequester_220 rfl (fun _ => ?_) (fun h9 => absurd h9 (by rw [h5]; decide))
              exact er_vret hx hb hr hlocks hV hS dM_takeRequester_233 (Eq.symm (by unfold s_takeRequester; simp only [if_neg h1, if_neg h2, if_neg h3, if_neg h4, if_pos h5, if_pos h14]))
        · refine lv_iload hx hb dM_takeRequester_113 (lv_at hl 1 rfl) ?_
          refine lv_if_ne (tgt := 125) hx hb dM_takeRequester_115 rfl (fun h15 => ?_) (fun h15 => ?_)
          · refine lv_iload_n hx hb dM_takeRequester_125 rfl (lv_at hl 4 rfl) ?_
            refine lv_iconst (v := 3) hx hb dM_takeRequester_126 (by decide) ?_
            refine lv_icmp_ne (tgt := 149) hx hb dM_takeRequester_127 rfl (fun _ => ?_) (fun h9 => absurd h9 (by rw [h4]; decide))
            refine lv_iload_n hx hb dM_takeRequester_149 rfl (lv_at hl 4 rfl) ?_
            refine lv_iconst (v := 4) hx hb dM_takeRequester_150 (by decide) ?_
            refine lv_icmp_eq (tgt := 160) hx hb dM_takeRequester_151 rfl (fun h9 => absurd h9 (by rw [h4]; decide)) (fun _ => ?_)
            refine lv_iload_n hx hb dM_takeRequester_154 rfl (lv_at hl 4 rfl) ?_
            refine lv_bipush (v := 16) hx hb dM_takeRequester_155 (by decide) ?_
            refine lv_icmp_ne (tgt := 175) hx hb dM_takeRequester_157 rfl (fun _ => ?_) (fun h9 => absurd h9 (by rw [h4]; decide))
            refine lv_iload_n hx hb dM_takeRequester_175 rfl (lv_at hl 4 rfl) ?_
            refine lv_bipush (v := 13) hx hb dM_takeRequester_176 (by decide) ?_
            refine lv_icmp_ne (tgt := 218) hx hb dM_takeRequester_178 rfl (fun _ => ?_) (fun h9 => absurd h9 (by rw [h4]; decide))
            refine lv_iload_n hx hb dM_takeRequester_218 rfl (lv_at hl 4 rfl) ?_
            refine lv_iconst (v := 4) hx hb dM_takeRequester_219 (by decide) ?_
            refine lv_icmp_ne (tgt := 233) hx hb dM_takeRequester_220 rfl (fun _ => ?_) (fun h9 => absurd h9 (by rw [h4]; decide))
            exact er_vret hx hb hr hlocks hV hS dM_takeRequester_233 (Eq.symm (by unfold s_takeRequester; simp only [if_neg h1, if_neg h2, if_neg h3, if_pos h4, if_neg h15]))
          · refine lv_aload_n hx hb dM_takeRequester_118 rfl (lv_at hl 2 rfl) ?_
            refine ew_get (v := .ref (X 18 0)) hx hb hts hown hK hV fM_46 hi0 (cR_0 _ _ _) rfl dM_takeRequester_119 ?_
            refine lv_iload_n hx hb dM_takeRequester_122 rfl (lv_at hl 3 rfl) ?_
            refine lv_iconst (v := 2) hx hb dM_takeRequester_123 (by decide) ?_
            refine ew_iast hx hb hK hV hS (hE 18 (by decide)) (cR_18 _ _ _) 0 rfl (vp_in_nI (by omega) (by decide)) ln (nI_clamp (by omega)) (qR_18 _ _ _ _ _) dM_takeRequester_124 (fun H locs hV hS => ?_)
            refine lv_iload_n hx hb dM_takeRequester_125 rfl (lv_at hl 4 rfl) ?_
            refine lv_iconst (v := 3) hx hb dM_takeRequester_126 (by decide) ?_
            refine lv_icmp_ne (tgt := 149) hx hb dM_takeRequester_127 rfl (fun _ => ?_) (fun h9 => absurd h9 (by rw [h4]; decide))
            refine lv_iload_n hx hb dM_takeRequester_149 rfl (lv_at hl 4 rfl) ?_
            refine lv_iconst (v := 4) hx hb dM_takeRequester_150 (by decide) ?_
            refine lv_icmp_eq (tgt := 160) hx hb dM_takeRequester_151 rfl (fun h9 => absurd h9 (by rw [h4]; decide)) (fun _ => ?_)
            refine lv_iload_n hx hb dM_takeRequester_154 rfl (lv_at hl 4 rfl) ?_
            refine lv_bipush (v := 16) hx hb dM_takeRequester_155 (by decide) ?_
            refine lv_icmp_ne (tgt := 175) hx hb dM_takeRequester_157 rfl (fun _ => ?_) (fun h9 => absurd h9 (by rw [h4]; decide))
            refine lv_iload_n hx hb dM_takeRequester_175 rfl (lv_at hl 4 rfl) ?_
            refine lv_bipush (v := 13) hx hb dM_takeRequester_176 (by decide) ?_
            refine lv_icmp_ne (tgt := 218) hx hb dM_takeRequester_178 rfl (fun _ => ?_) (fun h9 => absurd h9 (by rw [h4]; decide))
            refine lv_iload_n hx hb dM_takeRequester_218 rfl (lv_at hl 4 rfl) ?_
            refine lv_iconst (v := 4) hx hb dM_takeRequester_219 (by decide) ?_
            refine lv_icmp_ne (tgt := 233) hx hb dM_takeRequester_220 rfl (fun _ => ?_) (fun h9 => absurd h9 (by rw [h4]; decide))
            exact er_vret hx hb hr hlocks hV hS dM_takeRequester_233 (Eq.symm (by unfold s_takeRequester; simp only [if_neg h1, if_neg h2, if_neg h3, if_pos h4, if_pos h15]))
      · refine lv_iload hx hb dM_takeRequester_45 (lv_at hl 0 rfl) ?_
        refine lv_iconst (v := 4) hx hb dM_takeRequester_47 (by decide) ?_
        refine lv_icmp_eq (tgt := 57) hx hb dM_takeRequester_48 rfl (fun h16 => ?_) (fun h16 => ?_)
        · refine lv_iconst (v := 1) hx hb dM_takeRequester_57 (by decide) ?_
          refine lv_goto (tgt := 62) hx hb dM_takeRequester_58 rfl ?_
          refine lv_istore (lv' := [(5, .int 1), (4, .int (A 18 0 ln)), (0, .ref (X 0 0)), (1, .int (nI ln)), (2, .int what), (3, .int tells)]) hx hb dM_takeRequester_62 hl (by decide) rfl (fun ls hl => ?_)
          refine lv_iload hx hb dM_takeRequester_64 (lv_at hl 0 rfl) ?_
          refine lv_if_eq (tgt := 108) hx hb dM_takeRequester_66 rfl (fun h9 => absurd h9 (by decide)) (fun _ => ?_)
          refine lv_aload_n hx hb dM_takeRequester_69 rfl (lv_at hl 2 rfl) ?_
          refine ew_get (v := .ref (X 18 0)) hx hb hts hown hK hV fM_46 hi0 (cR_0 _ _ _) rfl dM_takeRequester_70 ?_
          refine lv_iload_n hx hb dM_takeRequester_73 rfl (lv_at hl 3 rfl) ?_
          refine lv_iload_n hx hb dM_takeRequester_74 rfl (lv_at hl 4 rfl) ?_
          refine lv_bipush (v := 7) hx hb dM_takeRequester_75 (by decide) ?_
          refine lv_icmp_ne (tgt := 84) hx hb dM_takeRequester_77 rfl (fun _ => ?_) (fun h9 => absurd h9 h1)
          refine lv_iload_n hx hb dM_takeRequester_84 rfl (lv_at hl 4 rfl) ?_
          refine lv_bipush (v := 10) hx hb dM_takeRequester_85 (by decide) ?_
          refine lv_icmp_ne (tgt := 94) hx hb dM_takeRequester_87 rfl (fun _ => ?_) (fun h9 => absurd h9 h2)
          refine lv_bipush (v := 6) hx hb dM_takeRequester_94 (by decide) ?_
          refine ew_iast hx hb hK hV hS (hE 18 (by decide)) (cR_18 _ _ _) 0 rfl (vp_in_nI (by omega) (by decide)) ln (nI_clamp (by omega)) (qR_18 _ _ _ _ _) dM_takeRequester_96 (fun H locs hV hS => ?_)
          refine lv_iload_n hx hb dM_takeRequester_97 rfl (lv_at hl 5 rfl) ?_
          refine lv_if_eq (tgt := 108) hx hb dM_takeRequester_98 rfl (fun h17 => ?_) (fun h17 => ?_)
          · refine lv_iload_n hx hb dM_takeRequester_108 rfl (lv_at hl 4 rfl) ?_
            refine lv_iconst (v := 2) hx hb dM_takeRequester_109 (by decide) ?_
            refine lv_icmp_ne (tgt := 125) hx hb dM_takeRequester_110 rfl (fun _ => ?_) (fun h9 => absurd h9 (by rw [h3]; decide))
            refine lv_iload_n hx hb dM_takeRequester_125 rfl (lv_at hl 4 rfl) ?_
            refine lv_iconst (v := 3) hx hb dM_takeRequester_126 (by decide) ?_
            refine lv_icmp_ne (tgt := 149) hx hb dM_takeRequester_127 rfl (fun _ => ?_) (fun h9 => absurd h9 (by rw [h3]; decide))
            refine lv_iload_n hx hb dM_takeRequester_149 rfl (lv_at hl 4 rfl) ?_
            refine lv_iconst (v := 4) hx hb dM_takeRequester_150 (by decide) ?_
            refine lv_icmp_eq (tgt := 160) hx hb dM_takeRequester_151 rfl (fun h9 => absurd h9 (by rw [h3]; decide)) (fun _ => ?_)
            refine lv_iload_n hx hb dM_takeRequester_154 rfl (lv_at hl 4 rfl) ?_
            refine lv_bipush (v := 16) hx hb dM_takeRequester_155 (by decide) ?_
            refine lv_icmp_ne (tgt := 175) hx hb dM_takeRequester_157 rfl (fun _ => ?_) (fun h9 => absurd h9 (by rw [h3]; decide))
            refine lv_iload_n hx hb dM_takeRequester_175 rfl (lv_at hl 4 rfl) ?_
            refine lv_bipush (v := 13) hx hb dM_takeRequester_176 (by decide) ?_
            refine lv_icmp_ne (tgt := 218) hx hb dM_takeRequester_178 rfl (fun _ => ?_) (fun h9 => absurd h9 (by rw [h3]; decide))
            refine lv_iload_n hx hb dM_takeRequester_218 rfl (lv_at hl 4 rfl) ?_
            refine lv_iconst (v := 4) hx hb dM_takeRequester_219 (by decide) ?_
            refine lv_icmp_ne (tgt := 233) hx hb dM_takeRequester_220 rfl (fun _ => ?_) (fun h9 => absurd h9 (by rw [h3]; decide))
            exact er_vret hx hb hr hlocks hV hS dM_takeRequester_233 (Eq.symm (by unfold s_takeRequester; simp only [if_neg h1, if_neg h2, if_pos h3, if_pos h16, if_pos h17]))
          · refine lv_aload_n hx hb dM_takeRequester_101 rfl (lv_at hl 2 rfl) ?_
            refine ew_get (v := .ref (X 19 0)) hx hb hts hown hK hV fM_49 hi0 (cR_0 _ _ _) rfl dM_takeRequester_102 ?_
            refine lv_iload_n hx hb dM_takeRequester_105 rfl (lv_at hl 3 rfl) ?_
            refine lv_iload_n hx hb dM_takeRequester_106 rfl (lv_at hl 5 rfl) ?_
            refine ew_iast hx hb hK hV hS (hE 19 (by decide)) (cR_19 _ _ _) 0 rfl (vp_in_nI (by omega) (by decide)) ln (nI_clamp (by omega)) (qR_19 _ _ _ _ _) dM_takeRequester_107 (fun H locs hV hS => ?_)
            refine lv_iload_n hx hb dM_takeRequester_108 rfl (lv_at hl 4 rfl) ?_
            refine lv_iconst (v := 2) hx hb dM_takeRequester_109 (by decide) ?_
            refine lv_icmp_ne (tgt := 125) hx hb dM_takeRequester_110 rfl (fun _ => ?_) (fun h9 => absurd h9 (by rw [h3]; decide))
            refine lv_iload_n hx hb dM_takeRequester_125 rfl (lv_at hl 4 rfl) ?_
            refine lv_iconst (v := 3) hx hb dM_takeRequester_126 (by decide) ?_
            refine lv_icmp_ne (tgt := 149) hx hb dM_takeRequester_127 rfl (fun _ => ?_) (fun h9 => absurd h9 (by rw [h3]; decide))
            refine lv_iload_n hx hb dM_takeRequester_149 rfl (lv_at hl 4 rfl) ?_
            refine lv_iconst (v := 4) hx hb dM_takeRequester_150 (by decide) ?_
            refine lv_icmp_eq (tgt := 160) hx hb dM_takeRequester_151 rfl (fun h9 => absurd h9 (by rw [h3]; decide)) (fun _ => ?_)
            refine lv_iload_n hx hb dM_takeRequester_154 rfl (lv_at hl 4 rfl) ?_
            refine lv_bipush (v := 16) hx hb dM_takeRequester_155 (by decide) ?_
            refine lv_icmp_ne (tgt := 175) hx hb dM_takeRequester_157 rfl (fun _ => ?_) (fun h9 => absurd h9 (by rw [h3]; decide))
            refine lv_iload_n hx hb dM_takeRequester_175 rfl (lv_at hl 4 rfl) ?_
            refine lv_bipush (v := 13) hx hb dM_takeRequester_176 (by decide) ?_
            refine lv_icmp_ne (tgt := 218) hx hb dM_takeRequester_178 rfl (fun _ => ?_) (fun h9 => absurd h9 (by rw [h3]; decide))
            refine lv_iload_n hx hb dM_takeRequester_218 rfl (lv_at hl 4 rfl) ?_
            refine lv_iconst (v := 4) hx hb dM_takeRequester_219 (by decide) ?_
            refine lv_icmp_ne (tgt := 233) hx hb dM_takeRequester_220 rfl (fun _ => ?_) (fun h9 => absurd h9 (by rw [h3]; decide))
            exact er_vret hx hb hr hlocks hV hS dM_takeRequester_233 (Eq.symm (by unfold s_takeRequester; simp only [if_neg h1, if_neg h2, if_pos h3, if_pos h16, if_neg h17]))
        · refine lv_iload hx hb dM_takeRequester_51 (lv_at hl 0 rfl) ?_
          refine lv_iconst (v := 5) hx hb dM_takeRequester_53 (by decide) ?_
          refine lv_icmp_ne (tgt := 61) hx hb dM_takeRequester_54 rfl (fun h18 => ?_) (fun h18 => ?_)
          · refine lv_iconst (v := 0) hx hb dM_takeRequester_61 (by decide) ?_
            refine lv_istore (lv' := [(5, .int 0), (4, .int (A 18 0 ln)), (0, .ref (X 0 0)), (1, .int (nI ln)), (2, .int what), (3, .int tells)]) hx hb dM_takeRequester_62 hl (by decide) rfl (fun ls hl => ?_)
            refine lv_iload hx hb dM_takeRequester_64 (lv_at hl 0 rfl) ?_
            refine lv_if_eq (tgt := 108) hx hb dM_takeRequester_66 rfl (fun _ => ?_) (fun h9 => absurd (by decide) h9)
            refine lv_iload_n hx hb dM_takeRequester_108 rfl (lv_at hl 4 rfl) ?_
            refine lv_iconst (v := 2) hx hb dM_takeRequester_109 (by decide) ?_
            refine lv_icmp_ne (tgt := 125) hx hb dM_takeRequester_110 rfl (fun _ => ?_) (fun h9 => absurd h9 (by rw [h3]; decide))
            refine lv_iload_n hx hb dM_takeRequester_125 rfl (lv_at hl 4 rfl) ?_
            refine lv_iconst (v := 3) hx hb dM_takeRequester_126 (by decide) ?_
            refine lv_icmp_ne (tgt := 149) hx hb dM_takeRequester_127 rfl (fun _ => ?_) (fun h9 => absurd h9 (by rw [h3]; decide))
            refine lv_iload_n hx hb dM_takeRequester_149 rfl (lv_at hl 4 rfl) ?_
            refine lv_iconst (v := 4) hx hb dM_takeRequester_150 (by decide) ?_
            refine lv_icmp_eq (tgt := 160) hx hb dM_takeRequester_151 rfl (fun h9 => absurd h9 (by rw [h3]; decide)) (fun _ => ?_)
            refine lv_iload_n hx hb dM_takeRequester_154 rfl (lv_at hl 4 rfl) ?_
            refine lv_bipush (v := 16) hx hb dM_takeRequester_155 (by decide) ?_
            refine lv_icmp_ne (tgt := 175) hx hb dM_takeRequester_157 rfl (fun _ => ?_) (fun h9 => absurd h9 (by rw [h3]; decide))
            refine lv_iload_n hx hb dM_takeRequester_175 rfl (lv_at hl 4 rfl) ?_
            refine lv_bipush (v := 13) hx hb dM_takeRequester_176 (by decide) ?_
            refine lv_icmp_ne (tgt := 218) hx hb dM_takeRequester_178 rfl (fun _ => ?_) (fun h9 => absurd h9 (by rw [h3]; decide))
            refine lv_iload_n hx hb dM_takeRequester_218 rfl (lv_at hl 4 rfl) ?_
            refine lv_iconst (v := 4) hx hb dM_takeRequester_219 (by decide) ?_
            refine lv_icmp_ne (tgt := 233) hx hb dM_takeRequester_220 rfl (fun _ => ?_) (fun h9 => absurd h9 (by rw [h3]; decide))
            exact er_vret hx hb hr hlocks hV hS dM_takeRequester_233 (Eq.symm (by unfold s_takeRequester; simp only [if_neg h1, if_neg h2, if_pos h3, if_neg h16, if_neg h18]))
          · refine lv_iconst (v := 1) hx hb dM_takeRequester_57 (by decide) ?_
            refine lv_goto (tgt := 62) hx hb dM_takeRequester_58 rfl ?_
            refine lv_istore (lv' := [(5, .int 1), (4, .int (A 18 0 ln)), (0, .ref (X 0 0)), (1, .int (nI ln)), (2, .int what), (3, .int tells)]) hx hb dM_takeRequester_62 hl (by decide) rfl (fun ls hl => ?_)
            refine lv_iload hx hb dM_takeRequester_64 (lv_at hl 0 rfl) ?_
            refine lv_if_eq (tgt := 108) hx hb dM_takeRequester_66 rfl (fun h9 => absurd h9 (by decide)) (fun _ => ?_)
            refine lv_aload_n hx hb dM_takeRequester_69 rfl (lv_at hl 2 rfl) ?_
            refine ew_get (v := .ref (X 18 0)) hx hb hts hown hK hV fM_46 hi0 (cR_0 _ _ _) rfl dM_takeRequester_70 ?_
            refine lv_iload_n hx hb dM_takeRequester_73 rfl (lv_at hl 3 rfl) ?_
            refine lv_iload_n hx hb dM_takeRequester_74 rfl (lv_at hl 4 rfl) ?_
            refine lv_bipush (v := 7) hx hb dM_takeRequester_75 (by decide) ?_
            refine lv_icmp_ne (tgt := 84) hx hb dM_takeRequester_77 rfl (fun _ => ?_) (fun h9 => absurd h9 h1)
            refine lv_iload_n hx hb dM_takeRequester_84 rfl (lv_at hl 4 rfl) ?_
            refine lv_bipush (v := 10) hx hb dM_takeRequester_85 (by decide) ?_
            refine lv_icmp_ne (tgt := 94) hx hb dM_takeRequester_87 rfl (fun _ => ?_) (fun h9 => absurd h9 h2)
            refine lv_bipush (v := 6) hx hb dM_takeRequester_94 (by decide) ?_
            refine ew_iast hx hb hK hV hS (hE 18 (by decide)) (cR_18 _ _ _) 0 rfl (vp_in_nI (by omega) (by decide)) ln (nI_clamp (by omega)) (qR_18 _ _ _ _ _) dM_takeRequester_96 (fun H locs hV hS => ?_)
            refine lv_iload_n hx hb dM_takeRequester_97 rfl (lv_at hl 5 rfl) ?_
            refine lv_if_eq (tgt := 108) hx hb dM_takeRequester_98 rfl (fun h19 => ?_) (fun h19 => ?_)
            · refine lv_iload_n hx hb dM_takeRequester_108 rfl (lv_at hl 4 rfl) ?_
              refine lv_iconst (v := 2) hx hb dM_takeRequester_109 (by decide) ?_
              refine lv_icmp_ne (tgt := 125) hx hb dM_takeRequester_110 rfl (fun _ => ?_) (fun h9 => absurd h9 (by rw [h3]; decide))
              refine lv_iload_n hx hb dM_takeRequester_125 rfl (lv_at hl 4 rfl) ?_
              refine lv_iconst (v := 3) hx hb dM_takeRequester_126 (by decide) ?_
              refine lv_icmp_ne (tgt := 149) hx hb dM_takeRequester_127 rfl (fun _ => ?_) (fun h9 => absurd h9 (by rw [h3]; decide))
              refine lv_iload_n hx hb dM_takeRequester_149 rfl (lv_at hl 4 rfl) ?_
              refine lv_iconst (v := 4) hx hb dM_takeRequester_150 (by decide) ?_
              refine lv_icmp_eq (tgt := 160) hx hb dM_takeRequester_151 rfl (fun h9 => absurd h9 (by rw [h3]; decide)) (fun _ => ?_)
              refine lv_iload_n hx hb dM_takeRequester_154 rfl (lv_at hl 4 rfl) ?_
              refine lv_bipush (v := 16) hx hb dM_takeRequester_155 (by decide) ?_
              refine lv_icmp_ne (tgt := 175) hx hb dM_takeRequester_157 rfl (fun _ => ?_) (fun h9 => absurd h9 (by rw [h3]; decide))
              refine lv_iload_n hx hb dM_takeRequester_175 rfl (lv_at hl 4 rfl) ?_
              refine lv_bipush (v := 13) hx hb dM_takeRequester_176 (by decide) ?_
              refine lv_icmp_ne (tgt := 218) hx hb dM_takeRequester_178 rfl (fun _ => ?_) (fun h9 => absurd h9 (by rw [h3]; decide))
              refine lv_iload_n hx hb dM_takeRequester_218 rfl (lv_at hl 4 rfl) ?_
              refine lv_iconst (v := 4) hx hb dM_takeRequester_219 (by decide) ?_
              refine lv_icmp_ne (tgt := 233) hx hb dM_takeRequester_220 rfl (fun _ => ?_) (fun h9 => absurd h9 (by rw [h3]; decide))
              exact er_vret hx hb hr hlocks hV hS dM_takeRequester_233 (Eq.symm (by unfold s_takeRequester; simp only [if_neg h1, if_neg h2, if_pos h3, if_neg h16, if_pos h18, if_pos h19]))
            · refine lv_aload_n hx hb dM_takeRequester_101 rfl (lv_at hl 2 rfl) ?_
              refine ew_get (v := .ref (X 19 0)) hx hb hts hown hK hV fM_49 hi0 (cR_0 _ _ _) rfl dM_takeRequester_102 ?_
              refine lv_iload_n hx hb dM_takeRequester_105 rfl (lv_at hl 3 rfl) ?_
              refine lv_iload_n hx hb dM_takeRequester_106 rfl (lv_at hl 5 rfl) ?_
              refine ew_iast hx hb hK hV hS (hE 19 (by decide)) (cR_19 _ _ _) 0 rfl (vp_in_nI (by omega) (by decide)) ln (nI_clamp (by omega)) (qR_19 _ _ _ _ _) dM_takeRequester_107 (fun H locs hV hS => ?_)
              refine lv_iload_n hx hb dM_takeRequester_108 rfl (lv_at hl 4 rfl) ?_
              refine lv_iconst (v := 2) hx hb dM_takeRequester_109 (by decide) ?_
              refine lv_icmp_ne (tgt := 125) hx hb dM_takeRequester_110 rfl (fun _ => ?_) (fun h9 => absurd h9 (by rw [h3]; decide))
              refine lv_iload_n hx hb dM_takeRequester_125 rfl (lv_at hl 4 rfl) ?_
              refine lv_iconst (v := 3) hx hb dM_takeRequester_126 (by decide) ?_
              refine lv_icmp_ne (tgt := 149) hx hb dM_takeRequester_127 rfl (fun _ => ?_) (fun h9 => absurd h9 (by rw [h3]; decide))
              refine lv_iload_n hx hb dM_takeRequester_149 rfl (lv_at hl 4 rfl) ?_
              refine lv_iconst (v := 4) hx hb dM_takeRequester_150 (by decide) ?_
              refine lv_icmp_eq (tgt := 160) hx hb dM_takeRequester_151 rfl (fun h9 => absurd h9 (by rw [h3]; decide)) (fun _ => ?_)
              refine lv_iload_n hx hb dM_takeRequester_154 rfl (lv_at hl 4 rfl) ?_
              refine lv_bipush (v := 16) hx hb dM_takeRequester_155 (by decide) ?_
              refine lv_icmp_ne (tgt := 175) hx hb dM_takeRequester_157 rfl (fun _ => ?_) (fun h9 => absurd h9 (by rw [h3]; decide))
              refine lv_iload_n hx hb dM_takeRequester_175 rfl (lv_at hl 4 rfl) ?_
              refine lv_bipush (v := 13) hx hb dM_takeRequester_176 (by decide) ?_
              refine lv_icmp_ne (tgt := 218) hx hb dM_takeRequester_178 rfl (fun _ => ?_) (fun h9 => absurd h9 (by rw [h3]; decide))
              refine lv_iload_n hx hb dM_takeRequester_218 rfl (lv_at hl 4 rfl) ?_
              refine lv_iconst (v := 4) hx hb dM_takeRequester_219 (by decide) ?_
              refine lv_icmp_ne (tgt := 233) hx hb dM_takeRequester_220 rfl (fun _ => ?_) (fun h9 => absurd h9 (by rw [h3]; decide))
              exact er_vret hx hb hr hlocks hV hS dM_takeRequester_233 (Eq.symm (by unfold s_takeRequester; simp only [if_neg h1, if_neg h2, if_pos h3, if_neg h16, if_pos h18, if_neg h19]))
    · refine lv_iload hx hb dM_takeRequester_33 (lv_at hl 0 rfl) ?_
      refine lv_iconst (v := 5) hx hb dM_takeRequester_35 (by decide) ?_
      refine lv_icmp_eq (tgt := 57) hx hb dM_takeRequester_36 rfl (fun h20 => ?_) (fun h20 => ?_)
      · refine lv_iconst (v := 1) hx hb dM_takeRequester_57 (by decide) ?_
        refine lv_goto (tgt := 62) hx hb dM_takeRequester_58 rfl ?_
        refine lv_istore (lv' := [(5, .int 1), (4, .int (A 18 0 ln)), (0, .ref (X 0 0)), (1, .int (nI ln)), (2, .int what), (3, .int tells)]) hx hb dM_takeRequester_62 hl (by decide) rfl (fun ls hl => ?_)
        refine lv_iload hx hb dM_takeRequester_64 (lv_at hl 0 rfl) ?_
        refine lv_if_eq (tgt := 108) hx hb dM_takeRequester_66 rfl (fun h9 => absurd h9 (by decide)) (fun _ => ?_)
        refine lv_aload_n hx hb dM_takeRequester_69 rfl (lv_at hl 2 rfl) ?_
        refine ew_get (v := .ref (X 18 0)) hx hb hts hown hK hV fM_46 hi0 (cR_0 _ _ _) rfl dM_takeRequester_70 ?_
        refine lv_iload_n hx hb dM_takeRequester_73 rfl (lv_at hl 3 rfl) ?_
        refine lv_iload_n hx hb dM_takeRequester_74 rfl (lv_at hl 4 rfl) ?_
        refine lv_bipush (v := 7) hx hb dM_takeRequester_75 (by decide) ?_
        refine lv_icmp_ne (tgt := 84) hx hb dM_takeRequester_77 rfl (fun _ => ?_) (fun h9 => absurd h9 h1)
        refine lv_iload_n hx hb dM_takeRequester_84 rfl (lv_at hl 4 rfl) ?_
        refine lv_bipush (v := 10) hx hb dM_takeRequester_85 (by decide) ?_
        refine lv_icmp_ne (tgt := 94) hx hb dM_takeRequester_87 rfl (fun h9 => absurd h2 h9) (fun _ => ?_)
        refine lv_iconst (v := 4) hx hb dM_takeRequester_90 (by decide) ?_
        refine lv_goto (tgt := 96) hx hb dM_takeRequester_91 rfl ?_
        refine ew_iast hx hb hK hV hS (hE 18 (by decide)) (cR_18 _ _ _) 0 rfl (vp_in_nI (by omega) (by decide)) ln (nI_clamp (by omega)) (qR_18 _ _ _ _ _) dM_takeRequester_96 (fun H locs hV hS => ?_)
        refine lv_iload_n hx hb dM_takeRequester_97 rfl (lv_at hl 5 rfl) ?_
        refine lv_if_eq (tgt := 108) hx hb dM_takeRequester_98 rfl (fun h21 => ?_) (fun h21 => ?_)
        · refine lv_iload_n hx hb dM_takeRequester_108 rfl (lv_at hl 4 rfl) ?_
          refine lv_iconst (v := 2) hx hb dM_takeRequester_109 (by decide) ?_
          refine lv_icmp_ne (tgt := 125) hx hb dM_takeRequester_110 rfl (fun _ => ?_) (fun h9 => absurd h9 (by rw [h2]; decide))
          refine lv_iload_n hx hb dM_takeRequester_125 rfl (lv_at hl 4 rfl) ?_
          refine lv_iconst (v := 3) hx hb dM_takeRequester_126 (by decide) ?_
          refine lv_icmp_ne (tgt := 149) hx hb dM_takeRequester_127 rfl (fun _ => ?_) (fun h9 => absurd h9 (by rw [h2]; decide))
          refine lv_iload_n hx hb dM_takeRequester_149 rfl (lv_at hl 4 rfl) ?_
          refine lv_iconst (v := 4) hx hb dM_takeRequester_150 (by decide) ?_
          refine lv_icmp_eq (tgt := 160) hx hb dM_takeRequester_151 rfl (fun h9 => absurd h9 (by rw [h2]; decide)) (fun _ => ?_)
          refine lv_iload_n hx hb dM_takeRequester_154 rfl (lv_at hl 4 rfl) ?_
          refine lv_bipush (v := 16) hx hb dM_takeRequester_155 (by decide) ?_
          refine lv_icmp_ne (tgt := 175) hx hb dM_takeRequester_157 rfl (fun _ => ?_) (fun h9 => absurd h9 (by rw [h2]; decide))
          refine lv_iload_n hx hb dM_takeRequester_175 rfl (lv_at hl 4 rfl) ?_
          refine lv_bipush (v := 13) hx hb dM_takeRequester_176 (by decide) ?_
          refine lv_icmp_ne (tgt := 218) hx hb dM_takeRequester_178 rfl (fun _ => ?_) (fun h9 => absurd h9 (by rw [h2]; decide))
          refine lv_iload_n hx hb dM_takeRequester_218 rfl (lv_at hl 4 rfl) ?_
          refine lv_iconst (v := 4) hx hb dM_takeRequester_219 (by decide) ?_
          refine lv_icmp_ne (tgt := 233) hx hb dM_takeRequester_220 rfl (fun _ => ?_) (fun h9 => absurd h9 (by rw [h2]; decide))
          exact er_vret hx hb hr hlocks hV hS dM_takeRequester_233 (Eq.symm (by unfold s_takeRequester; simp only [if_neg h1, if_pos h2, if_pos h20, if_pos h21]))
        · refine lv_aload_n hx hb dM_takeRequester_101 rfl (lv_at hl 2 rfl) ?_
          refine ew_get (v := .ref (X 19 0)) hx hb hts hown hK hV fM_49 hi0 (cR_0 _ _ _) rfl dM_takeRequester_102 ?_
          refine lv_iload_n hx hb dM_takeRequester_105 rfl (lv_at hl 3 rfl) ?_
          refine lv_iload_n hx hb dM_takeRequester_106 rfl (lv_at hl 5 rfl) ?_
          refine ew_iast hx hb hK hV hS (hE 19 (by decide)) (cR_19 _ _ _) 0 rfl (vp_in_nI (by omega) (by decide)) ln (nI_clamp (by omega)) (qR_19 _ _ _ _ _) dM_takeRequester_107 (fun H locs hV hS => ?_)
          refine lv_iload_n hx hb dM_takeRequester_108 rfl (lv_at hl 4 rfl) ?_
          refine lv_iconst (v := 2) hx hb dM_takeRequester_109 (by decide) ?_
          refine lv_icmp_ne (tgt := 125) hx hb dM_takeRequester_110 rfl (fun _ => ?_) (fun h9 => absurd h9 (by rw [h2]; decide))
          refine lv_iload_n hx hb dM_takeRequester_125 rfl (lv_at hl 4 rfl) ?_
          refine lv_iconst (v := 3) hx hb dM_takeRequester_126 (by decide) ?_
          refine lv_icmp_ne (tgt := 149) hx hb dM_takeRequester_127 rfl (fun _ => ?_) (fun h9 => absurd h9 (by rw [h2]; decide))
          refine lv_iload_n hx hb dM_takeRequester_149 rfl (lv_at hl 4 rfl) ?_
          refine lv_iconst (v := 4) hx hb dM_takeRequester_150 (by decide) ?_
          refine lv_icmp_eq (tgt := 160) hx hb dM_takeRequester_151 rfl (fun h9 => absurd h9 (by rw [h2]; decide)) (fun _ => ?_)
          refine lv_iload_n hx hb dM_takeRequester_154 rfl (lv_at hl 4 rfl) ?_
          refine lv_bipush (v := 16) hx hb dM_takeRequester_155 (by decide) ?_
          refine lv_icmp_ne (tgt := 175) hx hb dM_takeRequester_157 rfl (fun _ => ?_) (fun h9 => absurd h9 (by rw [h2]; decide))
          refine lv_iload_n hx hb dM_takeRequester_175 rfl (lv_at hl 4 rfl) ?_
          refine lv_bipush (v := 13) hx hb dM_takeRequester_176 (by decide) ?_
          refine lv_icmp_ne (tgt := 218) hx hb dM_takeRequester_178 rfl (fun _ => ?_) (fun h9 => absurd h9 (by rw [h2]; decide))
          refine lv_iload_n hx hb dM_takeRequester_218 rfl (lv_at hl 4 rfl) ?_
          refine lv_iconst (v := 4) hx hb dM_takeRequester_219 (by decide) ?_
          refine lv_icmp_ne (tgt := 233) hx hb dM_takeRequester_220 rfl (fun _ => ?_) (fun h9 => absurd h9 (by rw [h2]; decide))
          exact er_vret hx hb hr hlocks hV hS dM_takeRequester_233 (Eq.symm (by unfold s_takeRequester; simp only [if_neg h1, if_pos h2, if_pos h20, if_neg h21]))
      · refine lv_iload_n hx hb dM_takeRequester_39 rfl (lv_at hl 3 rfl) ?_
        refine lv_bipush (v := 11) hx hb dM_takeRequester_40 (by decide) ?_
        refine lv_icmp_ne (tgt := 61) hx hb dM_takeRequester_42 rfl (fun _ => ?_) (fun h9 => absurd h9 (by rw [h2]; decide))
        refine lv_iconst (v := 0) hx hb dM_takeRequester_61 (by decide) ?_
        refine lv_istore (lv' := [(5, .int 0), (4, .int (A 18 0 ln)), (0, .ref (X 0 0)), (1, .int (nI ln)), (2, .int what), (3, .int tells)]) hx hb dM_takeRequester_62 hl (by decide) rfl (fun ls hl => ?_)
        refine lv_iload hx hb dM_takeRequester_64 (lv_at hl 0 rfl) ?_
        refine lv_if_eq (tgt := 108) hx hb dM_takeRequester_66 rfl (fun _ => ?_) (fun h9 => absurd (by decide) h9)
        refine lv_iload_n hx hb dM_takeRequester_108 rfl (lv_at hl 4 rfl) ?_
        refine lv_iconst (v := 2) hx hb dM_takeRequester_109 (by decide) ?_
        refine lv_icmp_ne (tgt := 125) hx hb dM_takeRequester_110 rfl (fun _ => ?_) (fun h9 => absurd h9 (by rw [h2]; decide))
        refine lv_iload_n hx hb dM_takeRequester_125 rfl (lv_at hl 4 rfl) ?_
        refine lv_iconst (v := 3) hx hb dM_takeRequester_126 (by decide) ?_
        refine lv_icmp_ne (tgt := 149) hx hb dM_takeRequester_127 rfl (fun _ => ?_) (fun h9 => absurd h9 (by rw [h2]; decide))
        refine lv_iload_n hx hb dM_takeRequester_149 rfl (lv_at hl 4 rfl) ?_
        refine lv_iconst (v := 4) hx hb dM_takeRequester_150 (by decide) ?_
        refine lv_icmp_eq (tgt := 160) hx hb dM_takeRequester_151 rfl (fun h9 => absurd h9 (by rw [h2]; decide)) (fun _ => ?_)
        refine lv_iload_n hx hb dM_takeRequester_154 rfl (lv_at hl 4 rfl) ?_
        refine lv_bipush (v := 16) hx hb dM_takeRequester_155 (by decide) ?_
        refine lv_icmp_ne (tgt := 175) hx hb dM_takeRequester_157 rfl (fun _ => ?_) (fun h9 => absurd h9 (by rw [h2]; decide))
        refine lv_iload_n hx hb dM_takeRequester_175 rfl (lv_at hl 4 rfl) ?_
        refine lv_bipush (v := 13) hx hb dM_takeRequester_176 (by decide) ?_
        refine lv_icmp_ne (tgt := 218) hx hb dM_takeRequester_178 rfl (fun _ => ?_) (fun h9 => absurd h9 (by rw [h2]; decide))
        refine lv_iload_n hx hb dM_takeRequester_218 rfl (lv_at hl 4 rfl) ?_
        refine lv_iconst (v := 4) hx hb dM_takeRequester_219 (by decide) ?_
        refine lv_icmp_ne (tgt := 233) hx hb dM_takeRequester_220 rfl (fun _ => ?_) (fun h9 => absurd h9 (by rw [h2]; decide))
        exact er_vret hx hb hr hlocks hV hS dM_takeRequester_233 (Eq.symm (by unfold s_takeRequester; simp only [if_neg h1, if_pos h2, if_neg h20]))
  · refine lv_iload hx hb dM_takeRequester_14 (lv_at hl 0 rfl) ?_
    refine lv_iconst (v := 2) hx hb dM_takeRequester_16 (by decide) ?_
    refine lv_icmp_eq (tgt := 57) hx hb dM_takeRequester_17 rfl (fun h22 => ?_) (fun h22 => ?_)
    · refine lv_iconst (v := 1) hx hb dM_takeRequester_57 (by decide) ?_
      refine lv_goto (tgt := 62) hx hb dM_takeRequester_58 rfl ?_
      refine lv_istore (lv' := [(5, .int 1), (4, .int (A 18 0 ln)), (0, .ref (X 0 0)), (1, .int (nI ln)), (2, .int what), (3, .int tells)]) hx hb dM_takeRequester_62 hl (by decide) rfl (fun ls hl => ?_)
      refine lv_iload hx hb dM_takeRequester_64 (lv_at hl 0 rfl) ?_
      refine lv_if_eq (tgt := 108) hx hb dM_takeRequester_66 rfl (fun h9 => absurd h9 (by decide)) (fun _ => ?_)
      refine lv_aload_n hx hb dM_takeRequester_69 rfl (lv_at hl 2 rfl) ?_
      refine ew_get (v := .ref (X 18 0)) hx hb hts hown hK hV fM_46 hi0 (cR_0 _ _ _) rfl dM_takeRequester_70 ?_
      refine lv_iload_n hx hb dM_takeRequester_73 rfl (lv_at hl 3 rfl) ?_
      refine lv_iload_n hx hb dM_takeRequester_74 rfl (lv_at hl 4 rfl) ?_
      refine lv_bipush (v := 7) hx hb dM_takeRequester_75 (by decide) ?_
      refine lv_icmp_ne (tgt := 84) hx hb dM_takeRequester_77 rfl (fun h9 => absurd h1 h9) (fun _ => ?_)
      refine lv_iconst (v := 3) hx hb dM_takeRequester_80 (by decide) ?_
      refine lv_goto (tgt := 96) hx hb dM_takeRequester_81 rfl ?_
      refine ew_iast hx hb hK hV hS (hE 18 (by decide)) (cR_18 _ _ _) 0 rfl (vp_in_nI (by omega) (by decide)) ln (nI_clamp (by omega)) (qR_18 _ _ _ _ _) dM_takeRequester_96 (fun H locs hV hS => ?_)
      refine lv_iload_n hx hb dM_takeRequester_97 rfl (lv_at hl 5 rfl) ?_
      refine lv_if_eq (tgt := 108) hx hb dM_takeRequester_98 rfl (fun h23 => ?_) (fun h23 => ?_)
      · refine lv_iload_n hx hb dM_takeRequester_108 rfl (lv_at hl 4 rfl) ?_
        refine lv_iconst (v := 2) hx hb dM_takeRequester_109 (by decide) ?_
        refine lv_icmp_ne (tgt := 125) hx hb dM_takeRequester_110 rfl (fun _ => ?_) (fun h9 => absurd h9 (by rw [h1]; decide))
        refine lv_iload_n hx hb dM_takeRequester_125 rfl (lv_at hl 4 rfl) ?_
        refine lv_iconst (v := 3) hx hb dM_takeRequester_126 (by decide) ?_
        refine lv_icmp_ne (tgt := 149) hx hb dM_takeRequester_127 rfl (fun _ => ?_) (fun h9 => absurd h9 (by rw [h1]; decide))
        refine lv_iload_n hx hb dM_takeRequester_149 rfl (lv_at hl 4 rfl) ?_
        refine lv_iconst (v := 4) hx hb dM_takeRequester_150 (by decide) ?_
        refine lv_icmp_eq (tgt := 160) hx hb dM_takeRequester_151 rfl (fun h9 => absurd h9 (by rw [h1]; decide)) (fun _ => ?_)
        refine lv_iload_n hx hb dM_takeRequester_154 rfl (lv_at hl 4 rfl) ?_
        refine lv_bipush (v := 16) hx hb dM_takeRequester_155 (by decide) ?_
        refine lv_icmp_ne (tgt := 175) hx hb dM_takeRequester_157 rfl (fun _ => ?_) (fun h9 => absurd h9 (by rw [h1]; decide))
        refine lv_iload_n hx hb dM_takeRequester_175 rfl (lv_at hl 4 rfl) ?_
        refine lv_bipush (v := 13) hx hb dM_takeRequester_176 (by decide) ?_
        refine lv_icmp_ne (tgt := 218) hx hb dM_takeRequester_178 rfl (fun _ => ?_) (fun h9 => absurd h9 (by rw [h1]; decide))
        refine lv_iload_n hx hb dM_takeRequester_218 rfl (lv_at hl 4 rfl) ?_
        refine lv_iconst (v := 4) hx hb dM_takeRequester_219 (by decide) ?_
        refine lv_icmp_ne (tgt := 233) hx hb dM_takeRequester_220 rfl (fun _ => ?_) (fun h9 => absurd h9 (by rw [h1]; decide))
        exact er_vret hx hb hr hlocks hV hS dM_takeRequester_233 (Eq.symm (by unfold s_takeRequester; simp only [if_pos h1, if_pos h22, if_pos h23]))
      · refine lv_aload_n hx hb dM_takeRequester_101 rfl (lv_at hl 2 rfl) ?_
        refine ew_get (v := .ref (X 19 0)) hx hb hts hown hK hV fM_49 hi0 (cR_0 _ _ _) rfl dM_takeRequester_102 ?_
        refine lv_iload_n hx hb dM_takeRequester_105 rfl (lv_at hl 3 rfl) ?_
        refine lv_iload_n hx hb dM_takeRequester_106 rfl (lv_at hl 5 rfl) ?_
        refine ew_iast hx hb hK hV hS (hE 19 (by decide)) (cR_19 _ _ _) 0 rfl (vp_in_nI (by omega) (by decide)) ln (nI_clamp (by omega)) (qR_19 _ _ _ _ _) dM_takeRequester_107 (fun H locs hV hS => ?_)
        refine lv_iload_n hx hb dM_takeRequester_108 rfl (lv_at hl 4 rfl) ?_
        refine lv_iconst (v := 2) hx hb dM_takeRequester_109 (by decide) ?_
        refine lv_icmp_ne (tgt := 125) hx hb dM_takeRequester_110 rfl (fun _ => ?_) (fun h9 => absurd h9 (by rw [h1]; decide))
        refine lv_iload_n hx hb dM_takeRequester_125 rfl (lv_at hl 4 rfl) ?_
        refine lv_iconst (v := 3) hx hb dM_takeRequester_126 (by decide) ?_
        refine lv_icmp_ne (tgt := 149) hx hb dM_takeRequester_127 rfl (fun _ => ?_) (fun h9 => absurd h9 (by rw [h1]; decide))
        refine lv_iload_n hx hb dM_takeRequester_149 rfl (lv_at hl 4 rfl) ?_
        refine lv_iconst (v := 4) hx hb dM_takeRequester_150 (by decide) ?_
        refine lv_icmp_eq (tgt := 160) hx hb dM_takeRequester_151 rfl (fun h9 => absurd h9 (by rw [h1]; decide)) (fun _ => ?_)
        refine lv_iload_n hx hb dM_takeRequester_154 rfl (lv_at hl 4 rfl) ?_
        refine lv_bipush (v := 16) hx hb dM_takeRequester_155 (by decide) ?_
        refine lv_icmp_ne (tgt := 175) hx hb dM_takeRequester_157 rfl (fun _ => ?_) (fun h9 => absurd h9 (by rw [h1]; decide))
        refine lv_iload_n hx hb dM_takeRequester_175 rfl (lv_at hl 4 rfl) ?_
        refine lv_bipush (v := 13) hx hb dM_takeRequester_176 (by decide) ?_
        refine lv_icmp_ne (tgt := 218) hx hb dM_takeRequester_178 rfl (fun _ => ?_) (fun h9 => absurd h9 (by rw [h1]; decide))
        refine lv_iload_n hx hb dM_takeRequester_218 rfl (lv_at hl 4 rfl) ?_
        refine lv_iconst (v := 4) hx hb dM_takeRequester_219 (by decide) ?_
        refine lv_icmp_ne (tgt := 233) hx hb dM_takeRequester_220 rfl (fun _ => ?_) (fun h9 => absurd h9 (by rw [h1]; decide))
        exact er_vret hx hb hr hlocks hV hS dM_takeRequester_233 (Eq.symm (by unfold s_takeRequester; simp only [if_pos h1, if_pos h22, if_neg h23]))
    · refine lv_iload hx hb dM_takeRequester_20 (lv_at hl 0 rfl) ?_
      refine lv_bipush (v := 10) hx hb dM_takeRequester_22 (by decide) ?_
      refine lv_icmp_eq (tgt := 57) hx hb dM_takeRequester_24 rfl (fun h24 => ?_) (fun h24 => ?_)
      · refine lv_iconst (v := 1) hx hb dM_takeRequester_57 (by decide) ?_
        refine lv_goto (tgt := 62) hx hb dM_takeRequester_58 rfl ?_
        refine lv_istore (lv' := [(5, .int 1), (4, .int (A 18 0 ln)), (0, .ref (X 0 0)), (1, .int (nI ln)), (2, .int what), (3, .int tells)]) hx hb dM_takeRequester_62 hl (by decide) rfl (fun ls hl => ?_)
        refine lv_iload hx hb dM_takeRequester_64 (lv_at hl 0 rfl) ?_
        refine lv_if_eq (tgt := 108) hx hb dM_takeRequester_66 rfl (fun h9 => absurd h9 (by decide)) (fun _ => ?_)
        refine lv_aload_n hx hb dM_takeRequester_69 rfl (lv_at hl 2 rfl) ?_
        refine ew_get (v := .ref (X 18 0)) hx hb hts hown hK hV fM_46 hi0 (cR_0 _ _ _) rfl dM_takeRequester_70 ?_
        refine lv_iload_n hx hb dM_takeRequester_73 rfl (lv_at hl 3 rfl) ?_
        refine lv_iload_n hx hb dM_takeRequester_74 rfl (lv_at hl 4 rfl) ?_
        refine lv_bipush (v := 7) hx hb dM_takeRequester_75 (by decide) ?_
        refine lv_icmp_ne (tgt := 84) hx hb dM_takeRequester_77 rfl (fun h9 => absurd h1 h9) (fun _ => ?_)
        refine lv_iconst (v := 3) hx hb dM_takeRequester_80 (by decide) ?_
        refine lv_goto (tgt := 96) hx hb dM_takeRequester_81 rfl ?_
        refine ew_iast hx hb hK hV hS (hE 18 (by decide)) (cR_18 _ _ _) 0 rfl (vp_in_nI (by omega) (by decide)) ln (nI_clamp (by omega)) (qR_18 _ _ _ _ _) dM_takeRequester_96 (fun H locs hV hS => ?_)
        refine lv_iload_n hx hb dM_takeRequester_97 rfl (lv_at hl 5 rfl) ?_
        refine lv_if_eq (tgt := 108) hx hb dM_takeRequester_98 rfl (fun h25 => ?_) (fun h25 => ?_)
        · refine lv_iload_n hx hb dM_takeRequester_108 rfl (lv_at hl 4 rfl) ?_
          refine lv_iconst (v := 2) hx hb dM_takeRequester_109 (by decide) ?_
          refine lv_icmp_ne (tgt := 125) hx hb dM_takeRequester_110 rfl (fun _ => ?_) (fun h9 => absurd h9 (by rw [h1]; decide))
          refine lv_iload_n hx hb dM_takeRequester_125 rfl (lv_at hl 4 rfl) ?_
          refine lv_iconst (v := 3) hx hb dM_takeRequester_126 (by decide) ?_
          refine lv_icmp_ne (tgt := 149) hx hb dM_takeRequester_127 rfl (fun _ => ?_) (fun h9 => absurd h9 (by rw [h1]; decide))
          refine lv_iload_n hx hb dM_takeRequester_149 rfl (lv_at hl 4 rfl) ?_
          refine lv_iconst (v := 4) hx hb dM_takeRequester_150 (by decide) ?_
          refine lv_icmp_eq (tgt := 160) hx hb dM_takeRequester_151 rfl (fun h9 => absurd h9 (by rw [h1]; decide)) (fun _ => ?_)
          refine lv_iload_n hx hb dM_takeRequester_154 rfl (lv_at hl 4 rfl) ?_
          refine lv_bipush (v := 16) hx hb dM_takeRequester_155 (by decide) ?_
          refine lv_icmp_ne (tgt := 175) hx hb dM_takeRequester_157 rfl (fun _ => ?_) (fun h9 => absurd h9 (by rw [h1]; decide))
          refine lv_iload_n hx hb dM_takeRequester_175 rfl (lv_at hl 4 rfl) ?_
          refine lv_bipush (v := 13) hx hb dM_takeRequester_176 (by decide) ?_
          refine lv_icmp_ne (tgt := 218) hx hb dM_takeRequester_178 rfl (fun _ => ?_) (fun h9 => absurd h9 (by rw [h1]; decide))
          refine lv_iload_n hx hb dM_takeRequester_218 rfl (lv_at hl 4 rfl) ?_
          refine lv_iconst (v := 4) hx hb dM_takeRequester_219 (by decide) ?_
          refine lv_icmp_ne (tgt := 233) hx hb dM_takeRequester_220 rfl (fun _ => ?_) (fun h9 => absurd h9 (by rw [h1]; decide))
          exact er_vret hx hb hr hlocks hV hS dM_takeRequester_233 (Eq.symm (by unfold s_takeRequester; simp only [if_pos h1, if_neg h22, if_pos h24, if_pos h25]))
        · refine lv_aload_n hx hb dM_takeRequester_101 rfl (lv_at hl 2 rfl) ?_
          refine ew_get (v := .ref (X 19 0)) hx hb hts hown hK hV fM_49 hi0 (cR_0 _ _ _) rfl dM_takeRequester_102 ?_
          refine lv_iload_n hx hb dM_takeRequester_105 rfl (lv_at hl 3 rfl) ?_
          refine lv_iload_n hx hb dM_takeRequester_106 rfl (lv_at hl 5 rfl) ?_
          refine ew_iast hx hb hK hV hS (hE 19 (by decide)) (cR_19 _ _ _) 0 rfl (vp_in_nI (by omega) (by decide)) ln (nI_clamp (by omega)) (qR_19 _ _ _ _ _) dM_takeRequester_107 (fun H locs hV hS => ?_)
          refine lv_iload_n hx hb dM_takeRequester_108 rfl (lv_at hl 4 rfl) ?_
          refine lv_iconst (v := 2) hx hb dM_takeRequester_109 (by decide) ?_
          refine lv_icmp_ne (tgt := 125) hx hb dM_takeRequester_110 rfl (fun _ => ?_) (fun h9 => absurd h9 (by rw [h1]; decide))
          refine lv_iload_n hx hb dM_takeRequester_125 rfl (lv_at hl 4 rfl) ?_
          refine lv_iconst (v := 3) hx hb dM_takeRequester_126 (by decide) ?_
          refine lv_icmp_ne (tgt := 149) hx hb dM_takeRequester_127 rfl (fun _ => ?_) (fun h9 => absurd h9 (by rw [h1]; decide))
          refine lv_iload_n hx hb dM_takeRequester_149 rfl (lv_at hl 4 rfl) ?_
          refine lv_iconst (v := 4) hx hb dM_takeRequester_150 (by decide) ?_
          refine lv_icmp_eq (tgt := 160) hx hb dM_takeRequester_151 rfl (fun h9 => absurd h9 (by rw [h1]; decide)) (fun _ => ?_)
          refine lv_iload_n hx hb dM_takeRequester_154 rfl (lv_at hl 4 rfl) ?_
          refine lv_bipush (v := 16) hx hb dM_takeRequester_155 (by decide) ?_
          refine lv_icmp_ne (tgt := 175) hx hb dM_takeRequester_157 rfl (fun _ => ?_) (fun h9 => absurd h9 (by rw [h1]; decide))
          refine lv_iload_n hx hb dM_takeRequester_175 rfl (lv_at hl 4 rfl) ?_
          refine lv_bipush (v := 13) hx hb dM_takeRequester_176 (by decide) ?_
          refine lv_icmp_ne (tgt := 218) hx hb dM_takeRequester_178 rfl (fun _ => ?_) (fun h9 => absurd h9 (by rw [h1]; decide))
          refine lv_iload_n hx hb dM_takeRequester_218 rfl (lv_at hl 4 rfl) ?_
          refine lv_iconst (v := 4) hx hb dM_takeRequester_219 (by decide) ?_
          refine lv_icmp_ne (tgt := 233) hx hb dM_takeRequester_220 rfl (fun _ => ?_) (fun h9 => absurd h9 (by rw [h1]; decide))
          exact er_vret hx hb hr hlocks hV hS dM_takeRequester_233 (Eq.symm (by unfold s_takeRequester; simp only [if_pos h1, if_neg h22, if_pos h24, if_neg h25]))
      · refine lv_iload_n hx hb dM_takeRequester_27 rfl (lv_at hl 3 rfl) ?_
        refine lv_bipush (v := 10) hx hb dM_takeRequester_28 (by decide) ?_
        refine lv_icmp_ne (tgt := 39) hx hb dM_takeRequester_30 rfl (fun _ => ?_) (fun h9 => absurd h9 (by rw [h1]; decide))
        refine lv_iload_n hx hb dM_takeRequester_39 rfl (lv_at hl 3 rfl) ?_
        refine lv_bipush (v := 11) hx hb dM_takeRequester_40 (by decide) ?_
        refine lv_icmp_ne (tgt := 61) hx hb dM_takeRequester_42 rfl (fun _ => ?_) (fun h9 => absurd h9 (by rw [h1]; decide))
        refine lv_iconst (v := 0) hx hb dM_takeRequester_61 (by decide) ?_
        refine lv_istore (lv' := [(5, .int 0), (4, .int (A 18 0 ln)), (0, .ref (X 0 0)), (1, .int (nI ln)), (2, .int what), (3, .int tells)]) hx hb dM_takeRequester_62 hl (by decide) rfl (fun ls hl => ?_)
        refine lv_iload hx hb dM_takeRequester_64 (lv_at hl 0 rfl) ?_
        refine lv_if_eq (tgt := 108) hx hb dM_takeRequester_66 rfl (fun _ => ?_) (fun h9 => absurd (by decide) h9)
        refine lv_iload_n hx hb dM_takeRequester_108 rfl (lv_at hl 4 rfl) ?_
        refine lv_iconst (v := 2) hx hb dM_takeRequester_109 (by decide) ?_
        refine lv_icmp_ne (tgt := 125) hx hb dM_takeRequester_110 rfl (fun _ => ?_) (fun h9 => absurd h9 (by rw [h1]; decide))
        refine lv_iload_n hx hb dM_takeRequester_125 rfl (lv_at hl 4 rfl) ?_
        refine lv_iconst (v := 3) hx hb dM_takeRequester_126 (by decide) ?_
        refine lv_icmp_ne (tgt := 149) hx hb dM_takeRequester_127 rfl (fun _ => ?_) (fun h9 => absurd h9 (by rw [h1]; decide))
        refine lv_iload_n hx hb dM_takeRequester_149 rfl (lv_at hl 4 rfl) ?_
        refine lv_iconst (v := 4) hx hb dM_takeRequester_150 (by decide) ?_
        refine lv_icmp_eq (tgt := 160) hx hb dM_takeRequester_151 rfl (fun h9 => absurd h9 (by rw [h1]; decide)) (fun _ => ?_)
        refine lv_iload_n hx hb dM_takeRequester_154 rfl (lv_at hl 4 rfl) ?_
        refine lv_bipush (v := 16) hx hb dM_takeRequester_155 (by decide) ?_
        refine lv_icmp_ne (tgt := 175) hx hb dM_takeRequester_157 rfl (fun _ => ?_) (fun h9 => absurd h9 (by rw [h1]; decide))
        refine lv_iload_n hx hb dM_takeRequester_175 rfl (lv_at hl 4 rfl) ?_
        refine lv_bipush (v := 13) hx hb dM_takeRequester_176 (by decide) ?_
        refine lv_icmp_ne (tgt := 218) hx hb dM_takeRequester_178 rfl (fun _ => ?_) (fun h9 => absurd h9 (by rw [h1]; decide))
        refine lv_iload_n hx hb dM_takeRequester_218 rfl (lv_at hl 4 rfl) ?_
        refine lv_iconst (v := 4) hx hb dM_takeRequester_219 (by decide) ?_
        refine lv_icmp_ne (tgt := 233) hx hb dM_takeRequester_220 rfl (fun _ => ?_) (fun h9 => absurd h9 (by rw [h1]; decide))
        exact er_vret hx hb hr hlocks hV hS dM_takeRequester_233 (Eq.symm (by unfold s_takeRequester; simp only [if_pos h1, if_neg h22, if_neg h24]))
