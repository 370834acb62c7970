def s_thrown (A : ew_R) : Int32 :=
  A 0 0 0
set_option maxHeartbeats 4000000 in
set_option maxRecDepth 100000 in
theorem r_thrown (l : Launch) (D : va_G) (T : Nat → ClassId) (X : Nat → Nat → Nat) (L : List Nat) (tg : Nat → Nat × Nat) (sz : Nat) (hE : eR_E X L tg) (A : ew_R) : Met l yM_thrown wsM_thrown ({ frames := 0, cells := 0, slots := 0, locals := 0 }) (er_Pc D vwCl (tysA T) (cfR T) X L tg A sz [.ref (X 0 0)]) (er_Qi D vwCl (cfR T) X L tg sz (fun r u => r = s_thrown A ∧ u = A)) 0 0 (ew_A L sz) := by
  refine er_met (by decide) rfl (Nat.le_of_ble_eq_true rfl) ?_
  intro p e s m below meth c ls hx hb hr hts hown hlocks hml hV hK hS hA hl hsz
  subst hsz
  have hi0 := hE 0 (by decide)
  have hl : lv_has ls 1 [(0, .ref (X 0 0))] := hl
  refine lv_aload_n hx hb dM_thrown_0 rfl (lv_at hl 0 rfl) ?_
  refine ew_get (v := .int (A 0 0 0)) hx hb hts hown hK hV fM_113 hi0 (cR_0 _ _ _) rfl dM_thrown_1 ?_
  exact er_iret hx hb hr hlocks hV hS dM_thrown_4 ⟨Eq.symm (by unfold s_thrown; rfl), rfl⟩

def s_isLibrary (lb : Int32) : Int32 :=
  if lb < 0 then
    0
  else
    if 6 ≤ lb then
      0
    else
      1
set_option maxHeartbeats 4000000 in
set_option maxRecDepth 100000 in
theorem r_isLibrary (l : Launch) (D : va_G) (T : Nat → ClassId) (X : Nat → Nat → Nat) (L : List Nat) (tg : Nat → Nat × Nat) (sz : Nat) (hE : eR_E X L tg) (A : ew_R) (lb : Int32) : Met l yM_isLibrary wsM_isLibrary ({ frames := 0, cells := 0, slots := 0, locals := 0 }) (er_Pc D vwCl (tysA T) (cfR T) X L tg A sz [.int lb]) (er_Qi D vwCl (cfR T) X L tg sz (fun r u => r = s_isLibrary lb ∧ u = A)) 0 0 (ew_A L sz) := by
  refine er_met (by decide) rfl (Nat.le_of_ble_eq_true rfl) ?_
  intro p e s m below meth c ls hx hb hr hts hown hlocks hml hV hK hS hA hl hsz
  subst hsz
  have hi0 := hE 0 (by decide)
  have hl : lv_has ls 1 [(0, .int lb)] := hl
  refine lv_iload_n hx hb dM_isLibrary_0 rfl (lv_at hl 0 rfl) ?_
  refine lv_if_lt (tgt := 14) hx hb dM_isLibrary_1 rfl (fun h1 => ?_) (fun h1 => ?_)
  · refine lv_iconst (v := 0) hx hb dM_isLibrary_14 (by decide) ?_
    exact er_zret hx hb hr hlocks hV hS dM_isLibrary_15 (by decide) ⟨Eq.symm (by unfold s_isLibrary; simp only [if_pos h1]), rfl⟩
  · refine lv_iload_n hx hb dM_isLibrary_4 rfl (lv_at hl 0 rfl) ?_
    refine lv_bipush (v := 6) hx hb dM_isLibrary_5 (by decide) ?_
    refine lv_icmp_ge (tgt := 14) hx hb dM_isLibrary_7 rfl (fun h2 => ?_) (fun h2 => ?_)
    · refine lv_iconst (v := 0) hx hb dM_isLibrary_14 (by decide) ?_
      exact er_zret hx hb hr hlocks hV hS dM_isLibrary_15 (by decide) ⟨Eq.symm (by unfold s_isLibrary; simp only [if_neg h1, if_pos h2]), rfl⟩
    · refine lv_iconst (v := 1) hx hb dM_isLibrary_10 (by decide) ?_
      refine lv_goto (tgt := 15) hx hb dM_isLibrary_11 rfl ?_
      exact er_zret hx hb hr hlocks hV hS dM_isLibrary_15 (by decide) ⟨Eq.symm (by unfold s_isLibrary; simp only [if_neg h1, if_neg h2]), rfl⟩

def s_isTitle (tt : Int32) : Int32 :=
  if tt < 0 then
    0
  else
    if 8 ≤ tt then
      0
    else
      1
set_option maxHeartbeats 4000000 in
set_option maxRecDepth 100000 in
theorem r_isTitle (l : Launch) (D : va_G) (T : Nat → ClassId) (X : Nat → Nat → Nat) (L : List Nat) (tg : Nat → Nat × Nat) (sz : Nat) (hE : eR_E X L tg) (A : ew_R) (tt : Int32) : Met l yM_isTitle wsM_isTitle ({ frames := 0, cells := 0, slots := 0, locals := 0 }) (er_Pc D vwCl (tysA T) (cfR T) X L tg A sz [.int tt]) (er_Qi D vwCl (cfR T) X L tg sz (fun r u => r = s_isTitle tt ∧ u = A)) 0 0 (ew_A L sz) := by
  refine er_met (by decide) rfl (Nat.le_of_ble_eq_true rfl) ?_
  intro p e s m below meth c ls hx hb hr hts hown hlocks hml hV hK hS hA hl hsz
  subst hsz
  have hi0 := hE 0 (by decide)
  have hl : lv_has ls 1 [(0, .int tt)] := hl
  refine lv_iload_n hx hb dM_isTitle_0 rfl (lv_at hl 0 rfl) ?_
  refine lv_if_lt (tgt := 14) hx hb dM_isTitle_1 rfl (fun h1 => ?_) (fun h1 => ?_)
  · refine lv_iconst (v := 0) hx hb dM_isTitle_14 (by decide) ?_
    exact er_zret hx hb hr hlocks hV hS dM_isTitle_15 (by decide) ⟨Eq.symm (by unfold s_isTitle; simp only [if_pos h1]), rfl⟩
  · refine lv_iload_n hx hb dM_isTitle_4 rfl (lv_at hl 0 rfl) ?_
    refine lv_bipush (v := 8) hx hb dM_isTitle_5 (by decide) ?_
    refine lv_icmp_ge (tgt := 14) hx hb dM_isTitle_7 rfl (fun h2 => ?_) (fun h2 => ?_)
    · refine lv_iconst (v := 0) hx hb dM_isTitle_14 (by decide) ?_
      exact er_zret hx hb hr hlocks hV hS dM_isTitle_15 (by decide) ⟨Eq.symm (by unfold s_isTitle; simp only [if_neg h1, if_pos h2]), rfl⟩
    · refine lv_iconst (v := 1) hx hb dM_isTitle_10 (by decide) ?_
      refine lv_goto (tgt := 15) hx hb dM_isTitle_11 rfl ?_
      exact er_zret hx hb hr hlocks hV hS dM_isTitle_15 (by decide) ⟨Eq.symm (by unfold s_isTitle; simp only [if_neg h1, if_neg h2]), rfl⟩

def s_isLoan (A : ew_R) (ln : Int32) : Int32 :=
  if ln < 0 then
    0
  else
    if A 0 0 2 ≤ ln then
      0
    else
      1
set_option maxHeartbeats 4000000 in
set_option maxRecDepth 100000 in
theorem r_isLoan (l : Launch) (D : va_G) (T : Nat → ClassId) (X : Nat → Nat → Nat) (L : List Nat) (tg : Nat → Nat × Nat) (sz : Nat) (hE : eR_E X L tg) (A : ew_R) (ln : Int32) : Met l yM_isLoan wsM_isLoan ({ frames := 0, cells := 0, slots := 0, locals := 0 }) (er_Pc D vwCl (tysA T) (cfR T) X L tg A sz [.ref (X 0 0), .int ln]) (er_Qi D vwCl (cfR T) X L tg sz (fun r u => r = s_isLoan A ln ∧ u = A)) 0 0 (ew_A L sz) := by
  refine er_met (by decide) rfl (Nat.le_of_ble_eq_true rfl) ?_
  intro p e s m below meth c ls hx hb hr hts hown hlocks hml hV hK hS hA hl hsz
  subst hsz
  have hi0 := hE 0 (by decide)
  have hl : lv_has ls 2 [(0, .ref (X 0 0)), (1, .int ln)] := hl
  refine lv_iload_n hx hb dM_isLoan_0 rfl (lv_at hl 1 rfl) ?_
  refine lv_if_lt (tgt := 16) hx hb dM_isLoan_1 rfl (fun h1 => ?_) (fun h1 => ?_)
  · refine lv_iconst (v := 0) hx hb dM_isLoan_16 (by decide) ?_
    exact er_zret hx hb hr hlocks hV hS dM_isLoan_17 (by decide) ⟨Eq.symm (by unfold s_isLoan; simp only [if_pos h1]), rfl⟩
  · refine lv_iload_n hx hb dM_isLoan_4 rfl (lv_at hl 1 rfl) ?_
    refine lv_aload_n hx hb dM_isLoan_5 rfl (lv_at hl 0 rfl) ?_
    refine ew_get (v := .int (A 0 0 2)) hx hb hts hown hK hV fM_117 hi0 (cR_0 _ _ _) rfl dM_isLoan_6 ?_
    refine lv_icmp_ge (tgt := 16) hx hb dM_isLoan_9 rfl (fun h2 => ?_) (fun h2 => ?_)
    · refine lv_iconst (v := 0) hx hb dM_isLoan_16 (by decide) ?_
      exact er_zret hx hb hr hlocks hV hS dM_isLoan_17 (by decide) ⟨Eq.symm (by unfold s_isLoan; simp only [if_neg h1, if_pos h2]), rfl⟩
    · refine lv_iconst (v := 1) hx hb dM_isLoan_12 (by decide) ?_
      refine lv_goto (tgt := 17) hx hb dM_isLoan_13 rfl ?_
      exact er_zret hx hb hr hlocks hV hS dM_isLoan_17 (by decide) ⟨Eq.symm (by unfold s_isLoan; simp only [if_neg h1, if_neg h2]), rfl⟩

set_option maxHeartbeats 4000000 in
set_option maxRecDepth 100000 in
theorem r_refuses_a (l : Launch) (D : va_G) (T : Nat → ClassId) (X : Nat → Nat → Nat) (L : List Nat) (tg : Nat → Nat × Nat) (sz : Nat) (hE : eR_E X L tg) (A : ew_R) (now : Int32) : Met l yM_refuses wsM_refuses ({ frames := 0, cells := 0, slots := 0, locals := 0 }) (er_Pc D vwCl (tysA T) (cfR T) X L tg A sz [.ref (X 0 0), .int 1, .int now]) (er_Qi D vwCl (cfR T) X L tg sz (fun r u => r = 1 ∧ u = up3 A 0 0 0 1)) 0 0 (ew_A L sz) := by
  refine er_met (by decide) rfl (Nat.le_of_ble_eq_true rfl) ?_
  intro p e s m below meth c ls hx hb hr hts hown hlocks hml hV hK hS hA hl hsz
  subst hsz
  have hi0 := hE 0 (by decide)
  have hl : lv_has ls 3 [(0, .ref (X 0 0)), (1, .int 1), (2, .int now)] := hl
  refine lv_aload_n hx hb dM_refuses_0 rfl (lv_at hl 0 rfl) ?_
  refine lv_iload_n hx hb dM_refuses_1 rfl (lv_at hl 1 rfl) ?_
  refine lv_if_eq (tgt := 9) hx hb dM_refuses_2 rfl (fun h9 => absurd h9 (by decide)) (fun _ => ?_)
  refine lv_iconst (v := 1) hx hb dM_refuses_5 (by decide) ?_
  refine lv_goto (tgt := 18) hx hb dM_refuses_6 rfl ?_
  refine ew_put (ty := .int) hx hb hts hown hK hV hS fM_113 gM hi0 (cR_0 _ _ _) 0 _ (pR_0 _ _ _ _) rfl (by decide +kernel) rfl rfl (Nat.le_of_ble_eq_true rfl) dM_refuses_18 (fun H locs hV hS => ?_)
  refine lv_aload_n hx hb dM_refuses_21 rfl (lv_at hl 0 rfl) ?_
  refine ew_get (v := .int 1) hx hb hts hown hK hV fM_113 hi0 (cR_0 _ _ _) rfl dM_refuses_22 ?_
  refine lv_if_le (tgt := 32) hx hb dM_refuses_25 rfl (fun h9 => absurd h9 (by decide)) (fun _ => ?_)
  refine lv_iconst (v := 1) hx hb dM_refuses_28 (by decide) ?_
  refine lv_goto (tgt := 33) hx hb dM_refuses_29 rfl ?_
  exact er_zret hx hb hr hlocks hV hS dM_refuses_33 (by decide) ⟨rfl, rfl⟩

set_option maxHeartbeats 4000000 in
set_option maxRecDepth 100000 in
theorem r_refuses_b (l : Launch) (D : va_G) (T : Nat → ClassId) (X : Nat → Nat → Nat) (L : List Nat) (tg : Nat → Nat × Nat) (sz : Nat) (hE : eR_E X L tg) (A : ew_R) : Met l yM_refuses wsM_refuses ({ frames := 0, cells := 0, slots := 0, locals := 0 }) (er_Pc D vwCl (tysA T) (cfR T) X L tg A sz [.ref (X 0 0), .int 0, .int 1]) (er_Qi D vwCl (cfR T) X L tg sz (fun r u => r = 1 ∧ u = up3 A 0 0 0 2)) 0 0 (ew_A L sz) := by
  refine er_met (by decide) rfl (Nat.le_of_ble_eq_true rfl) ?_
  intro p e s m below meth c ls hx hb hr hts hown hlocks hml hV hK hS hA hl hsz
  subst hsz
  have hi0 := hE 0 (by decide)
  have hl : lv_has ls 3 [(0, .ref (X 0 0)), (1, .int 0), (2, .int 1)] := hl
  refine lv_aload_n hx hb dM_refuses_0 rfl (lv_at hl 0 rfl) ?_
  refine lv_iload_n hx hb dM_refuses_1 rfl (lv_at hl 1 rfl) ?_
  refine lv_if_eq (tgt := 9) hx hb dM_refuses_2 rfl (fun _ => ?_) (fun h9 => absurd (by decide) h9)
  refine lv_iload_n hx hb dM_refuses_9 rfl (lv_at hl 2 rfl) ?_
  refine lv_if_eq (tgt := 17) hx hb dM_refuses_10 rfl (fun h9 => absurd h9 (by decide)) (fun _ => ?_)
  refine lv_iconst (v := 2) hx hb dM_refuses_13 (by decide) ?_
  refine lv_goto (tgt := 18) hx hb dM_refuses_14 rfl ?_
  refine ew_put (ty := .int) hx hb hts hown hK hV hS fM_113 gM hi0 (cR_0 _ _ _) 0 _ (pR_0 _ _ _ _) rfl (by decide +kernel) rfl rfl (Nat.le_of_ble_eq_true rfl) dM_refuses_18 (fun H locs hV hS => ?_)
  refine lv_aload_n hx hb dM_refuses_21 rfl (lv_at hl 0 rfl) ?_
  refine ew_get (v := .int 2) hx hb hts hown hK hV fM_113 hi0 (cR_0 _ _ _) rfl dM_refuses_22 ?_
  refine lv_if_le (tgt := 32) hx hb dM_refuses_25 rfl (fun h9 => absurd h9 (by decide)) (fun _ => ?_)
  refine lv_iconst (v := 1) hx hb dM_refuses_28 (by decide) ?_
  refine lv_goto (tgt := 33) hx hb dM_refuses_29 rfl ?_
  exact er_zret hx hb hr hlocks hV hS dM_refuses_33 (by decide) ⟨rfl, rfl⟩

set_option maxHeartbeats 4000000 in
set_option maxRecDepth 100000 in
theorem r_refuses_c (l : Launch) (D : va_G) (T : Nat → ClassId) (X : Nat → Nat → Nat) (L : List Nat) (tg : Nat → Nat × Nat) (sz : Nat) (hE : eR_E X L tg) (A : ew_R) : Met l yM_refuses wsM_refuses ({ frames := 0, cells := 0, slots := 0, locals := 0 }) (er_Pc D vwCl (tysA T) (cfR T) X L tg A sz [.ref (X 0 0), .int 0, .int 0]) (er_Qi D vwCl (cfR T) X L tg sz (fun r u => r = 0 ∧ u = up3 A 0 0 0 0)) 0 0 (ew_A L sz) := by
  refine er_met (by decide) rfl (Nat.le_of_ble_eq_true rfl) ?_
  intro p e s m below meth c ls hx hb hr hts hown hlocks hml hV hK hS hA hl hsz
  subst hsz
  have hi0 := hE 0 (by decide)
  have hl : lv_has ls 3 [(0, .ref (X 0 0)), (1, .int 0), (2, .int 0)] := hl
  refine lv_aload_n hx hb dM_refuses_0 rfl (lv_at hl 0 rfl) ?_
  refine lv_iload_n hx hb dM_refuses_1 rfl (lv_at hl 1 rfl) ?_
  refine lv_if_eq (tgt := 9) hx hb dM_refuses_2 rfl (fun _ => ?_) (fun h9 => absurd (by decide) h9)
  refine lv_iload_n hx hb dM_refuses_9 rfl (lv_at hl 2 rfl) ?_
  refine lv_if_eq (tgt := 17) hx hb dM_refuses_10 rfl (fun _ => ?_) (fun h9 => absurd (by decide) h9)
  refine lv_iconst (v := 0) hx hb dM_refuses_17 (by decide) ?_
  refine ew_put (ty := .int) hx hb hts hown hK hV hS fM_113 gM hi0 (cR_0 _ _ _) 0 _ (pR_0 _ _ _ _) rfl (by decide +kernel) rfl rfl (Nat.le_of_ble_eq_true rfl) dM_refuses_18 (fun H locs hV hS => ?_)
  refine lv_aload_n hx hb dM_refuses_21 rfl (lv_at hl 0 rfl) ?_
  refine ew_get (v := .int 0) hx hb hts hown hK hV fM_113 hi0 (cR_0 _ _ _) rfl dM_refuses_22 ?_
  refine lv_if_le (tgt := 32) hx hb dM_refuses_25 rfl (fun _ => ?_) (fun h9 => absurd (by decide) h9)
  refine lv_iconst (v := 0) hx hb dM_refuses_32 (by decide) ?_
  exact er_zret hx hb hr hlocks hV hS dM_refuses_33 (by decide) ⟨rfl, rfl⟩

set_option maxHeartbeats 4000000 in
set_option maxRecDepth 100000 in
theorem r_endOf (l : Launch) (D : va_G) (T : Nat → ClassId) (X : Nat → Nat → Nat) (L : List Nat) (tg : Nat → Nat × Nat) (sz : Nat) (hE : eR_E X L tg) (A : ew_R) (ln : Nat) (pk : Nat) (hln : ln < 32) (hpk : pk < 6) (hp : A 16 0 ln = nI pk) : Met l yM_endOf wsM_endOf ({ frames := 0, cells := 0, slots := 0, locals := 0 }) (er_Pc D vwCl (tysA T) (cfR T) X L tg A sz [.ref (X 0 0), .int (nI ln)]) (er_Qi D vwCl (cfR T) X L tg sz (fun r u => r = nI (2 * (6 * ln + pk)) ∧ u = A)) 0 0 (ew_A L sz) := by
  refine er_met (by decide) rfl (Nat.le_of_ble_eq_true rfl) ?_
  intro p e s m below meth c ls hx hb hr hts hown hlocks hml hV hK hS hA hl hsz
  subst hsz
  have hi0 := hE 0 (by decide)
  have hl : lv_has ls 2 [(0, .ref (X 0 0)), (1, .int (nI ln))] := hl
  refine lv_iconst (v := 2) hx hb dM_endOf_0 (by decide) ?_
  refine lv_bipush (v := 6) hx hb dM_endOf_1 (by decide) ?_
  refine lv_iload_n hx hb dM_endOf_3 rfl (lv_at hl 1 rfl) ?_
  refine lv_imul hx hb dM_endOf_4 ?_
  refine lv_toe (y := nI (6 * ln)) (pk_mul 6 ln) ?_
  refine lv_aload_n hx hb dM_endOf_5 rfl (lv_at hl 0 rfl) ?_
  refine ew_get (v := .ref (X 16 0)) hx hb hts hown hK hV fM_40 hi0 (cR_0 _ _ _) rfl dM_endOf_6 ?_
  refine lv_iload_n hx hb dM_endOf_9 rfl (lv_at hl 1 rfl) ?_
  refine ew_iald (v := A 16 0 ln) hx hb hK hV (hE 16 (by decide)) (cR_16 _ _ _) 0 rfl (vp_in_nI (by omega) (by decide)) (er_ix (by omega) rfl) dM_endOf_10 ?_
  refine lv_toe (y := nI pk) hp ?_
  refine lv_iadd hx hb dM_endOf_11 ?_
  refine lv_toe (y := nI ((6 * ln) + pk)) (nI_add (6 * ln) pk) ?_
  refine lv_imul hx hb dM_endOf_12 ?_
  refine lv_toe (y := nI (2 * ((6 * ln) + pk))) (pk_mul 2 ((6 * ln) + pk)) ?_
  exact er_iret hx hb hr hlocks hV hS dM_endOf_13 ⟨rfl, rfl⟩

def s_hasIt (A : ew_R) (ln : Nat) : Int32 :=
  if A 18 0 ln = 4 then
    1
  else
    if A 18 0 ln = 5 then
      1
    else
      if A 18 0 ln = 6 then
        1
      else
        0
set_option maxHeartbeats 4000000 in
set_option maxRecDepth 100000 in
theorem r_hasIt (l : Launch) (D : va_G) (T : Nat → ClassId) (X : Nat → Nat → Nat) (L : List Nat) (tg : Nat → Nat × Nat) (sz : Nat) (hE : eR_E X L tg) (A : ew_R) (ln : Nat) (hln : ln < 32) : Met l yM_hasIt wsM_hasIt ({ frames := 0, cells := 0, slots := 0, locals := 0 }) (er_Pc D vwCl (tysA T) (cfR T) X L tg A sz [.ref (X 0 0), .int (nI ln)]) (er_Qi D vwCl (cfR T) X L tg sz (fun r u => r = s_hasIt A ln ∧ u = A)) 0 0 (ew_A L sz) := by
  refine er_met (by decide) rfl (Nat.le_of_ble_eq_true rfl) ?_
  intro p e s m below meth c ls hx hb hr hts hown hlocks hml hV hK hS hA hl hsz
  subst hsz
  have hi0 := hE 0 (by decide)
  have hl : lv_has ls 2 [(0, .ref (X 0 0)), (1, .int (nI ln))] := hl
  refine lv_aload_n hx hb dM_hasIt_0 rfl (lv_at hl 0 rfl) ?_
  refine ew_get (v := .ref (X 18 0)) hx hb hts hown hK hV fM_46 hi0 (cR_0 _ _ _) rfl dM_hasIt_1 ?_
  refine lv_iload_n hx hb dM_hasIt_4 rfl (lv_at hl 1 rfl) ?_
  refine ew_iald (v := A 18 0 ln) hx hb hK hV (hE 18 (by decide)) (cR_18 _ _ _) 0 rfl (vp_in_nI (by omega) (by decide)) (er_ix (by omega) rfl) dM_hasIt_5 ?_
  refine lv_iconst (v := 4) hx hb dM_hasIt_6 (by decide) ?_
  refine lv_icmp_eq (tgt := 31) hx hb dM_hasIt_7 rfl (fun h1 => ?_) (fun h1 => ?_)
  · refine lv_iconst (v := 1) hx hb dM_hasIt_31 (by decide) ?_
    refine lv_goto (tgt := 36) hx hb dM_hasIt_32 rfl ?_
    exact er_zret hx hb hr hlocks hV hS dM_hasIt_36 (by decide) ⟨Eq.symm (by unfold s_hasIt; simp only [if_pos h1]), rfl⟩
  · refine lv_aload_n hx hb dM_hasIt_10 rfl (lv_at hl 0 rfl) ?_
    refine ew_get (v := .ref (X 18 0)) hx hb hts hown hK hV fM_46 hi0 (cR_0 _ _ _) rfl dM_hasIt_11 ?_
    refine lv_iload_n hx hb dM_hasIt_14 rfl (lv_at hl 1 rfl) ?_
    refine ew_iald (v := A 18 0 ln) hx hb hK hV (hE 18 (by decide)) (cR_18 _ _ _) 0 rfl (vp_in_nI (by omega) (by decide)) (er_ix (by omega) rfl) dM_hasIt_15 ?_
    refine lv_iconst (v := 5) hx hb dM_hasIt_16 (by decide) ?_
    refine lv_icmp_eq (tgt := 31) hx hb dM_hasIt_17 rfl (fun h2 => ?_) (fun h2 => ?_)
    · refine lv_iconst (v := 1) hx hb dM_hasIt_31 (by decide) ?_
      refine lv_goto (tgt := 36) hx hb dM_hasIt_32 rfl ?_
      exact er_zret hx hb hr hlocks hV hS dM_hasIt_36 (by decide) ⟨Eq.symm (by unfold s_hasIt; simp only [if_neg h1, if_pos h2]), rfl⟩
    · refine lv_aload_n hx hb dM_hasIt_20 rfl (lv_at hl 0 rfl) ?_
      refine ew_get (v := .ref (X 18 0)) hx hb hts hown hK hV fM_46 hi0 (cR_0 _ _ _) rfl dM_hasIt_21 ?_
      refine lv_iload_n hx hb dM_hasIt_24 rfl (lv_at hl 1 rfl) ?_
      refine ew_iald (v := A 18 0 ln) hx hb hK hV (hE 18 (by decide)) (cR_18 _ _ _) 0 rfl (vp_in_nI (by omega) (by decide)) (er_ix (by omega) rfl) dM_hasIt_25 ?_
      refine lv_bipush (v := 6) hx hb dM_hasIt_26 (by decide) ?_
      refine lv_icmp_ne (tgt := 35) hx hb dM_hasIt_28 rfl (fun h3 => ?_) (fun h3 => ?_)
      · refine lv_iconst (v := 0) hx hb dM_hasIt_35 (by decide) ?_
        exact er_zret hx hb hr hlocks hV hS dM_hasIt_36 (by decide) ⟨Eq.symm (by unfold s_hasIt; simp only [if_neg h1, if_neg h2, if_neg h3]), rfl⟩
      · refine lv_iconst (v := 1) hx hb dM_hasIt_31 (by decide) ?_
        refine lv_goto (tgt := 36) hx hb dM_hasIt_32 rfl ?_
        exact er_zret hx hb hr hlocks hV hS dM_hasIt_36 (by decide) ⟨Eq.symm (by unfold s_hasIt; simp only [if_neg h1, if_neg h2, if_pos h3]), rfl⟩

def s_pass (A : ew_R) (nn : Int32) : Int32 × ew_R :=
  if nn < 1 then
    (0, up3 A 0 0 0 0)
  else
    if nn ≤ 1000 then
      (1, up3 (up3 A 0 0 0 0) 0 0 1 ((A 0 0 1) + nn))
    else
      (0, up3 A 0 0 0 0)
set_option maxHeartbeats 4000000 in
set_option maxRecDepth 100000 in
theorem r_pass (l : Launch) (D : va_G) (T : Nat → ClassId) (X : Nat → Nat → Nat) (L : List Nat) (tg : Nat → Nat × Nat) (sz : Nat) (hE : eR_E X L tg) (A : ew_R) (nn : Int32) : Met l yM_pass wsM_pass ({ frames := 0, cells := 0, slots := 0, locals := 0 }) (er_Pc D vwCl (tysA T) (cfR T) X L tg A sz [.ref (X 0 0), .int nn]) (er_Qi D vwCl (cfR T) X L tg sz (fun r u => r = (s_pass A nn).1 ∧ u = (s_pass A nn).2)) 0 0 (ew_A L sz) := by
  refine er_met (by decide) rfl (Nat.le_of_ble_eq_true rfl) ?_
  intro p e s m below meth c ls hx hb hr hts hown hlocks hml hV hK hS hA hl hsz
  subst hsz
  have hi0 := hE 0 (by decide)
  have hl : lv_has ls 2 [(0, .ref (X 0 0)), (1, .int nn)] := hl
  refine lv_aload_n hx hb dM_pass_0 rfl (lv_at hl 0 rfl) ?_
  refine lv_iconst (v := 0) hx hb dM_pass_1 (by decide) ?_
  refine ew_put (ty := .int) hx hb hts hown hK hV hS fM_113 gM hi0 (cR_0 _ _ _) 0 _ (pR_0 _ _ _ _) rfl (by decide +kernel) rfl rfl (Nat.le_of_ble_eq_true rfl) dM_pass_2 (fun H locs hV hS => ?_)
  refine lv_iload_n hx hb dM_pass_5 rfl (lv_at hl 1 rfl) ?_
  refine lv_iconst (v := 1) hx hb dM_pass_6 (by decide) ?_
  refine lv_icmp_lt (tgt := 17) hx hb dM_pass_7 rfl (fun h1 => ?_) (fun h1 => ?_)
  · refine lv_iconst (v := 0) hx hb dM_pass_17 (by decide) ?_
    exact er_zret hx hb hr hlocks hV hS dM_pass_18 (by decide) ⟨Eq.symm (by unfold s_pass; simp only [if_pos h1]), Eq.symm (by unfold s_pass; simp only [if_pos h1])⟩
  · refine lv_iload_n hx hb dM_pass_10 rfl (lv_at hl 1 rfl) ?_
    refine lv_sipush (v := 1000) hx hb dM_pass_11 (by decide) ?_
    refine lv_icmp_le (tgt := 19) hx hb dM_pass_14 rfl (fun h2 => ?_) (fun h2 => ?_)
    · refine lv_aload_n hx hb dM_pass_19 rfl (lv_at hl 0 rfl) ?_
      refine lv_dup hx hb dM_pass_20 rfl ?_
      refine ew_get (v := .int (A 0 0 1)) hx hb hts hown hK hV fM_166 hi0 (cR_0 _ _ _) rfl dM_pass_21 ?_
      refine lv_iload_n hx hb dM_pass_24 rfl (lv_at hl 1 rfl) ?_
      refine lv_iadd hx hb dM_pass_25 ?_
      refine ew_put (ty := .int) hx hb hts hown hK hV hS fM_166 gM hi0 (cR_0 _ _ _) 1 _ (pR_1 _ _ _ _) rfl (by decide +kernel) rfl rfl (Nat.le_of_ble_eq_true rfl) dM_pass_26 (fun H locs hV hS => ?_)
      refine lv_iconst (v := 1) hx hb dM_pass_29 (by decide) ?_
      exact er_zret hx hb hr hlocks hV hS dM_pass_30 (by decide) ⟨Eq.symm (by unfold s_pass; simp only [if_neg h1, if_pos h2]), Eq.symm (by unfold s_pass; simp only [if_neg h1, if_pos h2])⟩
    · refine lv_iconst (v := 0) hx hb dM_pass_17 (by decide) ?_
      exact er_zret hx hb hr hlocks hV hS dM_pass_18 (by decide) ⟨Eq.symm (by unfold s_pass; simp only [if_neg h1, if_neg h2]), Eq.symm (by unfold s_pass; simp only [if_neg h1, if_neg h2])⟩

def s_letters (A : ew_R) : Int32 × ew_R :=
  (A 0 0 4, up3 A 0 0 0 0)
set_option maxHeartbeats 4000000 in
set_option maxRecDepth 100000 in
theorem r_letters (l : Launch) (D : va_G) (T : Nat → ClassId) (X : Nat → Nat → Nat) (L : List Nat) (tg : Nat → Nat × Nat) (sz : Nat) (hE : eR_E X L tg) (A : ew_R) : Met l yM_letters wsM_letters ({ frames := 0, cells := 0, slots := 0, locals := 0 }) (er_Pc D vwCl (tysA T) (cfR T) X L tg A sz [.ref (X 0 0)]) (er_Qi D vwCl (cfR T) X L tg sz (fun r u => r = (s_letters A).1 ∧ u = (s_letters A).2)) 0 0 (ew_A L sz) := by
  refine er_met (by decide) rfl (Nat.le_of_ble_eq_true rfl) ?_
  intro p e s m below meth c ls hx hb hr hts hown hlocks hml hV hK hS hA hl hsz
  subst hsz
  have hi0 := hE 0 (by decide)
  have hl : lv_has ls 1 [(0, .ref (X 0 0))] := hl
  refine lv_aload_n hx hb dM_letters_0 rfl (lv_at hl 0 rfl) ?_
  refine lv_iconst (v := 0) hx hb dM_letters_1 (by decide) ?_
  refine ew_put (ty := .int) hx hb hts hown hK hV hS fM_113 gM hi0 (cR_0 _ _ _) 0 _ (pR_0 _ _ _ _) rfl (by decide +kernel) rfl rfl (Nat.le_of_ble_eq_true rfl) dM_letters_2 (fun H locs hV hS => ?_)
  refine lv_aload_n hx hb dM_letters_5 rfl (lv_at hl 0 rfl) ?_
  refine ew_get (v := .int (A 0 0 4)) hx hb hts hown hK hV fM_120 hi0 (cR_0 _ _ _) rfl dM_letters_6 ?_
  exact er_iret hx hb hr hlocks hV hS dM_letters_9 ⟨Eq.symm (by unfold s_letters; rfl), Eq.symm (by unfold s_letters; rfl)⟩
