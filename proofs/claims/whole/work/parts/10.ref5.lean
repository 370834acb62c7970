theorem z_hasIt (A : ew_R) (ln : Nat) : narrow .boolean (.int (s_hasIt A ln)) = .int (s_hasIt A ln) := by
  unfold s_hasIt
  split
  · rfl
  · split
    · rfl
    · split
      · rfl
      · rfl

def s_mayRequester_0 (A : ew_R) (ln : Nat) : Int32 :=
  if A 18 0 ln = 1 then
    1
  else
    0
set_option maxHeartbeats 4000000 in
set_option maxRecDepth 100000 in
theorem r_mayRequester_0 (l : Launch) (D : va_G) (T : Nat → ClassId) (X : Nat → Nat → Nat) (L : List Nat) (tg : Nat → Nat × Nat) (sz : Nat) (hE : eR_E X L tg) (A : ew_R) (ln : Nat) (hln : ln < 32) : Met l yM_mayRequester wsM_mayRequester ({ frames := 1, cells := 0, slots := 0, locals := 21 }) (er_Pc D vwCl (tysA T) (cfR T) X L tg A sz [.ref (X 0 0), .int (nI ln), .int 0]) (er_Qi D vwCl (cfR T) X L tg sz (fun r u => r = s_mayRequester_0 A ln ∧ u = A)) 0 0 (ew_A L sz) := by
  refine er_met (by decide) rfl (Nat.le_of_ble_eq_true rfl) ?_
  intro p e s m below meth c ls hx hb hr hts hown hlocks hml hV hK hS hA hl hsz
  subst hsz
  have hi0 := hE 0 (by decide)
  have hl : lv_has ls 4 [(0, .ref (X 0 0)), (1, .int (nI ln)), (2, .int 0)] := hl
  refine lv_aload_n hx hb dM_mayRequester_0 rfl (lv_at hl 0 rfl) ?_
  refine ew_get (v := .ref (X 18 0)) hx hb hts hown hK hV fM_46 hi0 (cR_0 _ _ _) rfl dM_mayRequester_1 ?_
  refine lv_iload_n hx hb dM_mayRequester_4 rfl (lv_at hl 1 rfl) ?_
  refine ew_iald (v := A 18 0 ln) hx hb hK hV (hE 18 (by decide)) (cR_18 _ _ _) 0 rfl (vp_in_nI (by omega) (by decide)) (er_ix (by omega) rfl) dM_mayRequester_5 ?_
  refine lv_istore_n (lv' := [(3, .int (A 18 0 ln)), (0, .ref (X 0 0)), (1, .int (nI ln)), (2, .int 0)]) hx hb dM_mayRequester_6 rfl hl (by decide) rfl (fun ls hl => ?_)
  refine lv_iload_n hx hb dM_mayRequester_7 rfl (lv_at hl 3 rfl) ?_
  refine lv_tableIn (tgt := 44) hx hb dM_mayRequester_8 (by decide) (by decide) rfl rfl ?_
  refine lv_iload_n hx hb dM_mayRequester_44 rfl (lv_at hl 0 rfl) ?_
  refine lv_iconst (v := 1) hx hb dM_mayRequester_45 (by decide) ?_
  refine lv_icmp_ne (tgt := 53) hx hb dM_mayRequester_46 rfl (fun h1 => ?_) (fun h1 => ?_)
  · refine lv_iconst (v := 0) hx hb dM_mayRequester_53 (by decide) ?_
    exact er_zret hx hb hr hlocks hV hS dM_mayRequester_54 (by decide) ⟨Eq.symm (by unfold s_mayRequester_0; simp only [if_neg h1]), rfl⟩
  · refine lv_iconst (v := 1) hx hb dM_mayRequester_49 (by decide) ?_
    refine lv_goto (tgt := 54) hx hb dM_mayRequester_50 rfl ?_
    exact er_zret hx hb hr hlocks hV hS dM_mayRequester_54 (by decide) ⟨Eq.symm (by unfold s_mayRequester_0; simp only [if_pos h1]), rfl⟩

def s_mayRequester_1 (A : ew_R) (ln : Nat) : Int32 :=
  if A 18 0 ln = 1 then
    1
  else
    0
set_option maxHeartbeats 4000000 in
set_option maxRecDepth 100000 in
theorem r_mayRequester_1 (l : Launch) (D : va_G) (T : Nat → ClassId) (X : Nat → Nat → Nat) (L : List Nat) (tg : Nat → Nat × Nat) (sz : Nat) (hE : eR_E X L tg) (A : ew_R) (ln : Nat) (hln : ln < 32) : Met l yM_mayRequester wsM_mayRequester ({ frames := 1, cells := 0, slots := 0, locals := 21 }) (er_Pc D vwCl (tysA T) (cfR T) X L tg A sz [.ref (X 0 0), .int (nI ln), .int 1]) (er_Qi D vwCl (cfR T) X L tg sz (fun r u => r = s_mayRequester_1 A ln ∧ u = A)) 0 0 (ew_A L sz) := by
  refine er_met (by decide) rfl (Nat.le_of_ble_eq_true rfl) ?_
  intro p e s m below meth c ls hx hb hr hts hown hlocks hml hV hK hS hA hl hsz
  subst hsz
  have hi0 := hE 0 (by decide)
  have hl : lv_has ls 4 [(0, .ref (X 0 0)), (1, .int (nI ln)), (2, .int 1)] := hl
  refine lv_aload_n hx hb dM_mayRequester_0 rfl (lv_at hl 0 rfl) ?_
  refine ew_get (v := .ref (X 18 0)) hx hb hts hown hK hV fM_46 hi0 (cR_0 _ _ _) rfl dM_mayRequester_1 ?_
  refine lv_iload_n hx hb dM_mayRequester_4 rfl (lv_at hl 1 rfl) ?_
  refine ew_iald (v := A 18 0 ln) hx hb hK hV (hE 18 (by decide)) (cR_18 _ _ _) 0 rfl (vp_in_nI (by omega) (by decide)) (er_ix (by omega) rfl) dM_mayRequester_5 ?_
  refine lv_istore_n (lv' := [(3, .int (A 18 0 ln)), (0, .ref (X 0 0)), (1, .int (nI ln)), (2, .int 1)]) hx hb dM_mayRequester_6 rfl hl (by decide) rfl (fun ls hl => ?_)
  refine lv_iload_n hx hb dM_mayRequester_7 rfl (lv_at hl 3 rfl) ?_
  refine lv_tableIn (tgt := 44) hx hb dM_mayRequester_8 (by decide) (by decide) rfl rfl ?_
  refine lv_iload_n hx hb dM_mayRequester_44 rfl (lv_at hl 0 rfl) ?_
  refine lv_iconst (v := 1) hx hb dM_mayRequester_45 (by decide) ?_
  refine lv_icmp_ne (tgt := 53) hx hb dM_mayRequester_46 rfl (fun h1 => ?_) (fun h1 => ?_)
  · refine lv_iconst (v := 0) hx hb dM_mayRequester_53 (by decide) ?_
    exact er_zret hx hb hr hlocks hV hS dM_mayRequester_54 (by decide) ⟨Eq.symm (by unfold s_mayRequester_1; simp only [if_neg h1]), rfl⟩
  · refine lv_iconst (v := 1) hx hb dM_mayRequester_49 (by decide) ?_
    refine lv_goto (tgt := 54) hx hb dM_mayRequester_50 rfl ?_
    exact er_zret hx hb hr hlocks hV hS dM_mayRequester_54 (by decide) ⟨Eq.symm (by unfold s_mayRequester_1; simp only [if_pos h1]), rfl⟩

def s_mayRequester_2 (A : ew_R) (ln : Nat) : Int32 :=
  if 3 ≤ A 18 0 ln then
    0
  else
    1
set_option maxHeartbeats 4000000 in
set_option maxRecDepth 100000 in
theorem r_mayRequester_2 (l : Launch) (D : va_G) (T : Nat → ClassId) (X : Nat → Nat → Nat) (L : List Nat) (tg : Nat → Nat × Nat) (sz : Nat) (hE : eR_E X L tg) (A : ew_R) (ln : Nat) (hln : ln < 32) : Met l yM_mayRequester wsM_mayRequester ({ frames := 1, cells := 0, slots := 0, locals := 21 }) (er_Pc D vwCl (tysA T) (cfR T) X L tg A sz [.ref (X 0 0), .int (nI ln), .int 2]) (er_Qi D vwCl (cfR T) X L tg sz (fun r u => r = s_mayRequester_2 A ln ∧ u = A)) 0 0 (ew_A L sz) := by
  refine er_met (by decide) rfl (Nat.le_of_ble_eq_true rfl) ?_
  intro p e s m below meth c ls hx hb hr hts hown hlocks hml hV hK hS hA hl hsz
  subst hsz
  have hi0 := hE 0 (by decide)
  have hl : lv_has ls 4 [(0, .ref (X 0 0)), (1, .int (nI ln)), (2, .int 2)] := hl
  refine lv_aload_n hx hb dM_mayRequester_0 rfl (lv_at hl 0 rfl) ?_
  refine ew_get (v := .ref (X 18 0)) hx hb hts hown hK hV fM_46 hi0 (cR_0 _ _ _) rfl dM_mayRequester_1 ?_
  refine lv_iload_n hx hb dM_mayRequester_4 rfl (lv_at hl 1 rfl) ?_
  refine ew_iald (v := A 18 0 ln) hx hb hK hV (hE 18 (by decide)) (cR_18 _ _ _) 0 rfl (vp_in_nI (by omega) (by decide)) (er_ix (by omega) rfl) dM_mayRequester_5 ?_
  refine lv_istore_n (lv' := [(3, .int (A 18 0 ln)), (0, .ref (X 0 0)), (1, .int (nI ln)), (2, .int 2)]) hx hb dM_mayRequester_6 rfl hl (by decide) rfl (fun ls hl => ?_)
  refine lv_iload_n hx hb dM_mayRequester_7 rfl (lv_at hl 3 rfl) ?_
  refine lv_tableIn (tgt := 55) hx hb dM_mayRequester_8 (by decide) (by decide) rfl rfl ?_
  refine lv_iload_n hx hb dM_mayRequester_55 rfl (lv_at hl 0 rfl) ?_
  refine lv_iconst (v := 3) hx hb dM_mayRequester_56 (by decide) ?_
  refine lv_icmp_ge (tgt := 64) hx hb dM_mayRequester_57 rfl (fun h1 => ?_) (fun h1 => ?_)
  · refine lv_iconst (v := 0) hx hb dM_mayRequester_64 (by decide) ?_
    exact er_zret hx hb hr hlocks hV hS dM_mayRequester_65 (by decide) ⟨Eq.symm (by unfold s_mayRequester_2; simp only [if_pos h1]), rfl⟩
  · refine lv_iconst (v := 1) hx hb dM_mayRequester_60 (by decide) ?_
    refine lv_goto (tgt := 65) hx hb dM_mayRequester_61 rfl ?_
    exact er_zret hx hb hr hlocks hV hS dM_mayRequester_65 (by decide) ⟨Eq.symm (by unfold s_mayRequester_2; simp only [if_neg h1]), rfl⟩

def s_mayRequester_3 (A : ew_R) (ln : Nat) : Int32 :=
  if A 18 0 ln = 3 then
    1
  else
    0
set_option maxHeartbeats 4000000 in
set_option maxRecDepth 100000 in
theorem r_mayRequester_3 (l : Launch) (D : va_G) (T : Nat → ClassId) (X : Nat → Nat → Nat) (L : List Nat) (tg : Nat → Nat × Nat) (sz : Nat) (hE : eR_E X L tg) (A : ew_R) (ln : Nat) (hln : ln < 32) : Met l yM_mayRequester wsM_mayRequester ({ frames := 1, cells := 0, slots := 0, locals := 21 }) (er_Pc D vwCl (tysA T) (cfR T) X L tg A sz [.ref (X 0 0), .int (nI ln), .int 3]) (er_Qi D vwCl (cfR T) X L tg sz (fun r u => r = s_mayRequester_3 A ln ∧ u = A)) 0 0 (ew_A L sz) := by
  refine er_met (by decide) rfl (Nat.le_of_ble_eq_true rfl) ?_
  intro p e s m below meth c ls hx hb hr hts hown hlocks hml hV hK hS hA hl hsz
  subst hsz
  have hi0 := hE 0 (by decide)
  have hl : lv_has ls 4 [(0, .ref (X 0 0)), (1, .int (nI ln)), (2, .int 3)] := hl
  refine lv_aload_n hx hb dM_mayRequester_0 rfl (lv_at hl 0 rfl) ?_
  refine ew_get (v := .ref (X 18 0)) hx hb hts hown hK hV fM_46 hi0 (cR_0 _ _ _) rfl dM_mayRequester_1 ?_
  refine lv_iload_n hx hb dM_mayRequester_4 rfl (lv_at hl 1 rfl) ?_
  refine ew_iald (v := A 18 0 ln) hx hb hK hV (hE 18 (by decide)) (cR_18 _ _ _) 0 rfl (vp_in_nI (by omega) (by decide)) (er_ix (by omega) rfl) dM_mayRequester_5 ?_
  refine lv_istore_n (lv' := [(3, .int (A 18 0 ln)), (0, .ref (X 0 0)), (1, .int (nI ln)), (2, .int 3)]) hx hb dM_mayRequester_6 rfl hl (by decide) rfl (fun ls hl => ?_)
  refine lv_iload_n hx hb dM_mayRequester_7 rfl (lv_at hl 3 rfl) ?_
  refine lv_tableIn (tgt := 66) hx hb dM_mayRequester_8 (by decide) (by decide) rfl rfl ?_
  refine lv_iload_n hx hb dM_mayRequester_66 rfl (lv_at hl 0 rfl) ?_
  refine lv_iconst (v := 3) hx hb dM_mayRequester_67 (by decide) ?_
  refine lv_icmp_ne (tgt := 75) hx hb dM_mayRequester_68 rfl (fun h1 => ?_) (fun h1 => ?_)
  · refine lv_iconst (v := 0) hx hb dM_mayRequester_75 (by decide) ?_
    exact er_zret hx hb hr hlocks hV hS dM_mayRequester_76 (by decide) ⟨Eq.symm (by unfold s_mayRequester_3; simp only [if_neg h1]), rfl⟩
  · refine lv_iconst (v := 1) hx hb dM_mayRequester_71 (by decide) ?_
    refine lv_goto (tgt := 76) hx hb dM_mayRequester_72 rfl ?_
    exact er_zret hx hb hr hlocks hV hS dM_mayRequester_76 (by decide) ⟨Eq.symm (by unfold s_mayRequester_3; simp only [if_pos h1]), rfl⟩

def s_mayRequester_4 (A : ew_R) (ln : Nat) : Int32 :=
  if A 18 0 ln = 4 then
    1
  else
    0
set_option maxHeartbeats 4000000 in
set_option maxRecDepth 100000 in
theorem r_mayRequester_4 (l : Launch) (D : va_G) (T : Nat → ClassId) (X : Nat → Nat → Nat) (L : List Nat) (tg : Nat → Nat × Nat) (sz : Nat) (hE : eR_E X L tg) (A : ew_R) (ln : Nat) (hln : ln < 32) : Met l yM_mayRequester wsM_mayRequester ({ frames := 1, cells := 0, slots := 0, locals := 21 }) (er_Pc D vwCl (tysA T) (cfR T) X L tg A sz [.ref (X 0 0), .int (nI ln), .int 4]) (er_Qi D vwCl (cfR T) X L tg sz (fun r u => r = s_mayRequester_4 A ln ∧ u = A)) 0 0 (ew_A L sz) := by
  refine er_met (by decide) rfl (Nat.le_of_ble_eq_true rfl) ?_
  intro p e s m below meth c ls hx hb hr hts hown hlocks hml hV hK hS hA hl hsz
  subst hsz
  have hi0 := hE 0 (by decide)
  have hl : lv_has ls 4 [(0, .ref (X 0 0)), (1, .int (nI ln)), (2, .int 4)] := hl
  refine lv_aload_n hx hb dM_mayRequester_0 rfl (lv_at hl 0 rfl) ?_
  refine ew_get (v := .ref (X 18 0)) hx hb hts hown hK hV fM_46 hi0 (cR_0 _ _ _) rfl dM_mayRequester_1 ?_
  refine lv_iload_n hx hb dM_mayRequester_4 rfl (lv_at hl 1 rfl) ?_
  refine ew_iald (v := A 18 0 ln) hx hb hK hV (hE 18 (by decide)) (cR_18 _ _ _) 0 rfl (vp_in_nI (by omega) (by decide)) (er_ix (by omega) rfl) dM_mayRequester_5 ?_
  refine lv_istore_n (lv' := [(3, .int (A 18 0 ln)), (0, .ref (X 0 0)), (1, .int (nI ln)), (2, .int 4)]) hx hb dM_mayRequester_6 rfl hl (by decide) rfl (fun ls hl => ?_)
  refine lv_iload_n hx hb dM_mayRequester_7 rfl (lv_at hl 3 rfl) ?_
  refine lv_tableIn (tgt := 77) hx hb dM_mayRequester_8 (by decide) (by decide) rfl rfl ?_
  refine lv_iload_n hx hb dM_mayRequester_77 rfl (lv_at hl 0 rfl) ?_
  refine lv_iconst (v := 4) hx hb dM_mayRequester_78 (by decide) ?_
  refine lv_icmp_ne (tgt := 86) hx hb dM_mayRequester_79 rfl (fun h1 => ?_) (fun h1 => ?_)
  · refine lv_iconst (v := 0) hx hb dM_mayRequester_86 (by decide) ?_
    exact er_zret hx hb hr hlocks hV hS dM_mayRequester_87 (by decide) ⟨Eq.symm (by unfold s_mayRequester_4; simp only [if_neg h1]), rfl⟩
  · refine lv_iconst (v := 1) hx hb dM_mayRequester_82 (by decide) ?_
    refine lv_goto (tgt := 87) hx hb dM_mayRequester_83 rfl ?_
    exact er_zret hx hb hr hlocks hV hS dM_mayRequester_87 (by decide) ⟨Eq.symm (by unfold s_mayRequester_4; simp only [if_pos h1]), rfl⟩

def s_mayRequester_5 (A : ew_R) (ln : Nat) : Int32 :=
  s_hasIt A ln
set_option maxHeartbeats 4000000 in
set_option maxRecDepth 100000 in
theorem r_mayRequester_5 (l : Launch) (D : va_G) (T : Nat → ClassId) (X : Nat → Nat → Nat) (L : List Nat) (tg : Nat → Nat × Nat) (sz : Nat) (hE : eR_E X L tg) (A : ew_R) (ln : Nat) (hln : ln < 32) : Met l yM_mayRequester wsM_mayRequester ({ frames := 1, cells := 0, slots := 0, locals := 21 }) (er_Pc D vwCl (tysA T) (cfR T) X L tg A sz [.ref (X 0 0), .int (nI ln), .int 5]) (er_Qi D vwCl (cfR T) X L tg sz (fun r u => r = s_mayRequester_5 A ln ∧ u = A)) 0 0 (ew_A L sz) := by
  refine er_met (by decide) rfl (Nat.le_of_ble_eq_true rfl) ?_
  intro p e s m below meth c ls hx hb hr hts hown hlocks hml hV hK hS hA hl hsz
  subst hsz
  have hi0 := hE 0 (by decide)
  have hl : lv_has ls 4 [(0, .ref (X 0 0)), (1, .int (nI ln)), (2, .int 5)] := hl
  refine lv_aload_n hx hb dM_mayRequester_0 rfl (lv_at hl 0 rfl) ?_
  refine ew_get (v := .ref (X 18 0)) hx hb hts hown hK hV fM_46 hi0 (cR_0 _ _ _) rfl dM_mayRequester_1 ?_
  refine lv_iload_n hx hb dM_mayRequester_4 rfl (lv_at hl 1 rfl) ?_
  refine ew_iald (v := A 18 0 ln) hx hb hK hV (hE 18 (by decide)) (cR_18 _ _ _) 0 rfl (vp_in_nI (by omega) (by decide)) (er_ix (by omega) rfl) dM_mayRequester_5 ?_
  refine lv_istore_n (lv' := [(3, .int (A 18 0 ln)), (0, .ref (X 0 0)), (1, .int (nI ln)), (2, .int 5)]) hx hb dM_mayRequester_6 rfl hl (by decide) rfl (fun ls hl => ?_)
  refine lv_iload_n hx hb dM_mayRequester_7 rfl (lv_at hl 3 rfl) ?_
  refine lv_tableOut (tgt := 88) hx hb dM_mayRequester_8 (by decide) rfl ?_
  refine lv_aload_n hx hb dM_mayRequester_88 rfl (lv_at hl 1 rfl) ?_
  refine lv_iload_n hx hb dM_mayRequester_89 rfl (lv_at hl 2 rfl) ?_
  refine er_calli (va_runV (As := [.int (nI ln)]) (rest := []) ⟨hx, hb, hml, hown, hts⟩ (r_hasIt l D T X L tg _ hE A ln hln) (cwV 1 hts gM_159 rfl rfl rfl (by decide +kernel) ⟨Nat.le_of_ble_eq_true rfl, Nat.le_of_ble_eq_true rfl⟩) (er_preV hK hV hi0 (cR_0 _ _ _) rfl) rfl rfl hl.1 rfl (lv_room (Nat.le_of_ble_eq_true rfl)) dM_mayRequester_90 ⟨Nat.le_of_ble_eq_true rfl, Nat.le_of_ble_eq_true rfl⟩) hV hS hA (fun r u H locs hp hV hS => ?_)
  obtain ⟨rfl, eu9⟩ := hp
  rw [eu9] at hV
  exact er_zret hx hb hr hlocks hV hS dM_mayRequester_93 (z_hasIt _ _) ⟨Eq.symm (by unfold s_mayRequester_5; rfl), rfl⟩

def s_mayRequester_6 (A : ew_R) (ln : Nat) : Int32 :=
  s_hasIt A ln
set_option maxHeartbeats 4000000 in
set_option maxRecDepth 100000 in
theorem r_mayRequester_6 (l : Launch) (D : va_G) (T : Nat → ClassId) (X : Nat → Nat → Nat) (L : List Nat) (tg : Nat → Nat × Nat) (sz : Nat) (hE : eR_E X L tg) (A : ew_R) (ln : Nat) (hln : ln < 32) : Met l yM_mayRequester wsM_mayRequester ({ frames := 1, cells := 0, slots := 0, locals := 21 }) (er_Pc D vwCl (tysA T) (cfR T) X L tg A sz [.ref (X 0 0), .int (nI ln), .int 6]) (er_Qi D vwCl (cfR T) X L tg sz (fun r u => r = s_mayRequester_6 A ln ∧ u = A)) 0 0 (ew_A L sz) := by
  refine er_met (by decide) rfl (Nat.le_of_ble_eq_true rfl) ?_
  intro p e s m below meth c ls hx hb hr hts hown hlocks hml hV hK hS hA hl hsz
  subst hsz
  have hi0 := hE 0 (by decide)
  have hl : lv_has ls 4 [(0, .ref (X 0 0)), (1, .int (nI ln)), (2, .int 6)] := hl
  refine lv_aload_n hx hb dM_mayRequester_0 rfl (lv_at hl 0 rfl) ?_
  refine ew_get (v := .ref (X 18 0)) hx hb hts hown hK hV fM_46 hi0 (cR_0 _ _ _) rfl dM_mayRequester_1 ?_
  refine lv_iload_n hx hb dM_mayRequester_4 rfl (lv_at hl 1 rfl) ?_
  refine ew_iald (v := A 18 0 ln) hx hb hK hV (hE 18 (by decide)) (cR_18 _ _ _) 0 rfl (vp_in_nI (by omega) (by decide)) (er_ix (by omega) rfl) dM_mayRequester_5 ?_
  refine lv_istore_n (lv' := [(3, .int (A 18 0 ln)), (0, .ref (X 0 0)), (1, .int (nI ln)), (2, .int 6)]) hx hb dM_mayRequester_6 rfl hl (by decide) rfl (fun ls hl => ?_)
  refine lv_iload_n hx hb dM_mayRequester_7 rfl (lv_at hl 3 rfl) ?_
  refine lv_tableOut (tgt := 88) hx hb dM_mayRequester_8 (by decide) rfl ?_
  refine lv_aload_n hx hb dM_mayRequester_88 rfl (lv_at hl 1 rfl) ?_
  refine lv_iload_n hx hb dM_mayRequester_89 rfl (lv_at hl 2 rfl) ?_
  refine er_calli (va_runV (As := [.int (nI ln)]) (rest := []) ⟨hx, hb, hml, hown, hts⟩ (r_hasIt l D T X L tg _ hE A ln hln) (cwV 1 hts gM_159 rfl rfl rfl (by decide +kernel) ⟨Nat.le_of_ble_eq_true rfl, Nat.le_of_ble_eq_true rfl⟩) (er_preV hK hV hi0 (cR_0 _ _ _) rfl) rfl rfl hl.1 rfl (lv_room (Nat.le_of_ble_eq_true rfl)) dM_mayRequester_90 ⟨Nat.le_of_ble_eq_true rfl, Nat.le_of_ble_eq_true rfl⟩) hV hS hA (fun r u H locs hp hV hS => ?_)
  obtain ⟨rfl, eu9⟩ := hp
  rw [eu9] at hV
  exact er_zret hx hb hr hlocks hV hS dM_mayRequester_93 (z_hasIt _ _) ⟨Eq.symm (by unfold s_mayRequester_6; rfl), rfl⟩

theorem s_write_lt (A : ew_R) (en : Nat) (x y : Int32) (w lg : Nat) {c : Nat} (h : c < 29) (h0 : c ≠ 0) (a k : Nat) : s_write A en x y w lg c a k = A c a k := by
  unfold s_write
  rw [up3_ne _ _ (by omega), s_lay_lt _ _ _ _ (by omega) (by omega), up3_ne _ _ (by omega), up3_ne _ _ (by omega), up3_ne _ _ (by omega), up3_ne _ _ (by omega), up3_ne _ _ (by omega), up3_ne _ _ (by omega)]
theorem s_write_w (A : ew_R) (en : Nat) (x y : Int32) (w lg : Nat) (hw : w ≤ 64) : s_write A en x y w lg 0 0 4 = nI (if w = 64 then 64 else w + 1) := by
  unfold s_write
  rw [up3_ne _ _ (by omega), s_lay_w _ _ _ _ hw]
theorem s_write_g (A : ew_R) (en : Nat) (x y : Int32) (w lg : Nat) : s_write A en x y w lg 0 0 5 = nI (lg + 1) := by
  unfold s_write
  rw [up3_self]

def s_stepRequester_0 (A : ew_R) (ln : Nat) (pk : Nat) (w : Nat) (lg : Nat) : ew_R :=
  (s_write (up3 A 18 0 ln 0) (2 * (6 * ln + pk)) 5 0 w lg)
set_option maxHeartbeats 4000000 in
set_option maxRecDepth 100000 in
theorem r_stepRequester_0 (l : Launch) (D : va_G) (T : Nat → ClassId) (X : Nat → Nat → Nat) (L : List Nat) (tg : Nat → Nat × Nat) (sz : Nat) (hE : eR_E X L tg) (A : ew_R) (ln : Nat) (pk : Nat) (w : Nat) (lg : Nat) (hln : ln < 32) (hpk : pk < 6) (q16 : A 16 0 ln = nI pk) (hw : w ≤ 64) (hq : A 0 0 4 = nI w) (hlg : lg < 3000) (hg : A 0 0 5 = nI lg) : Met l yM_stepRequester wsM_stepRequester ({ frames := 4, cells := 0, slots := 0, locals := 89 }) (er_Pc D vwCl (tysA T) (cfR T) X L tg A sz [.ref (X 0 0), .int (nI ln), .int 0]) (er_Qv D vwCl (cfR T) X L tg sz (fun u => u = s_stepRequester_0 A ln pk w lg)) 0 0 (ew_A L sz) := by
  refine er_met (by decide) rfl (Nat.le_of_ble_eq_true rfl) ?_
  intro p e s m below meth c ls hx hb hr hts hown hlocks hml hV hK hS hA hl hsz
  subst hsz
  have hi0 := hE 0 (by decide)
  have hl : lv_has ls 6 [(0, .ref (X 0 0)), (1, .int (nI ln)), (2, .int 0)] := hl
  refine lv_aload_n hx hb dM_stepRequester_0 rfl (lv_at hl 0 rfl) ?_
  refine lv_iload_n hx hb dM_stepRequester_1 rfl (lv_at hl 1 rfl) ?_
  refine er_calli (va_runV (As := [.int (nI ln)]) (rest := []) ⟨hx, hb, hml, hown, hts⟩ (r_endOf l D T X L tg _ hE A ln pk hln hpk q16) (cwV 1 hts gM_134 rfl rfl rfl (by decide +kernel) ⟨Nat.le_of_ble_eq_true rfl, Nat.le_of_ble_eq_true rfl⟩) (er_preV hK hV hi0 (cR_0 _ _ _) rfl) rfl rfl hl.1 rfl (lv_room (Nat.le_of_ble_eq_true rfl)) dM_stepRequester_2 ⟨Nat.le_of_ble_eq_true rfl, Nat.le_of_ble_eq_true rfl⟩) hV hS hA (fun r u H locs hp hV hS => ?_)
  obtain ⟨rfl, eu9⟩ := hp
  rw [eu9] at hV
  refine lv_istore_n (lv' := [(3, .int (nI (2 * (6 * ln + pk)))), (0, .ref (X 0 0)), (1, .int (nI ln)), (2, .int 0)]) hx hb dM_stepRequester_5 rfl hl (by decide) rfl (fun ls hl => ?_)
  refine lv_iload_n hx hb dM_stepRequester_6 rfl (lv_at hl 3 rfl) ?_
  refine lv_if_ne (tgt := 14) hx hb dM_stepRequester_7 rfl (fun h9 => absurd (by decide) h9) (fun _ => ?_)
  refine lv_iconst (v := 0) hx hb dM_stepRequester_10 (by decide) ?_
  refine lv_goto (tgt := 63) hx hb dM_stepRequester_11 rfl ?_
  refine lv_istore (lv' := [(4, .int 0), (3, .int (nI (2 * (6 * ln + pk)))), (0, .ref (X 0 0)), (1, .int (nI ln)), (2, .int 0)]) hx hb dM_stepRequester_63 hl (by decide) rfl (fun ls hl => ?_)
  refine lv_iload_n hx hb dM_stepRequester_65 rfl (lv_at hl 4 rfl) ?_
  refine lv_if_ne (tgt := 73) hx hb dM_stepRequester_66 rfl (fun h9 => absurd (by decide) h9) (fun _ => ?_)
  refine lv_iconst (v := 5) hx hb dM_stepRequester_69 (by decide) ?_
  refine lv_goto (tgt := 125) hx hb dM_stepRequester_70 rfl ?_
  refine lv_istore (lv' := [(5, .int 5), (4, .int 0), (3, .int (nI (2 * (6 * ln + pk)))), (0, .ref (X 0 0)), (1, .int (nI ln)), (2, .int 0)]) hx hb dM_stepRequester_125 hl (by decide) rfl (fun ls hl => ?_)
  refine lv_iload_n hx hb dM_stepRequester_127 rfl (lv_at hl 5 rfl) ?_
  refine lv_iconst (v := 3) hx hb dM_stepRequester_128 (by decide) ?_
  refine lv_icmp_ne (tgt := 149) hx hb dM_stepRequester_129 rfl (fun _ => ?_) (fun h9 => absurd h9 (by decide))
  refine lv_iload_n hx hb dM_stepRequester_149 rfl (lv_at hl 5 rfl) ?_
  refine lv_iconst (v := 5) hx hb dM_stepRequester_150 (by decide) ?_
  refine lv_icmp_ne (tgt := 167) hx hb dM_stepRequester_151 rfl (fun _ => ?_) (fun h9 => absurd h9 (by decide))
  refine lv_iload_n hx hb dM_stepRequester_167 rfl (lv_at hl 5 rfl) ?_
  refine lv_bipush (v := 6) hx hb dM_stepRequester_168 (by decide) ?_
  refine lv_icmp_ne (tgt := 203) hx hb dM_stepRequester_170 rfl (fun _ => ?_) (fun h9 => absurd h9 (by decide))
  refine lv_aload_n hx hb dM_stepRequester_203 rfl (lv_at hl 3 rfl) ?_
  refine ew_get (v := .ref (X 18 0)) hx hb hts hown hK hV fM_46 hi0 (cR_0 _ _ _) rfl dM_stepRequester_204 ?_
  refine lv_iload_n hx hb dM_stepRequester_207 rfl (lv_at hl 4 rfl) ?_
  refine lv_iload hx hb dM_stepRequester_208 (lv_at hl 1 rfl) ?_
  refine ew_iast hx hb hK hV hS (hE 18 (by decide)) (cR_18 _ _ _) 0 rfl (vp_in_nI (by omega) (by decide)) ln (nI_clamp (by omega)) (qR_18 _ _ _ _ _) dM_stepRequester_210 (fun H locs hV hS => ?_)
  refine lv_aload_n hx hb dM_stepRequester_211 rfl (lv_at hl 3 rfl) ?_
  refine lv_iload_n hx hb dM_stepRequester_212 rfl (lv_at hl 2 rfl) ?_
  refine lv_iload hx hb dM_stepRequester_213 (lv_at hl 0 rfl) ?_
  refine lv_iconst (v := 0) hx hb dM_stepRequester_215 (by decide) ?_
  refine er_callv (va_runV (As := [.int (nI (2 * (6 * ln + pk))), .int 5, .int 0]) (rest := []) ⟨hx, hb, hml, hown, hts⟩ (r_write l D T X L tg _ hE (up3 A 18 0 ln 0) (2 * (6 * ln + pk)) 5 0 w lg (by omega) hw hq (by omega) hg) (cwV 3 hts gM_138 rfl rfl rfl (by decide +kernel) ⟨Nat.le_of_ble_eq_true rfl, Nat.le_of_ble_eq_true rfl⟩) (er_preV hK hV hi0 (cR_0 _ _ _) rfl) rfl rfl hl.1 rfl (lv_room (Nat.le_of_ble_eq_true rfl)) dM_stepRequester_216 ⟨Nat.le_of_ble_eq_true rfl, Nat.le_of_ble_eq_true rfl⟩) hV hS hA (fun u1 H locs eu1 hV hS => ?_)
  have eu1 : u1 = s_write (up3 A 18 0 ln 0) (2 * (6 * ln + pk)) 5 0 w lg := eu1
  refine lv_iload_n hx hb dM_stepRequester_219 rfl (lv_at hl 5 rfl) ?_
  refine lv_iconst (v := 1) hx hb dM_stepRequester_220 (by decide) ?_
  refine lv_icmp_ne (tgt := 229) hx hb dM_stepRequester_221 rfl (fun _ => ?_) (fun h9 => absurd h9 (by decide))
  subst eu1
  exact er_vret hx hb hr hlocks hV hS dM_stepRequester_229 (Eq.symm (by unfold s_stepRequester_0; rfl))

def s_stepRequester_1 (A : ew_R) (ln : Nat) (pk : Nat) (st : Nat) (ak : Nat) (rq : Nat) (w : Nat) (lg : Nat) : ew_R :=
  (s_askNext (s_write (up3 A 18 0 ln 0) (2 * (6 * ln + pk)) 6 0 w lg) ln st ak rq (if w = 64 then 64 else w + 1) (lg + 1))
set_option maxHeartbeats 4000000 in
set_option maxRecDepth 100000 in
theorem r_stepRequester_1 (l : Launch) (D : va_G) (T : Nat → ClassId) (X : Nat → Nat → Nat) (L : List Nat) (tg : Nat → Nat × Nat) (sz : Nat) (hE : eR_E X L tg) (A : ew_R) (ln : Nat) (pk : Nat) (st : Nat) (ak : Nat) (rq : Nat) (w : Nat) (lg : Nat) (hln : ln < 32) (hpk : pk < 6) (q16 : A 16 0 ln = nI pk) (hst : st < 6) (hak : ak ≤ 8) (hrq : rq < 6) (q14 : A 14 0 ln = nI st) (q15 : A 15 0 ln = nI ak) (q11 : A 11 0 ln = nI rq) (hw : w ≤ 64) (hq : A 0 0 4 = nI w) (hg : A 0 0 5 = nI lg) (hlg : lg + 1 < 3000) : Met l yM_stepRequester wsM_stepRequester ({ frames := 4, cells := 0, slots := 0, locals := 89 }) (er_Pc D vwCl (tysA T) (cfR T) X L tg A sz [.ref (X 0 0), .int (nI ln), .int 1]) (er_Qv D vwCl (cfR T) X L tg sz (fun u => u = s_stepRequester_1 A ln pk st ak rq w lg)) 0 0 (ew_A L sz) := by
  refine er_met (by decide) rfl (Nat.le_of_ble_eq_true rfl) ?_
  intro p e s m below meth c ls hx hb hr hts hown hlocks hml hV hK hS hA hl hsz
  subst hsz
  have hi0 := hE 0 (by decide)
  have hl : lv_has ls 6 [(0, .ref (X 0 0)), (1, .int (nI ln)), (2, .int 1)] := hl
  refine lv_aload_n hx hb dM_stepRequester_0 rfl (lv_at hl 0 rfl) ?_
  refine lv_iload_n hx hb dM_stepRequester_1 rfl (lv_at hl 1 rfl) ?_
  refine er_calli (va_runV (As := [.int (nI ln)]) (rest := []) ⟨hx, hb, hml, hown, hts⟩ (r_endOf l D T X L tg _ hE A ln pk hln hpk q16) (cwV 1 hts gM_134 rfl rfl rfl (by decide +kernel) ⟨Nat.le_of_ble_eq_true rfl, Nat.le_of_ble_eq_true rfl⟩) (er_preV hK hV hi0 (cR_0 _ _ _) rfl) rfl rfl hl.1 rfl (lv_room (Nat.le_of_ble_eq_true rfl)) dM_stepRequester_2 ⟨Nat.le_of_ble_eq_true rfl, Nat.le_of_ble_eq_true rfl⟩) hV hS hA (fun r u H locs hp hV hS => ?_)
  obtain ⟨rfl, eu9⟩ := hp
  rw [eu9] at hV
  refine lv_istore_n (lv' := [(3, .int (nI (2 * (6 * ln + pk)))), (0, .ref (X 0 0)), (1, .int (nI ln)), (2, .int 1)]) hx hb dM_stepRequester_5 rfl hl (by decide) rfl (fun ls hl => ?_)
  refine lv_iload_n hx hb dM_stepRequester_6 rfl (lv_at hl 3 rfl) ?_
  refine lv_if_ne (tgt := 14) hx hb dM_stepRequester_7 rfl (fun _ => ?_) (fun h9 => absurd h9 (by decide))
  refine lv_iload_n hx hb dM_stepRequester_14 rfl (lv_at hl 3 rfl) ?_
  refine lv_iconst (v := 1) hx hb dM_stepRequester_15 (by decide) ?_
  refine lv_icmp_ne (tgt := 23) hx hb dM_stepRequester_16 rfl (fun h9 => absurd (by decide) h9) (fun _ => ?_)
  refine lv_iconst (v := 0) hx hb dM_stepRequester_19 (by decide) ?_
  refine lv_goto (tgt := 63) hx hb dM_stepRequester_20 rfl ?_
  refine lv_istore (lv' := [(4, .int 0), (3, .int (nI (2 * (6 * ln + pk)))), (0, .ref (X 0 0)), (1, .int (nI ln)), (2, .int 1)]) hx hb dM_stepRequester_63 hl (by decide) rfl (fun ls hl => ?_)
  refine lv_iload_n hx hb dM_stepRequester_65 rfl (lv_at hl 4 rfl) ?_
  refine lv_if_ne (tgt := 73) hx hb dM_stepRequester_66 rfl (fun _ => ?_) (fun h9 => absurd h9 (by decide))
  refine lv_iload_n hx hb dM_stepRequester_73 rfl (lv_at hl 4 rfl) ?_
  refine lv_iconst (v := 1) hx hb dM_stepRequester_74 (by decide) ?_
  refine lv_icmp_ne (tgt := 83) hx hb dM_stepRequester_75 rfl (fun h9 => absurd (by decide) h9) (fun _ => ?_)
  refine lv_bipush (v := 6) hx hb dM_stepRequester_78 (by decide) ?_
  refine lv_goto (tgt := 125) hx hb dM_stepRequester_80 rfl ?_
  refine lv_istore (lv' := [(5, .int 6), (4, .int 0), (3, .int (nI (2 * (6 * ln + pk)))), (0, .ref (X 0 0)), (1, .int (nI ln)), (2, .int 1)]) hx hb dM_stepRequester_125 hl (by decide) rfl (fun ls hl => ?_)
  refine lv_iload_n hx hb dM_stepRequester_127 rfl (lv_at hl 5 rfl) ?_
  refine lv_iconst (v := 3) hx hb dM_stepRequester_128 (by decide) ?_
  refine lv_icmp_ne (tgt := 149) hx hb dM_stepRequester_129 rfl (fun _ => ?_) (fun h9 => absurd h9 (by decide))
  refine lv_iload_n hx hb dM_stepRequester_149 rfl (lv_at hl 5 rfl) ?_
  refine lv_iconst (v := 5) hx hb dM_stepRequester_150 (by decide) ?_
  refine lv_icmp_ne (tgt := 167) hx hb dM_stepRequester_151 rfl (fun _ => ?_) (fun h9 => absurd h9 (by decide))
  refine lv_iload_n hx hb dM_stepRequester_167 rfl (lv_at hl 5 rfl) ?_
  refine lv_bipush (v := 6) hx hb dM_stepRequester_168 (by decide) ?_
  refine lv_icmp_ne (tgt := 203) hx hb dM_stepRequester_170 rfl (fun _ => ?_) (fun h9 => absurd h9 (by decide))
  refine lv_aload_n hx hb dM_stepRequester_203 rfl (lv_at hl 3 rfl) ?_
  refine ew_get (v := .ref (X 18 0)) hx hb hts hown hK hV fM_46 hi0 (cR_0 _ _ _) rfl dM_stepRequester_204 ?_
  refine lv_iload_n hx hb dM_stepRequester_207 rfl (lv_at hl 4 rfl) ?_
  refine lv_iload hx hb dM_stepRequester_208 (lv_at hl 1 rfl) ?_
  refine ew_iast hx hb hK hV hS (hE 18 (by decide)) (cR_18 _ _ _) 0 rfl (vp_in_nI (by omega) (by decide)) ln (nI_clamp (by omega)) (qR_18 _ _ _ _ _) dM_stepRequester_210 (fun H locs hV hS => ?_)
  refine lv_aload_n hx hb dM_stepRequester_211 rfl (lv_at hl 3 rfl) ?_
  refine lv_iload_n hx hb dM_stepRequester_212 rfl (lv_at hl 2 rfl) ?_
  refine lv_iload hx hb dM_stepRequester_213 (lv_at hl 0 rfl) ?_
  refine lv_iconst (v := 0) hx hb dM_stepRequester_215 (by decide) ?_
  refine er_callv (va_runV (As := [.int (nI (2 * (6 * ln + pk))), .int 6, .int 0]) (rest := []) ⟨hx, hb, hml, hown, hts⟩ (r_write l D T X L tg _ hE (up3 A 18 0 ln 0) (2 * (6 * ln + pk)) 6 0 w lg (by omega) hw hq (by omega) hg) (cwV 3 hts gM_138 rfl rfl rfl (by decide +kernel) ⟨Nat.le_of_ble_eq_true rfl, Nat.le_of_ble_eq_true rfl⟩) (er_preV hK hV hi0 (cR_0 _ _ _) rfl) rfl rfl hl.1 rfl (lv_room (Nat.le_of_ble_eq_true rfl)) dM_stepRequester_216 ⟨Nat.le_of_ble_eq_true rfl, Nat.le_of_ble_eq_true rfl⟩) hV hS hA (fun u1 H locs eu1 hV hS => ?_)
  have eu1 : u1 = s_write (up3 A 18 0 ln 0) (2 * (6 * ln + pk)) 6 0 w lg := eu1
  refine lv_iload_n hx hb dM_stepRequester_219 rfl (lv_at hl 5 rfl) ?_
  refine lv_iconst (v := 1) hx hb dM_stepRequester_220 (by decide) ?_
  refine lv_icmp_ne (tgt := 229) hx hb dM_stepRequester_221 rfl (fun h9 => absurd (by decide) h9) (fun _ => ?_)
  refine lv_aload_n hx hb dM_stepRequester_224 rfl (lv_at hl 3 rfl) ?_
  refine lv_iload_n hx hb dM_stepRequester_225 rfl (lv_at hl 4 rfl) ?_
  refine er_callv (va_runV (As := [.int (nI ln)]) (rest := []) ⟨hx, hb, hml, hown, hts⟩ (r_askNext l D T X L tg _ hE u1 ln st ak rq (if w = 64 then 64 else w + 1) (lg + 1) hln hst hak hrq (by split <;> omega) (by first | (rw [eu1]; exact (s_write_w _ _ _ _ _ _ hw)) | exact (s_write_w _ _ _ _ _ _ hw)) hlg (by first | (rw [eu1]; exact (s_write_g _ _ _ _ _ _)) | exact (s_write_g _ _ _ _ _ _)) (by first | (rw [eu1]; exact ((s_write_lt _ _ _ _ _ _ (by decide) (by decide) _ _).trans q14)) | exact ((s_write_lt _ _ _ _ _ _ (by decide) (by decide) _ _).trans q14)) (by first | (rw [eu1]; exact ((s_write_lt _ _ _ _ _ _ (by decide) (by decide) _ _).trans q15)) | exact ((s_write_lt _ _ _ _ _ _ (by decide) (by decide) _ _).trans q15)) (by first | (rw [eu1]; exact ((s_write_lt _ _ _ _ _ _ (by decide) (by decide) _ _).trans q11)) | exact ((s_write_lt _ _ _ _ _ _ (by decide) (by decide) _ _).trans q11))) (cwV 1 hts gM_156 rfl rfl rfl (by decide +kernel) ⟨Nat.le_of_ble_eq_true rfl, Nat.le_of_ble_eq_true rfl⟩) (er_preV hK hV hi0 (cR_0 _ _ _) rfl) rfl rfl hl.1 rfl (lv_room (Nat.le_of_ble_eq_true rfl)) dM_stepRequester_226 ⟨Nat.le_of_ble_eq_true rfl, Nat.le_of_ble_eq_true rfl⟩) hV hS hA (fun u2 H locs eu2 hV hS => ?_)
  have eu2 : u2 = s_askNext u1 ln st ak rq (if w = 64 then 64 else w + 1) (lg + 1) := eu2
  subst eu2
  subst eu1
  exact er_vret hx hb hr hlocks hV hS dM_stepRequester_229 (Eq.symm (by unfold s_stepRequester_1; rfl))

def s_stepRequester_2 (A : ew_R) (ln : Nat) (pk : Nat) (w : Nat) (lg : Nat) : ew_R :=
  (s_write (up3 A 18 0 ln 10) (2 * (6 * ln + pk)) 15 0 w lg)
set_option maxHeartbeats 4000000 in
set_option maxRecDepth 100000 in
theorem r_stepRequester_2 (l : Launch) (D : va_G) (T : Nat → ClassId) (X : Nat → Nat → Nat) (L : List Nat) (tg : Nat → Nat × Nat) (sz : Nat) (hE : eR_E X L tg) (A : ew_R) (ln : Nat) (pk : Nat) (w : Nat) (lg : Nat) (hln : ln < 32) (hpk : pk < 6) (q16 : A 16 0 ln = nI pk) (hw : w ≤ 64) (hq : A 0 0 4 = nI w) (hlg : lg < 3000) (hg : A 0 0 5 = nI lg) : Met l yM_stepRequester wsM_stepRequester ({ frames := 4, cells := 0, slots := 0, locals := 89 }) (er_Pc D vwCl (tysA T) (cfR T) X L tg A sz [.ref (X 0 0), .int (nI ln), .int 2]) (er_Qv D vwCl (cfR T) X L tg sz (fun u => u = s_stepRequester_2 A ln pk w lg)) 0 0 (ew_A L sz) := by
  refine er_met (by decide) rfl (Nat.le_of_ble_eq_true rfl) ?_
  intro p e s m below meth c ls hx hb hr hts hown hlocks hml hV hK hS hA hl hsz
  subst hsz
  have hi0 := hE 0 (by decide)
  have hl : lv_has ls 6 [(0, .ref (X 0 0)), (1, .int (nI ln)), (2, .int 2)] := hl
  refine lv_aload_n hx hb dM_stepRequester_0 rfl (lv_at hl 0 rfl) ?_
  refine lv_iload_n hx hb dM_stepRequester_1 rfl (lv_at hl 1 rfl) ?_
  refine er_calli (va_runV (As := [.int (nI ln)]) (rest := []) ⟨hx, hb, hml, hown, hts⟩ (r_endOf l D T X L tg _ hE A ln pk hln hpk q16) (cwV 1 hts gM_134 rfl rfl rfl (by decide +kernel) ⟨Nat.le_of_ble_eq_true rfl, Nat.le_of_ble_eq_true rfl⟩) (er_preV hK hV hi0 (cR_0 _ _ _) rfl) rfl rfl hl.1 rfl (lv_room (Nat.le_of_ble_eq_true rfl)) dM_stepRequester_2 ⟨Nat.le_of_ble_eq_true rfl, Nat.le_of_ble_eq_true rfl⟩) hV hS hA (fun r u H locs hp hV hS => ?_)
  obtain ⟨rfl, eu9⟩ := hp
  rw [eu9] at hV
  refine lv_istore_n (lv' := [(3, .int (nI (2 * (6 * ln + pk)))), (0, .ref (X 0 0)), (1, .int (nI ln)), (2, .int 2)]) hx hb dM_stepRequester_5 rfl hl (by decide) rfl (fun ls hl => ?_)
  refine lv_iload_n hx hb dM_stepRequester_6 rfl (lv_at hl 3 rfl) ?_
  refine lv_if_ne (tgt := 14) hx hb dM_stepRequester_7 rfl (fun _ => ?_) (fun h9 => absurd h9 (by decide))
  refine lv_iload_n hx hb dM_stepRequester_14 rfl (lv_at hl 3 rfl) ?_
  refine lv_iconst (v := 1) hx hb dM_stepRequester_15 (by decide) ?_
  refine lv_icmp_ne (tgt := 23) hx hb dM_stepRequester_16 rfl (fun _ => ?_) (fun h9 => absurd h9 (by decide))
  refine lv_iload_n hx hb dM_stepRequester_23 rfl (lv_at hl 3 rfl) ?_
  refine lv_iconst (v := 2) hx hb dM_stepRequester_24 (by decide) ?_
  refine lv_icmp_ne (tgt := 33) hx hb dM_stepRequester_25 rfl (fun h9 => absurd (by decide) h9) (fun _ => ?_)
  refine lv_bipush (v := 10) hx hb dM_stepRequester_28 (by decide) ?_
  refine lv_goto (tgt := 63) hx hb dM_stepRequester_30 rfl ?_
  refine lv_istore (lv' := [(4, .int 10), (3, .int (nI (2 * (6 * ln + pk)))), (0, .ref (X 0 0)), (1, .int (nI ln)), (2, .int 2)]) hx hb dM_stepRequester_63 hl (by decide) rfl (fun ls hl => ?_)
  refine lv_iload_n hx hb dM_stepRequester_65 rfl (lv_at hl 4 rfl) ?_
  refine lv_if_ne (tgt := 73) hx hb dM_stepRequester_66 rfl (fun _ => ?_) (fun h9 => absurd h9 (by decide))
  refine lv_iload_n hx hb dM_stepRequester_73 rfl (lv_at hl 4 rfl) ?_
  refine lv_iconst (v := 1) hx hb dM_stepRequester_74 (by decide) ?_
  refine lv_icmp_ne (tgt := 83) hx hb dM_stepRequester_75 rfl (fun _ => ?_) (fun h9 => absurd h9 (by decide))
  refine lv_iload_n hx hb dM_stepRequester_83 rfl (lv_at hl 4 rfl) ?_
  refine lv_iconst (v := 2) hx hb dM_stepRequester_84 (by decide) ?_
  refine lv_icmp_ne (tgt := 93) hx hb dM_stepRequester_85 rfl (fun h9 => absurd (by decide) h9) (fun _ => ?_)
  refine lv_bipush (v := 15) hx hb dM_stepRequester_88 (by decide) ?_
  refine lv_goto (tgt := 125) hx hb dM_stepRequester_90 rfl ?_
  refine lv_istore (lv' := [(5, .int 15), (4, .int 10), (3, .int (nI (2 * (6 * ln + pk)))), (0, .ref (X 0 0)), (1, .int (nI ln)), (2, .int 2)]) hx hb dM_stepRequester_125 hl (by decide) rfl (fun ls hl => ?_)
  refine lv_iload_n hx hb dM_stepRequester_127 rfl (lv_at hl 5 rfl) ?_
  refine lv_iconst (v := 3) hx hb dM_stepRequester_128 (by decide) ?_
  refine lv_icmp_ne (tgt := 149) hx hb dM_stepRequester_129 rfl (fun _ => ?_) (fun h9 => absurd h9 (by decide))
  refine lv_iload_n hx hb dM_stepRequester_149 rfl (lv_at hl 5 rfl) ?_
  refine lv_iconst (v := 5) hx hb dM_stepRequester_150 (by decide) ?_
  refine lv_icmp_ne (tgt := 167) hx hb dM_stepRequester_151 rfl (fun _ => ?_) (fun h9 => absurd h9 (by decide))
  refine lv_iload_n hx hb dM_stepRequester_167 rfl (lv_at hl 5 rfl) ?_
  refine lv_bipush (v := 6) hx hb dM_stepRequester_168 (by decide) ?_
  refine lv_icmp_ne (tgt := 203) hx hb dM_stepRequester_170 rfl (fun _ => ?_) (fun h9 => absurd h9 (by decide))
  refine lv_aload_n hx hb dM_stepRequester_203 rfl (lv_at hl 3 rfl) ?_
  refine ew_get (v := .ref (X 18 0)) hx hb hts hown hK hV fM_46 hi0 (cR_0 _ _ _) rfl dM_stepRequester_204 ?_
  refine lv_iload_n hx hb dM_stepRequester_207 rfl (lv_at hl 4 rfl) ?_
  refine lv_iload hx hb dM_stepRequester_208 (lv_at hl 1 rfl) ?_
  refine ew_iast hx hb hK hV hS (hE 18 (by decide)) (cR_18 _ _ _) 0 rfl (vp_in_nI (by omega) (by decide)) ln (nI_clamp (by omega)) (qR_18 _ _ _ _ _) dM_stepRequester_210 (fun H locs hV hS => ?_)
  refine lv_aload_n hx hb dM_stepRequester_211 rfl (lv_at hl 3 rfl) ?_
  refine lv_iload_n hx hb dM_stepRequester_212 rfl (lv_at hl 2 rfl) ?_
  refine lv_iload hx hb dM_stepRequester_213 (lv_at hl 0 rfl) ?_
  refine lv_iconst (v := 0) hx hb dM_stepRequester_215 (by decide) ?_
  refine er_callv (va_runV (As := [.int (nI (2 * (6 * ln + pk))), .int 15, .int 0]) (rest := []) ⟨hx, hb, hml, hown, hts⟩ (r_write l D T X L tg _ hE (up3 A 18 0 ln 10) (2 * (6 * ln + pk)) 15 0 w lg (by omega) hw hq (by omega) hg) (cwV 3 hts gM_138 rfl rfl rfl (by decide +kernel) ⟨Nat.le_of_ble_eq_true rfl, Nat.le_of_ble_eq_true rfl⟩) (er_preV hK hV hi0 (cR_0 _ _ _) rfl) rfl rfl hl.1 rfl (lv_room (Nat.le_of_ble_eq_true rfl)) dM_stepRequester_216 ⟨Nat.le_of_ble_eq_true rfl, Nat.le_of_ble_eq_true rfl⟩) hV hS hA (fun u1 H locs eu1 hV hS => ?_)
  have eu1 : u1 = s_write (up3 A 18 0 ln 10) (2 * (6 * ln + pk)) 15 0 w lg := eu1
  refine lv_iload_n hx hb dM_stepRequester_219 rfl (lv_at hl 5 rfl) ?_
  refine lv_iconst (v := 1) hx hb dM_stepRequester_220 (by decide) ?_
  refine lv_icmp_ne (tgt := 229) hx hb dM_stepRequester_221 rfl (fun _ => ?_) (fun h9 => absurd h9 (by decide))
  subst eu1
  exact er_vret hx hb hr hlocks hV hS dM_stepRequester_229 (Eq.symm (by unfold s_stepRequester_2; rfl))

def s_stepRequester_3 (A : ew_R) (ln : Nat) (pk : Nat) (cp : Nat) (w : Nat) (lg : Nat) : ew_R :=
  (s_write (up3 (up3 A 9 0 cp (A 11 0 ln)) 18 0 ln 4) (2 * (6 * ln + pk)) 8 0 w lg)
set_option maxHeartbeats 4000000 in
set_option maxRecDepth 100000 in
theorem r_stepRequester_3 (l : Launch) (D : va_G) (T : Nat → ClassId) (X : Nat → Nat → Nat) (L : List Nat) (tg : Nat → Nat × Nat) (sz : Nat) (hE : eR_E X L tg) (A : ew_R) (ln : Nat) (pk : Nat) (cp : Nat) (w : Nat) (lg : Nat) (hln : ln < 32) (hpk : pk < 6) (q16 : A 16 0 ln = nI pk) (hcp : cp < 32) (q17 : A 17 0 ln = nI cp) (hw : w ≤ 64) (hq : A 0 0 4 = nI w) (hlg : lg < 3000) (hg : A 0 0 5 = nI lg) : Met l yM_stepRequester wsM_stepRequester ({ frames := 4, cells := 0, slots := 0, locals := 89 }) (er_Pc D vwCl (tysA T) (cfR T) X L tg A sz [.ref (X 0 0), .int (nI ln), .int 3]) (er_Qv D vwCl (cfR T) X L tg sz (fun u => u = s_stepRequester_3 A ln pk cp w lg)) 0 0 (ew_A L sz) := by
  refine er_met (by decide) rfl (Nat.le_of_ble_eq_true rfl) ?_
  intro p e s m below meth c ls hx hb hr hts hown hlocks hml hV hK hS hA hl hsz
  subst hsz
  have hi0 := hE 0 (by decide)
  have hl : lv_has ls 6 [(0, .ref (X 0 0)), (1, .int (nI ln)), (2, .int 3)] := hl
  refine lv_aload_n hx hb dM_stepRequester_0 rfl (lv_at hl 0 rfl) ?_
  refine lv_iload_n hx hb dM_stepRequester_1 rfl (lv_at hl 1 rfl) ?_
  refine er_calli (va_runV (As := [.int (nI ln)]) (rest := []) ⟨hx, hb, hml, hown, hts⟩ (r_endOf l D T X L tg _ hE A ln pk hln hpk q16) (cwV 1 hts gM_134 rfl rfl rfl (by decide +kernel) ⟨Nat.le_of_ble_eq_true rfl, Nat.le_of_ble_eq_true rfl⟩) (er_preV hK hV hi0 (cR_0 _ _ _) rfl) rfl rfl hl.1 rfl (lv_room (Nat.le_of_ble_eq_true rfl)) dM_stepRequester_2 ⟨Nat.le_of_ble_eq_true rfl, Nat.le_of_ble_eq_true rfl⟩) hV hS hA (fun r u H locs hp hV hS => ?_)
  obtain ⟨rfl, eu9⟩ := hp
  rw [eu9] at hV
  refine lv_istore_n (lv' := [(3, .int (nI (2 * (6 * ln + pk)))), (0, .ref (X 0 0)), (1, .int (nI ln)), (2, .int 3)]) hx hb dM_stepRequester_5 rfl hl (by decide) rfl (fun ls hl => ?_)
  refine lv_iload_n hx hb dM_stepRequester_6 rfl (lv_at hl 3 rfl) ?_
  refine lv_if_ne (tgt := 14) hx hb dM_stepRequester_7 rfl (fun _ => ?_) (fun h9 => absurd h9 (by decide))
  refine lv_iload_n hx hb dM_stepRequester_14 rfl (lv_at hl 3 rfl) ?_
  refine lv_iconst (v := 1) hx hb dM_stepRequester_15 (by decide) ?_
  refine lv_icmp_ne (tgt := 23) hx hb dM_stepRequester_16 rfl (fun _ => ?_) (fun h9 => absurd h9 (by decide))
  refine lv_iload_n hx hb dM_stepRequester_23 rfl (lv_at hl 3 rfl) ?_
  refine lv_iconst (v := 2) hx hb dM_stepRequester_24 (by decide) ?_
  refine lv_icmp_ne (tgt := 33) hx hb dM_stepRequester_25 rfl (fun _ => ?_) (fun h9 => absurd h9 (by decide))
  refine lv_iload_n hx hb dM_stepRequester_33 rfl (lv_at hl 3 rfl) ?_
  refine lv_iconst (v := 3) hx hb dM_stepRequester_34 (by decide) ?_
  refine lv_icmp_ne (tgt := 42) hx hb dM_stepRequester_35 rfl (fun h9 => absurd (by decide) h9) (fun _ => ?_)
  refine lv_iconst (v := 4) hx hb dM_stepRequester_38 (by decide) ?_
  refine lv_goto (tgt := 63) hx hb dM_stepRequester_39 rfl ?_
  refine lv_istore (lv' := [(4, .int 4), (3, .int (nI (2 * (6 * ln + pk)))), (0, .ref (X 0 0)), (1, .int (nI ln)), (2, .int 3)]) hx hb dM_stepRequester_63 hl (by decide) rfl (fun ls hl => ?_)
  refine lv_iload_n hx hb dM_stepRequester_65 rfl (lv_at hl 4 rfl) ?_
  refine lv_if_ne (tgt := 73) hx hb dM_stepRequester_66 rfl (fun _ => ?_) (fun h9 => absurd h9 (by decide))
  refine lv_iload_n hx hb dM_stepRequester_73 rfl (lv_at hl 4 rfl) ?_
  refine lv_iconst (v := 1) hx hb dM_stepRequester_74 (by decide) ?_
  refine lv_icmp_ne (tgt := 83) hx hb dM_stepRequester_75 rfl (fun _ => ?_) (fun h9 => absurd h9 (by decide))
  refine lv_iload_n hx hb dM_stepRequester_83 rfl (lv_at hl 4 rfl) ?_
  refine lv_iconst (v := 2) hx hb dM_stepRequester_84 (by decide) ?_
  refine lv_icmp_ne (tgt := 93) hx hb dM_stepRequester_85 rfl (fun _ => ?_) (fun h9 => absurd h9 (by decide))
  refine lv_iload_n hx hb dM_stepRequester_93 rfl (lv_at hl 4 rfl) ?_
  refine lv_iconst (v := 3) hx hb dM_stepRequester_94 (by decide) ?_
  refine lv_icmp_ne (tgt := 103) hx hb dM_stepRequester_95 rfl (fun h9 => absurd (by decide) h9) (fun _ => ?_)
  refine lv_bipush (v := 8) hx hb dM_stepRequester_98 (by decide) ?_
  refine lv_goto (tgt := 125) hx hb dM_stepRequester_100 rfl ?_
  refine lv_istore (lv' := [(5, .int 8), (4, .int 4), (3, .int (nI (2 * (6 * ln + pk)))), (0, .ref (X 0 0)), (1, .int (nI ln)), (2, .int 3)]) hx hb dM_stepRequester_125 hl (by decide) rfl (fun ls hl => ?_)
  refine lv_iload_n hx hb dM_stepRequester_127 rfl (lv_at hl 5 rfl) ?_
  refine lv_iconst (v := 3) hx hb dM_stepRequester_128 (by decide) ?_
  refine lv_icmp_ne (tgt := 149) hx hb dM_stepRequester_129 rfl (fun h9 => absurd (by decide) h9) (fun _ => ?_)
  refine lv_aload_n hx hb dM_stepRequester_132 rfl (lv_at hl 3 rfl) ?_
  refine ew_get (v := .ref (X 9 0)) hx hb hts hown hK hV fM_19 hi0 (cR_0 _ _ _) rfl dM_stepRequester_133 ?_
  refine lv_aload_n hx hb dM_stepRequester_136 rfl (lv_at hl 3 rfl) ?_
  refine ew_get (v := .ref (X 17 0)) hx hb hts hown hK hV fM_43 hi0 (cR_0 _ _ _) rfl dM_stepRequester_137 ?_
  refine lv_iload_n hx hb dM_stepRequester_140 rfl (lv_at hl 4 rfl) ?_
  refine ew_iald (v := A 17 0 ln) hx hb hK hV (hE 17 (by decide)) (cR_17 _ _ _) 0 rfl (vp_in_nI (by omega) (by decide)) (er_ix (by omega) rfl) dM_stepRequester_141 ?_
  refine lv_toe (y := nI cp) q17 ?_
  refine lv_aload_n hx hb dM_stepRequester_142 rfl (lv_at hl 3 rfl) ?_
  refine ew_get (v := .ref (X 11 0)) hx hb hts hown hK hV fM_25 hi0 (cR_0 _ _ _) rfl dM_stepRequester_143 ?_
  refine lv_iload_n hx hb dM_stepRequester_146 rfl (lv_at hl 4 rfl) ?_
  refine ew_iald (v := A 11 0 ln) hx hb hK hV (hE 11 (by decide)) (cR_11 _ _ _) 0 rfl (vp_in_nI (by omega) (by decide)) (er_ix (by omega) rfl) dM_stepRequester_147 ?_
  refine ew_iast hx hb hK hV hS (hE 9 (by decide)) (cR_9 _ _ _) 0 rfl (vp_in_nI (by omega) (by decide)) cp (nI_clamp (by omega)) (qR_9 _ _ _ _ _) dM_stepRequester_148 (fun H locs hV hS => ?_)
  refine lv_iload_n hx hb dM_stepRequester_149 rfl (lv_at hl 5 rfl) ?_
  refine lv_iconst (v := 5) hx hb dM_stepRequester_150 (by decide) ?_
  refine lv_icmp_ne (tgt := 167) hx hb dM_stepRequester_151 rfl (fun _ => ?_) (fun h9 => absurd h9 (by decide))
  refine lv_iload_n hx hb dM_stepRequester_167 rfl (lv_at hl 5 rfl) ?_
  refine lv_bipush (v := 6) hx hb dM_stepRequester_168 (by decide) ?_
  refine lv_icmp_ne (tgt := 203) hx hb dM_stepRequester_170 rfl (fun _ => ?_) (fun h9 => absurd h9 (by decide))
  refine lv_aload_n hx hb dM_stepRequester_203 rfl (lv_at hl 3 rfl) ?_
  refine ew_get (v := .ref (X 18 0)) hx hb hts hown hK hV fM_46 hi0 (cR_0 _ _ _) rfl dM_stepRequester_204 ?_
  refine lv_iload_n hx hb dM_stepRequester_207 rfl (lv_at hl 4 rfl) ?_
  refine lv_iload hx hb dM_stepRequester_208 (lv_at hl 1 rfl) ?_
  refine ew_iast hx hb hK hV hS (hE 18 (by decide)) (cR_18 _ _ _) 0 rfl (vp_in_nI (by omega) (by decide)) ln (nI_clamp (by omega)) (qR_18 _ _ _ _ _) dM_stepRequester_210 (fun H locs hV hS => ?_)
  refine lv_aload_n hx hb dM_stepRequester_211 rfl (lv_at hl 3 rfl) ?_
  refine lv_iload_n hx hb dM_stepRequester_212 rfl (lv_at hl 2 rfl) ?_
  refine lv_iload hx hb dM_stepRequester_213 (lv_at hl 0 rfl) ?_
  refine lv_iconst (v := 0) hx hb dM_stepRequester_215 (by decide) ?_
  refine er_callv (va_runV (As := [.int (nI (2 * (6 * ln + pk))), .int 8, .int 0]) (rest := []) ⟨hx, hb, hml, hown, hts⟩ (r_write l D T X L tg _ hE (up3 (up3 A 9 0 cp (A 11 0 ln)) 18 0 ln 4) (2 * (6 * ln + pk)) 8 0 w lg (by omega) hw hq (by omega) hg) (cwV 3 hts gM_138 rfl rfl rfl (by decide +kernel) ⟨Nat.le_of_ble_eq_true rfl, Nat.le_of_ble_eq_true rfl⟩) (er_preV hK hV hi0 (cR_0 _ _ _) rfl) rfl rfl hl.1 rfl (lv_room (Nat.le_of_ble_eq_true rfl)) dM_stepRequester_216 ⟨Nat.le_of_ble_eq_true rfl, Nat.le_of_ble_eq_true rfl⟩) hV hS hA (fun u1 H locs eu1 hV hS => ?_)
  have eu1 : u1 = s_write (up3 (up3 A 9 0 cp (A 11 0 ln)) 18 0 ln 4) (2 * (6 * ln + pk)) 8 0 w lg := eu1
  refine lv_iload_n hx hb dM_stepRequester_219 rfl (lv_at hl 5 rfl) ?_
  refine lv_iconst (v := 1) hx hb dM_stepRequester_220 (by decide) ?_
  refine lv_icmp_ne (tgt := 229) hx hb dM_stepRequester_221 rfl (fun _ => ?_) (fun h9 => absurd h9 (by decide))
  subst eu1
  exact er_vret hx hb hr hlocks hV hS dM_stepRequester_229 (Eq.symm (by unfold s_stepRequester_3; rfl))

def s_stepRequester_4 (A : ew_R) (ln : Nat) (pk : Nat) (w : Nat) (lg : Nat) : ew_R :=
  (s_write (up3 A 18 0 ln 5) (2 * (6 * ln + pk)) 9 0 w lg)
set_option maxHeartbeats 4000000 in
set_option maxRecDepth 100000 in
theorem r_stepRequester_4 (l : Launch) (D : va_G) (T : Nat → ClassId) (X : Nat → Nat → Nat) (L : List Nat) (tg : Nat → Nat × Nat) (sz : Nat) (hE : eR_E X L tg) (A : ew_R) (ln : Nat) (pk : Nat) (w : Nat) (lg : Nat) (hln : ln < 32) (hpk : pk < 6) (q16 : A 16 0 ln = nI pk) (hw : w ≤ 64) (hq : A 0 0 4 = nI w) (hlg : lg < 3000) (hg : A 0 0 5 = nI lg) : Met l yM_stepRequester wsM_stepRequester ({ frames := 4, cells := 0, slots := 0, locals := 89 }) (er_Pc D vwCl (tysA T) (cfR T) X L tg A sz [.ref (X 0 0), .int (nI ln), .int 4]) (er_Qv D vwCl (cfR T) X L tg sz (fun u => u = s_stepRequester_4 A ln pk w lg)) 0 0 (ew_A L sz) := by
  refine er_met (by decide) rfl (Nat.le_of_ble_eq_true rfl) ?_
  intro p e s m below meth c ls hx hb hr hts hown hlocks hml hV hK hS hA hl hsz
  subst hsz
  have hi0 := hE 0 (by decide)
  have hl : lv_has ls 6 [(0, .ref (X 0 0)), (1, .int (nI ln)), (2, .int 4)] := hl
  refine lv_aload_n hx hb dM_stepRequester_0 rfl (lv_at hl 0 rfl) ?_
  refine lv_iload_n hx hb dM_stepRequester_1 rfl (lv_at hl 1 rfl) ?_
  refine er_calli (va_runV (As := [.int (nI ln)]) (rest := []) ⟨hx, hb, hml, hown, hts⟩ (r_endOf l D T X L tg _ hE A ln pk hln hpk q16) (cwV 1 hts gM_134 rfl rfl rfl (by decide +kernel) ⟨Nat.le_of_ble_eq_true rfl, Nat.le_of_ble_eq_true rfl⟩) (er_preV hK hV hi0 (cR_0 _ _ _) rfl) rfl rfl hl.1 rfl (lv_room (Nat.le_of_ble_eq_true rfl)) dM_stepRequester_2 ⟨Nat.le_of_ble_eq_true rfl, Nat.le_of_ble_eq_true rfl⟩) hV hS hA (fun r u H locs hp hV hS => ?_)
  obtain ⟨rfl, eu9⟩ := hp
  rw [eu9] at hV
  refine lv_istore_n (lv' := [(3, .int (nI (2 * (6 * ln + pk)))), (0, .ref (X 0 0)), (1, .int (nI ln)), (2, .int 4)]) hx hb dM_stepRequester_5 rfl hl (by decide) rfl (fun ls hl => ?_)
  refine lv_iload_n hx hb dM_stepRequester_6 rfl (lv_at hl 3 rfl) ?_
  refine lv_if_ne (tgt := 14) hx hb dM_stepRequester_7 rfl (fun _ => ?_) (fun h9 => absurd h9 (by decide))
  refine lv_iload_n hx hb dM_stepRequester_14 rfl (lv_at hl 3 rfl) ?_
  refine lv_iconst (v := 1) hx hb dM_stepRequester_15 (by decide) ?_
  refine lv_icmp_ne (tgt := 23) hx hb dM_stepRequester_16 rfl (fun _ => ?_) (fun h9 => absurd h9 (by decide))
  refine lv_iload_n hx hb dM_stepRequester_23 rfl (lv_at hl 3 rfl) ?_
  refine lv_iconst (v := 2) hx hb dM_stepRequester_24 (by decide) ?_
  refine lv_icmp_ne (tgt := 33) hx hb dM_stepRequester_25 rfl (fun _ => ?_) (fun h9 => absurd h9 (by decide))
  refine lv_iload_n hx hb dM_stepRequester_33 rfl (lv_at hl 3 rfl) ?_
  refine lv_iconst (v := 3) hx hb dM_stepRequester_34 (by decide) ?_
  refine lv_icmp_ne (tgt := 42) hx hb dM_stepRequester_35 rfl (fun _ => ?_) (fun h9 => absurd h9 (by decide))
  refine lv_iload_n hx hb dM_stepRequester_42 rfl (lv_at hl 3 rfl) ?_
  refine lv_iconst (v := 4) hx hb dM_stepRequester_43 (by decide) ?_
  refine lv_icmp_ne (tgt := 51) hx hb dM_stepRequester_44 rfl (fun h9 => absurd (by decide) h9) (fun _ => ?_)
  refine lv_iconst (v := 5) hx hb dM_stepRequester_47 (by decide) ?_
  refine lv_goto (tgt := 63) hx hb dM_stepRequester_48 rfl ?_
  refine lv_istore (lv' := [(4, .int 5), (3, .int (nI (2 * (6 * ln + pk)))), (0, .ref (X 0 0)), (1, .int (nI ln)), (2, .int 4)]) hx hb dM_stepRequester_63 hl (by decide) rfl (fun ls hl => ?_)
  refine lv_iload_n hx hb dM_stepRequester_65 rfl (lv_at hl 4 rfl) ?_
  refine lv_if_ne (tgt := 73) hx hb dM_stepRequester_66 rfl (fun _ => ?_) (fun h9 => absurd h9 (by decide))
  refine lv_iload_n hx hb dM_stepRequester_73 rfl (lv_at hl 4 rfl) ?_
  refine lv_iconst (v := 1) hx hb dM_stepRequester_74 (by decide) ?_
  refine lv_icmp_ne (tgt := 83) hx hb dM_stepRequester_75 rfl (fun _ => ?_) (fun h9 => absurd h9 (by decide))
  refine lv_iload_n hx hb dM_stepRequester_83 rfl (lv_at hl 4 rfl) ?_
  refine lv_iconst (v := 2) hx hb dM_stepRequester_84 (by decide) ?_
  refine lv_icmp_ne (tgt := 93) hx hb dM_stepRequester_85 rfl (fun _ => ?_) (fun h9 => absurd h9 (by decide))
  refine lv_iload_n hx hb dM_stepRequester_93 rfl (lv_at hl 4 rfl) ?_
  refine lv_iconst (v := 3) hx hb dM_stepRequester_94 (by decide) ?_
  refine lv_icmp_ne (tgt := 103) hx hb dM_stepRequester_95 rfl (fun _ => ?_) (fun h9 => absurd h9 (by decide))
  refine lv_iload_n hx hb dM_stepRequester_103 rfl (lv_at hl 4 rfl) ?_
  refine lv_iconst (v := 4) hx hb dM_stepRequester_104 (by decide) ?_
  refine lv_icmp_ne (tgt := 113) hx hb dM_stepRequester_105 rfl (fun h9 => absurd (by decide) h9) (fun _ => ?_)
  refine lv_bipush (v := 9) hx hb dM_stepRequester_108 (by decide) ?_
  refine lv_goto (tgt := 125) hx hb dM_stepRequester_110 rfl ?_
  refine lv_istore (lv' := [(5, .int 9), (4, .int 5), (3, .int (nI (2 * (6 * ln + pk)))), (0, .ref (X 0 0)), (1, .int (nI ln)), (2, .int 4)]) hx hb dM_stepRequester_125 hl (by decide) rfl (fun ls hl => ?_)
  refine lv_iload_n hx hb dM_stepRequester_127 rfl (lv_at hl 5 rfl) ?_
  refine lv_iconst (v := 3) hx hb dM_stepRequester_128 (by decide) ?_
  refine lv_icmp_ne (tgt := 149) hx hb dM_stepRequester_129 rfl (fun _ => ?_) (fun h9 => absurd h9 (by decide))
  refine lv_iload_n hx hb dM_stepRequester_149 rfl (lv_at hl 5 rfl) ?_
  refine lv_iconst (v := 5) hx hb dM_stepRequester_150 (by decide) ?_
  refine lv_icmp_ne (tgt := 167) hx hb dM_stepRequester_151 rfl (fun _ => ?_) (fun h9 => absurd h9 (by decide))
  refine lv_iload_n hx hb dM_stepRequester_167 rfl (lv_at hl 5 rfl) ?_
  refine lv_bipush (v := 6) hx hb dM_stepRequester_168 (by decide) ?_
  refine lv_icmp_ne (tgt := 203) hx hb dM_stepRequester_170 rfl (fun _ => ?_) (fun h9 => absurd h9 (by decide))
  refine lv_aload_n hx hb dM_stepRequester_203 rfl (lv_at hl 3 rfl) ?_
  refine ew_get (v := .ref (X 18 0)) hx hb hts hown hK hV fM_46 hi0 (cR_0 _ _ _) rfl dM_stepRequester_204 ?_
  refine lv_iload_n hx hb dM_stepRequester_207 rfl (lv_at hl 4 rfl) ?_
  refine lv_iload hx hb dM_stepRequester_208 (lv_at hl 1 rfl) ?_
  refine ew_iast hx hb hK hV hS (hE 18 (by decide)) (cR_18 _ _ _) 0 rfl (vp_in_nI (by omega) (by decide)) ln (nI_clamp (by omega)) (qR_18 _ _ _ _ _) dM_stepRequester_210 (fun H locs hV hS => ?_)
  refine lv_aload_n hx hb dM_stepRequester_211 rfl (lv_at hl 3 rfl) ?_
  refine lv_iload_n hx hb dM_stepRequester_212 rfl (lv_at hl 2 rfl) ?_
  refine lv_iload hx hb dM_stepRequester_213 (lv_at hl 0 rfl) ?_
  refine lv_iconst (v := 0) hx hb dM_stepRequester_215 (by decide) ?_
  refine er_callv (va_runV (As := [.int (nI (2 * (6 * ln + pk))), .int 9, .int 0]) (rest := []) ⟨hx, hb, hml, hown, hts⟩ (r_write l D T X L tg _ hE (up3 A 18 0 ln 5) (2 * (6 * ln + pk)) 9 0 w lg (by omega) hw hq (by omega) hg) (cwV 3 hts gM_138 rfl rfl rfl (by decide +kernel) ⟨Nat.le_of_ble_eq_true rfl, Nat.le_of_ble_eq_true rfl⟩) (er_preV hK hV hi0 (cR_0 _ _ _) rfl) rfl rfl hl.1 rfl (lv_room (Nat.le_of_ble_eq_true rfl)) dM_stepRequester_216 ⟨Nat.le_of_ble_eq_true rfl, Nat.le_of_ble_eq_true rfl⟩) hV hS hA (fun u1 H locs eu1 hV hS => ?_)
  have eu1 : u1 = s_write (up3 A 18 0 ln 5) (2 * (6 * ln + pk)) 9 0 w lg := eu1
  refine lv_iload_n hx hb dM_stepRequester_219 rfl (lv_at hl 5 rfl) ?_
  refine lv_iconst (v := 1) hx hb dM_stepRequester_220 (by decide) ?_
  refine lv_icmp_ne (tgt := 229) hx hb dM_stepRequester_221 rfl (fun _ => ?_) (fun h9 => absurd h9 (by decide))
  subst eu1
  exact er_vret hx hb hr hlocks hV hS dM_stepRequester_229 (Eq.symm (by unfold s_stepRequester_4; rfl))

def s_stepRequester_5 (A : ew_R) (ln : Nat) (pk : Nat) (cp : Nat) (w : Nat) (lg : Nat) : ew_R :=
  (s_write (up3 (up3 A 9 0 cp 6) 18 0 ln 7) (2 * (6 * ln + pk)) 12 0 w lg)
set_option maxHeartbeats 4000000 in
set_option maxRecDepth 100000 in
theorem r_stepRequester_5 (l : Launch) (D : va_G) (T : Nat → ClassId) (X : Nat → Nat → Nat) (L : List Nat) (tg : Nat → Nat × Nat) (sz : Nat) (hE : eR_E X L tg) (A : ew_R) (ln : Nat) (pk : Nat) (cp : Nat) (w : Nat) (lg : Nat) (hln : ln < 32) (hpk : pk < 6) (q16 : A 16 0 ln = nI pk) (hcp : cp < 32) (q17 : A 17 0 ln = nI cp) (hw : w ≤ 64) (hq : A 0 0 4 = nI w) (hlg : lg < 3000) (hg : A 0 0 5 = nI lg) : Met l yM_stepRequester wsM_stepRequester ({ frames := 4, cells := 0, slots := 0, locals := 89 }) (er_Pc D vwCl (tysA T) (cfR T) X L tg A sz [.ref (X 0 0), .int (nI ln), .int 5]) (er_Qv D vwCl (cfR T) X L tg sz (fun u => u = s_stepRequester_5 A ln pk cp w lg)) 0 0 (ew_A L sz) := by
  refine er_met (by decide) rfl (Nat.le_of_ble_eq_true rfl) ?_
  intro p e s m below meth c ls hx hb hr hts hown hlocks hml hV hK hS hA hl hsz
  subst hsz
  have hi0 := hE 0 (by decide)
  have hl : lv_has ls 6 [(0, .ref (X 0 0)), (1, .int (nI ln)), (2, .int 5)] := hl
  refine lv_aload_n hx hb dM_stepRequester_0 rfl (lv_at hl 0 rfl) ?_
  refine lv_iload_n hx hb dM_stepRequester_1 rfl (lv_at hl 1 rfl) ?_
  refine er_calli (va_runV (As := [.int (nI ln)]) (rest := []) ⟨hx, hb, hml, hown, hts⟩ (r_endOf l D T X L tg _ hE A ln pk hln hpk q16) (cwV 1 hts gM_134 rfl rfl rfl (by decide +kernel) ⟨Nat.le_of_ble_eq_true rfl, Nat.le_of_ble_eq_true rfl⟩) (er_preV hK hV hi0 (cR_0 _ _ _) rfl) rfl rfl hl.1 rfl (lv_room (Nat.le_of_ble_eq_true rfl)) dM_stepRequester_2 ⟨Nat.le_of_ble_eq_true rfl, Nat.le_of_ble_eq_true rfl⟩) hV hS hA (fun r u H locs hp hV hS => ?_)
  obtain ⟨rfl, eu9⟩ := hp
  rw [eu9] at hV
  refine lv_istore_n (lv' := [(3, .int (nI (2 * (6 * ln + pk)))), (0, .ref (X 0 0)), (1, .int (nI ln)), (2, .int 5)]) hx hb dM_stepRequester_5 rfl hl (by decide) rfl (fun ls hl => ?_)
  refine lv_iload_n hx hb dM_stepRequester_6 rfl (lv_at hl 3 rfl) ?_
  refine lv_if_ne (tgt := 14) hx hb dM_stepRequester_7 rfl (fun _ => ?_) (fun h9 => absurd h9 (by decide))
  refine lv_iload_n hx hb dM_stepRequester_14 rfl (lv_at hl 3 rfl) ?_
  refine lv_iconst (v := 1) hx hb dM_stepRequester_15 (by decide) ?_
  refine lv_icmp_ne (tgt := 23) hx hb dM_stepRequester_16 rfl (fun _ => ?_) (fun h9 => absurd h9 (by decide))
  refine lv_iload_n hx hb dM_stepRequester_23 rfl (lv_at hl 3 rfl) ?_
  refine lv_iconst (v := 2) hx hb dM_stepRequester_24 (by decide) ?_
  refine lv_icmp_ne (tgt := 33) hx hb dM_stepRequester_25 rfl (fun _ => ?_) (fun h9 => absurd h9 (by decide))
  refine lv_iload_n hx hb dM_stepRequester_33 rfl (lv_at hl 3 rfl) ?_
  refine lv_iconst (v := 3) hx hb dM_stepRequester_34 (by decide) ?_
  refine lv_icmp_ne (tgt := 42) hx hb dM_stepRequester_35 rfl (fun _ => ?_) (fun h9 => absurd h9 (by decide))
  refine lv_iload_n hx hb dM_stepRequester_42 rfl (lv_at hl 3 rfl) ?_
  refine lv_iconst (v := 4) hx hb dM_stepRequester_43 (by decide) ?_
  refine lv_icmp_ne (tgt := 51) hx hb dM_stepRequester_44 rfl (fun _ => ?_) (fun h9 => absurd h9 (by decide))
  refine lv_iload_n hx hb dM_stepRequester_51 rfl (lv_at hl 3 rfl) ?_
  refine lv_iconst (v := 5) hx hb dM_stepRequester_52 (by decide) ?_
  refine lv_icmp_ne (tgt := 61) hx hb dM_stepRequester_53 rfl (fun h9 => absurd (by decide) h9) (fun _ => ?_)
  refine lv_bipush (v := 7) hx hb dM_stepRequester_56 (by decide) ?_
  refine lv_goto (tgt := 63) hx hb dM_stepRequester_58 rfl ?_
  refine lv_istore (lv' := [(4, .int 7), (3, .int (nI (2 * (6 * ln + pk)))), (0, .ref (X 0 0)), (1, .int (nI ln)), (2, .int 5)]) hx hb dM_stepRequester_63 hl (by decide) rfl (fun ls hl => ?_)
  refine lv_iload_n hx hb dM_stepRequester_65 rfl (lv_at hl 4 rfl) ?_
  refine lv_if_ne (tgt := 73) hx hb dM_stepRequester_66 rfl (fun _ => ?_) (fun h9 => absurd h9 (by decide))
  refine lv_iload_n hx hb dM_stepRequester_73 rfl (lv_at hl 4 rfl) ?_
  refine lv_iconst (v := 1) hx hb dM_stepRequester_74 (by decide) ?_
  refine lv_icmp_ne (tgt := 83) hx hb dM_stepRequester_75 rfl (fun _ => ?_) (fun h9 => absurd h9 (by decide))
  refine lv_iload_n hx hb dM_stepRequester_83 rfl (lv_at hl 4 rfl) ?_
  refine lv_iconst (v := 2) hx hb dM_stepRequester_84 (by decide) ?_
  refine lv_icmp_ne (tgt := 93) hx hb dM_stepRequester_85 rfl (fun _ => ?_) (fun h9 => absurd h9 (by decide))
  refine lv_iload_n hx hb dM_stepRequester_93 rfl (lv_at hl 4 rfl) ?_
  refine lv_iconst (v := 3) hx hb dM_stepRequester_94 (by decide) ?_
  refine lv_icmp_ne (tgt := 103) hx hb dM_stepRequester_95 rfl (fun _ => ?_) (fun h9 => absurd h9 (by decide))
  refine lv_iload_n hx hb dM_stepRequester_103 rfl (lv_at hl 4 rfl) ?_
  refine lv_iconst (v := 4) hx hb dM_stepRequester_104 (by decide) ?_
  refine lv_icmp_ne (tgt := 113) hx hb dM_stepRequester_105 rfl (fun _ => ?_) (fun h9 => absurd h9 (by decide))
  refine lv_iload_n hx hb dM_stepRequester_113 rfl (lv_at hl 4 rfl) ?_
  refine lv_iconst (v := 5) hx hb dM_stepRequester_114 (by decide) ?_
  refine lv_icmp_ne (tgt := 123) hx hb dM_stepRequester_115 rfl (fun h9 => absurd (by decide) h9) (fun _ => ?_)
  refine lv_bipush (v := 12) hx hb dM_stepRequester_118 (by decide) ?_
  refine lv_goto (tgt := 125) hx hb dM_stepRequester_120 rfl ?_
  refine lv_istore (lv' := [(5, .int 12), (4, .int 7), (3, .int (nI (2 * (6 * ln + pk)))), (0, .ref (X 0 0)), (1, .int (nI ln)), (2, .int 5)]) hx hb dM_stepRequester_125 hl (by decide) rfl (fun ls hl => ?_)
  refine lv_iload_n hx hb dM_stepRequester_127 rfl (lv_at hl 5 rfl) ?_
  refine lv_iconst (v := 3) hx hb dM_stepRequester_128 (by decide) ?_
  refine lv_icmp_ne (tgt := 149) hx hb dM_stepRequester_129 rfl (fun _ => ?_) (fun h9 => absurd h9 (by decide))
  refine lv_iload_n hx hb dM_stepRequester_149 rfl (lv_at hl 5 rfl) ?_
  refine lv_iconst (v := 5) hx hb dM_stepRequester_150 (by decide) ?_
  refine lv_icmp_ne (tgt := 167) hx hb dM_stepRequester_151 rfl (fun h9 => absurd (by decide) h9) (fun _ => ?_)
  refine lv_aload_n hx hb dM_stepRequester_154 rfl (lv_at hl 3 rfl) ?_
  refine ew_get (v := .ref (X 9 0)) hx hb hts hown hK hV fM_19 hi0 (cR_0 _ _ _) rfl dM_stepRequester_155 ?_
  refine lv_aload_n hx hb dM_stepRequester_158 rfl (lv_at hl 3 rfl) ?_
  refine ew_get (v := .ref (X 17 0)) hx hb hts hown hK hV fM_43 hi0 (cR_0 _ _ _) rfl dM_stepRequester_159 ?_
  refine lv_iload_n hx hb dM_stepRequester_162 rfl (lv_at hl 4 rfl) ?_
  refine ew_iald (v := A 17 0 ln) hx hb hK hV (hE 17 (by decide)) (cR_17 _ _ _) 0 rfl (vp_in_nI (by omega) (by decide)) (er_ix (by omega) rfl) dM_stepRequester_163 ?_
  refine lv_toe (y := nI cp) q17 ?_
  refine lv_bipush (v := 6) hx hb dM_stepRequester_164 (by decide) ?_
  refine ew_iast hx hb hK hV hS (hE 9 (by decide)) (cR_9 _ _ _) 0 rfl (vp_in_nI (by omega) (by decide)) cp (nI_clamp (by omega)) (qR_9 _ _ _ _ _) dM_stepRequester_166 (fun H locs hV hS => ?_)
  refine lv_iload_n hx hb dM_stepRequester_167 rfl (lv_at hl 5 rfl) ?_
  refine lv_bipush (v := 6) hx hb dM_stepRequester_168 (by decide) ?_
  refine lv_icmp_ne (tgt := 203) hx hb dM_stepRequester_170 rfl (fun _ => ?_) (fun h9 => absurd h9 (by decide))
  refine lv_aload_n hx hb dM_stepRequester_203 rfl (lv_at hl 3 rfl) ?_
  refine ew_get (v := .ref (X 18 0)) hx hb hts hown hK hV fM_46 hi0 (cR_0 _ _ _) rfl dM_stepRequester_204 ?_
  refine lv_iload_n hx hb dM_stepRequester_207 rfl (lv_at hl 4 rfl) ?_
  refine lv_iload hx hb dM_stepRequester_208 (lv_at hl 1 rfl) ?_
  refine ew_iast hx hb hK hV hS (hE 18 (by decide)) (cR_18 _ _ _) 0 rfl (vp_in_nI (by omega) (by decide)) ln (nI_clamp (by omega)) (qR_18 _ _ _ _ _) dM_stepRequester_210 (fun H locs hV hS => ?_)
  refine lv_aload_n hx hb dM_stepRequester_211 rfl (lv_at hl 3 rfl) ?_
  refine lv_iload_n hx hb dM_stepRequester_212 rfl (lv_at hl 2 rfl) ?_
  refine lv_iload hx hb dM_stepRequester_213 (lv_at hl 0 rfl) ?_
  refine lv_iconst (v := 0) hx hb dM_stepRequester_215 (by decide) ?_
  refine er_callv (va_runV (As := [.int (nI (2 * (6 * ln + pk))), .int 12, .int 0]) (rest := []) ⟨hx, hb, hml, hown, hts⟩ (r_write l D T X L tg _ hE (up3 (up3 A 9 0 cp 6) 18 0 ln 7) (2 * (6 * ln + pk)) 12 0 w lg (by omega) hw hq (by omega) hg) (cwV 3 hts gM_138 rfl rfl rfl (by decide +kernel) ⟨Nat.le_of_ble_eq_true rfl, Nat.le_of_ble_eq_true rfl⟩) (er_preV hK hV hi0 (cR_0 _ _ _) rfl) rfl rfl hl.1 rfl (lv_room (Nat.le_of_ble_eq_true rfl)) dM_stepRequester_216 ⟨Nat.le_of_ble_eq_true rfl, Nat.le_of_ble_eq_true rfl⟩) hV hS hA (fun u1 H locs eu1 hV hS => ?_)
  have eu1 : u1 = s_write (up3 (up3 A 9 0 cp 6) 18 0 ln 7) (2 * (6 * ln + pk)) 12 0 w lg := eu1
  refine lv_iload_n hx hb dM_stepRequester_219 rfl (lv_at hl 5 rfl) ?_
  refine lv_iconst (v := 1) hx hb dM_stepRequester_220 (by decide) ?_
  refine lv_icmp_ne (tgt := 229) hx hb dM_stepRequester_221 rfl (fun _ => ?_) (fun h9 => absurd h9 (by decide))
  subst eu1
  exact er_vret hx hb hr hlocks hV hS dM_stepRequester_229 (Eq.symm (by unfold s_stepRequester_5; rfl))

def s_stepRequester_6 (A : ew_R) (ln : Nat) (pk : Nat) (cp : Nat) (rq : Nat) (w : Nat) (lg : Nat) : ew_R :=
  (s_write (up3 (up3 (up3 A 9 0 cp 7) 6 0 rq ((A 6 0 rq) - 4000)) 18 0 ln 12) (2 * (6 * ln + pk)) 14 0 w lg)
set_option maxHeartbeats 4000000 in
set_option maxRecDepth 100000 in
theorem r_stepRequester_6 (l : Launch) (D : va_G) (T : Nat → ClassId) (X : Nat → Nat → Nat) (L : List Nat) (tg : Nat → Nat × Nat) (sz : Nat) (hE : eR_E X L tg) (A : ew_R) (ln : Nat) (pk : Nat) (cp : Nat) (rq : Nat) (w : Nat) (lg : Nat) (hln : ln < 32) (hpk : pk < 6) (q16 : A 16 0 ln = nI pk) (hcp : cp < 32) (q17 : A 17 0 ln = nI cp) (hrq : rq < 6) (q11 : A 11 0 ln = nI rq) (hw : w ≤ 64) (hq : A 0 0 4 = nI w) (hlg : lg < 3000) (hg : A 0 0 5 = nI lg) : Met l yM_stepRequester wsM_stepRequester ({ frames := 4, cells := 0, slots := 0, locals := 89 }) (er_Pc D vwCl (tysA T) (cfR T) X L tg A sz [.ref (X 0 0), .int (nI ln), .int 6]) (er_Qv D vwCl (cfR T) X L tg sz (fun u => u = s_stepRequester_6 A ln pk cp rq w lg)) 0 0 (ew_A L sz) := by
  refine er_met (by decide) rfl (Nat.le_of_ble_eq_true rfl) ?_
  intro p e s m below meth c ls hx hb hr hts hown hlocks hml hV hK hS hA hl hsz
  subst hsz
  have hi0 := hE 0 (by decide)
  have hl : lv_has ls 6 [(0, .ref (X 0 0)), (1, .int (nI ln)), (2, .int 6)] := hl
  refine lv_aload_n hx hb dM_stepRequester_0 rfl (lv_at hl 0 rfl) ?_
  refine lv_iload_n hx hb dM_stepRequester_1 rfl (lv_at hl 1 rfl) ?_
  refine er_calli (va_runV (As := [.int (nI ln)]) (rest := []) ⟨hx, hb, hml, hown, hts⟩ (r_endOf l D T X L tg _ hE A ln pk hln hpk q16) (cwV 1 hts gM_134 rfl rfl rfl (by decide +kernel) ⟨Nat.le_of_ble_eq_true rfl, Nat.le_of_ble_eq_true rfl⟩) (er_preV hK hV hi0 (cR_0 _ _ _) rfl) rfl rfl hl.1 rfl (lv_room (Nat.le_of_ble_eq_true rfl)) dM_stepRequester_2 ⟨Nat.le_of_ble_eq_true rfl, Nat.le_of_ble_eq_true rfl⟩) hV hS hA (fun r u H locs hp hV hS => ?_)
  obtain ⟨rfl, eu9⟩ := hp
  rw [eu9] at hV
  refine lv_istore_n (lv' := [(3, .int (nI (2 * (6 * ln + pk)))), (0, .ref (X 0 0)), (1, .int (nI ln)), (2, .int 6)]) hx hb dM_stepRequester_5 rfl hl (by decide) rfl (fun ls hl => ?_)
  refine lv_iload_n hx hb dM_stepRequester_6 rfl (lv_at hl 3 rfl) ?_
  refine lv_if_ne (tgt := 14) hx hb dM_stepRequester_7 rfl (fun _ => ?_) (fun h9 => absurd h9 (by decide))
  refine lv_iload_n hx hb dM_stepRequester_14 rfl (lv_at hl 3 rfl) ?_
  refine lv_iconst (v := 1) hx hb dM_stepRequester_15 (by decide) ?_
  refine lv_icmp_ne (tgt := 23) hx hb dM_stepRequester_16 rfl (fun _ => ?_) (fun h9 => absurd h9 (by decide))
  refine lv_iload_n hx hb dM_stepRequester_23 rfl (lv_at hl 3 rfl) ?_
  refine lv_iconst (v := 2) hx hb dM_stepRequester_24 (by decide) ?_
  refine lv_icmp_ne (tgt := 33) hx hb dM_stepRequester_25 rfl (fun _ => ?_) (fun h9 => absurd h9 (by decide))
  refine lv_iload_n hx hb dM_stepRequester_33 rfl (lv_at hl 3 rfl) ?_
  refine lv_iconst (v := 3) hx hb dM_stepRequester_34 (by decide) ?_
  refine lv_icmp_ne (tgt := 42) hx hb dM_stepRequester_35 rfl (fun _ => ?_) (fun h9 => absurd h9 (by decide))
  refine lv_iload_n hx hb dM_stepRequester_42 rfl (lv_at hl 3 rfl) ?_
  refine lv_iconst (v := 4) hx hb dM_stepRequester_43 (by decide) ?_
  refine lv_icmp_ne (tgt := 51) hx hb dM_stepRequester_44 rfl (fun _ => ?_) (fun h9 => absurd h9 (by decide))
  refine lv_iload_n hx hb dM_stepRequester_51 rfl (lv_at hl 3 rfl) ?_
  refine lv_iconst (v := 5) hx hb dM_stepRequester_52 (by decide) ?_
  refine lv_icmp_ne (tgt := 61) hx hb dM_stepRequester_53 rfl (fun _ => ?_) (fun h9 => absurd h9 (by decide))
  refine lv_bipush (v := 12) hx hb dM_stepRequester_61 (by decide) ?_
  refine lv_istore (lv' := [(4, .int 12), (3, .int (nI (2 * (6 * ln + pk)))), (0, .ref (X 0 0)), (1, .int (nI ln)), (2, .int 6)]) hx hb dM_stepRequester_63 hl (by decide) rfl (fun ls hl => ?_)
  refine lv_iload_n hx hb dM_stepRequester_65 rfl (lv_at hl 4 rfl) ?_
  refine lv_if_ne (tgt := 73) hx hb dM_stepRequester_66 rfl (fun _ => ?_) (fun h9 => absurd h9 (by decide))
  refine lv_iload_n hx hb dM_stepRequester_73 rfl (lv_at hl 4 rfl) ?_
  refine lv_iconst (v := 1) hx hb dM_stepRequester_74 (by decide) ?_
  refine lv_icmp_ne (tgt := 83) hx hb dM_stepRequester_75 rfl (fun _ => ?_) (fun h9 => absurd h9 (by decide))
  refine lv_iload_n hx hb dM_stepRequester_83 rfl (lv_at hl 4 rfl) ?_
  refine lv_iconst (v := 2) hx hb dM_stepRequester_84 (by decide) ?_
  refine lv_icmp_ne (tgt := 93) hx hb dM_stepRequester_85 rfl (fun _ => ?_) (fun h9 => absurd h9 (by decide))
  refine lv_iload_n hx hb dM_stepRequester_93 rfl (lv_at hl 4 rfl) ?_
  refine lv_iconst (v := 3) hx hb dM_stepRequester_94 (by decide) ?_
  refine lv_icmp_ne (tgt := 103) hx hb dM_stepRequester_95 rfl (fun _ => ?_) (fun h9 => absurd h9 (by decide))
  refine lv_iload_n hx hb dM_stepRequester_103 rfl (lv_at hl 4 rfl) ?_
  refine lv_iconst (v := 4) hx hb dM_stepRequester_104 (by decide) ?_
  refine lv_icmp_ne (tgt := 113) hx hb dM_stepRequester_105 rfl (fun _ => ?_) (fun h9 => absurd h9 (by decide))
  refine lv_iload_n hx hb dM_stepRequester_113 rfl (lv_at hl 4 rfl) ?_
  refine lv_iconst (v := 5) hx hb dM_stepRequester_114 (by decide) ?_
  refine lv_icmp_ne (tgt := 123) hx hb dM_stepRequester_115 rfl (fun _ => ?_) (fun h9 => absurd h9 (by decide))
  refine lv_bipush (v := 14) hx hb dM_stepRequester_123 (by decide) ?_
  refine lv_istore (lv' := [(5, .int 14), (4, .int 12), (3, .int (nI (2 * (6 * ln + pk)))), (0, .ref (X 0 0)), (1, .int (nI ln)), (2, .int 6)]) hx hb dM_stepRequester_125 hl (by decide) rfl (fun ls hl => ?_)
  refine lv_iload_n hx hb dM_stepRequester_127 rfl (lv_at hl 5 rfl) ?_
  refine lv_iconst (v := 3) hx hb dM_stepRequester_128 (by decide) ?_
  refine lv_icmp_ne (tgt := 149) hx hb dM_stepRequester_129 rfl (fun _ => ?_) (fun h9 => absurd h9 (by decide))
  refine lv_iload_n hx hb dM_stepRequester_149 rfl (lv_at hl 5 rfl) ?_
  refine lv_iconst (v := 5) hx hb dM_stepRequester_150 (by decide) ?_
  refine lv_icmp_ne (tgt := 167) hx hb dM_stepRequester_151 rfl (fun _ => ?_) (fun h9 => absurd h9 (by decide))
  refine lv_iload_n hx hb dM_stepRequester_167 rfl (lv_at hl 5 rfl) ?_
  refine lv_bipush (v := 6) hx hb dM_stepRequester_168 (by decide) ?_
  refine lv_icmp_ne (tgt := 203) hx hb dM_stepRequester_170 rfl (fun h9 => absurd (by decide) h9) (fun _ => ?_)
  refine lv_aload_n hx hb dM_stepRequester_173 rfl (lv_at hl 3 rfl) ?_
  refine ew_get (v := .ref (X 9 0)) hx hb hts hown hK hV fM_19 hi0 (cR_0 _ _ _) rfl dM_stepRequester_174 ?_
  refine lv_aload_n hx hb dM_stepRequester_177 rfl (lv_at hl 3 rfl) ?_
  refine ew_get (v := .ref (X 17 0)) hx hb hts hown hK hV fM_43 hi0 (cR_0 _ _ _) rfl dM_stepRequester_178 ?_
  refine lv_iload_n hx hb dM_stepRequester_181 rfl (lv_at hl 4 rfl) ?_
  refine ew_iald (v := A 17 0 ln) hx hb hK hV (hE 17 (by decide)) (cR_17 _ _ _) 0 rfl (vp_in_nI (by omega) (by decide)) (er_ix (by omega) rfl) dM_stepRequester_182 ?_
  refine lv_toe (y := nI cp) q17 ?_
  refine lv_bipush (v := 7) hx hb dM_stepRequester_183 (by decide) ?_
  refine ew_iast hx hb hK hV hS (hE 9 (by decide)) (cR_9 _ _ _) 0 rfl (vp_in_nI (by omega) (by decide)) cp (nI_clamp (by omega)) (qR_9 _ _ _ _ _) dM_stepRequester_185 (fun H locs hV hS => ?_)
  refine lv_aload_n hx hb dM_stepRequester_186 rfl (lv_at hl 3 rfl) ?_
  refine ew_get (v := .ref (X 6 0)) hx hb hts hown hK hV fM_7 hi0 (cR_0 _ _ _) rfl dM_stepRequester_187 ?_
  refine lv_aload_n hx hb dM_stepRequester_190 rfl (lv_at hl 3 rfl) ?_
  refine ew_get (v := .ref (X 11 0)) hx hb hts hown hK hV fM_25 hi0 (cR_0 _ _ _) rfl dM_stepRequester_191 ?_
  refine lv_iload_n hx hb dM_stepRequester_194 rfl (lv_at hl 4 rfl) ?_
  refine ew_iald (v := A 11 0 ln) hx hb hK hV (hE 11 (by decide)) (cR_11 _ _ _) 0 rfl (vp_in_nI (by omega) (by decide)) (er_ix (by omega) rfl) dM_stepRequester_195 ?_
  refine lv_toe (y := nI rq) q11 ?_
  refine lv_dup2_11 hx hb dM_stepRequester_196 rfl rfl ?_
  refine ew_iald (v := A 6 0 rq) hx hb hK hV (hE 6 (by decide)) (cR_6 _ _ _) 0 rfl (vp_in_nI (by omega) (by decide)) (er_ix (by omega) rfl) dM_stepRequester_197 ?_
  refine lv_sipush (v := 4000) hx hb dM_stepRequester_198 (by decide) ?_
  refine lv_isub hx hb dM_stepRequester_201 ?_
  refine ew_iast hx hb hK hV hS (hE 6 (by decide)) (cR_6 _ _ _) 0 rfl (vp_in_nI (by omega) (by decide)) rq (nI_clamp (by omega)) (qR_6 _ _ _ _ _) dM_stepRequester_202 (fun H locs hV hS => ?_)
  refine lv_aload_n hx hb dM_stepRequester_203 rfl (lv_at hl 3 rfl) ?_
  refine ew_get (v := .ref (X 18 0)) hx hb hts hown hK hV fM_46 hi0 (cR_0 _ _ _) rfl dM_stepRequester_204 ?_
  refine lv_iload_n hx hb dM_stepRequester_207 rfl (lv_at hl 4 rfl) ?_
  refine lv_iload hx hb dM_stepRequester_208 (lv_at hl 1 rfl) ?_
  refine ew_iast hx hb hK hV hS (hE 18 (by decide)) (cR_18 _ _ _) 0 rfl (vp_in_nI (by omega) (by decide)) ln (nI_clamp (by omega)) (qR_18 _ _ _ _ _) dM_stepRequester_210 (fun H locs hV hS => ?_)
  refine lv_aload_n hx hb dM_stepRequester_211 rfl (lv_at hl 3 rfl) ?_
  refine lv_iload_n hx hb dM_stepRequester_212 rfl (lv_at hl 2 rfl) ?_
  refine lv_iload hx hb dM_stepRequester_213 (lv_at hl 0 rfl) ?_
  refine lv_iconst (v := 0) hx hb dM_stepRequester_215 (by decide) ?_
  refine er_callv (va_runV (As := [.int (nI (2 * (6 * ln + pk))), .int 14, .int 0]) (rest := []) ⟨hx, hb, hml, hown, hts⟩ (r_write l D T X L tg _ hE (up3 (up3 (up3 A 9 0 cp 7) 6 0 rq ((A 6 0 rq) - 4000)) 18 0 ln 12) (2 * (6 * ln + pk)) 14 0 w lg (by omega) hw hq (by omega) hg) (cwV 3 hts gM_138 rfl rfl rfl (by decide +kernel) ⟨Nat.le_of_ble_eq_true rfl, Nat.le_of_ble_eq_true rfl⟩) (er_preV hK hV hi0 (cR_0 _ _ _) rfl) rfl rfl hl.1 rfl (lv_room (Nat.le_of_ble_eq_true rfl)) dM_stepRequester_216 ⟨Nat.le_of_ble_eq_true rfl, Nat.le_of_ble_eq_true rfl⟩) hV hS hA (fun u1 H locs eu1 hV hS => ?_)
  have eu1 : u1 = s_write (up3 (up3 (up3 A 9 0 cp 7) 6 0 rq ((A 6 0 rq) - 4000)) 18 0 ln 12) (2 * (6 * ln + pk)) 14 0 w lg := eu1
  refine lv_iload_n hx hb dM_stepRequester_219 rfl (lv_at hl 5 rfl) ?_
  refine lv_iconst (v := 1) hx hb dM_stepRequester_220 (by decide) ?_
  refine lv_icmp_ne (tgt := 229) hx hb dM_stepRequester_221 rfl (fun _ => ?_) (fun h9 => absurd h9 (by decide))
  subst eu1
  exact er_vret hx hb hr hlocks hV hS dM_stepRequester_229 (Eq.symm (by unfold s_stepRequester_6; rfl))

def s_mayPromise (A : ew_R) (ln : Nat) (b : Nat) (cc : Int32) (nc : Nat) : Int32 :=
  if cc < 0 then
    0
  else
    if nI nc ≤ cc then
      0
    else
      if A 7 0 cc.toNatClampNeg = A 12 0 ln then
        if A 8 0 cc.toNatClampNeg = nI b then
          if A 9 0 cc.toNatClampNeg = nI b then
            if A 10 0 cc.toNatClampNeg = (-1) then
              1
            else
              0
          else
            0
        else
          0
      else
        0
set_option maxHeartbeats 4000000 in
set_option maxRecDepth 100000 in
theorem r_mayPromise (l : Launch) (D : va_G) (T : Nat → ClassId) (X : Nat → Nat → Nat) (L : List Nat) (tg : Nat → Nat × Nat) (sz : Nat) (hE : eR_E X L tg) (A : ew_R) (ln : Nat) (b : Nat) (cc : Int32) (nc : Nat) (hln : ln < 32) (hnc : nc ≤ 32) (q3 : A 0 0 3 = nI nc) : Met l yM_mayPromise wsM_mayPromise ({ frames := 0, cells := 0, slots := 0, locals := 0 }) (er_Pc D vwCl (tysA T) (cfR T) X L tg A sz [.ref (X 0 0), .int (nI ln), .int (nI b), .int cc]) (er_Qi D vwCl (cfR T) X L tg sz (fun r u => r = s_mayPromise A ln b cc nc ∧ u = A)) 0 0 (ew_A L sz) := by
  refine er_met (by decide) rfl (Nat.le_of_ble_eq_true rfl) ?_
  intro p e s m below meth c ls hx hb hr hts hown hlocks hml hV hK hS hA hl hsz
  subst hsz
  have hi0 := hE 0 (by decide)
  have hl : lv_has ls 4 [(0, .ref (X 0 0)), (1, .int (nI ln)), (2, .int (nI b)), (3, .int cc)] := hl
  refine lv_iload_n hx hb dM_mayPromise_0 rfl (lv_at hl 3 rfl) ?_
  refine lv_if_lt (tgt := 61) hx hb dM_mayPromise_1 rfl (fun h1 => ?_) (fun h1 => ?_)
  · refine lv_iconst (v := 0) hx hb dM_mayPromise_61 (by decide) ?_
    exact er_zret hx hb hr hlocks hV hS dM_mayPromise_62 (by decide) ⟨Eq.symm (by unfold s_mayPromise; simp only [if_pos h1]), rfl⟩
  · refine lv_iload_n hx hb dM_mayPromise_4 rfl (lv_at hl 3 rfl) ?_
    refine lv_aload_n hx hb dM_mayPromise_5 rfl (lv_at hl 0 rfl) ?_
    refine ew_get (v := .int (A 0 0 3)) hx hb hts hown hK hV fM_149 hi0 (cR_0 _ _ _) rfl dM_mayPromise_6 ?_
    refine lv_toe (y := nI nc) q3 ?_
    refine lv_icmp_ge (tgt := 61) hx hb dM_mayPromise_9 rfl (fun h2 => ?_) (fun h2 => ?_)
    · refine lv_iconst (v := 0) hx hb dM_mayPromise_61 (by decide) ?_
      exact er_zret hx hb hr hlocks hV hS dM_mayPromise_62 (by decide) ⟨Eq.symm (by unfold s_mayPromise; simp only [if_neg h1, if_pos h2]), rfl⟩
    · refine lv_aload_n hx hb dM_mayPromise_12 rfl (lv_at hl 0 rfl) ?_
      refine ew_get (v := .ref (X 7 0)) hx hb hts hown hK hV fM_13 hi0 (cR_0 _ _ _) rfl dM_mayPromise_13 ?_
      refine lv_iload_n hx hb dM_mayPromise_16 rfl (lv_at hl 3 rfl) ?_
      refine ew_iald (v := A 7 0 cc.toNatClampNeg) hx hb hK hV (hE 7 (by decide)) (cR_7 _ _ _) 0 rfl (i3_in h1 h2 hnc (by decide)) rfl dM_mayPromise_17 ?_
      refine lv_aload_n hx hb dM_mayPromise_18 rfl (lv_at hl 0 rfl) ?_
      refine ew_get (v := .ref (X 12 0)) hx hb hts hown hK hV fM_28 hi0 (cR_0 _ _ _) rfl dM_mayPromise_19 ?_
      refine lv_iload_n hx hb dM_mayPromise_22 rfl (lv_at hl 1 rfl) ?_
      refine ew_iald (v := A 12 0 ln) hx hb hK hV (hE 12 (by decide)) (cR_12 _ _ _) 0 rfl (vp_in_nI (by omega) (by decide)) (er_ix (by omega) rfl) dM_mayPromise_23 ?_
      refine lv_icmp_ne (tgt := 61) hx hb dM_mayPromise_24 rfl (fun h3 => ?_) (fun h3 => ?_)
      · refine lv_iconst (v := 0) hx hb dM_mayPromise_61 (by decide) ?_
        exact er_zret hx hb hr hlocks hV hS dM_mayPromise_62 (by decide) ⟨Eq.symm (by unfold s_mayPromise; simp only [if_neg h1, if_neg h2, if_neg h3]), rfl⟩
      · refine lv_aload_n hx hb dM_mayPromise_27 rfl (lv_at hl 0 rfl) ?_
        refine ew_get (v := .ref (X 8 0)) hx hb hts hown hK hV fM_16 hi0 (cR_0 _ _ _) rfl dM_mayPromise_28 ?_
        refine lv_iload_n hx hb dM_mayPromise_31 rfl (lv_at hl 3 rfl) ?_
        refine ew_iald (v := A 8 0 cc.toNatClampNeg) hx hb hK hV (hE 8 (by decide)) (cR_8 _ _ _) 0 rfl (i3_in h1 h2 hnc (by decide)) rfl dM_mayPromise_32 ?_
        refine lv_iload_n hx hb dM_mayPromise_33 rfl (lv_at hl 2 rfl) ?_
        refine lv_icmp_ne (tgt := 61) hx hb dM_mayPromise_34 rfl (fun h4 => ?_) (fun h4 => ?_)
        · refine lv_iconst (v := 0) hx hb dM_mayPromise_61 (by decide) ?_
          exact er_zret hx hb hr hlocks hV hS dM_mayPromise_62 (by decide) ⟨Eq.symm (by unfold s_mayPromise; simp only [if_neg h1, if_neg h2, if_pos h3, if_neg h4]), rfl⟩
        · refine lv_aload_n hx hb dM_mayPromise_37 rfl (lv_at hl 0 rfl) ?_
          refine ew_get (v := .ref (X 9 0)) hx hb hts hown hK hV fM_19 hi0 (cR_0 _ _ _) rfl dM_mayPromise_38 ?_
          refine lv_iload_n hx hb dM_mayPromise_41 rfl (lv_at hl 3 rfl) ?_
          refine ew_iald (v := A 9 0 cc.toNatClampNeg) hx hb hK hV (hE 9 (by decide)) (cR_9 _ _ _) 0 rfl (i3_in h1 h2 hnc (by decide)) rfl dM_mayPromise_42 ?_
          refine lv_iload_n hx hb dM_mayPromise_43 rfl (lv_at hl 2 rfl) ?_
          refine lv_icmp_ne (tgt := 61) hx hb dM_mayPromise_44 rfl (fun h5 => ?_) (fun h5 => ?_)
          · refine lv_iconst (v := 0) hx hb dM_mayPromise_61 (by decide) ?_
            exact er_zret hx hb hr hlocks hV hS dM_mayPromise_62 (by decide) ⟨Eq.symm (by unfold s_mayPromise; simp only [if_neg h1, if_neg h2, if_pos h3, if_pos h4, if_neg h5]), rfl⟩
          · refine lv_aload_n hx hb dM_mayPromise_47 rfl (lv_at hl 0 rfl) ?_
            refine ew_get (v := .ref (X 10 0)) hx hb hts hown hK hV fM_22 hi0 (cR_0 _ _ _) rfl dM_mayPromise_48 ?_
            refine lv_iload_n hx hb dM_mayPromise_51 rfl (lv_at hl 3 rfl) ?_
            refine ew_iald (v := A 10 0 cc.toNatClampNeg) hx hb hK hV (hE 10 (by decide)) (cR_10 _ _ _) 0 rfl (i3_in h1 h2 hnc (by decide)) rfl dM_mayPromise_52 ?_
            refine lv_iconst (v := (-1)) hx hb dM_mayPromise_53 (by decide) ?_
            refine lv_icmp_ne (tgt := 61) hx hb dM_mayPromise_54 rfl (fun h6 => ?_) (fun h6 => ?_)
            · refine lv_iconst (v := 0) hx hb dM_mayPromise_61 (by decide) ?_
              exact er_zret hx hb hr hlocks hV hS dM_mayPromise_62 (by decide) ⟨Eq.symm (by unfold s_mayPromise; simp only [if_neg h1, if_neg h2, if_pos h3, if_pos h4, if_pos h5, if_neg h6]), rfl⟩
            · refine lv_iconst (v := 1) hx hb dM_mayPromise_57 (by decide) ?_
              refine lv_goto (tgt := 62) hx hb dM_mayPromise_58 rfl ?_
              exact er_zret hx hb hr hlocks hV hS dM_mayPromise_62 (by decide) ⟨Eq.symm (by unfold s_mayPromise; simp only [if_neg h1, if_neg h2, if_pos h3, if_pos h4, if_pos h5, if_pos h6]), rfl⟩

def s_maySupplier_7 (A : ew_R) (ln : Nat) (b : Nat) (cc : Int32) (nc : Nat) : Int32 :=
  if A 23 0 ((6 * ln) + b) = 1 then
    if s_mayPromise A ln b cc nc = 0 then
      0
    else
      1
  else
    0
set_option maxHeartbeats 4000000 in
set_option maxRecDepth 100000 in
theorem r_maySupplier_7 (l : Launch) (D : va_G) (T : Nat → ClassId) (X : Nat → Nat → Nat) (L : List Nat) (tg : Nat → Nat × Nat) (sz : Nat) (hE : eR_E X L tg) (A : ew_R) (ln : Nat) (b : Nat) (cc : Int32) (nc : Nat) (hln : ln < 32) (hb6 : b < 6) (hnc : nc ≤ 32) (q3 : A 0 0 3 = nI nc) : Met l yM_maySupplier wsM_maySupplier ({ frames := 1, cells := 0, slots := 0, locals := 23 }) (er_Pc D vwCl (tysA T) (cfR T) X L tg A sz [.ref (X 0 0), .int (nI ln), .int (nI b), .int 7, .int cc]) (er_Qi D vwCl (cfR T) X L tg sz (fun r u => r = s_maySupplier_7 A ln b cc nc ∧ u = A)) 0 0 (ew_A L sz) := by
  refine er_met (by decide) rfl (Nat.le_of_ble_eq_true rfl) ?_
  intro p e s m below meth c ls hx hb hr hts hown hlocks hml hV hK hS hA hl hsz
  subst hsz
  have hi0 := hE 0 (by decide)
  have hl : lv_has ls 7 [(0, .ref (X 0 0)), (1, .int (nI ln)), (2, .int (nI b)), (3, .int 7), (4, .int cc)] := hl
  refine lv_bipush (v := 6) hx hb dM_maySupplier_0 (by decide) ?_
  refine lv_iload_n hx hb dM_maySupplier_2 rfl (lv_at hl 1 rfl) ?_
  refine lv_imul hx hb dM_maySupplier_3 ?_
  refine lv_toe (y := nI (6 * ln)) (pk_mul 6 ln) ?_
  refine lv_iload_n hx hb dM_maySupplier_4 rfl (lv_at hl 2 rfl) ?_
  refine lv_iadd hx hb dM_maySupplier_5 ?_
  refine lv_toe (y := nI ((6 * ln) + b)) (nI_add (6 * ln) b) ?_
  refine lv_istore (lv' := [(5, .int (nI ((6 * ln) + b))), (0, .ref (X 0 0)), (1, .int (nI ln)), (2, .int (nI b)), (3, .int 7), (4, .int cc)]) hx hb dM_maySupplier_6 hl (by decide) rfl (fun ls hl => ?_)
  refine lv_aload_n hx hb dM_maySupplier_8 rfl (lv_at hl 1 rfl) ?_
  refine ew_get (v := .ref (X 23 0)) hx hb hts hown hK hV fM_62 hi0 (cR_0 _ _ _) rfl dM_maySupplier_9 ?_
  refine lv_iload hx hb dM_maySupplier_12 (lv_at hl 0 rfl) ?_
  refine ew_iald (v := A 23 0 ((6 * ln) + b)) hx hb hK hV (hE 23 (by decide)) (cR_23 _ _ _) 0 rfl (vp_in_nI (by omega) (by decide)) (er_ix (by omega) rfl) dM_maySupplier_14 ?_
  refine lv_istore (lv' := [(6, .int (A 23 0 ((6 * ln) + b))), (5, .int (nI ((6 * ln) + b))), (0, .ref (X 0 0)), (1, .int (nI ln)), (2, .int (nI b)), (3, .int 7), (4, .int cc)]) hx hb dM_maySupplier_15 hl (by decide) rfl (fun ls hl => ?_)
  refine lv_iload_n hx hb dM_maySupplier_17 rfl (lv_at hl 5 rfl) ?_
  refine lv_tableIn (tgt := 60) hx hb dM_maySupplier_18 (by decide) (by decide) rfl rfl ?_
  refine lv_iload hx hb dM_maySupplier_60 (lv_at hl 0 rfl) ?_
  refine lv_iconst (v := 1) hx hb dM_maySupplier_62 (by decide) ?_
  refine lv_icmp_ne (tgt := 81) hx hb dM_maySupplier_63 rfl (fun h1 => ?_) (fun h1 => ?_)
  · refine lv_iconst (v := 0) hx hb dM_maySupplier_81 (by decide) ?_
    exact er_zret hx hb hr hlocks hV hS dM_maySupplier_82 (by decide) ⟨Eq.symm (by unfold s_maySupplier_7; simp only [if_neg h1]), rfl⟩
  · refine lv_aload_n hx hb dM_maySupplier_66 rfl (lv_at hl 2 rfl) ?_
    refine lv_iload_n hx hb dM_maySupplier_67 rfl (lv_at hl 3 rfl) ?_
    refine lv_iload_n hx hb dM_maySupplier_68 rfl (lv_at hl 4 rfl) ?_
    refine lv_iload hx hb dM_maySupplier_69 (lv_at hl 6 rfl) ?_
    refine er_calli (va_runV (As := [.int (nI ln), .int (nI b), .int cc]) (rest := []) ⟨hx, hb, hml, hown, hts⟩ (r_mayPromise l D T X L tg _ hE A ln b cc nc hln hnc q3) (cwV 3 hts gM_162 rfl rfl rfl (by decide +kernel) ⟨Nat.le_of_ble_eq_true rfl, Nat.le_of_ble_eq_true rfl⟩) (er_preV hK hV hi0 (cR_0 _ _ _) rfl) rfl rfl hl.1 rfl (lv_room (Nat.le_of_ble_eq_true rfl)) dM_maySupplier_71 ⟨Nat.le_of_ble_eq_true rfl, Nat.le_of_ble_eq_true rfl⟩) hV hS hA (fun r u H locs hp hV hS => ?_)
    obtain ⟨rfl, eu9⟩ := hp
    rw [eu9] at hV
    refine lv_if_eq (tgt := 81) hx hb dM_maySupplier_74 rfl (fun h2 => ?_) (fun h2 => ?_)
    · refine lv_iconst (v := 0) hx hb dM_maySupplier_81 (by decide) ?_
      exact er_zret hx hb hr hlocks hV hS dM_maySupplier_82 (by decide) ⟨Eq.symm (by unfold s_maySupplier_7; simp only [if_pos h1, if_pos h2]), rfl⟩
    · refine lv_iconst (v := 1) hx hb dM_maySupplier_77 (by decide) ?_
      refine lv_goto (tgt := 82) hx hb dM_maySupplier_78 rfl ?_
      exact er_zret hx hb hr hlocks hV hS dM_maySupplier_82 (by decide) ⟨Eq.symm (by unfold s_maySupplier_7; simp only [if_pos h1, if_neg h2]), rfl⟩

def s_maySupplier_8 (A : ew_R) (ln : Nat) (b : Nat) (cc : Int32) : Int32 :=
  if A 23 0 ((6 * ln) + b) = 1 then
    if A 25 0 ((6 * ln) + b) = 0 then
      if cc < 1 then
        0
      else
        if 1000 < cc then
          0
        else
          1
    else
      0
  else
    0
set_option maxHeartbeats 4000000 in
set_option maxRecDepth 100000 in
theorem r_maySupplier_8 (l : Launch) (D : va_G) (T : Nat → ClassId) (X : Nat → Nat → Nat) (L : List Nat) (tg : Nat → Nat × Nat) (sz : Nat) (hE : eR_E X L tg) (A : ew_R) (ln : Nat) (b : Nat) (cc : Int32) (hln : ln < 32) (hb6 : b < 6) : Met l yM_maySupplier wsM_maySupplier ({ frames := 1, cells := 0, slots := 0, locals := 23 }) (er_Pc D vwCl (tysA T) (cfR T) X L tg A sz [.ref (X 0 0), .int (nI ln), .int (nI b), .int 8, .int cc]) (er_Qi D vwCl (cfR T) X L tg sz (fun r u => r = s_maySupplier_8 A ln b cc ∧ u = A)) 0 0 (ew_A L sz) := by
  refine er_met (by decide) rfl (Nat.le_of_ble_eq_true rfl) ?_
  intro p e s m below meth c ls hx hb hr hts hown hlocks hml hV hK hS hA hl hsz
  subst hsz
  have hi0 := hE 0 (by decide)
  have hl : lv_has ls 7 [(0, .ref (X 0 0)), (1, .int (nI ln)), (2, .int (nI b)), (3, .int 8), (4, .int cc)] := hl
  refine lv_bipush (v := 6) hx hb dM_maySupplier_0 (by decide) ?_
  refine lv_iload_n hx hb dM_maySupplier_2 rfl (lv_at hl 1 rfl) ?_
  refine lv_imul hx hb dM_maySupplier_3 ?_
  refine lv_toe (y := nI (6 * ln)) (pk_mul 6 ln) ?_
  refine lv_iload_n hx hb dM_maySupplier_4 rfl (lv_at hl 2 rfl) ?_
  refine lv_iadd hx hb dM_maySupplier_5 ?_
  refine lv_toe (y := nI ((6 * ln) + b)) (nI_add (6 * ln) b) ?_
  refine lv_istore (lv' := [(5, .int (nI ((6 * ln) + b))), (0, .ref (X 0 0)), (1, .int (nI ln)), (2, .int (nI b)), (3, .int 8), (4, .int cc)]) hx hb dM_maySupplier_6 hl (by decide) rfl (fun ls hl => ?_)
  refine lv_aload_n hx hb dM_maySupplier_8 rfl (lv_at hl 1 rfl) ?_
  refine ew_get (v := .ref (X 23 0)) hx hb hts hown hK hV fM_62 hi0 (cR_0 _ _ _) rfl dM_maySupplier_9 ?_
  refine lv_iload hx hb dM_maySupplier_12 (lv_at hl 0 rfl) ?_
  refine ew_iald (v := A 23 0 ((6 * ln) + b)) hx hb hK hV (hE 23 (by decide)) (cR_23 _ _ _) 0 rfl (vp_in_nI (by omega) (by decide)) (er_ix (by omega) rfl) dM_maySupplier_14 ?_
  refine lv_istore (lv' := [(6, .int (A 23 0 ((6 * ln) + b))), (5, .int (nI ((6 * ln) + b))), (0, .ref (X 0 0)), (1, .int (nI ln)), (2, .int (nI b)), (3, .int 8), (4, .int cc)]) hx hb dM_maySupplier_15 hl (by decide) rfl (fun ls hl => ?_)
  refine lv_iload_n hx hb dM_maySupplier_17 rfl (lv_at hl 5 rfl) ?_
  refine lv_tableIn (tgt := 83) hx hb dM_maySupplier_18 (by decide) (by decide) rfl rfl ?_
  refine lv_iload hx hb dM_maySupplier_83 (lv_at hl 0 rfl) ?_
  refine lv_iconst (v := 1) hx hb dM_maySupplier_85 (by decide) ?_
  refine lv_icmp_ne (tgt := 117) hx hb dM_maySupplier_86 rfl (fun h1 => ?_) (fun h1 => ?_)
  · refine lv_iconst (v := 0) hx hb dM_maySupplier_117 (by decide) ?_
    exact er_zret hx hb hr hlocks hV hS dM_maySupplier_118 (by decide) ⟨Eq.symm (by unfold s_maySupplier_8; simp only [if_neg h1]), rfl⟩
  · refine lv_aload_n hx hb dM_maySupplier_89 rfl (lv_at hl 2 rfl) ?_
    refine ew_get (v := .ref (X 25 0)) hx hb hts hown hK hV fM_68 hi0 (cR_0 _ _ _) rfl dM_maySupplier_90 ?_
    refine lv_iload hx hb dM_maySupplier_93 (lv_at hl 1 rfl) ?_
    refine ew_iald (v := A 25 0 ((6 * ln) + b)) hx hb hK hV (hE 25 (by decide)) (cR_25 _ _ _) 0 rfl (vp_in_nI (by omega) (by decide)) (er_ix (by omega) rfl) dM_maySupplier_95 ?_
    refine lv_if_ne (tgt := 117) hx hb dM_maySupplier_96 rfl (fun h2 => ?_) (fun h2 => ?_)
    · refine lv_iconst (v := 0) hx hb dM_maySupplier_117 (by decide) ?_
      exact er_zret hx hb hr hlocks hV hS dM_maySupplier_118 (by decide) ⟨Eq.symm (by unfold s_maySupplier_8; simp only [if_pos h1, if_neg h2]), rfl⟩
    · refine lv_iload hx hb dM_maySupplier_99 (lv_at hl 6 rfl) ?_
      refine lv_iconst (v := 1) hx hb dM_maySupplier_101 (by decide) ?_
      refine lv_icmp_lt (tgt := 117) hx hb dM_maySupplier_102 rfl (fun h3 => ?_) (fun h3 => ?_)
      · refine lv_iconst (v := 0) hx hb dM_maySupplier_117 (by decide) ?_
        exact er_zret hx hb hr hlocks hV hS dM_maySupplier_118 (by decide) ⟨Eq.symm (by unfold s_maySupplier_8; simp only [if_pos h1, if_pos h2, if_pos h3]), rfl⟩
      · refine lv_iload hx hb dM_maySupplier_105 (lv_at hl 6 rfl) ?_
        refine lv_sipush (v := 1000) hx hb dM_maySupplier_107 (by decide) ?_
        refine lv_icmp_gt (tgt := 117) hx hb dM_maySupplier_110 rfl (fun h4 => ?_) (fun h4 => ?_)
        · refine lv_iconst (v := 0) hx hb dM_maySupplier_117 (by decide) ?_
          exact er_zret hx hb hr hlocks hV hS dM_maySupplier_118 (by decide) ⟨Eq.symm (by unfold s_maySupplier_8; simp only [if_pos h1, if_pos h2, if_neg h3, if_pos h4]), rfl⟩
        · refine lv_iconst (v := 1) hx hb dM_maySupplier_113 (by decide) ?_
          refine lv_goto (tgt := 118) hx hb dM_maySupplier_114 rfl ?_
          exact er_zret hx hb hr hlocks hV hS dM_maySupplier_118 (by decide) ⟨Eq.symm (by unfold s_maySupplier_8; simp only [if_pos h1, if_pos h2, if_neg h3, if_neg h4]), rfl⟩

def s_maySupplier_9 (A : ew_R) (ln : Nat) (b : Nat) (cc : Int32) : Int32 :=
  if A 23 0 ((6 * ln) + b) = 1 then
    1
  else
    0
set_option maxHeartbeats 4000000 in
set_option maxRecDepth 100000 in
theorem r_maySupplier_9 (l : Launch) (D : va_G) (T : Nat → ClassId) (X : Nat → Nat → Nat) (L : List Nat) (tg : Nat → Nat × Nat) (sz : Nat) (hE : eR_E X L tg) (A : ew_R) (ln : Nat) (b : Nat) (cc : Int32) (hln : ln < 32) (hb6 : b < 6) : Met l yM_maySupplier wsM_maySupplier ({ frames := 1, cells := 0, slots := 0, locals := 23 }) (er_Pc D vwCl (tysA T) (cfR T) X L tg A sz [.ref (X 0 0), .int (nI ln), .int (nI b), .int 9, .int cc]) (er_Qi D vwCl (cfR T) X L tg sz (fun r u => r = s_maySupplier_9 A ln b cc ∧ u = A)) 0 0 (ew_A L sz) := by
  refine er_met (by decide) rfl (Nat.le_of_ble_eq_true rfl) ?_
  intro p e s m below meth c ls hx hb hr hts hown hlocks hml hV hK hS hA hl hsz
  subst hsz
  have hi0 := hE 0 (by decide)
  have hl : lv_has ls 7 [(0, .ref (X 0 0)), (1, .int (nI ln)), (2, .int (nI b)), (3, .int 9), (4, .int cc)] := hl
  refine lv_bipush (v := 6) hx hb dM_maySupplier_0 (by decide) ?_
  refine lv_iload_n hx hb dM_maySupplier_2 rfl (lv_at hl 1 rfl) ?_
  refine lv_imul hx hb dM_maySupplier_3 ?_
  refine lv_toe (y := nI (6 * ln)) (pk_mul 6 ln) ?_
  refine lv_iload_n hx hb dM_maySupplier_4 rfl (lv_at hl 2 rfl) ?_
  refine lv_iadd hx hb dM_maySupplier_5 ?_
  refine lv_toe (y := nI ((6 * ln) + b)) (nI_add (6 * ln) b) ?_
  refine lv_istore (lv' := [(5, .int (nI ((6 * ln) + b))), (0, .ref (X 0 0)), (1, .int (nI ln)), (2, .int (nI b)), (3, .int 9), (4, .int cc)]) hx hb dM_maySupplier_6 hl (by decide) rfl (fun ls hl => ?_)
  refine lv_aload_n hx hb dM_maySupplier_8 rfl (lv_at hl 1 rfl) ?_
  refine ew_get (v := .ref (X 23 0)) hx hb hts hown hK hV fM_62 hi0 (cR_0 _ _ _) rfl dM_maySupplier_9 ?_
  refine lv_iload hx hb dM_maySupplier_12 (lv_at hl 0 rfl) ?_
  refine ew_iald (v := A 23 0 ((6 * ln) + b)) hx hb hK hV (hE 23 (by decide)) (cR_23 _ _ _) 0 rfl (vp_in_nI (by omega) (by decide)) (er_ix (by omega) rfl) dM_maySupplier_14 ?_
  refine lv_istore (lv' := [(6, .int (A 23 0 ((6 * ln) + b))), (5, .int (nI ((6 * ln) + b))), (0, .ref (X 0 0)), (1, .int (nI ln)), (2, .int (nI b)), (3, .int 9), (4, .int cc)]) hx hb dM_maySupplier_15 hl (by decide) rfl (fun ls hl => ?_)
  refine lv_iload_n hx hb dM_maySupplier_17 rfl (lv_at hl 5 rfl) ?_
  refine lv_tableIn (tgt := 119) hx hb dM_maySupplier_18 (by decide) (by decide) rfl rfl ?_
  refine lv_iload hx hb dM_maySupplier_119 (lv_at hl 0 rfl) ?_
  refine lv_iconst (v := 1) hx hb dM_maySupplier_121 (by decide) ?_
  refine lv_icmp_ne (tgt := 129) hx hb dM_maySupplier_122 rfl (fun h1 => ?_) (fun h1 => ?_)
  · refine lv_iconst (v := 0) hx hb dM_maySupplier_129 (by decide) ?_
    exact er_zret hx hb hr hlocks hV hS dM_maySupplier_130 (by decide) ⟨Eq.symm (by unfold s_maySupplier_9; simp only [if_neg h1]), rfl⟩
  · refine lv_iconst (v := 1) hx hb dM_maySupplier_125 (by decide) ?_
    refine lv_goto (tgt := 130) hx hb dM_maySupplier_126 rfl ?_
    exact er_zret hx hb hr hlocks hV hS dM_maySupplier_130 (by decide) ⟨Eq.symm (by unfold s_maySupplier_9; simp only [if_pos h1]), rfl⟩

def s_maySupplier_10 (A : ew_R) (ln : Nat) (b : Nat) (cc : Int32) : Int32 :=
  if A 23 0 ((6 * ln) + b) = 3 then
    1
  else
    0
set_option maxHeartbeats 4000000 in
set_option maxRecDepth 100000 in
theorem r_maySupplier_10 (l : Launch) (D : va_G) (T : Nat → ClassId) (X : Nat → Nat → Nat) (L : List Nat) (tg : Nat → Nat × Nat) (sz : Nat) (hE : eR_E X L tg) (A : ew_R) (ln : Nat) (b : Nat) (cc : Int32) (hln : ln < 32) (hb6 : b < 6) : Met l yM_maySupplier wsM_maySupplier ({ frames := 1, cells := 0, slots := 0, locals := 23 }) (er_Pc D vwCl (tysA T) (cfR T) X L tg A sz [.ref (X 0 0), .int (nI ln), .int (nI b), .int 10, .int cc]) (er_Qi D vwCl (cfR T) X L tg sz (fun r u => r = s_maySupplier_10 A ln b cc ∧ u = A)) 0 0 (ew_A L sz) := by
  refine er_met (by decide) rfl (Nat.le_of_ble_eq_true rfl) ?_
  intro p e s m below meth c ls hx hb hr hts hown hlocks hml hV hK hS hA hl hsz
  subst hsz
  have hi0 := hE 0 (by decide)
  have hl : lv_has ls 7 [(0, .ref (X 0 0)), (1, .int (nI ln)), (2, .int (nI b)), (3, .int 10), (4, .int cc)] := hl
  refine lv_bipush (v := 6) hx hb dM_maySupplier_0 (by decide) ?_
  refine lv_iload_n hx hb dM_maySupplier_2 rfl (lv_at hl 1 rfl) ?_
  refine lv_imul hx hb dM_maySupplier_3 ?_
  refine lv_toe (y := nI (6 * ln)) (pk_mul 6 ln) ?_
  refine lv_iload_n hx hb dM_maySupplier_4 rfl (lv_at hl 2 rfl) ?_
  refine lv_iadd hx hb dM_maySupplier_5 ?_
  refine lv_toe (y := nI ((6 * ln) + b)) (nI_add (6 * ln) b) ?_
  refine lv_istore (lv' := [(5, .int (nI ((6 * ln) + b))), (0, .ref (X 0 0)), (1, .int (nI ln)), (2, .int (nI b)), (3, .int 10), (4, .int cc)]) hx hb dM_maySupplier_6 hl (by decide) rfl (fun ls hl => ?_)
  refine lv_aload_n hx hb dM_maySupplier_8 rfl (lv_at hl 1 rfl) ?_
  refine ew_get (v := .ref (X 23 0)) hx hb hts hown hK hV fM_62 hi0 (cR_0 _ _ _) rfl dM_maySupplier_9 ?_
  refine lv_iload hx hb dM_maySupplier_12 (lv_at hl 0 rfl) ?_
  refine ew_iald (v := A 23 0 ((6 * ln) + b)) hx hb hK hV (hE 23 (by decide)) (cR_23 _ _ _) 0 rfl (vp_in_nI (by omega) (by decide)) (er_ix (by omega) rfl) dM_maySupplier_14 ?_
  refine lv_istore (lv' := [(6, .int (A 23 0 ((6 * ln) + b))), (5, .int (nI ((6 * ln) + b))), (0, .ref (X 0 0)), (1, .int (nI ln)), (2, .int (nI b)), (3, .int 10), (4, .int cc)]) hx hb dM_maySupplier_15 hl (by decide) rfl (fun ls hl => ?_)
  refine lv_iload_n hx hb dM_maySupplier_17 rfl (lv_at hl 5 rfl) ?_
  refine lv_tableIn (tgt := 131) hx hb dM_maySupplier_18 (by decide) (by decide) rfl rfl ?_
  refine lv_iload hx hb dM_maySupplier_131 (lv_at hl 0 rfl) ?_
  refine lv_iconst (v := 3) hx hb dM_maySupplier_133 (by decide) ?_
  refine lv_icmp_ne (tgt := 141) hx hb dM_maySupplier_134 rfl (fun h1 => ?_) (fun h1 => ?_)
  · refine lv_iconst (v := 0) hx hb dM_maySupplier_141 (by decide) ?_
    exact er_zret hx hb hr hlocks hV hS dM_maySupplier_142 (by decide) ⟨Eq.symm (by unfold s_maySupplier_10; simp only [if_neg h1]), rfl⟩
  · refine lv_iconst (v := 1) hx hb dM_maySupplier_137 (by decide) ?_
    refine lv_goto (tgt := 142) hx hb dM_maySupplier_138 rfl ?_
    exact er_zret hx hb hr hlocks hV hS dM_maySupplier_142 (by decide) ⟨Eq.symm (by unfold s_maySupplier_10; simp only [if_pos h1]), rfl⟩

def s_maySupplier_11 (A : ew_R) (ln : Nat) (b : Nat) (cc : Int32) : Int32 :=
  if A 23 0 ((6 * ln) + b) = 6 then
    if 3 ≤ A 27 0 ((6 * ln) + b) then
      0
    else
      1
  else
    0
set_option maxHeartbeats 4000000 in
set_option maxRecDepth 100000 in
theorem r_maySupplier_11 (l : Launch) (D : va_G) (T : Nat → ClassId) (X : Nat → Nat → Nat) (L : List Nat) (tg : Nat → Nat × Nat) (sz : Nat) (hE : eR_E X L tg) (A : ew_R) (ln : Nat) (b : Nat) (cc : Int32) (hln : ln < 32) (hb6 : b < 6) : Met l yM_maySupplier wsM_maySupplier ({ frames := 1, cells := 0, slots := 0, locals := 23 }) (er_Pc D vwCl (tysA T) (cfR T) X L tg A sz [.ref (X 0 0), .int (nI ln), .int (nI b), .int 11, .int cc]) (er_Qi D vwCl (cfR T) X L tg sz (fun r u => r = s_maySupplier_11 A ln b cc ∧ u = A)) 0 0 (ew_A L sz) := by
  refine er_met (by decide) rfl (Nat.le_of_ble_eq_true rfl) ?_
  intro p e s m below meth c ls hx hb hr hts hown hlocks hml hV hK hS hA hl hsz
  subst hsz
  have hi0 := hE 0 (by decide)
  have hl : lv_has ls 7 [(0, .ref (X 0 0)), (1, .int (nI ln)), (2, .int (nI b)), (3, .int 11), (4, .int cc)] := hl
  refine lv_bipush (v := 6) hx hb dM_maySupplier_0 (by decide) ?_
  refine lv_iload_n hx hb dM_maySupplier_2 rfl (lv_at hl 1 rfl) ?_
  refine lv_imul hx hb dM_maySupplier_3 ?_
  refine lv_toe (y := nI (6 * ln)) (pk_mul 6 ln) ?_
  refine lv_iload_n hx hb dM_maySupplier_4 rfl (lv_at hl 2 rfl) ?_
  refine lv_iadd hx hb dM_maySupplier_5 ?_
  refine lv_toe (y := nI ((6 * ln) + b)) (nI_add (6 * ln) b) ?_
  refine lv_istore (lv' := [(5, .int (nI ((6 * ln) + b))), (0, .ref (X 0 0)), (1, .int (nI ln)), (2, .int (nI b)), (3, .int 11), (4, .int cc)]) hx hb dM_maySupplier_6 hl (by decide) rfl (fun ls hl => ?_)
  refine lv_aload_n hx hb dM_maySupplier_8 rfl (lv_at hl 1 rfl) ?_
  refine ew_get (v := .ref (X 23 0)) hx hb hts hown hK hV fM_62 hi0 (cR_0 _ _ _) rfl dM_maySupplier_9 ?_
  refine lv_iload hx hb dM_maySupplier_12 (lv_at hl 0 rfl) ?_
  refine ew_iald (v := A 23 0 ((6 * ln) + b)) hx hb hK hV (hE 23 (by decide)) (cR_23 _ _ _) 0 rfl (vp_in_nI (by omega) (by decide)) (er_ix (by omega) rfl) dM_maySupplier_14 ?_
  refine lv_istore (lv' := [(6, .int (A 23 0 ((6 * ln) + b))), (5, .int (nI ((6 * ln) + b))), (0, .ref (X 0 0)), (1, .int (nI ln)), (2, .int (nI b)), (3, .int 11), (4, .int cc)]) hx hb dM_maySupplier_15 hl (by decide) rfl (fun ls hl => ?_)
  refine lv_iload_n hx hb dM_maySupplier_17 rfl (lv_at hl 5 rfl) ?_
  refine lv_tableIn (tgt := 143) hx hb dM_maySupplier_18 (by decide) (by decide) rfl rfl ?_
  refine lv_iload hx hb dM_maySupplier_143 (lv_at hl 0 rfl) ?_
  refine lv_bipush (v := 6) hx hb dM_maySupplier_145 (by decide) ?_
  refine lv_icmp_ne (tgt := 165) hx hb dM_maySupplier_147 rfl (fun h1 => ?_) (fun h1 => ?_)
  · refine lv_iconst (v := 0) hx hb dM_maySupplier_165 (by decide) ?_
    exact er_zret hx hb hr hlocks hV hS dM_maySupplier_166 (by decide) ⟨Eq.symm (by unfold s_maySupplier_11; simp only [if_neg h1]), rfl⟩
  · refine lv_aload_n hx hb dM_maySupplier_150 rfl (lv_at hl 2 rfl) ?_
    refine ew_get (v := .ref (X 27 0)) hx hb hts hown hK hV fM_74 hi0 (cR_0 _ _ _) rfl dM_maySupplier_151 ?_
    refine lv_iload hx hb dM_maySupplier_154 (lv_at hl 1 rfl) ?_
    refine ew_iald (v := A 27 0 ((6 * ln) + b)) hx hb hK hV (hE 27 (by decide)) (cR_27 _ _ _) 0 rfl (vp_in_nI (by omega) (by decide)) (er_ix (by omega) rfl) dM_maySupplier_156 ?_
    refine lv_iconst (v := 3) hx hb dM_maySupplier_157 (by decide) ?_
    refine lv_icmp_ge (tgt := 165) hx hb dM_maySupplier_158 rfl (fun h2 => ?_) (fun h2 => ?_)
    · refine lv_iconst (v := 0) hx hb dM_maySupplier_165 (by decide) ?_
      exact er_zret hx hb hr hlocks hV hS dM_maySupplier_166 (by decide) ⟨Eq.symm (by unfold s_maySupplier_11; simp only [if_pos h1, if_pos h2]), rfl⟩
    · refine lv_iconst (v := 1) hx hb dM_maySupplier_161 (by decide) ?_
      refine lv_goto (tgt := 166) hx hb dM_maySupplier_162 rfl ?_
      exact er_zret hx hb hr hlocks hV hS dM_maySupplier_166 (by decide) ⟨Eq.symm (by unfold s_maySupplier_11; simp only [if_pos h1, if_neg h2]), rfl⟩

def s_maySupplier_12 (A : ew_R) (ln : Nat) (b : Nat) (cc : Int32) : Int32 :=
  if A 23 0 ((6 * ln) + b) = 6 then
    1
  else
    0
set_option maxHeartbeats 4000000 in
set_option maxRecDepth 100000 in
theorem r_maySupplier_12 (l : Launch) (D : va_G) (T : Nat → ClassId) (X : Nat → Nat → Nat) (L : List Nat) (tg : Nat → Nat × Nat) (sz : Nat) (hE : eR_E X L tg) (A : ew_R) (ln : Nat) (b : Nat) (cc : Int32) (hln : ln < 32) (hb6 : b < 6) : Met l yM_maySupplier wsM_maySupplier ({ frames := 1, cells := 0, slots := 0, locals := 23 }) (er_Pc D vwCl (tysA T) (cfR T) X L tg A sz [.ref (X 0 0), .int (nI ln), .int (nI b), .int 12, .int cc]) (er_Qi D vwCl (cfR T) X L tg sz (fun r u => r = s_maySupplier_12 A ln b cc ∧ u = A)) 0 0 (ew_A L sz) := by
  refine er_met (by decide) rfl (Nat.le_of_ble_eq_true rfl) ?_
  intro p e s m below meth c ls hx hb hr hts hown hlocks hml hV hK hS hA hl hsz
  subst hsz
  have hi0 := hE 0 (by decide)
  have hl : lv_has ls 7 [(0, .ref (X 0 0)), (1, .int (nI ln)), (2, .int (nI b)), (3, .int 12), (4, .int cc)] := hl
  refine lv_bipush (v := 6) hx hb dM_maySupplier_0 (by decide) ?_
  refine lv_iload_n hx hb dM_maySupplier_2 rfl (lv_at hl 1 rfl) ?_
  refine lv_imul hx hb dM_maySupplier_3 ?_
  refine lv_toe (y := nI (6 * ln)) (pk_mul 6 ln) ?_
  refine lv_iload_n hx hb dM_maySupplier_4 rfl (lv_at hl 2 rfl) ?_
  refine lv_iadd hx hb dM_maySupplier_5 ?_
  refine lv_toe (y := nI ((6 * ln) + b)) (nI_add (6 * ln) b) ?_
  refine lv_istore (lv' := [(5, .int (nI ((6 * ln) + b))), (0, .ref (X 0 0)), (1, .int (nI ln)), (2, .int (nI b)), (3, .int 12), (4, .int cc)]) hx hb dM_maySupplier_6 hl (by decide) rfl (fun ls hl => ?_)
  refine lv_aload_n hx hb dM_maySupplier_8 rfl (lv_at hl 1 rfl) ?_
  refine ew_get (v := .ref (X 23 0)) hx hb hts hown hK hV fM_62 hi0 (cR_0 _ _ _) rfl dM_maySupplier_9 ?_
  refine lv_iload hx hb dM_maySupplier_12 (lv_at hl 0 rfl) ?_
  refine ew_iald (v := A 23 0 ((6 * ln) + b)) hx hb hK hV (hE 23 (by decide)) (cR_23 _ _ _) 0 rfl (vp_in_nI (by omega) (by decide)) (er_ix (by omega) rfl) dM_maySupplier_14 ?_
  refine lv_istore (lv' := [(6, .int (A 23 0 ((6 * ln) + b))), (5, .int (nI ((6 * ln) + b))), (0, .ref (X 0 0)), (1, .int (nI ln)), (2, .int (nI b)), (3, .int 12), (4, .int cc)]) hx hb dM_maySupplier_15 hl (by decide) rfl (fun ls hl => ?_)
  refine lv_iload_n hx hb dM_maySupplier_17 rfl (lv_at hl 5 rfl) ?_
  refine lv_tableIn (tgt := 167) hx hb dM_maySupplier_18 (by decide) (by decide) rfl rfl ?_
  refine lv_iload hx hb dM_maySupplier_167 (lv_at hl 0 rfl) ?_
  refine lv_bipush (v := 6) hx hb dM_maySupplier_169 (by decide) ?_
  refine lv_icmp_ne (tgt := 178) hx hb dM_maySupplier_171 rfl (fun h1 => ?_) (fun h1 => ?_)
  · refine lv_iconst (v := 0) hx hb dM_maySupplier_178 (by decide) ?_
    exact er_zret hx hb hr hlocks hV hS dM_maySupplier_179 (by decide) ⟨Eq.symm (by unfold s_maySupplier_12; simp only [if_neg h1]), rfl⟩
  · refine lv_iconst (v := 1) hx hb dM_maySupplier_174 (by decide) ?_
    refine lv_goto (tgt := 179) hx hb dM_maySupplier_175 rfl ?_
    exact er_zret hx hb hr hlocks hV hS dM_maySupplier_179 (by decide) ⟨Eq.symm (by unfold s_maySupplier_12; simp only [if_pos h1]), rfl⟩

def s_maySupplier_13 (A : ew_R) (ln : Nat) (b : Nat) (cc : Int32) : Int32 :=
  if A 23 0 ((6 * ln) + b) = 5 then
    1
  else
    if A 23 0 ((6 * ln) + b) = 6 then
      1
    else
      0
set_option maxHeartbeats 4000000 in
set_option maxRecDepth 100000 in
theorem r_maySupplier_13 (l : Launch) (D : va_G) (T : Nat → ClassId) (X : Nat → Nat → Nat) (L : List Nat) (tg : Nat → Nat × Nat) (sz : Nat) (hE : eR_E X L tg) (A : ew_R) (ln : Nat) (b : Nat) (cc : Int32) (hln : ln < 32) (hb6 : b < 6) : Met l yM_maySupplier wsM_maySupplier ({ frames := 1, cells := 0, slots := 0, locals := 23 }) (er_Pc D vwCl (tysA T) (cfR T) X L tg A sz [.ref (X 0 0), .int (nI ln), .int (nI b), .int 13, .int cc]) (er_Qi D vwCl (cfR T) X L tg sz (fun r u => r = s_maySupplier_13 A ln b cc ∧ u = A)) 0 0 (ew_A L sz) := by
  refine er_met (by decide) rfl (Nat.le_of_ble_eq_true rfl) ?_
  intro p e s m below meth c ls hx hb hr hts hown hlocks hml hV hK hS hA hl hsz
  subst hsz
  have hi0 := hE 0 (by decide)
  have hl : lv_has ls 7 [(0, .ref (X 0 0)), (1, .int (nI ln)), (2, .int (nI b)), (3, .int 13), (4, .int cc)] := hl
  refine lv_bipush (v := 6) hx hb dM_maySupplier_0 (by decide) ?_
  refine lv_iload_n hx hb dM_maySupplier_2 rfl (lv_at hl 1 rfl) ?_
  refine lv_imul hx hb dM_maySupplier_3 ?_
  refine lv_toe (y := nI (6 * ln)) (pk_mul 6 ln) ?_
  refine lv_iload_n hx hb dM_maySupplier_4 rfl (lv_at hl 2 rfl) ?_
  refine lv_iadd hx hb dM_maySupplier_5 ?_
  refine lv_toe (y := nI ((6 * ln) + b)) (nI_add (6 * ln) b) ?_
  refine lv_istore (lv' := [(5, .int (nI ((6 * ln) + b))), (0, .ref (X 0 0)), (1, .int (nI ln)), (2, .int (nI b)), (3, .int 13), (4, .int cc)]) hx hb dM_maySupplier_6 hl (by decide) rfl (fun ls hl => ?_)
  refine lv_aload_n hx hb dM_maySupplier_8 rfl (lv_at hl 1 rfl) ?_
  refine ew_get (v := .ref (X 23 0)) hx hb hts hown hK hV fM_62 hi0 (cR_0 _ _ _) rfl dM_maySupplier_9 ?_
  refine lv_iload hx hb dM_maySupplier_12 (lv_at hl 0 rfl) ?_
  refine ew_iald (v := A 23 0 ((6 * ln) + b)) hx hb hK hV (hE 23 (by decide)) (cR_23 _ _ _) 0 rfl (vp_in_nI (by omega) (by decide)) (er_ix (by omega) rfl) dM_maySupplier_14 ?_
  refine lv_istore (lv' := [(6, .int (A 23 0 ((6 * ln) + b))), (5, .int (nI ((6 * ln) + b))), (0, .ref (X 0 0)), (1, .int (nI ln)), (2, .int (nI b)), (3, .int 13), (4, .int cc)]) hx hb dM_maySupplier_15 hl (by decide) rfl (fun ls hl => ?_)
  refine lv_iload_n hx hb dM_maySupplier_17 rfl (lv_at hl 5 rfl) ?_
  refine lv_tableIn (tgt := 180) hx hb dM_maySupplier_18 (by decide) (by decide) rfl rfl ?_
  refine lv_iload hx hb dM_maySupplier_180 (lv_at hl 0 rfl) ?_
  refine lv_iconst (v := 5) hx hb dM_maySupplier_182 (by decide) ?_
  refine lv_icmp_eq (tgt := 193) hx hb dM_maySupplier_183 rfl (fun h1 => ?_) (fun h1 => ?_)
  · refine lv_iconst (v := 1) hx hb dM_maySupplier_193 (by decide) ?_
    refine lv_goto (tgt := 198) hx hb dM_maySupplier_194 rfl ?_
    exact er_zret hx hb hr hlocks hV hS dM_maySupplier_198 (by decide) ⟨Eq.symm (by unfold s_maySupplier_13; simp only [if_pos h1]), rfl⟩
  · refine lv_iload hx hb dM_maySupplier_186 (lv_at hl 0 rfl) ?_
    refine lv_bipush (v := 6) hx hb dM_maySupplier_188 (by decide) ?_
    refine lv_icmp_ne (tgt := 197) hx hb dM_maySupplier_190 rfl (fun h2 => ?_) (fun h2 => ?_)
    · refine lv_iconst (v := 0) hx hb dM_maySupplier_197 (by decide) ?_
      exact er_zret hx hb hr hlocks hV hS dM_maySupplier_198 (by decide) ⟨Eq.symm (by unfold s_maySupplier_13; simp only [if_neg h1, if_neg h2]), rfl⟩
    · refine lv_iconst (v := 1) hx hb dM_maySupplier_193 (by decide) ?_
      refine lv_goto (tgt := 198) hx hb dM_maySupplier_194 rfl ?_
      exact er_zret hx hb hr hlocks hV hS dM_maySupplier_198 (by decide) ⟨Eq.symm (by unfold s_maySupplier_13; simp only [if_neg h1, if_pos h2]), rfl⟩

def s_maySupplier_14 (A : ew_R) (ln : Nat) (b : Nat) (cc : Int32) : Int32 :=
  if A 23 0 ((6 * ln) + b) = 8 then
    1
  else
    0
set_option maxHeartbeats 4000000 in
set_option maxRecDepth 100000 in
theorem r_maySupplier_14 (l : Launch) (D : va_G) (T : Nat → ClassId) (X : Nat → Nat → Nat) (L : List Nat) (tg : Nat → Nat × Nat) (sz : Nat) (hE : eR_E X L tg) (A : ew_R) (ln : Nat) (b : Nat) (cc : Int32) (hln : ln < 32) (hb6 : b < 6) : Met l yM_maySupplier wsM_maySupplier ({ frames := 1, cells := 0, slots := 0, locals := 23 }) (er_Pc D vwCl (tysA T) (cfR T) X L tg A sz [.ref (X 0 0), .int (nI ln), .int (nI b), .int 14, .int cc]) (er_Qi D vwCl (cfR T) X L tg sz (fun r u => r = s_maySupplier_14 A ln b cc ∧ u = A)) 0 0 (ew_A L sz) := by
  refine er_met (by decide) rfl (Nat.le_of_ble_eq_true rfl) ?_
  intro p e s m below meth c ls hx hb hr hts hown hlocks hml hV hK hS hA hl hsz
  subst hsz
  have hi0 := hE 0 (by decide)
  have hl : lv_has ls 7 [(0, .ref (X 0 0)), (1, .int (nI ln)), (2, .int (nI b)), (3, .int 14), (4, .int cc)] := hl
  refine lv_bipush (v := 6) hx hb dM_maySupplier_0 (by decide) ?_
  refine lv_iload_n hx hb dM_maySupplier_2 rfl (lv_at hl 1 rfl) ?_
  refine lv_imul hx hb dM_maySupplier_3 ?_
  refine lv_toe (y := nI (6 * ln)) (pk_mul 6 ln) ?_
  refine lv_iload_n hx hb dM_maySupplier_4 rfl (lv_at hl 2 rfl) ?_
  refine lv_iadd hx hb dM_maySupplier_5 ?_
  refine lv_toe (y := nI ((6 * ln) + b)) (nI_add (6 * ln) b) ?_
  refine lv_istore (lv' := [(5, .int (nI ((6 * ln) + b))), (0, .ref (X 0 0)), (1, .int (nI ln)), (2, .int (nI b)), (3, .int 14), (4, .int cc)]) hx hb dM_maySupplier_6 hl (by decide) rfl (fun ls hl => ?_)
  refine lv_aload_n hx hb dM_maySupplier_8 rfl (lv_at hl 1 rfl) ?_
  refine ew_get (v := .ref (X 23 0)) hx hb hts hown hK hV fM_62 hi0 (cR_0 _ _ _) rfl dM_maySupplier_9 ?_
  refine lv_iload hx hb dM_maySupplier_12 (lv_at hl 0 rfl) ?_
  refine ew_iald (v := A 23 0 ((6 * ln) + b)) hx hb hK hV (hE 23 (by decide)) (cR_23 _ _ _) 0 rfl (vp_in_nI (by omega) (by decide)) (er_ix (by omega) rfl) dM_maySupplier_14 ?_
  refine lv_istore (lv' := [(6, .int (A 23 0 ((6 * ln) + b))), (5, .int (nI ((6 * ln) + b))), (0, .ref (X 0 0)), (1, .int (nI ln)), (2, .int (nI b)), (3, .int 14), (4, .int cc)]) hx hb dM_maySupplier_15 hl (by decide) rfl (fun ls hl => ?_)
  refine lv_iload_n hx hb dM_maySupplier_17 rfl (lv_at hl 5 rfl) ?_
  refine lv_tableOut (tgt := 199) hx hb dM_maySupplier_18 (by decide) rfl ?_
  refine lv_iload hx hb dM_maySupplier_199 (lv_at hl 0 rfl) ?_
  refine lv_bipush (v := 8) hx hb dM_maySupplier_201 (by decide) ?_
  refine lv_icmp_ne (tgt := 210) hx hb dM_maySupplier_203 rfl (fun h1 => ?_) (fun h1 => ?_)
  · refine lv_iconst (v := 0) hx hb dM_maySupplier_210 (by decide) ?_
    exact er_zret hx hb hr hlocks hV hS dM_maySupplier_211 (by decide) ⟨Eq.symm (by unfold s_maySupplier_14; simp only [if_neg h1]), rfl⟩
  · refine lv_iconst (v := 1) hx hb dM_maySupplier_206 (by decide) ?_
    refine lv_goto (tgt := 211) hx hb dM_maySupplier_207 rfl ?_
    exact er_zret hx hb hr hlocks hV hS dM_maySupplier_211 (by decide) ⟨Eq.symm (by unfold s_maySupplier_14; simp only [if_pos h1]), rfl⟩

def s_stepSupplier_7 (A : ew_R) (ln : Nat) (b : Nat) (cc : Nat) (w : Nat) (lg : Nat) : ew_R :=
  (s_write (up3 (up3 (up3 (up3 A 28 0 ((6 * ln) + b) (nI cc)) 10 0 cc (nI ln)) 17 0 ln (nI cc)) 23 0 ((6 * ln) + b) 3) ((2 * ((6 * ln) + b)) + 1) 2 0 w lg)
set_option maxHeartbeats 4000000 in
set_option maxRecDepth 100000 in
theorem r_stepSupplier_7 (l : Launch) (D : va_G) (T : Nat → ClassId) (X : Nat → Nat → Nat) (L : List Nat) (tg : Nat → Nat × Nat) (sz : Nat) (hE : eR_E X L tg) (A : ew_R) (ln : Nat) (b : Nat) (cc : Nat) (w : Nat) (lg : Nat) (hln : ln < 32) (hb6 : b < 6) (hcc : cc < 32) (hw : w ≤ 64) (hq : A 0 0 4 = nI w) (hlg : lg < 3000) (hg : A 0 0 5 = nI lg) : Met l yM_stepSupplier wsM_stepSupplier ({ frames := 3, cells := 0, slots := 0, locals := 67 }) (er_Pc D vwCl (tysA T) (cfR T) X L tg A sz [.ref (X 0 0), .int (nI ln), .int (nI b), .int 7, .int (nI cc)]) (er_Qv D vwCl (cfR T) X L tg sz (fun u => u = s_stepSupplier_7 A ln b cc w lg)) 0 0 (ew_A L sz) := by
  refine er_met (by decide) rfl (Nat.le_of_ble_eq_true rfl) ?_
  intro p e s m below meth c ls hx hb hr hts hown hlocks hml hV hK hS hA hl hsz
  subst hsz
  have hi0 := hE 0 (by decide)
  have hl : lv_has ls 8 [(0, .ref (X 0 0)), (1, .int (nI ln)), (2, .int (nI b)), (3, .int 7), (4, .int (nI cc))] := hl
  refine lv_bipush (v := 6) hx hb dM_stepSupplier_0 (by decide) ?_
  refine lv_iload_n hx hb dM_stepSupplier_2 rfl (lv_at hl 1 rfl) ?_
  refine lv_imul hx hb dM_stepSupplier_3 ?_
  refine lv_toe (y := nI (6 * ln)) (pk_mul 6 ln) ?_
  refine lv_iload_n hx hb dM_stepSupplier_4 rfl (lv_at hl 2 rfl) ?_
  refine lv_iadd hx hb dM_stepSupplier_5 ?_
  refine lv_toe (y := nI ((6 * ln) + b)) (nI_add (6 * ln) b) ?_
  refine lv_istore (lv' := [(5, .int (nI ((6 * ln) + b))), (0, .ref (X 0 0)), (1, .int (nI ln)), (2, .int (nI b)), (3, .int 7), (4, .int (nI cc))]) hx hb dM_stepSupplier_6 hl (by decide) rfl (fun ls hl => ?_)
  refine lv_iconst (v := 0) hx hb dM_stepSupplier_8 (by decide) ?_
  refine lv_istore (lv' := [(6, .int 0), (5, .int (nI ((6 * ln) + b))), (0, .ref (X 0 0)), (1, .int (nI ln)), (2, .int (nI b)), (3, .int 7), (4, .int (nI cc))]) hx hb dM_stepSupplier_9 hl (by decide) rfl (fun ls hl => ?_)
  refine lv_iconst (v := 0) hx hb dM_stepSupplier_11 (by decide) ?_
  refine lv_istore (lv' := [(7, .int 0), (6, .int 0), (5, .int (nI ((6 * ln) + b))), (0, .ref (X 0 0)), (1, .int (nI ln)), (2, .int (nI b)), (3, .int 7), (4, .int (nI cc))]) hx hb dM_stepSupplier_12 hl (by decide) rfl (fun ls hl => ?_)
  refine lv_iload_n hx hb dM_stepSupplier_14 rfl (lv_at hl 6 rfl) ?_
  refine lv_bipush (v := 7) hx hb dM_stepSupplier_15 (by decide) ?_
  refine lv_icmp_ne (tgt := 59) hx hb dM_stepSupplier_17 rfl (fun h9 => absurd (by decide) h9) (fun _ => ?_)
  refine lv_aload_n hx hb dM_stepSupplier_20 rfl (lv_at hl 3 rfl) ?_
  refine ew_get (v := .ref (X 28 0)) hx hb hts hown hK hV fM_77 hi0 (cR_0 _ _ _) rfl dM_stepSupplier_21 ?_
  refine lv_iload hx hb dM_stepSupplier_24 (lv_at hl 2 rfl) ?_
  refine lv_iload hx hb dM_stepSupplier_26 (lv_at hl 7 rfl) ?_
  refine ew_iast hx hb hK hV hS (hE 28 (by decide)) (cR_28 _ _ _) 0 rfl (vp_in_nI (by omega) (by decide)) ((6 * ln) + b) (nI_clamp (by omega)) (qR_28 _ _ _ _ _) dM_stepSupplier_28 (fun H locs hV hS => ?_)
  refine lv_aload_n hx hb dM_stepSupplier_29 rfl (lv_at hl 3 rfl) ?_
  refine ew_get (v := .ref (X 10 0)) hx hb hts hown hK hV fM_22 hi0 (cR_0 _ _ _) rfl dM_stepSupplier_30 ?_
  refine lv_iload hx hb dM_stepSupplier_33 (lv_at hl 7 rfl) ?_
  refine lv_iload_n hx hb dM_stepSupplier_35 rfl (lv_at hl 4 rfl) ?_
  refine ew_iast hx hb hK hV hS (hE 10 (by decide)) (cR_10 _ _ _) 0 rfl (vp_in_nI (by omega) (by decide)) cc (nI_clamp (by omega)) (qR_10 _ _ _ _ _) dM_stepSupplier_36 (fun H locs hV hS => ?_)
  refine lv_aload_n hx hb dM_stepSupplier_37 rfl (lv_at hl 3 rfl) ?_
  refine ew_get (v := .ref (X 17 0)) hx hb hts hown hK hV fM_43 hi0 (cR_0 _ _ _) rfl dM_stepSupplier_38 ?_
  refine lv_iload_n hx hb dM_stepSupplier_41 rfl (lv_at hl 4 rfl) ?_
  refine lv_iload hx hb dM_stepSupplier_42 (lv_at hl 7 rfl) ?_
  refine ew_iast hx hb hK hV hS (hE 17 (by decide)) (cR_17 _ _ _) 0 rfl (vp_in_nI (by omega) (by decide)) ln (nI_clamp (by omega)) (qR_17 _ _ _ _ _) dM_stepSupplier_44 (fun H locs hV hS => ?_)
  refine lv_aload_n hx hb dM_stepSupplier_45 rfl (lv_at hl 3 rfl) ?_
  refine ew_get (v := .ref (X 23 0)) hx hb hts hown hK hV fM_62 hi0 (cR_0 _ _ _) rfl dM_stepSupplier_46 ?_
  refine lv_iload hx hb dM_stepSupplier_49 (lv_at hl 2 rfl) ?_
  refine lv_iconst (v := 3) hx hb dM_stepSupplier_51 (by decide) ?_
  refine ew_iast hx hb hK hV hS (hE 23 (by decide)) (cR_23 _ _ _) 0 rfl (vp_in_nI (by omega) (by decide)) ((6 * ln) + b) (nI_clamp (by omega)) (qR_23 _ _ _ _ _) dM_stepSupplier_52 (fun H locs hV hS => ?_)
  refine lv_iconst (v := 2) hx hb dM_stepSupplier_53 (by decide) ?_
  refine lv_istore (lv' := [(6, .int 2), (7, .int 0), (5, .int (nI ((6 * ln) + b))), (0, .ref (X 0 0)), (1, .int (nI ln)), (2, .int (nI b)), (3, .int 7), (4, .int (nI cc))]) hx hb dM_stepSupplier_54 hl (by decide) rfl (fun ls hl => ?_)
  refine lv_goto (tgt := 446) hx hb dM_stepSupplier_56 rfl ?_
  refine lv_aload_n hx hb dM_stepSupplier_446 rfl (lv_at hl 3 rfl) ?_
  refine lv_iconst (v := 2) hx hb dM_stepSupplier_447 (by decide) ?_
  refine lv_iload hx hb dM_stepSupplier_448 (lv_at hl 2 rfl) ?_
  refine lv_imul hx hb dM_stepSupplier_450 ?_
  refine lv_toe (y := nI (2 * ((6 * ln) + b))) (pk_mul 2 ((6 * ln) + b)) ?_
  refine lv_iconst (v := 1) hx hb dM_stepSupplier_451 (by decide) ?_
  refine lv_iadd hx hb dM_stepSupplier_452 ?_
  refine lv_toe (y := nI ((2 * ((6 * ln) + b)) + 1)) (nI_add (2 * ((6 * ln) + b)) 1) ?_
  refine lv_iload hx hb dM_stepSupplier_453 (lv_at hl 0 rfl) ?_
  refine lv_iload hx hb dM_stepSupplier_455 (lv_at hl 1 rfl) ?_
  refine er_callv (va_runV (As := [.int (nI ((2 * ((6 * ln) + b)) + 1)), .int 2, .int 0]) (rest := []) ⟨hx, hb, hml, hown, hts⟩ (r_write l D T X L tg _ hE (up3 (up3 (up3 (up3 A 28 0 ((6 * ln) + b) (nI cc)) 10 0 cc (nI ln)) 17 0 ln (nI cc)) 23 0 ((6 * ln) + b) 3) ((2 * ((6 * ln) + b)) + 1) 2 0 w lg (by omega) hw hq hlg hg) (cwV 3 hts gM_138 rfl rfl rfl (by decide +kernel) ⟨Nat.le_of_ble_eq_true rfl, Nat.le_of_ble_eq_true rfl⟩) (er_preV hK hV hi0 (cR_0 _ _ _) rfl) rfl rfl hl.1 rfl (lv_room (Nat.le_of_ble_eq_true rfl)) dM_stepSupplier_457 ⟨Nat.le_of_ble_eq_true rfl, Nat.le_of_ble_eq_true rfl⟩) hV hS hA (fun u1 H locs eu1 hV hS => ?_)
  have eu1 : u1 = s_write (up3 (up3 (up3 (up3 A 28 0 ((6 * ln) + b) (nI cc)) 10 0 cc (nI ln)) 17 0 ln (nI cc)) 23 0 ((6 * ln) + b) 3) ((2 * ((6 * ln) + b)) + 1) 2 0 w lg := eu1
  subst eu1
  exact er_vret hx hb hr hlocks hV hS dM_stepSupplier_460 (Eq.symm (by unfold s_stepSupplier_7; rfl))

def s_stepSupplier_8 (A : ew_R) (ln : Nat) (b : Nat) (cc : Int32) (w : Nat) (lg : Nat) : ew_R :=
  (s_write (up3 (up3 A 25 0 ((6 * ln) + b) cc) 23 0 ((6 * ln) + b) 2) ((2 * ((6 * ln) + b)) + 1) 3 cc w lg)
set_option maxHeartbeats 4000000 in
set_option maxRecDepth 100000 in
theorem r_stepSupplier_8 (l : Launch) (D : va_G) (T : Nat → ClassId) (X : Nat → Nat → Nat) (L : List Nat) (tg : Nat → Nat × Nat) (sz : Nat) (hE : eR_E X L tg) (A : ew_R) (ln : Nat) (b : Nat) (cc : Int32) (w : Nat) (lg : Nat) (hln : ln < 32) (hb6 : b < 6) (hw : w ≤ 64) (hq : A 0 0 4 = nI w) (hlg : lg < 3000) (hg : A 0 0 5 = nI lg) : Met l yM_stepSupplier wsM_stepSupplier ({ frames := 3, cells := 0, slots := 0, locals := 67 }) (er_Pc D vwCl (tysA T) (cfR T) X L tg A sz [.ref (X 0 0), .int (nI ln), .int (nI b), .int 8, .int cc]) (er_Qv D vwCl (cfR T) X L tg sz (fun u => u = s_stepSupplier_8 A ln b cc w lg)) 0 0 (ew_A L sz) := by
  refine er_met (by decide) rfl (Nat.le_of_ble_eq_true rfl) ?_
  intro p e s m below meth c ls hx hb hr hts hown hlocks hml hV hK hS hA hl hsz
  subst hsz
  have hi0 := hE 0 (by decide)
  have hl : lv_has ls 8 [(0, .ref (X 0 0)), (1, .int (nI ln)), (2, .int (nI b)), (3, .int 8), (4, .int cc)] := hl
  refine lv_bipush (v := 6) hx hb dM_stepSupplier_0 (by decide) ?_
  refine lv_iload_n hx hb dM_stepSupplier_2 rfl (lv_at hl 1 rfl) ?_
  refine lv_imul hx hb dM_stepSupplier_3 ?_
  refine lv_toe (y := nI (6 * ln)) (pk_mul 6 ln) ?_
  refine lv_iload_n hx hb dM_stepSupplier_4 rfl (lv_at hl 2 rfl) ?_
  refine lv_iadd hx hb dM_stepSupplier_5 ?_
  refine lv_toe (y := nI ((6 * ln) + b)) (nI_add (6 * ln) b) ?_
  refine lv_istore (lv' := [(5, .int (nI ((6 * ln) + b))), (0, .ref (X 0 0)), (1, .int (nI ln)), (2, .int (nI b)), (3, .int 8), (4, .int cc)]) hx hb dM_stepSupplier_6 hl (by decide) rfl (fun ls hl => ?_)
  refine lv_iconst (v := 0) hx hb dM_stepSupplier_8 (by decide) ?_
  refine lv_istore (lv' := [(6, .int 0), (5, .int (nI ((6 * ln) + b))), (0, .ref (X 0 0)), (1, .int (nI ln)), (2, .int (nI b)), (3, .int 8), (4, .int cc)]) hx hb dM_stepSupplier_9 hl (by decide) rfl (fun ls hl => ?_)
  refine lv_iconst (v := 0) hx hb dM_stepSupplier_11 (by decide) ?_
  refine lv_istore (lv' := [(7, .int 0), (6, .int 0), (5, .int (nI ((6 * ln) + b))), (0, .ref (X 0 0)), (1, .int (nI ln)), (2, .int (nI b)), (3, .int 8), (4, .int cc)]) hx hb dM_stepSupplier_12 hl (by decide) rfl (fun ls hl => ?_)
  refine lv_iload_n hx hb dM_stepSupplier_14 rfl (lv_at hl 6 rfl) ?_
  refine lv_bipush (v := 7) hx hb dM_stepSupplier_15 (by decide) ?_
  refine lv_icmp_ne (tgt := 59) hx hb dM_stepSupplier_17 rfl (fun _ => ?_) (fun h9 => absurd h9 (by decide))
  refine lv_iload_n hx hb dM_stepSupplier_59 rfl (lv_at hl 6 rfl) ?_
  refine lv_bipush (v := 8) hx hb dM_stepSupplier_60 (by decide) ?_
  refine lv_icmp_ne (tgt := 92) hx hb dM_stepSupplier_62 rfl (fun h9 => absurd (by decide) h9) (fun _ => ?_)
  refine lv_aload_n hx hb dM_stepSupplier_65 rfl (lv_at hl 3 rfl) ?_
  refine ew_get (v := .ref (X 25 0)) hx hb hts hown hK hV fM_68 hi0 (cR_0 _ _ _) rfl dM_stepSupplier_66 ?_
  refine lv_iload hx hb dM_stepSupplier_69 (lv_at hl 2 rfl) ?_
  refine lv_iload hx hb dM_stepSupplier_71 (lv_at hl 7 rfl) ?_
  refine ew_iast hx hb hK hV hS (hE 25 (by decide)) (cR_25 _ _ _) 0 rfl (vp_in_nI (by omega) (by decide)) ((6 * ln) + b) (nI_clamp (by omega)) (qR_25 _ _ _ _ _) dM_stepSupplier_73 (fun H locs hV hS => ?_)
  refine lv_aload_n hx hb dM_stepSupplier_74 rfl (lv_at hl 3 rfl) ?_
  refine ew_get (v := .ref (X 23 0)) hx hb hts hown hK hV fM_62 hi0 (cR_0 _ _ _) rfl dM_stepSupplier_75 ?_
  refine lv_iload hx hb dM_stepSupplier_78 (lv_at hl 2 rfl) ?_
  refine lv_iconst (v := 2) hx hb dM_stepSupplier_80 (by decide) ?_
  refine ew_iast hx hb hK hV hS (hE 23 (by decide)) (cR_23 _ _ _) 0 rfl (vp_in_nI (by omega) (by decide)) ((6 * ln) + b) (nI_clamp (by omega)) (qR_23 _ _ _ _ _) dM_stepSupplier_81 (fun H locs hV hS => ?_)
  refine lv_iconst (v := 3) hx hb dM_stepSupplier_82 (by decide) ?_
  refine lv_istore (lv' := [(6, .int 3), (7, .int 0), (5, .int (nI ((6 * ln) + b))), (0, .ref (X 0 0)), (1, .int (nI ln)), (2, .int (nI b)), (3, .int 8), (4, .int cc)]) hx hb dM_stepSupplier_83 hl (by decide) rfl (fun ls hl => ?_)
  refine lv_iload hx hb dM_stepSupplier_85 (lv_at hl 7 rfl) ?_
  refine lv_istore (lv' := [(7, .int cc), (6, .int 3), (5, .int (nI ((6 * ln) + b))), (0, .ref (X 0 0)), (1, .int (nI ln)), (2, .int (nI b)), (3, .int 8), (4, .int cc)]) hx hb dM_stepSupplier_87 hl (by decide) rfl (fun ls hl => ?_)
  refine lv_goto (tgt := 446) hx hb dM_stepSupplier_89 rfl ?_
  refine lv_aload_n hx hb dM_stepSupplier_446 rfl (lv_at hl 3 rfl) ?_
  refine lv_iconst (v := 2) hx hb dM_stepSupplier_447 (by decide) ?_
  refine lv_iload hx hb dM_stepSupplier_448 (lv_at hl 2 rfl) ?_
  refine lv_imul hx hb dM_stepSupplier_450 ?_
  refine lv_toe (y := nI (2 * ((6 * ln) + b))) (pk_mul 2 ((6 * ln) + b)) ?_
  refine lv_iconst (v := 1) hx hb dM_stepSupplier_451 (by decide) ?_
  refine lv_iadd hx hb dM_stepSupplier_452 ?_
  refine lv_toe (y := nI ((2 * ((6 * ln) + b)) + 1)) (nI_add (2 * ((6 * ln) + b)) 1) ?_
  refine lv_iload hx hb dM_stepSupplier_453 (lv_at hl 1 rfl) ?_
  refine lv_iload hx hb dM_stepSupplier_455 (lv_at hl 0 rfl) ?_
  refine er_callv (va_runV (As := [.int (nI ((2 * ((6 * ln) + b)) + 1)), .int 3, .int cc]) (rest := []) ⟨hx, hb, hml, hown, hts⟩ (r_write l D T X L tg _ hE (up3 (up3 A 25 0 ((6 * ln) + b) cc) 23 0 ((6 * ln) + b) 2) ((2 * ((6 * ln) + b)) + 1) 3 cc w lg (by omega) hw hq hlg hg) (cwV 3 hts gM_138 rfl rfl rfl (by decide +kernel) ⟨Nat.le_of_ble_eq_true rfl, Nat.le_of_ble_eq_true rfl⟩) (er_preV hK hV hi0 (cR_0 _ _ _) rfl) rfl rfl hl.1 rfl (lv_room (Nat.le_of_ble_eq_true rfl)) dM_stepSupplier_457 ⟨Nat.le_of_ble_eq_true rfl, Nat.le_of_ble_eq_true rfl⟩) hV hS hA (fun u1 H locs eu1 hV hS => ?_)
  have eu1 : u1 = s_write (up3 (up3 A 25 0 ((6 * ln) + b) cc) 23 0 ((6 * ln) + b) 2) ((2 * ((6 * ln) + b)) + 1) 3 cc w lg := eu1
  subst eu1
  exact er_vret hx hb hr hlocks hV hS dM_stepSupplier_460 (Eq.symm (by unfold s_stepSupplier_8; rfl))

def s_stepSupplier_9 (A : ew_R) (ln : Nat) (b : Nat) (cc : Int32) (w : Nat) (lg : Nat) : ew_R :=
  (s_write (up3 A 23 0 ((6 * ln) + b) 10) ((2 * ((6 * ln) + b)) + 1) 4 0 w lg)
set_option maxHeartbeats 4000000 in
set_option maxRecDepth 100000 in
theorem r_stepSupplier_9 (l : Launch) (D : va_G) (T : Nat → ClassId) (X : Nat → Nat → Nat) (L : List Nat) (tg : Nat → Nat × Nat) (sz : Nat) (hE : eR_E X L tg) (A : ew_R) (ln : Nat) (b : Nat) (cc : Int32) (w : Nat) (lg : Nat) (hln : ln < 32) (hb6 : b < 6) (hw : w ≤ 64) (hq : A 0 0 4 = nI w) (hlg : lg < 3000) (hg : A 0 0 5 = nI lg) : Met l yM_stepSupplier wsM_stepSupplier ({ frames := 3, cells := 0, slots := 0, locals := 67 }) (er_Pc D vwCl (tysA T) (cfR T) X L tg A sz [.ref (X 0 0), .int (nI ln), .int (nI b), .int 9, .int cc]) (er_Qv D vwCl (cfR T) X L tg sz (fun u => u = s_stepSupplier_9 A ln b cc w lg)) 0 0 (ew_A L sz) := by
  refine er_met (by decide) rfl (Nat.le_of_ble_eq_true rfl) ?_
  intro p e s m below meth c ls hx hb hr hts hown hlocks hml hV hK hS hA hl hsz
  subst hsz
  have hi0 := hE 0 (by decide)
  have hl : lv_has ls 8 [(0, .ref (X 0 0)), (1, .int (nI ln)), (2, .int (nI b)), (3, .int 9), (4, .int cc)] := hl
  refine lv_bipush (v := 6) hx hb dM_stepSupplier_0 (by decide) ?_
  refine lv_iload_n hx hb dM_stepSupplier_2 rfl (lv_at hl 1 rfl) ?_
  refine lv_imul hx hb dM_stepSupplier_3 ?_
  refine lv_toe (y := nI (6 * ln)) (pk_mul 6 ln) ?_
  refine lv_iload_n hx hb dM_stepSupplier_4 rfl (lv_at hl 2 rfl) ?_
  refine lv_iadd hx hb dM_stepSupplier_5 ?_
  refine lv_toe (y := nI ((6 * ln) + b)) (nI_add (6 * ln) b) ?_
  refine lv_istore (lv' := [(5, .int (nI ((6 * ln) + b))), (0, .ref (X 0 0)), (1, .int (nI ln)), (2, .int (nI b)), (3, .int 9), (4, .int cc)]) hx hb dM_stepSupplier_6 hl (by decide) rfl (fun ls hl => ?_)
  refine lv_iconst (v := 0) hx hb dM_stepSupplier_8 (by decide) ?_
  refine lv_istore (lv' := [(6, .int 0), (5, .int (nI ((6 * ln) + b))), (0, .ref (X 0 0)), (1, .int (nI ln)), (2, .int (nI b)), (3, .int 9), (4, .int cc)]) hx hb dM_stepSupplier_9 hl (by decide) rfl (fun ls hl => ?_)
  refine lv_iconst (v := 0) hx hb dM_stepSupplier_11 (by decide) ?_
  refine lv_istore (lv' := [(7, .int 0), (6, .int 0), (5, .int (nI ((6 * ln) + b))), (0, .ref (X 0 0)), (1, .int (nI ln)), (2, .int (nI b)), (3, .int 9), (4, .int cc)]) hx hb dM_stepSupplier_12 hl (by decide) rfl (fun ls hl => ?_)
  refine lv_iload_n hx hb dM_stepSupplier_14 rfl (lv_at hl 6 rfl) ?_
  refine lv_bipush (v := 7) hx hb dM_stepSupplier_15 (by decide) ?_
  refine lv_icmp_ne (tgt := 59) hx hb dM_stepSupplier_17 rfl (fun _ => ?_) (fun h9 => absurd h9 (by decide))
  refine lv_iload_n hx hb dM_stepSupplier_59 rfl (lv_at hl 6 rfl) ?_
  refine lv_bipush (v := 8) hx hb dM_stepSupplier_60 (by decide) ?_
  refine lv_icmp_ne (tgt := 92) hx hb dM_stepSupplier_62 rfl (fun _ => ?_) (fun h9 => absurd h9 (by decide))
  refine lv_iload_n hx hb dM_stepSupplier_92 rfl (lv_at hl 6 rfl) ?_
  refine lv_bipush (v := 9) hx hb dM_stepSupplier_93 (by decide) ?_
  refine lv_icmp_ne (tgt := 113) hx hb dM_stepSupplier_95 rfl (fun h9 => absurd (by decide) h9) (fun _ => ?_)
  refine lv_aload_n hx hb dM_stepSupplier_98 rfl (lv_at hl 3 rfl) ?_
  refine ew_get (v := .ref (X 23 0)) hx hb hts hown hK hV fM_62 hi0 (cR_0 _ _ _) rfl dM_stepSupplier_99 ?_
  refine lv_iload hx hb dM_stepSupplier_102 (lv_at hl 2 rfl) ?_
  refine lv_bipush (v := 10) hx hb dM_stepSupplier_104 (by decide) ?_
  refine ew_iast hx hb hK hV hS (hE 23 (by decide)) (cR_23 _ _ _) 0 rfl (vp_in_nI (by omega) (by decide)) ((6 * ln) + b) (nI_clamp (by omega)) (qR_23 _ _ _ _ _) dM_stepSupplier_106 (fun H locs hV hS => ?_)
  refine lv_iconst (v := 4) hx hb dM_stepSupplier_107 (by decide) ?_
  refine lv_istore (lv' := [(6, .int 4), (7, .int 0), (5, .int (nI ((6 * ln) + b))), (0, .ref (X 0 0)), (1, .int (nI ln)), (2, .int (nI b)), (3, .int 9), (4, .int cc)]) hx hb dM_stepSupplier_108 hl (by decide) rfl (fun ls hl => ?_)
  refine lv_goto (tgt := 446) hx hb dM_stepSupplier_110 rfl ?_
  refine lv_aload_n hx hb dM_stepSupplier_446 rfl (lv_at hl 3 rfl) ?_
  refine lv_iconst (v := 2) hx hb dM_stepSupplier_447 (by decide) ?_
  refine lv_iload hx hb dM_stepSupplier_448 (lv_at hl 2 rfl) ?_
  refine lv_imul hx hb dM_stepSupplier_450 ?_
  refine lv_toe (y := nI (2 * ((6 * ln) + b))) (pk_mul 2 ((6 * ln) + b)) ?_
  refine lv_iconst (v := 1) hx hb dM_stepSupplier_451 (by decide) ?_
  refine lv_iadd hx hb dM_stepSupplier_452 ?_
  refine lv_toe (y := nI ((2 * ((6 * ln) + b)) + 1)) (nI_add (2 * ((6 * ln) + b)) 1) ?_
  refine lv_iload hx hb dM_stepSupplier_453 (lv_at hl 0 rfl) ?_
  refine lv_iload hx hb dM_stepSupplier_455 (lv_at hl 1 rfl) ?_
  refine er_callv (va_runV (As := [.int (nI ((2 * ((6 * ln) + b)) + 1)), .int 4, .int 0]) (rest := []) ⟨hx, hb, hml, hown, hts⟩ (r_write l D T X L tg _ hE (up3 A 23 0 ((6 * ln) + b) 10) ((2 * ((6 * ln) + b)) + 1) 4 0 w lg (by omega) hw hq hlg hg) (cwV 3 hts gM_138 rfl rfl rfl (by decide +kernel) ⟨Nat.le_of_ble_eq_true rfl, Nat.le_of_ble_eq_true rfl⟩) (er_preV hK hV hi0 (cR_0 _ _ _) rfl) rfl rfl hl.1 rfl (lv_room (Nat.le_of_ble_eq_true rfl)) dM_stepSupplier_457 ⟨Nat.le_of_ble_eq_true rfl, Nat.le_of_ble_eq_true rfl⟩) hV hS hA (fun u1 H locs eu1 hV hS => ?_)
  have eu1 : u1 = s_write (up3 A 23 0 ((6 * ln) + b) 10) ((2 * ((6 * ln) + b)) + 1) 4 0 w lg := eu1
  subst eu1
  exact er_vret hx hb hr hlocks hV hS dM_stepSupplier_460 (Eq.symm (by unfold s_stepSupplier_9; rfl))

def s_stepSupplier_10 (A : ew_R) (ln : Nat) (b : Nat) (cc : Int32) (cp : Nat) (w : Nat) (lg : Nat) : ew_R :=
  (s_write (up3 (up3 (up3 A 24 0 ((6 * ln) + b) ((A 0 0 1) + (A 13 0 ln))) 9 0 cp 6) 23 0 ((6 * ln) + b) 4) ((2 * ((6 * ln) + b)) + 1) 7 ((A 0 0 1) + (A 13 0 ln)) w lg)
set_option maxHeartbeats 4000000 in
set_option maxRecDepth 100000 in
theorem r_stepSupplier_10 (l : Launch) (D : va_G) (T : Nat → ClassId) (X : Nat → Nat → Nat) (L : List Nat) (tg : Nat → Nat × Nat) (sz : Nat) (hE : eR_E X L tg) (A : ew_R) (ln : Nat) (b : Nat) (cc : Int32) (cp : Nat) (w : Nat) (lg : Nat) (hln : ln < 32) (hb6 : b < 6) (hcp : cp < 32) (q28 : A 28 0 (6 * ln + b) = nI cp) (hw : w ≤ 64) (hq : A 0 0 4 = nI w) (hlg : lg < 3000) (hg : A 0 0 5 = nI lg) : Met l yM_stepSupplier wsM_stepSupplier ({ frames := 3, cells := 0, slots := 0, locals := 67 }) (er_Pc D vwCl (tysA T) (cfR T) X L tg A sz [.ref (X 0 0), .int (nI ln), .int (nI b), .int 10, .int cc]) (er_Qv D vwCl (cfR T) X L tg sz (fun u => u = s_stepSupplier_10 A ln b cc cp w lg)) 0 0 (ew_A L sz) := by
  refine er_met (by decide) rfl (Nat.le_of_ble_eq_true rfl) ?_
  intro p e s m below meth c ls hx hb hr hts hown hlocks hml hV hK hS hA hl hsz
  subst hsz
  have hi0 := hE 0 (by decide)
  have hl : lv_has ls 8 [(0, .ref (X 0 0)), (1, .int (nI ln)), (2, .int (nI b)), (3, .int 10), (4, .int cc)] := hl
  refine lv_bipush (v := 6) hx hb dM_stepSupplier_0 (by decide) ?_
  refine lv_iload_n hx hb dM_stepSupplier_2 rfl (lv_at hl 1 rfl) ?_
  refine lv_imul hx hb dM_stepSupplier_3 ?_
  refine lv_toe (y := nI (6 * ln)) (pk_mul 6 ln) ?_
  refine lv_iload_n hx hb dM_stepSupplier_4 rfl (lv_at hl 2 rfl) ?_
  refine lv_iadd hx hb dM_stepSupplier_5 ?_
  refine lv_toe (y := nI ((6 * ln) + b)) (nI_add (6 * ln) b) ?_
  refine lv_istore (lv' := [(5, .int (nI ((6 * ln) + b))), (0, .ref (X 0 0)), (1, .int (nI ln)), (2, .int (nI b)), (3, .int 10), (4, .int cc)]) hx hb dM_stepSupplier_6 hl (by decide) rfl (fun ls hl => ?_)
  refine lv_iconst (v := 0) hx hb dM_stepSupplier_8 (by decide) ?_
  refine lv_istore (lv' := [(6, .int 0), (5, .int (nI ((6 * ln) + b))), (0, .ref (X 0 0)), (1, .int (nI ln)), (2, .int (nI b)), (3, .int 10), (4, .int cc)]) hx hb dM_stepSupplier_9 hl (by decide) rfl (fun ls hl => ?_)
  refine lv_iconst (v := 0) hx hb dM_stepSupplier_11 (by decide) ?_
  refine lv_istore (lv' := [(7, .int 0), (6, .int 0), (5, .int (nI ((6 * ln) + b))), (0, .ref (X 0 0)), (1, .int (nI ln)), (2, .int (nI b)), (3, .int 10), (4, .int cc)]) hx hb dM_stepSupplier_12 hl (by decide) rfl (fun ls hl => ?_)
  refine lv_iload_n hx hb dM_stepSupplier_14 rfl (lv_at hl 6 rfl) ?_
  refine lv_bipush (v := 7) hx hb dM_stepSupplier_15 (by decide) ?_
  refine lv_icmp_ne (tgt := 59) hx hb dM_stepSupplier_17 rfl (fun _ => ?_) (fun h9 => absurd h9 (by decide))
  refine lv_iload_n hx hb dM_stepSupplier_59 rfl (lv_at hl 6 rfl) ?_
  refine lv_bipush (v := 8) hx hb dM_stepSupplier_60 (by decide) ?_
  refine lv_icmp_ne (tgt := 92) hx hb dM_stepSupplier_62 rfl (fun _ => ?_) (fun h9 => absurd h9 (by decide))
  refine lv_iload_n hx hb dM_stepSupplier_92 rfl (lv_at hl 6 rfl) ?_
  refine lv_bipush (v := 9) hx hb dM_stepSupplier_93 (by decide) ?_
  refine lv_icmp_ne (tgt := 113) hx hb dM_stepSupplier_95 rfl (fun _ => ?_) (fun h9 => absurd h9 (by decide))
  refine lv_iload_n hx hb dM_stepSupplier_113 rfl (lv_at hl 6 rfl) ?_
  refine lv_bipush (v := 10) hx hb dM_stepSupplier_114 (by decide) ?_
  refine lv_icmp_ne (tgt := 175) hx hb dM_stepSupplier_116 rfl (fun h9 => absurd (by decide) h9) (fun _ => ?_)
  refine lv_aload_n hx hb dM_stepSupplier_119 rfl (lv_at hl 3 rfl) ?_
  refine ew_get (v := .ref (X 24 0)) hx hb hts hown hK hV fM_65 hi0 (cR_0 _ _ _) rfl dM_stepSupplier_120 ?_
  refine lv_iload hx hb dM_stepSupplier_123 (lv_at hl 2 rfl) ?_
  refine lv_aload_n hx hb dM_stepSupplier_125 rfl (lv_at hl 3 rfl) ?_
  refine ew_get (v := .int (A 0 0 1)) hx hb hts hown hK hV fM_166 hi0 (cR_0 _ _ _) rfl dM_stepSupplier_126 ?_
  refine lv_aload_n hx hb dM_stepSupplier_129 rfl (lv_at hl 3 rfl) ?_
  refine ew_get (v := .ref (X 13 0)) hx hb hts hown hK hV fM_31 hi0 (cR_0 _ _ _) rfl dM_stepSupplier_130 ?_
  refine lv_iload_n hx hb dM_stepSupplier_133 rfl (lv_at hl 4 rfl) ?_
  refine ew_iald (v := A 13 0 ln) hx hb hK hV (hE 13 (by decide)) (cR_13 _ _ _) 0 rfl (vp_in_nI (by omega) (by decide)) (er_ix (by omega) rfl) dM_stepSupplier_134 ?_
  refine lv_iadd hx hb dM_stepSupplier_135 ?_
  refine ew_iast hx hb hK hV hS (hE 24 (by decide)) (cR_24 _ _ _) 0 rfl (vp_in_nI (by omega) (by decide)) ((6 * ln) + b) (nI_clamp (by omega)) (qR_24 _ _ _ _ _) dM_stepSupplier_136 (fun H locs hV hS => ?_)
  refine lv_aload_n hx hb dM_stepSupplier_137 rfl (lv_at hl 3 rfl) ?_
  refine ew_get (v := .ref (X 9 0)) hx hb hts hown hK hV fM_19 hi0 (cR_0 _ _ _) rfl dM_stepSupplier_138 ?_
  refine lv_aload_n hx hb dM_stepSupplier_141 rfl (lv_at hl 3 rfl) ?_
  refine ew_get (v := .ref (X 28 0)) hx hb hts hown hK hV fM_77 hi0 (cR_0 _ _ _) rfl dM_stepSupplier_142 ?_
  refine lv_iload hx hb dM_stepSupplier_145 (lv_at hl 2 rfl) ?_
  refine ew_iald (v := A 28 0 ((6 * ln) + b)) hx hb hK hV (hE 28 (by decide)) (cR_28 _ _ _) 0 rfl (vp_in_nI (by omega) (by decide)) (er_ix (by omega) rfl) dM_stepSupplier_147 ?_
  refine lv_toe (y := nI cp) q28 ?_
  refine lv_bipush (v := 6) hx hb dM_stepSupplier_148 (by decide) ?_
  refine ew_iast hx hb hK hV hS (hE 9 (by decide)) (cR_9 _ _ _) 0 rfl (vp_in_nI (by omega) (by decide)) cp (nI_clamp (by omega)) (qR_9 _ _ _ _ _) dM_stepSupplier_150 (fun H locs hV hS => ?_)
  refine lv_aload_n hx hb dM_stepSupplier_151 rfl (lv_at hl 3 rfl) ?_
  refine ew_get (v := .ref (X 23 0)) hx hb hts hown hK hV fM_62 hi0 (cR_0 _ _ _) rfl dM_stepSupplier_152 ?_
  refine lv_iload hx hb dM_stepSupplier_155 (lv_at hl 2 rfl) ?_
  refine lv_iconst (v := 4) hx hb dM_stepSupplier_157 (by decide) ?_
  refine ew_iast hx hb hK hV hS (hE 23 (by decide)) (cR_23 _ _ _) 0 rfl (vp_in_nI (by omega) (by decide)) ((6 * ln) + b) (nI_clamp (by omega)) (qR_23 _ _ _ _ _) dM_stepSupplier_158 (fun H locs hV hS => ?_)
  refine lv_bipush (v := 7) hx hb dM_stepSupplier_159 (by decide) ?_
  refine lv_istore (lv' := [(6, .int 7), (7, .int 0), (5, .int (nI ((6 * ln) + b))), (0, .ref (X 0 0)), (1, .int (nI ln)), (2, .int (nI b)), (3, .int 10), (4, .int cc)]) hx hb dM_stepSupplier_161 hl (by decide) rfl (fun ls hl => ?_)
  refine lv_aload_n hx hb dM_stepSupplier_163 rfl (lv_at hl 3 rfl) ?_
  refine ew_get (v := .ref (X 24 0)) hx hb hts hown hK hV fM_65 hi0 (cR_0 _ _ _) rfl dM_stepSupplier_164 ?_
  refine lv_iload hx hb dM_stepSupplier_167 (lv_at hl 2 rfl) ?_
  refine ew_iald (v := (A 0 0 1) + (A 13 0 ln)) hx hb hK hV (hE 24 (by decide)) (cR_24 _ _ _) 0 rfl (vp_in_nI (by omega) (by decide)) (er_ix (by omega) (by simp [up3, va_up])) dM_stepSupplier_169 ?_
  refine lv_istore (lv' := [(7, .int ((A 0 0 1) + (A 13 0 ln))), (6, .int 7), (5, .int (nI ((6 * ln) + b))), (0, .ref (X 0 0)), (1, .int (nI ln)), (2, .int (nI b)), (3, .int 10), (4, .int cc)]) hx hb dM_stepSupplier_170 hl (by decide) rfl (fun ls hl => ?_)
  refine lv_goto (tgt := 446) hx hb dM_stepSupplier_172 rfl ?_
  refine lv_aload_n hx hb dM_stepSupplier_446 rfl (lv_at hl 3 rfl) ?_
  refine lv_iconst (v := 2) hx hb dM_stepSupplier_447 (by decide) ?_
  refine lv_iload hx hb dM_stepSupplier_448 (lv_at hl 2 rfl) ?_
  refine lv_imul hx hb dM_stepSupplier_450 ?_
  refine lv_toe (y := nI (2 * ((6 * ln) + b))) (pk_mul 2 ((6 * ln) + b)) ?_
  refine lv_iconst (v := 1) hx hb dM_stepSupplier_451 (by decide) ?_
  refine lv_iadd hx hb dM_stepSupplier_452 ?_
  refine lv_toe (y := nI ((2 * ((6 * ln) + b)) + 1)) (nI_add (2 * ((6 * ln) + b)) 1) ?_
  refine lv_iload hx hb dM_stepSupplier_453 (lv_at hl 1 rfl) ?_
  refine lv_iload hx hb dM_stepSupplier_455 (lv_at hl 0 rfl) ?_
  refine er_callv (va_runV (As := [.int (nI ((2 * ((6 * ln) + b)) + 1)), .int 7, .int ((A 0 0 1) + (A 13 0 ln))]) (rest := []) ⟨hx, hb, hml, hown, hts⟩ (r_write l D T X L tg _ hE (up3 (up3 (up3 A 24 0 ((6 * ln) + b) ((A 0 0 1) + (A 13 0 ln))) 9 0 cp 6) 23 0 ((6 * ln) + b) 4) ((2 * ((6 * ln) + b)) + 1) 7 ((A 0 0 1) + (A 13 0 ln)) w lg (by omega) hw hq hlg hg) (cwV 3 hts gM_138 rfl rfl rfl (by decide +kernel) ⟨Nat.le_of_ble_eq_true rfl, Nat.le_of_ble_eq_true rfl⟩) (er_preV hK hV hi0 (cR_0 _ _ _) rfl) rfl rfl hl.1 rfl (lv_room (Nat.le_of_ble_eq_true rfl)) dM_stepSupplier_457 ⟨Nat.le_of_ble_eq_true rfl, Nat.le_of_ble_eq_true rfl⟩) hV hS hA (fun u1 H locs eu1 hV hS => ?_)
  have eu1 : u1 = s_write (up3 (up3 (up3 A 24 0 ((6 * ln) + b) ((A 0 0 1) + (A 13 0 ln))) 9 0 cp 6) 23 0 ((6 * ln) + b) 4) ((2 * ((6 * ln) + b)) + 1) 7 ((A 0 0 1) + (A 13 0 ln)) w lg := eu1
  subst eu1
  exact er_vret hx hb hr hlocks hV hS dM_stepSupplier_460 (Eq.symm (by unfold s_stepSupplier_10; rfl))

def s_stepSupplier_11 (A : ew_R) (ln : Nat) (b : Nat) (cc : Int32) (w : Nat) (lg : Nat) : ew_R :=
  (s_write (up3 (up3 (up3 A 27 0 ((6 * ln) + b) ((A 27 0 ((6 * ln) + b)) + 1)) 24 0 ((6 * ln) + b) ((A 24 0 ((6 * ln) + b)) + (A 13 0 ln))) 23 0 ((6 * ln) + b) 5) ((2 * ((6 * ln) + b)) + 1) 10 ((A 24 0 ((6 * ln) + b)) + (A 13 0 ln)) w lg)
set_option maxHeartbeats 4000000 in
set_option maxRecDepth 100000 in
theorem r_stepSupplier_11 (l : Launch) (D : va_G) (T : Nat → ClassId) (X : Nat → Nat → Nat) (L : List Nat) (tg : Nat → Nat × Nat) (sz : Nat) (hE : eR_E X L tg) (A : ew_R) (ln : Nat) (b : Nat) (cc : Int32) (w : Nat) (lg : Nat) (hln : ln < 32) (hb6 : b < 6) (hw : w ≤ 64) (hq : A 0 0 4 = nI w) (hlg : lg < 3000) (hg : A 0 0 5 = nI lg) : Met l yM_stepSupplier wsM_stepSupplier ({ frames := 3, cells := 0, slots := 0, locals := 67 }) (er_Pc D vwCl (tysA T) (cfR T) X L tg A sz [.ref (X 0 0), .int (nI ln), .int (nI b), .int 11, .int cc]) (er_Qv D vwCl (cfR T) X L tg sz (fun u => u = s_stepSupplier_11 A ln b cc w lg)) 0 0 (ew_A L sz) := by
  refine er_met (by decide) rfl (Nat.le_of_ble_eq_true rfl) ?_
  intro p e s m below meth c ls hx hb hr hts hown hlocks hml hV hK hS hA hl hsz
  subst hsz
  have hi0 := hE 0 (by decide)
  have hl : lv_has ls 8 [(0, .ref (X 0 0)), (1, .int (nI ln)), (2, .int (nI b)), (3, .int 11), (4, .int cc)] := hl
  refine lv_bipush (v := 6) hx hb dM_stepSupplier_0 (by decide) ?_
  refine lv_iload_n hx hb dM_stepSupplier_2 rfl (lv_at hl 1 rfl) ?_
  refine lv_imul hx hb dM_stepSupplier_3 ?_
  refine lv_toe (y := nI (6 * ln)) (pk_mul 6 ln) ?_
  refine lv_iload_n hx hb dM_stepSupplier_4 rfl (lv_at hl 2 rfl) ?_
  refine lv_iadd hx hb dM_stepSupplier_5 ?_
  refine lv_toe (y := nI ((6 * ln) + b)) (nI_add (6 * ln) b) ?_
  refine lv_istore (lv' := [(5, .int (nI ((6 * ln) + b))), (0, .ref (X 0 0)), (1, .int (nI ln)), (2, .int (nI b)), (3, .int 11), (4, .int cc)]) hx hb dM_stepSupplier_6 hl (by decide) rfl (fun ls hl => ?_)
  refine lv_iconst (v := 0) hx hb dM_stepSupplier_8 (by decide) ?_
  refine lv_istore (lv' := [(6, .int 0), (5, .int (nI ((6 * ln) + b))), (0, .ref (X 0 0)), (1, .int (nI ln)), (2, .int (nI b)), (3, .int 11), (4, .int cc)]) hx hb dM_stepSupplier_9 hl (by decide) rfl (fun ls hl => ?_)
  refine lv_iconst (v := 0) hx hb dM_stepSupplier_11 (by decide) ?_
  refine lv_istore (lv' := [(7, .int 0), (6, .int 0), (5, .int (nI ((6 * ln) + b))), (0, .ref (X 0 0)), (1, .int (nI ln)), (2, .int (nI b)), (3, .int 11), (4, .int cc)]) hx hb dM_stepSupplier_12 hl (by decide) rfl (fun ls hl => ?_)
  refine lv_iload_n hx hb dM_stepSupplier_14 rfl (lv_at hl 6 rfl) ?_
  refine lv_bipush (v := 7) hx hb dM_stepSupplier_15 (by decide) ?_
  refine lv_icmp_ne (tgt := 59) hx hb dM_stepSupplier_17 rfl (fun _ => ?_) (fun h9 => absurd h9 (by decide))
  refine lv_iload_n hx hb dM_stepSupplier_59 rfl (lv_at hl 6 rfl) ?_
  refine lv_bipush (v := 8) hx hb dM_stepSupplier_60 (by decide) ?_
  refine lv_icmp_ne (tgt := 92) hx hb dM_stepSupplier_62 rfl (fun _ => ?_) (fun h9 => absurd h9 (by decide))
  refine lv_iload_n hx hb dM_stepSupplier_92 rfl (lv_at hl 6 rfl) ?_
  refine lv_bipush (v := 9) hx hb dM_stepSupplier_93 (by decide) ?_
  refine lv_icmp_ne (tgt := 113) hx hb dM_stepSupplier_95 rfl (fun _ => ?_) (fun h9 => absurd h9 (by decide))
  refine lv_iload_n hx hb dM_stepSupplier_113 rfl (lv_at hl 6 rfl) ?_
  refine lv_bipush (v := 10) hx hb dM_stepSupplier_114 (by decide) ?_
  refine lv_icmp_ne (tgt := 175) hx hb dM_stepSupplier_116 rfl (fun _ => ?_) (fun h9 => absurd h9 (by decide))
  refine lv_iload_n hx hb dM_stepSupplier_175 rfl (lv_at hl 6 rfl) ?_
  refine lv_bipush (v := 11) hx hb dM_stepSupplier_176 (by decide) ?_
  refine lv_icmp_eq (tgt := 187) hx hb dM_stepSupplier_178 rfl (fun _ => ?_) (fun h9 => absurd (by decide) h9)
  refine lv_aload_n hx hb dM_stepSupplier_187 rfl (lv_at hl 3 rfl) ?_
  refine ew_get (v := .ref (X 27 0)) hx hb hts hown hK hV fM_74 hi0 (cR_0 _ _ _) rfl dM_stepSupplier_188 ?_
  refine lv_iload hx hb dM_stepSupplier_191 (lv_at hl 2 rfl) ?_
  refine lv_dup2_11 hx hb dM_stepSupplier_193 rfl rfl ?_
  refine ew_iald (v := A 27 0 ((6 * ln) + b)) hx hb hK hV (hE 27 (by decide)) (cR_27 _ _ _) 0 rfl (vp_in_nI (by omega) (by decide)) (er_ix (by omega) rfl) dM_stepSupplier_194 ?_
  refine lv_iload_n hx hb dM_stepSupplier_195 rfl (lv_at hl 6 rfl) ?_
  refine lv_bipush (v := 11) hx hb dM_stepSupplier_196 (by decide) ?_
  refine lv_icmp_ne (tgt := 205) hx hb dM_stepSupplier_198 rfl (fun h9 => absurd (by decide) h9) (fun _ => ?_)
  refine lv_iconst (v := 1) hx hb dM_stepSupplier_201 (by decide) ?_
  refine lv_goto (tgt := 206) hx hb dM_stepSupplier_202 rfl ?_
  refine lv_iadd hx hb dM_stepSupplier_206 ?_
  refine ew_iast hx hb hK hV hS (hE 27 (by decide)) (cR_27 _ _ _) 0 rfl (vp_in_nI (by omega) (by decide)) ((6 * ln) + b) (nI_clamp (by omega)) (qR_27 _ _ _ _ _) dM_stepSupplier_207 (fun H locs hV hS => ?_)
  refine lv_aload_n hx hb dM_stepSupplier_208 rfl (lv_at hl 3 rfl) ?_
  refine ew_get (v := .ref (X 24 0)) hx hb hts hown hK hV fM_65 hi0 (cR_0 _ _ _) rfl dM_stepSupplier_209 ?_
  refine lv_iload hx hb dM_stepSupplier_212 (lv_at hl 2 rfl) ?_
  refine lv_dup2_11 hx hb dM_stepSupplier_214 rfl rfl ?_
  refine ew_iald (v := A 24 0 ((6 * ln) + b)) hx hb hK hV (hE 24 (by decide)) (cR_24 _ _ _) 0 rfl (vp_in_nI (by omega) (by decide)) (er_ix (by omega) rfl) dM_stepSupplier_215 ?_
  refine lv_iload_n hx hb dM_stepSupplier_216 rfl (lv_at hl 6 rfl) ?_
  refine lv_bipush (v := 11) hx hb dM_stepSupplier_217 (by decide) ?_
  refine lv_icmp_ne (tgt := 231) hx hb dM_stepSupplier_219 rfl (fun h9 => absurd (by decide) h9) (fun _ => ?_)
  refine lv_aload_n hx hb dM_stepSupplier_222 rfl (lv_at hl 3 rfl) ?_
  refine ew_get (v := .ref (X 13 0)) hx hb hts hown hK hV fM_31 hi0 (cR_0 _ _ _) rfl dM_stepSupplier_223 ?_
  refine lv_iload_n hx hb dM_stepSupplier_226 rfl (lv_at hl 4 rfl) ?_
  refine ew_iald (v := A 13 0 ln) hx hb hK hV (hE 13 (by decide)) (cR_13 _ _ _) 0 rfl (vp_in_nI (by omega) (by decide)) (er_ix (by omega) rfl) dM_stepSupplier_227 ?_
  refine lv_goto (tgt := 232) hx hb dM_stepSupplier_228 rfl ?_
  refine lv_iadd hx hb dM_stepSupplier_232 ?_
  refine ew_iast hx hb hK hV hS (hE 24 (by decide)) (cR_24 _ _ _) 0 rfl (vp_in_nI (by omega) (by decide)) ((6 * ln) + b) (nI_clamp (by omega)) (qR_24 _ _ _ _ _) dM_stepSupplier_233 (fun H locs hV hS => ?_)
  refine lv_aload_n hx hb dM_stepSupplier_234 rfl (lv_at hl 3 rfl) ?_
  refine ew_get (v := .ref (X 23 0)) hx hb hts hown hK hV fM_62 hi0 (cR_0 _ _ _) rfl dM_stepSupplier_235 ?_
  refine lv_iload hx hb dM_stepSupplier_238 (lv_at hl 2 rfl) ?_
  refine lv_iconst (v := 5) hx hb dM_stepSupplier_240 (by decide) ?_
  refine ew_iast hx hb hK hV hS (hE 23 (by decide)) (cR_23 _ _ _) 0 rfl (vp_in_nI (by omega) (by decide)) ((6 * ln) + b) (nI_clamp (by omega)) (qR_23 _ _ _ _ _) dM_stepSupplier_241 (fun H locs hV hS => ?_)
  refine lv_bipush (v := 10) hx hb dM_stepSupplier_242 (by decide) ?_
  refine lv_istore (lv' := [(6, .int 10), (7, .int 0), (5, .int (nI ((6 * ln) + b))), (0, .ref (X 0 0)), (1, .int (nI ln)), (2, .int (nI b)), (3, .int 11), (4, .int cc)]) hx hb dM_stepSupplier_244 hl (by decide) rfl (fun ls hl => ?_)
  refine lv_iload_n hx hb dM_stepSupplier_246 rfl (lv_at hl 6 rfl) ?_
  refine lv_bipush (v := 11) hx hb dM_stepSupplier_247 (by decide) ?_
  refine lv_icmp_ne (tgt := 262) hx hb dM_stepSupplier_249 rfl (fun h9 => absurd (by decide) h9) (fun _ => ?_)
  refine lv_aload_n hx hb dM_stepSupplier_252 rfl (lv_at hl 3 rfl) ?_
  refine ew_get (v := .ref (X 24 0)) hx hb hts hown hK hV fM_65 hi0 (cR_0 _ _ _) rfl dM_stepSupplier_253 ?_
  refine lv_iload hx hb dM_stepSupplier_256 (lv_at hl 2 rfl) ?_
  refine ew_iald (v := (A 24 0 ((6 * ln) + b)) + (A 13 0 ln)) hx hb hK hV (hE 24 (by decide)) (cR_24 _ _ _) 0 rfl (vp_in_nI (by omega) (by decide)) (er_ix (by omega) (by simp [up3, va_up])) dM_stepSupplier_258 ?_
  refine lv_goto (tgt := 263) hx hb dM_stepSupplier_259 rfl ?_
  refine lv_istore (lv' := [(7, .int ((A 24 0 ((6 * ln) + b)) + (A 13 0 ln))), (6, .int 10), (5, .int (nI ((6 * ln) + b))), (0, .ref (X 0 0)), (1, .int (nI ln)), (2, .int (nI b)), (3, .int 11), (4, .int cc)]) hx hb dM_stepSupplier_263 hl (by decide) rfl (fun ls hl => ?_)
  refine lv_goto (tgt := 446) hx hb dM_stepSupplier_265 rfl ?_
  refine lv_aload_n hx hb dM_stepSupplier_446 rfl (lv_at hl 3 rfl) ?_
  refine lv_iconst (v := 2) hx hb dM_stepSupplier_447 (by decide) ?_
  refine lv_iload hx hb dM_stepSupplier_448 (lv_at hl 2 rfl) ?_
  refine lv_imul hx hb dM_stepSupplier_450 ?_
  refine lv_toe (y := nI (2 * ((6 * ln) + b))) (pk_mul 2 ((6 * ln) + b)) ?_
  refine lv_iconst (v := 1) hx hb dM_stepSupplier_451 (by decide) ?_
  refine lv_iadd hx hb dM_stepSupplier_452 ?_
  refine lv_toe (y := nI ((2 * ((6 * ln) + b)) + 1)) (nI_add (2 * ((6 * ln) + b)) 1) ?_
  refine lv_iload hx hb dM_stepSupplier_453 (lv_at hl 1 rfl) ?_
  refine lv_iload hx hb dM_stepSupplier_455 (lv_at hl 0 rfl) ?_
  refine er_callv (va_runV (As := [.int (nI ((2 * ((6 * ln) + b)) + 1)), .int 10, .int ((A 24 0 ((6 * ln) + b)) + (A 13 0 ln))]) (rest := []) ⟨hx, hb, hml, hown, hts⟩ (r_write l D T X L tg _ hE (up3 (up3 (up3 A 27 0 ((6 * ln) + b) ((A 27 0 ((6 * ln) + b)) + 1)) 24 0 ((6 * ln) + b) ((A 24 0 ((6 * ln) + b)) + (A 13 0 ln))) 23 0 ((6 * ln) + b) 5) ((2 * ((6 * ln) + b)) + 1) 10 ((A 24 0 ((6 * ln) + b)) + (A 13 0 ln)) w lg (by omega) hw hq hlg hg) (cwV 3 hts gM_138 rfl rfl rfl (by decide +kernel) ⟨Nat.le_of_ble_eq_true rfl, Nat.le_of_ble_eq_true rfl⟩) (er_preV hK hV hi0 (cR_0 _ _ _) rfl) rfl rfl hl.1 rfl (lv_room (Nat.le_of_ble_eq_true rfl)) dM_stepSupplier_457 ⟨Nat.le_of_ble_eq_true rfl, Nat.le_of_ble_eq_true rfl⟩) hV hS hA (fun u1 H locs eu1 hV hS => ?_)
  have eu1 : u1 = s_write (up3 (up3 (up3 A 27 0 ((6 * ln) + b) ((A 27 0 ((6 * ln) + b)) + 1)) 24 0 ((6 * ln) + b) ((A 24 0 ((6 * ln) + b)) + (A 13 0 ln))) 23 0 ((6 * ln) + b) 5) ((2 * ((6 * ln) + b)) + 1) 10 ((A 24 0 ((6 * ln) + b)) + (A 13 0 ln)) w lg := eu1
  subst eu1
  exact er_vret hx hb hr hlocks hV hS dM_stepSupplier_460 (Eq.symm (by unfold s_stepSupplier_11; rfl))

def s_stepSupplier_12 (A : ew_R) (ln : Nat) (b : Nat) (cc : Int32) (w : Nat) (lg : Nat) : ew_R :=
  (s_write (up3 (up3 (up3 A 27 0 ((6 * ln) + b) ((A 27 0 ((6 * ln) + b)) + 0)) 24 0 ((6 * ln) + b) ((A 24 0 ((6 * ln) + b)) + 0)) 23 0 ((6 * ln) + b) 5) ((2 * ((6 * ln) + b)) + 1) 10 0 w lg)
set_option maxHeartbeats 4000000 in
set_option maxRecDepth 100000 in
theorem r_stepSupplier_12 (l : Launch) (D : va_G) (T : Nat → ClassId) (X : Nat → Nat → Nat) (L : List Nat) (tg : Nat → Nat × Nat) (sz : Nat) (hE : eR_E X L tg) (A : ew_R) (ln : Nat) (b : Nat) (cc : Int32) (w : Nat) (lg : Nat) (hln : ln < 32) (hb6 : b < 6) (hw : w ≤ 64) (hq : A 0 0 4 = nI w) (hlg : lg < 3000) (hg : A 0 0 5 = nI lg) : Met l yM_stepSupplier wsM_stepSupplier ({ frames := 3, cells := 0, slots := 0, locals := 67 }) (er_Pc D vwCl (tysA T) (cfR T) X L tg A sz [.ref (X 0 0), .int (nI ln), .int (nI b), .int 12, .int cc]) (er_Qv D vwCl (cfR T) X L tg sz (fun u => u = s_stepSupplier_12 A ln b cc w lg)) 0 0 (ew_A L sz) := by
  refine er_met (by decide) rfl (Nat.le_of_ble_eq_true rfl) ?_
  intro p e s m below meth c ls hx hb hr hts hown hlocks hml hV hK hS hA hl hsz
  subst hsz
  have hi0 := hE 0 (by decide)
  have hl : lv_has ls 8 [(0, .ref (X 0 0)), (1, .int (nI ln)), (2, .int (nI b)), (3, .int 12), (4, .int cc)] := hl
  refine lv_bipush (v := 6) hx hb dM_stepSupplier_0 (by decide) ?_
  refine lv_iload_n hx hb dM_stepSupplier_2 rfl (lv_at hl 1 rfl) ?_
  refine lv_imul hx hb dM_stepSupplier_3 ?_
  refine lv_toe (y := nI (6 * ln)) (pk_mul 6 ln) ?_
  refine lv_iload_n hx hb dM_stepSupplier_4 rfl (lv_at hl 2 rfl) ?_
  refine lv_iadd hx hb dM_stepSupplier_5 ?_
  refine lv_toe (y := nI ((6 * ln) + b)) (nI_add (6 * ln) b) ?_
  refine lv_istore (lv' := [(5, .int (nI ((6 * ln) + b))), (0, .ref (X 0 0)), (1, .int (nI ln)), (2, .int (nI b)), (3, .int 12), (4, .int cc)]) hx hb dM_stepSupplier_6 hl (by decide) rfl (fun ls hl => ?_)
  refine lv_iconst (v := 0) hx hb dM_stepSupplier_8 (by decide) ?_
  refine lv_istore (lv' := [(6, .int 0), (5, .int (nI ((6 * ln) + b))), (0, .ref (X 0 0)), (1, .int (nI ln)), (2, .int (nI b)), (3, .int 12), (4, .int cc)]) hx hb dM_stepSupplier_9 hl (by decide) rfl (fun ls hl => ?_)
  refine lv_iconst (v := 0) hx hb dM_stepSupplier_11 (by decide) ?_
  refine lv_istore (lv' := [(7, .int 0), (6, .int 0), (5, .int (nI ((6 * ln) + b))), (0, .ref (X 0 0)), (1, .int (nI ln)), (2, .int (nI b)), (3, .int 12), (4, .int cc)]) hx hb dM_stepSupplier_12 hl (by decide) rfl (fun ls hl => ?_)
  refine lv_iload_n hx hb dM_stepSupplier_14 rfl (lv_at hl 6 rfl) ?_
  refine lv_bipush (v := 7) hx hb dM_stepSupplier_15 (by decide) ?_
  refine lv_icmp_ne (tgt := 59) hx hb dM_stepSupplier_17 rfl (fun _ => ?_) (fun h9 => absurd h9 (by decide))
  refine lv_iload_n hx hb dM_stepSupplier_59 rfl (lv_at hl 6 rfl) ?_
  refine lv_bipush (v := 8) hx hb dM_stepSupplier_60 (by decide) ?_
  refine lv_icmp_ne (tgt := 92) hx hb dM_stepSupplier_62 rfl (fun _ => ?_) (fun h9 => absurd h9 (by decide))
  refine lv_iload_n hx hb dM_stepSupplier_92 rfl (lv_at hl 6 rfl) ?_
  refine lv_bipush (v := 9) hx hb dM_stepSupplier_93 (by decide) ?_
  refine lv_icmp_ne (tgt := 113) hx hb dM_stepSupplier_95 rfl (fun _ => ?_) (fun h9 => absurd h9 (by decide))
  refine lv_iload_n hx hb dM_stepSupplier_113 rfl (lv_at hl 6 rfl) ?_
  refine lv_bipush (v := 10) hx hb dM_stepSupplier_114 (by decide) ?_
  refine lv_icmp_ne (tgt := 175) hx hb dM_stepSupplier_116 rfl (fun _ => ?_) (fun h9 => absurd h9 (by decide))
  refine lv_iload_n hx hb dM_stepSupplier_175 rfl (lv_at hl 6 rfl) ?_
  refine lv_bipush (v := 11) hx hb dM_stepSupplier_176 (by decide) ?_
  refine lv_icmp_eq (tgt := 187) hx hb dM_stepSupplier_178 rfl (fun h9 => absurd h9 (by decide)) (fun _ => ?_)
  refine lv_iload_n hx hb dM_stepSupplier_181 rfl (lv_at hl 6 rfl) ?_
  refine lv_bipush (v := 12) hx hb dM_stepSupplier_182 (by decide) ?_
  refine lv_icmp_ne (tgt := 268) hx hb dM_stepSupplier_184 rfl (fun h9 => absurd (by decide) h9) (fun _ => ?_)
  refine lv_aload_n hx hb dM_stepSupplier_187 rfl (lv_at hl 3 rfl) ?_
  refine ew_get (v := .ref (X 27 0)) hx hb hts hown hK hV fM_74 hi0 (cR_0 _ _ _) rfl dM_stepSupplier_188 ?_
  refine lv_iload hx hb dM_stepSupplier_191 (lv_at hl 2 rfl) ?_
  refine lv_dup2_11 hx hb dM_stepSupplier_193 rfl rfl ?_
  refine ew_iald (v := A 27 0 ((6 * ln) + b)) hx hb hK hV (hE 27 (by decide)) (cR_27 _ _ _) 0 rfl (vp_in_nI (by omega) (by decide)) (er_ix (by omega) rfl) dM_stepSupplier_194 ?_
  refine lv_iload_n hx hb dM_stepSupplier_195 rfl (lv_at hl 6 rfl) ?_
  refine lv_bipush (v := 11) hx hb dM_stepSupplier_196 (by decide) ?_
  refine lv_icmp_ne (tgt := 205) hx hb dM_stepSupplier_198 rfl (fun _ => ?_) (fun h9 => absurd h9 (by decide))
  refine lv_iconst (v := 0) hx hb dM_stepSupplier_205 (by decide) ?_
  refine lv_iadd hx hb dM_stepSupplier_206 ?_
  refine ew_iast hx hb hK hV hS (hE 27 (by decide)) (cR_27 _ _ _) 0 rfl (vp_in_nI (by omega) (by decide)) ((6 * ln) + b) (nI_clamp (by omega)) (qR_27 _ _ _ _ _) dM_stepSupplier_207 (fun H locs hV hS => ?_)
  refine lv_aload_n hx hb dM_stepSupplier_208 rfl (lv_at hl 3 rfl) ?_
  refine ew_get (v := .ref (X 24 0)) hx hb hts hown hK hV fM_65 hi0 (cR_0 _ _ _) rfl dM_stepSupplier_209 ?_
  refine lv_iload hx hb dM_stepSupplier_212 (lv_at hl 2 rfl) ?_
  refine lv_dup2_11 hx hb dM_stepSupplier_214 rfl rfl ?_
  refine ew_iald (v := A 24 0 ((6 * ln) + b)) hx hb hK hV (hE 24 (by decide)) (cR_24 _ _ _) 0 rfl (vp_in_nI (by omega) (by decide)) (er_ix (by omega) rfl) dM_stepSupplier_215 ?_
  refine lv_iload_n hx hb dM_stepSupplier_216 rfl (lv_at hl 6 rfl) ?_
  refine lv_bipush (v := 11) hx hb dM_stepSupplier_217 (by decide) ?_
  refine lv_icmp_ne (tgt := 231) hx hb dM_stepSupplier_219 rfl (fun _ => ?_) (fun h9 => absurd h9 (by decide))
  refine lv_iconst (v := 0) hx hb dM_stepSupplier_231 (by decide) ?_
  refine lv_iadd hx hb dM_stepSupplier_232 ?_
  refine ew_iast hx hb hK hV hS (hE 24 (by decide)) (cR_24 _ _ _) 0 rfl (vp_in_nI (by omega) (by decide)) ((6 * ln) + b) (nI_clamp (by omega)) (qR_24 _ _ _ _ _) dM_stepSupplier_233 (fun H locs hV hS => ?_)
  refine lv_aload_n hx hb dM_stepSupplier_234 rfl (lv_at hl 3 rfl) ?_
  refine ew_get (v := .ref (X 23 0)) hx hb hts hown hK hV fM_62 hi0 (cR_0 _ _ _) rfl dM_stepSupplier_235 ?_
  refine lv_iload hx hb dM_stepSupplier_238 (lv_at hl 2 rfl) ?_
  refine lv_iconst (v := 5) hx hb dM_stepSupplier_240 (by decide) ?_
  refine ew_iast hx hb hK hV hS (hE 23 (by decide)) (cR_23 _ _ _) 0 rfl (vp_in_nI (by omega) (by decide)) ((6 * ln) + b) (nI_clamp (by omega)) (qR_23 _ _ _ _ _) dM_stepSupplier_241 (fun H locs hV hS => ?_)
  refine lv_bipush (v := 10) hx hb dM_stepSupplier_242 (by decide) ?_
  refine lv_istore (lv' := [(6, .int 10), (7, .int 0), (5, .int (nI ((6 * ln) + b))), (0, .ref (X 0 0)), (1, .int (nI ln)), (2, .int (nI b)), (3, .int 12), (4, .int cc)]) hx hb dM_stepSupplier_244 hl (by decide) rfl (fun ls hl => ?_)
  refine lv_iload_n hx hb dM_stepSupplier_246 rfl (lv_at hl 6 rfl) ?_
  refine lv_bipush (v := 11) hx hb dM_stepSupplier_247 (by decide) ?_
  refine lv_icmp_ne (tgt := 262) hx hb dM_stepSupplier_249 rfl (fun _ => ?_) (fun h9 => absurd h9 (by decide))
  refine lv_iconst (v := 0) hx hb dM_stepSupplier_262 (by decide) ?_
  refine lv_istore (lv' := [(7, .int 0), (6, .int 10), (5, .int (nI ((6 * ln) + b))), (0, .ref (X 0 0)), (1, .int (nI ln)), (2, .int (nI b)), (3, .int 12), (4, .int cc)]) hx hb dM_stepSupplier_263 hl (by decide) rfl (fun ls hl => ?_)
  refine lv_goto (tgt := 446) hx hb dM_stepSupplier_265 rfl ?_
  refine lv_aload_n hx hb dM_stepSupplier_446 rfl (lv_at hl 3 rfl) ?_
  refine lv_iconst (v := 2) hx hb dM_stepSupplier_447 (by decide) ?_
  refine lv_iload hx hb dM_stepSupplier_448 (lv_at hl 2 rfl) ?_
  refine lv_imul hx hb dM_stepSupplier_450 ?_
  refine lv_toe (y := nI (2 * ((6 * ln) + b))) (pk_mul 2 ((6 * ln) + b)) ?_
  refine lv_iconst (v := 1) hx hb dM_stepSupplier_451 (by decide) ?_
  refine lv_iadd hx hb dM_stepSupplier_452 ?_
  refine lv_toe (y := nI ((2 * ((6 * ln) + b)) + 1)) (nI_add (2 * ((6 * ln) + b)) 1) ?_
  refine lv_iload hx hb dM_stepSupplier_453 (lv_at hl 1 rfl) ?_
  refine lv_iload hx hb dM_stepSupplier_455 (lv_at hl 0 rfl) ?_
  refine er_callv (va_runV (As := [.int (nI ((2 * ((6 * ln) + b)) + 1)), .int 10, .int 0]) (rest := []) ⟨hx, hb, hml, hown, hts⟩ (r_write l D T X L tg _ hE (up3 (up3 (up3 A 27 0 ((6 * ln) + b) ((A 27 0 ((6 * ln) + b)) + 0)) 24 0 ((6 * ln) + b) ((A 24 0 ((6 * ln) + b)) + 0)) 23 0 ((6 * ln) + b) 5) ((2 * ((6 * ln) + b)) + 1) 10 0 w lg (by omega) hw hq hlg hg) (cwV 3 hts gM_138 rfl rfl rfl (by decide +kernel) ⟨Nat.le_of_ble_eq_true rfl, Nat.le_of_ble_eq_true rfl⟩) (er_preV hK hV hi0 (cR_0 _ _ _) rfl) rfl rfl hl.1 rfl (lv_room (Nat.le_of_ble_eq_true rfl)) dM_stepSupplier_457 ⟨Nat.le_of_ble_eq_true rfl, Nat.le_of_ble_eq_true rfl⟩) hV hS hA (fun u1 H locs eu1 hV hS => ?_)
  have eu1 : u1 = s_write (up3 (up3 (up3 A 27 0 ((6 * ln) + b) ((A 27 0 ((6 * ln) + b)) + 0)) 24 0 ((6 * ln) + b) ((A 24 0 ((6 * ln) + b)) + 0)) 23 0 ((6 * ln) + b) 5) ((2 * ((6 * ln) + b)) + 1) 10 0 w lg := eu1
  subst eu1
  exact er_vret hx hb hr hlocks hV hS dM_stepSupplier_460 (Eq.symm (by unfold s_stepSupplier_12; rfl))

def s_stepSupplier_13 (A : ew_R) (ln : Nat) (b : Nat) (cc : Int32) (w : Nat) (lg : Nat) : ew_R :=
  if A 24 0 ((6 * ln) + b) ≤ (A 0 0 1) + 7 then
    (s_write (up3 A 23 0 ((6 * ln) + b) 7) ((2 * ((6 * ln) + b)) + 1) 11 (A 24 0 ((6 * ln) + b)) w lg)
  else
    (s_write (up3 (up3 A 24 0 ((6 * ln) + b) ((A 0 0 1) + 7)) 23 0 ((6 * ln) + b) 7) ((2 * ((6 * ln) + b)) + 1) 11 ((A 0 0 1) + 7) w lg)
set_option maxHeartbeats 4000000 in
set_option maxRecDepth 100000 in
theorem r_stepSupplier_13 (l : Launch) (D : va_G) (T : Nat → ClassId) (X : Nat → Nat → Nat) (L : List Nat) (tg : Nat → Nat × Nat) (sz : Nat) (hE : eR_E X L tg) (A : ew_R) (ln : Nat) (b : Nat) (cc : Int32) (w : Nat) (lg : Nat) (hln : ln < 32) (hb6 : b < 6) (hw : w ≤ 64) (hq : A 0 0 4 = nI w) (hlg : lg < 3000) (hg : A 0 0 5 = nI lg) : Met l yM_stepSupplier wsM_stepSupplier ({ frames := 3, cells := 0, slots := 0, locals := 67 }) (er_Pc D vwCl (tysA T) (cfR T) X L tg A sz [.ref (X 0 0), .int (nI ln), .int (nI b), .int 13, .int cc]) (er_Qv D vwCl (cfR T) X L tg sz (fun u => u = s_stepSupplier_13 A ln b cc w lg)) 0 0 (ew_A L sz) := by
  refine er_met (by decide) rfl (Nat.le_of_ble_eq_true rfl) ?_
  intro p e s m below meth c ls hx hb hr hts hown hlocks hml hV hK hS hA hl hsz
  subst hsz
  have hi0 := hE 0 (by decide)
  have hl : lv_has ls 8 [(0, .ref (X 0 0)), (1, .int (nI ln)), (2, .int (nI b)), (3, .int 13), (4, .int cc)] := hl
  refine lv_bipush (v := 6) hx hb dM_stepSupplier_0 (by decide) ?_
  refine lv_iload_n hx hb dM_stepSupplier_2 rfl (lv_at hl 1 rfl) ?_
  refine lv_imul hx hb dM_stepSupplier_3 ?_
  refine lv_toe (y := nI (6 * ln)) (pk_mul 6 ln) ?_
  refine lv_iload_n hx hb dM_stepSupplier_4 rfl (lv_at hl 2 rfl) ?_
  refine lv_iadd hx hb dM_stepSupplier_5 ?_
  refine lv_toe (y := nI ((6 * ln) + b)) (nI_add (6 * ln) b) ?_
  refine lv_istore (lv' := [(5, .int (nI ((6 * ln) + b))), (0, .ref (X 0 0)), (1, .int (nI ln)), (2, .int (nI b)), (3, .int 13), (4, .int cc)]) hx hb dM_stepSupplier_6 hl (by decide) rfl (fun ls hl => ?_)
  refine lv_iconst (v := 0) hx hb dM_stepSupplier_8 (by decide) ?_
  refine lv_istore (lv' := [(6, .int 0), (5, .int (nI ((6 * ln) + b))), (0, .ref (X 0 0)), (1, .int (nI ln)), (2, .int (nI b)), (3, .int 13), (4, .int cc)]) hx hb dM_stepSupplier_9 hl (by decide) rfl (fun ls hl => ?_)
  refine lv_iconst (v := 0) hx hb dM_stepSupplier_11 (by decide) ?_
  refine lv_istore (lv' := [(7, .int 0), (6, .int 0), (5, .int (nI ((6 * ln) + b))), (0, .ref (X 0 0)), (1, .int (nI ln)), (2, .int (nI b)), (3, .int 13), (4, .int cc)]) hx hb dM_stepSupplier_12 hl (by decide) rfl (fun ls hl => ?_)
  refine lv_iload_n hx hb dM_stepSupplier_14 rfl (lv_at hl 6 rfl) ?_
  refine lv_bipush (v := 7) hx hb dM_stepSupplier_15 (by decide) ?_
  refine lv_icmp_ne (tgt := 59) hx hb dM_stepSupplier_17 rfl (fun _ => ?_) (fun h9 => absurd h9 (by decide))
  refine lv_iload_n hx hb dM_stepSupplier_59 rfl (lv_at hl 6 rfl) ?_
  refine lv_bipush (v := 8) hx hb dM_stepSupplier_60 (by decide) ?_
  refine lv_icmp_ne (tgt := 92) hx hb dM_stepSupplier_62 rfl (fun _ => ?_) (fun h9 => absurd h9 (by decide))
  refine lv_iload_n hx hb dM_stepSupplier_92 rfl (lv_at hl 6 rfl) ?_
  refine lv_bipush (v := 9) hx hb dM_stepSupplier_93 (by decide) ?_
  refine lv_icmp_ne (tgt := 113) hx hb dM_stepSupplier_95 rfl (fun _ => ?_) (fun h9 => absurd h9 (by decide))
  refine lv_iload_n hx hb dM_stepSupplier_113 rfl (lv_at hl 6 rfl) ?_
  refine lv_bipush (v := 10) hx hb dM_stepSupplier_114 (by decide) ?_
  refine lv_icmp_ne (tgt := 175) hx hb dM_stepSupplier_116 rfl (fun _ => ?_) (fun h9 => absurd h9 (by decide))
  refine lv_iload_n hx hb dM_stepSupplier_175 rfl (lv_at hl 6 rfl) ?_
  refine lv_bipush (v := 11) hx hb dM_stepSupplier_176 (by decide) ?_
  refine lv_icmp_eq (tgt := 187) hx hb dM_stepSupplier_178 rfl (fun h9 => absurd h9 (by decide)) (fun _ => ?_)
  refine lv_iload_n hx hb dM_stepSupplier_181 rfl (lv_at hl 6 rfl) ?_
  refine lv_bipush (v := 12) hx hb dM_stepSupplier_182 (by decide) ?_
  refine lv_icmp_ne (tgt := 268) hx hb dM_stepSupplier_184 rfl (fun _ => ?_) (fun h9 => absurd h9 (by decide))
  refine lv_iload_n hx hb dM_stepSupplier_268 rfl (lv_at hl 6 rfl) ?_
  refine lv_bipush (v := 13) hx hb dM_stepSupplier_269 (by decide) ?_
  refine lv_icmp_ne (tgt := 330) hx hb dM_stepSupplier_271 rfl (fun h9 => absurd (by decide) h9) (fun _ => ?_)
  refine lv_aload_n hx hb dM_stepSupplier_274 rfl (lv_at hl 3 rfl) ?_
  refine ew_get (v := .int (A 0 0 1)) hx hb hts hown hK hV fM_166 hi0 (cR_0 _ _ _) rfl dM_stepSupplier_275 ?_
  refine lv_bipush (v := 7) hx hb dM_stepSupplier_278 (by decide) ?_
  refine lv_iadd hx hb dM_stepSupplier_280 ?_
  refine lv_aload_n hx hb dM_stepSupplier_281 rfl (lv_at hl 3 rfl) ?_
  refine ew_get (v := .ref (X 24 0)) hx hb hts hown hK hV fM_65 hi0 (cR_0 _ _ _) rfl dM_stepSupplier_282 ?_
  refine lv_iload hx hb dM_stepSupplier_285 (lv_at hl 2 rfl) ?_
  refine ew_iald (v := A 24 0 ((6 * ln) + b)) hx hb hK hV (hE 24 (by decide)) (cR_24 _ _ _) 0 rfl (vp_in_nI (by omega) (by decide)) (er_ix (by omega) rfl) dM_stepSupplier_287 ?_
  refine lv_icmp_ge (tgt := 305) hx hb dM_stepSupplier_288 rfl (fun h1 => ?_) (fun h1 => ?_)
  · refine lv_aload_n hx hb dM_stepSupplier_305 rfl (lv_at hl 3 rfl) ?_
    refine ew_get (v := .ref (X 23 0)) hx hb hts hown hK hV fM_62 hi0 (cR_0 _ _ _) rfl dM_stepSupplier_306 ?_
    refine lv_iload hx hb dM_stepSupplier_309 (lv_at hl 2 rfl) ?_
    refine lv_bipush (v := 7) hx hb dM_stepSupplier_311 (by decide) ?_
    refine ew_iast hx hb hK hV hS (hE 23 (by decide)) (cR_23 _ _ _) 0 rfl (vp_in_nI (by omega) (by decide)) ((6 * ln) + b) (nI_clamp (by omega)) (qR_23 _ _ _ _ _) dM_stepSupplier_313 (fun H locs hV hS => ?_)
    refine lv_bipush (v := 11) hx hb dM_stepSupplier_314 (by decide) ?_
    refine lv_istore (lv' := [(6, .int 11), (7, .int 0), (5, .int (nI ((6 * ln) + b))), (0, .ref (X 0 0)), (1, .int (nI ln)), (2, .int (nI b)), (3, .int 13), (4, .int cc)]) hx hb dM_stepSupplier_316 hl (by decide) rfl (fun ls hl => ?_)
    refine lv_aload_n hx hb dM_stepSupplier_318 rfl (lv_at hl 3 rfl) ?_
    refine ew_get (v := .ref (X 24 0)) hx hb hts hown hK hV fM_65 hi0 (cR_0 _ _ _) rfl dM_stepSupplier_319 ?_
    refine lv_iload hx hb dM_stepSupplier_322 (lv_at hl 2 rfl) ?_
    refine ew_iald (v := A 24 0 ((6 * ln) + b)) hx hb hK hV (hE 24 (by decide)) (cR_24 _ _ _) 0 rfl (vp_in_nI (by omega) (by decide)) (er_ix (by omega) rfl) dM_stepSupplier_324 ?_
    refine lv_istore (lv' := [(7, .int (A 24 0 ((6 * ln) + b))), (6, .int 11), (5, .int (nI ((6 * ln) + b))), (0, .ref (X 0 0)), (1, .int (nI ln)), (2, .int (nI b)), (3, .int 13), (4, .int cc)]) hx hb dM_stepSupplier_325 hl (by decide) rfl (fun ls hl => ?_)
    refine lv_goto (tgt := 446) hx hb dM_stepSupplier_327 rfl ?_
    refine lv_aload_n hx hb dM_stepSupplier_446 rfl (lv_at hl 3 rfl) ?_
    refine lv_iconst (v := 2) hx hb dM_stepSupplier_447 (by decide) ?_
    refine lv_iload hx hb dM_stepSupplier_448 (lv_at hl 2 rfl) ?_
    refine lv_imul hx hb dM_stepSupplier_450 ?_
    refine lv_toe (y := nI (2 * ((6 * ln) + b))) (pk_mul 2 ((6 * ln) + b)) ?_
    refine lv_iconst (v := 1) hx hb dM_stepSupplier_451 (by decide) ?_
    refine lv_iadd hx hb dM_stepSupplier_452 ?_
    refine lv_toe (y := nI ((2 * ((6 * ln) + b)) + 1)) (nI_add (2 * ((6 * ln) + b)) 1) ?_
    refine lv_iload hx hb dM_stepSupplier_453 (lv_at hl 1 rfl) ?_
    refine lv_iload hx hb dM_stepSupplier_455 (lv_at hl 0 rfl) ?_
    refine er_callv (va_runV (As := [.int (nI ((2 * ((6 * ln) + b)) + 1)), .int 11, .int (A 24 0 ((6 * ln) + b))]) (rest := []) ⟨hx, hb, hml, hown, hts⟩ (r_write l D T X L tg _ hE (up3 A 23 0 ((6 * ln) + b) 7) ((2 * ((6 * ln) + b)) + 1) 11 (A 24 0 ((6 * ln) + b)) w lg (by omega) hw hq hlg hg) (cwV 3 hts gM_138 rfl rfl rfl (by decide +kernel) ⟨Nat.le_of_ble_eq_true rfl, Nat.le_of_ble_eq_true rfl⟩) (er_preV hK hV hi0 (cR_0 _ _ _) rfl) rfl rfl hl.1 rfl (lv_room (Nat.le_of_ble_eq_true rfl)) dM_stepSupplier_457 ⟨Nat.le_of_ble_eq_true rfl, Nat.le_of_ble_eq_true rfl⟩) hV hS hA (fun u2 H locs eu2 hV hS => ?_)
    have eu2 : u2 = s_write (up3 A 23 0 ((6 * ln) + b) 7) ((2 * ((6 * ln) + b)) + 1) 11 (A 24 0 ((6 * ln) + b)) w lg := eu2
    subst eu2
    exact er_vret hx hb hr hlocks hV hS dM_stepSupplier_460 (Eq.symm (by unfold s_stepSupplier_13; simp only [if_pos h1]))
  · refine lv_aload_n hx hb dM_stepSupplier_291 rfl (lv_at hl 3 rfl) ?_
    refine ew_get (v := .ref (X 24 0)) hx hb hts hown hK hV fM_65 hi0 (cR_0 _ _ _) rfl dM_stepSupplier_292 ?_
    refine lv_iload hx hb dM_stepSupplier_295 (lv_at hl 2 rfl) ?_
    refine lv_aload_n hx hb dM_stepSupplier_297 rfl (lv_at hl 3 rfl) ?_
    refine ew_get (v := .int (A 0 0 1)) hx hb hts hown hK hV fM_166 hi0 (cR_0 _ _ _) rfl dM_stepSupplier_298 ?_
    refine lv_bipush (v := 7) hx hb dM_stepSupplier_301 (by decide) ?_
    refine lv_iadd hx hb dM_stepSupplier_303 ?_
    refine ew_iast hx hb hK hV hS (hE 24 (by decide)) (cR_24 _ _ _) 0 rfl (vp_in_nI (by omega) (by decide)) ((6 * ln) + b) (nI_clamp (by omega)) (qR_24 _ _ _ _ _) dM_stepSupplier_304 (fun H locs hV hS => ?_)
    refine lv_aload_n hx hb dM_stepSupplier_305 rfl (lv_at hl 3 rfl) ?_
    refine ew_get (v := .ref (X 23 0)) hx hb hts hown hK hV fM_62 hi0 (cR_0 _ _ _) rfl dM_stepSupplier_306 ?_
    refine lv_iload hx hb dM_stepSupplier_309 (lv_at hl 2 rfl) ?_
    refine lv_bipush (v := 7) hx hb dM_stepSupplier_311 (by decide) ?_
    refine ew_iast hx hb hK hV hS (hE 23 (by decide)) (cR_23 _ _ _) 0 rfl (vp_in_nI (by omega) (by decide)) ((6 * ln) + b) (nI_clamp (by omega)) (qR_23 _ _ _ _ _) dM_stepSupplier_313 (fun H locs hV hS => ?_)
    refine lv_bipush (v := 11) hx hb dM_stepSupplier_314 (by decide) ?_
    refine lv_istore (lv' := [(6, .int 11), (7, .int 0), (5, .int (nI ((6 * ln) + b))), (0, .ref (X 0 0)), (1, .int (nI ln)), (2, .int (nI b)), (3, .int 13), (4, .int cc)]) hx hb dM_stepSupplier_316 hl (by decide) rfl (fun ls hl => ?_)
    refine lv_aload_n hx hb dM_stepSupplier_318 rfl (lv_at hl 3 rfl) ?_
    refine ew_get (v := .ref (X 24 0)) hx hb hts hown hK hV fM_65 hi0 (cR_0 _ _ _) rfl dM_stepSupplier_319 ?_
    refine lv_iload hx hb dM_stepSupplier_322 (lv_at hl 2 rfl) ?_
    refine ew_iald (v := (A 0 0 1) + 7) hx hb hK hV (hE 24 (by decide)) (cR_24 _ _ _) 0 rfl (vp_in_nI (by omega) (by decide)) (er_ix (by omega) (by simp [up3, va_up])) dM_stepSupplier_324 ?_
    refine lv_istore (lv' := [(7, .int ((A 0 0 1) + 7)), (6, .int 11), (5, .int (nI ((6 * ln) + b))), (0, .ref (X 0 0)), (1, .int (nI ln)), (2, .int (nI b)), (3, .int 13), (4, .int cc)]) hx hb dM_stepSupplier_325 hl (by decide) rfl (fun ls hl => ?_)
    refine lv_goto (tgt := 446) hx hb dM_stepSupplier_327 rfl ?_
    refine lv_aload_n hx hb dM_stepSupplier_446 rfl (lv_at hl 3 rfl) ?_
    refine lv_iconst (v := 2) hx hb dM_stepSupplier_447 (by decide) ?_
    refine lv_iload hx hb dM_stepSupplier_448 (lv_at hl 2 rfl) ?_
    refine lv_imul hx hb dM_stepSupplier_450 ?_
    refine lv_toe (y := nI (2 * ((6 * ln) + b))) (pk_mul 2 ((6 * ln) + b)) ?_
    refine lv_iconst (v := 1) hx hb dM_stepSupplier_451 (by decide) ?_
    refine lv_iadd hx hb dM_stepSupplier_452 ?_
    refine lv_toe (y := nI ((2 * ((6 * ln) + b)) + 1)) (nI_add (2 * ((6 * ln) + b)) 1) ?_
    refine lv_iload hx hb dM_stepSupplier_453 (lv_at hl 1 rfl) ?_
    refine lv_iload hx hb dM_stepSupplier_455 (lv_at hl 0 rfl) ?_
    refine er_callv (va_runV (As := [.int (nI ((2 * ((6 * ln) + b)) + 1)), .int 11, .int ((A 0 0 1) + 7)]) (rest := []) ⟨hx, hb, hml, hown, hts⟩ (r_write l D T X L tg _ hE (up3 (up3 A 24 0 ((6 * ln) + b) ((A 0 0 1) + 7)) 23 0 ((6 * ln) + b) 7) ((2 * ((6 * ln) + b)) + 1) 11 ((A 0 0 1) + 7) w lg (by omega) hw hq hlg hg) (cwV 3 hts gM_138 rfl rfl rfl (by decide +kernel) ⟨Nat.le_of_ble_eq_true rfl, Nat.le_of_ble_eq_true rfl⟩) (er_preV hK hV hi0 (cR_0 _ _ _) rfl) rfl rfl hl.1 rfl (lv_room (Nat.le_of_ble_eq_true rfl)) dM_stepSupplier_457 ⟨Nat.le_of_ble_eq_true rfl, Nat.le_of_ble_eq_true rfl⟩) hV hS hA (fun u3 H locs eu3 hV hS => ?_)
    have eu3 : u3 = s_write (up3 (up3 A 24 0 ((6 * ln) + b) ((A 0 0 1) + 7)) 23 0 ((6 * ln) + b) 7) ((2 * ((6 * ln) + b)) + 1) 11 ((A 0 0 1) + 7) w lg := eu3
    subst eu3
    exact er_vret hx hb hr hlocks hV hS dM_stepSupplier_460 (Eq.symm (by unfold s_stepSupplier_13; simp only [if_neg h1]))

def s_stepSupplier_14 (A : ew_R) (ln : Nat) (b : Nat) (cc : Int32) (cp : Nat) (w : Nat) (lg : Nat) : ew_R :=
  if A 0 0 1 ≤ A 24 0 ((6 * ln) + b) then
    (s_write (up3 (s_letGo (up3 (up3 (up3 A 26 0 ((6 * ln) + b) ((A 25 0 ((6 * ln) + b)) + 0)) 6 0 b ((A 6 0 b) + ((A 25 0 ((6 * ln) + b)) + 0))) 9 0 cp (A 8 0 cp)) ((6 * ln) + b)) 23 0 ((6 * ln) + b) 9) ((2 * ((6 * ln) + b)) + 1) 13 ((s_letGo (up3 (up3 (up3 A 26 0 ((6 * ln) + b) ((A 25 0 ((6 * ln) + b)) + 0)) 6 0 b ((A 6 0 b) + ((A 25 0 ((6 * ln) + b)) + 0))) 9 0 cp (A 8 0 cp)) ((6 * ln) + b)) 26 0 ((6 * ln) + b)) w lg)
  else
    (s_write (up3 (s_letGo (up3 (up3 (up3 A 26 0 ((6 * ln) + b) ((A 25 0 ((6 * ln) + b)) + (10 * ((A 0 0 1) - (A 24 0 ((6 * ln) + b)))))) 6 0 b ((A 6 0 b) + ((A 25 0 ((6 * ln) + b)) + (10 * ((A 0 0 1) - (A 24 0 ((6 * ln) + b))))))) 9 0 cp (A 8 0 cp)) ((6 * ln) + b)) 23 0 ((6 * ln) + b) 9) ((2 * ((6 * ln) + b)) + 1) 13 ((s_letGo (up3 (up3 (up3 A 26 0 ((6 * ln) + b) ((A 25 0 ((6 * ln) + b)) + (10 * ((A 0 0 1) - (A 24 0 ((6 * ln) + b)))))) 6 0 b ((A 6 0 b) + ((A 25 0 ((6 * ln) + b)) + (10 * ((A 0 0 1) - (A 24 0 ((6 * ln) + b))))))) 9 0 cp (A 8 0 cp)) ((6 * ln) + b)) 26 0 ((6 * ln) + b)) w lg)
set_option maxHeartbeats 4000000 in
set_option maxRecDepth 100000 in
theorem r_stepSupplier_14 (l : Launch) (D : va_G) (T : Nat → ClassId) (X : Nat → Nat → Nat) (L : List Nat) (tg : Nat → Nat × Nat) (sz : Nat) (hE : eR_E X L tg) (A : ew_R) (ln : Nat) (b : Nat) (cc : Int32) (cp : Nat) (w : Nat) (lg : Nat) (hln : ln < 32) (hb6 : b < 6) (hcp : cp < 32) (q28 : A 28 0 (6 * ln + b) = nI cp) (hw : w ≤ 64) (hq : A 0 0 4 = nI w) (hlg : lg < 3000) (hg : A 0 0 5 = nI lg) : Met l yM_stepSupplier wsM_stepSupplier ({ frames := 3, cells := 0, slots := 0, locals := 67 }) (er_Pc D vwCl (tysA T) (cfR T) X L tg A sz [.ref (X 0 0), .int (nI ln), .int (nI b), .int 14, .int cc]) (er_Qv D vwCl (cfR T) X L tg sz (fun u => u = s_stepSupplier_14 A ln b cc cp w lg)) 0 0 (ew_A L sz) := by
  refine er_met (by decide) rfl (Nat.le_of_ble_eq_true rfl) ?_
  intro p e s m below meth c ls hx hb hr hts hown hlocks hml hV hK hS hA hl hsz
  subst hsz
  have hi0 := hE 0 (by decide)
  have hl : lv_has ls 8 [(0, .ref (X 0 0)), (1, .int (nI ln)), (2, .int (nI b)), (3, .int 14), (4, .int cc)] := hl
  refine lv_bipush (v := 6) hx hb dM_stepSupplier_0 (by decide) ?_
  refine lv_iload_n hx hb dM_stepSupplier_2 rfl (lv_at hl 1 rfl) ?_
  refine lv_imul hx hb dM_stepSupplier_3 ?_
  refine lv_toe (y := nI (6 * ln)) (pk_mul 6 ln) ?_
  refine lv_iload_n hx hb dM_stepSupplier_4 rfl (lv_at hl 2 rfl) ?_
  refine lv_iadd hx hb dM_stepSupplier_5 ?_
  refine lv_toe (y := nI ((6 * ln) + b)) (nI_add (6 * ln) b) ?_
  refine lv_istore (lv' := [(5, .int (nI ((6 * ln) + b))), (0, .ref (X 0 0)), (1, .int (nI ln)), (2, .int (nI b)), (3, .int 14), (4, .int cc)]) hx hb dM_stepSupplier_6 hl (by decide) rfl (fun ls hl => ?_)
  refine lv_iconst (v := 0) hx hb dM_stepSupplier_8 (by decide) ?_
  refine lv_istore (lv' := [(6, .int 0), (5, .int (nI ((6 * ln) + b))), (0, .ref (X 0 0)), (1, .int (nI ln)), (2, .int (nI b)), (3, .int 14), (4, .int cc)]) hx hb dM_stepSupplier_9 hl (by decide) rfl (fun ls hl => ?_)
  refine lv_iconst (v := 0) hx hb dM_stepSupplier_11 (by decide) ?_
  refine lv_istore (lv' := [(7, .int 0), (6, .int 0), (5, .int (nI ((6 * ln) + b))), (0, .ref (X 0 0)), (1, .int (nI ln)), (2, .int (nI b)), (3, .int 14), (4, .int cc)]) hx hb dM_stepSupplier_12 hl (by decide) rfl (fun ls hl => ?_)
  refine lv_iload_n hx hb dM_stepSupplier_14 rfl (lv_at hl 6 rfl) ?_
  refine lv_bipush (v := 7) hx hb dM_stepSupplier_15 (by decide) ?_
  refine lv_icmp_ne (tgt := 59) hx hb dM_stepSupplier_17 rfl (fun _ => ?_) (fun h9 => absurd h9 (by decide))
  refine lv_iload_n hx hb dM_stepSupplier_59 rfl (lv_at hl 6 rfl) ?_
  refine lv_bipush (v := 8) hx hb dM_stepSupplier_60 (by decide) ?_
  refine lv_icmp_ne (tgt := 92) hx hb dM_stepSupplier_62 rfl (fun _ => ?_) (fun h9 => absurd h9 (by decide))
  refine lv_iload_n hx hb dM_stepSupplier_92 rfl (lv_at hl 6 rfl) ?_
  refine lv_bipush (v := 9) hx hb dM_stepSupplier_93 (by decide) ?_
  refine lv_icmp_ne (tgt := 113) hx hb dM_stepSupplier_95 rfl (fun _ => ?_) (fun h9 => absurd h9 (by decide))
  refine lv_iload_n hx hb dM_stepSupplier_113 rfl (lv_at hl 6 rfl) ?_
  refine lv_bipush (v := 10) hx hb dM_stepSupplier_114 (by decide) ?_
  refine lv_icmp_ne (tgt := 175) hx hb dM_stepSupplier_116 rfl (fun _ => ?_) (fun h9 => absurd h9 (by decide))
  refine lv_iload_n hx hb dM_stepSupplier_175 rfl (lv_at hl 6 rfl) ?_
  refine lv_bipush (v := 11) hx hb dM_stepSupplier_176 (by decide) ?_
  refine lv_icmp_eq (tgt := 187) hx hb dM_stepSupplier_178 rfl (fun h9 => absurd h9 (by decide)) (fun _ => ?_)
  refine lv_iload_n hx hb dM_stepSupplier_181 rfl (lv_at hl 6 rfl) ?_
  refine lv_bipush (v := 12) hx hb dM_stepSupplier_182 (by decide) ?_
  refine lv_icmp_ne (tgt := 268) hx hb dM_stepSupplier_184 rfl (fun _ => ?_) (fun h9 => absurd h9 (by decide))
  refine lv_iload_n hx hb dM_stepSupplier_268 rfl (lv_at hl 6 rfl) ?_
  refine lv_bipush (v := 13) hx hb dM_stepSupplier_269 (by decide) ?_
  refine lv_icmp_ne (tgt := 330) hx hb dM_stepSupplier_271 rfl (fun _ => ?_) (fun h9 => absurd h9 (by decide))
  refine lv_aload_n hx hb dM_stepSupplier_330 rfl (lv_at hl 3 rfl) ?_
  refine ew_get (v := .ref (X 26 0)) hx hb hts hown hK hV fM_71 hi0 (cR_0 _ _ _) rfl dM_stepSupplier_331 ?_
  refine lv_iload hx hb dM_stepSupplier_334 (lv_at hl 2 rfl) ?_
  refine lv_aload_n hx hb dM_stepSupplier_336 rfl (lv_at hl 3 rfl) ?_
  refine ew_get (v := .ref (X 25 0)) hx hb hts hown hK hV fM_68 hi0 (cR_0 _ _ _) rfl dM_stepSupplier_337 ?_
  refine lv_iload hx hb dM_stepSupplier_340 (lv_at hl 2 rfl) ?_
  refine ew_iald (v := A 25 0 ((6 * ln) + b)) hx hb hK hV (hE 25 (by decide)) (cR_25 _ _ _) 0 rfl (vp_in_nI (by omega) (by decide)) (er_ix (by omega) rfl) dM_stepSupplier_342 ?_
  refine lv_aload_n hx hb dM_stepSupplier_343 rfl (lv_at hl 3 rfl) ?_
  refine ew_get (v := .int (A 0 0 1)) hx hb hts hown hK hV fM_166 hi0 (cR_0 _ _ _) rfl dM_stepSupplier_344 ?_
  refine lv_aload_n hx hb dM_stepSupplier_347 rfl (lv_at hl 3 rfl) ?_
  refine ew_get (v := .ref (X 24 0)) hx hb hts hown hK hV fM_65 hi0 (cR_0 _ _ _) rfl dM_stepSupplier_348 ?_
  refine lv_iload hx hb dM_stepSupplier_351 (lv_at hl 2 rfl) ?_
  refine ew_iald (v := A 24 0 ((6 * ln) + b)) hx hb hK hV (hE 24 (by decide)) (cR_24 _ _ _) 0 rfl (vp_in_nI (by omega) (by decide)) (er_ix (by omega) rfl) dM_stepSupplier_353 ?_
  refine lv_icmp_le (tgt := 375) hx hb dM_stepSupplier_354 rfl (fun h1 => ?_) (fun h1 => ?_)
  · refine lv_iconst (v := 0) hx hb dM_stepSupplier_375 (by decide) ?_
    refine lv_iadd hx hb dM_stepSupplier_376 ?_
    refine ew_iast hx hb hK hV hS (hE 26 (by decide)) (cR_26 _ _ _) 0 rfl (vp_in_nI (by omega) (by decide)) ((6 * ln) + b) (nI_clamp (by omega)) (qR_26 _ _ _ _ _) dM_stepSupplier_377 (fun H locs hV hS => ?_)
    refine lv_aload_n hx hb dM_stepSupplier_378 rfl (lv_at hl 3 rfl) ?_
    refine ew_get (v := .ref (X 6 0)) hx hb hts hown hK hV fM_7 hi0 (cR_0 _ _ _) rfl dM_stepSupplier_379 ?_
    refine lv_iload_n hx hb dM_stepSupplier_382 rfl (lv_at hl 5 rfl) ?_
    refine lv_dup2_11 hx hb dM_stepSupplier_383 rfl rfl ?_
    refine ew_iald (v := A 6 0 b) hx hb hK hV (hE 6 (by decide)) (cR_6 _ _ _) 0 rfl (vp_in_nI (by omega) (by decide)) (er_ix (by omega) rfl) dM_stepSupplier_384 ?_
    refine lv_aload_n hx hb dM_stepSupplier_385 rfl (lv_at hl 3 rfl) ?_
    refine ew_get (v := .ref (X 26 0)) hx hb hts hown hK hV fM_71 hi0 (cR_0 _ _ _) rfl dM_stepSupplier_386 ?_
    refine lv_iload hx hb dM_stepSupplier_389 (lv_at hl 2 rfl) ?_
    refine ew_iald (v := (A 25 0 ((6 * ln) + b)) + 0) hx hb hK hV (hE 26 (by decide)) (cR_26 _ _ _) 0 rfl (vp_in_nI (by omega) (by decide)) (er_ix (by omega) (by simp [up3, va_up])) dM_stepSupplier_391 ?_
    refine lv_iadd hx hb dM_stepSupplier_392 ?_
    refine ew_iast hx hb hK hV hS (hE 6 (by decide)) (cR_6 _ _ _) 0 rfl (vp_in_nI (by omega) (by decide)) b (nI_clamp (by omega)) (qR_6 _ _ _ _ _) dM_stepSupplier_393 (fun H locs hV hS => ?_)
    refine lv_aload_n hx hb dM_stepSupplier_394 rfl (lv_at hl 3 rfl) ?_
    refine ew_get (v := .ref (X 9 0)) hx hb hts hown hK hV fM_19 hi0 (cR_0 _ _ _) rfl dM_stepSupplier_395 ?_
    refine lv_aload_n hx hb dM_stepSupplier_398 rfl (lv_at hl 3 rfl) ?_
    refine ew_get (v := .ref (X 28 0)) hx hb hts hown hK hV fM_77 hi0 (cR_0 _ _ _) rfl dM_stepSupplier_399 ?_
    refine lv_iload hx hb dM_stepSupplier_402 (lv_at hl 2 rfl) ?_
    refine ew_iald (v := A 28 0 ((6 * ln) + b)) hx hb hK hV (hE 28 (by decide)) (cR_28 _ _ _) 0 rfl (vp_in_nI (by omega) (by decide)) (er_ix (by omega) rfl) dM_stepSupplier_404 ?_
    refine lv_toe (y := nI cp) q28 ?_
    refine lv_aload_n hx hb dM_stepSupplier_405 rfl (lv_at hl 3 rfl) ?_
    refine ew_get (v := .ref (X 8 0)) hx hb hts hown hK hV fM_16 hi0 (cR_0 _ _ _) rfl dM_stepSupplier_406 ?_
    refine lv_aload_n hx hb dM_stepSupplier_409 rfl (lv_at hl 3 rfl) ?_
    refine ew_get (v := .ref (X 28 0)) hx hb hts hown hK hV fM_77 hi0 (cR_0 _ _ _) rfl dM_stepSupplier_410 ?_
    refine lv_iload hx hb dM_stepSupplier_413 (lv_at hl 2 rfl) ?_
    refine ew_iald (v := A 28 0 ((6 * ln) + b)) hx hb hK hV (hE 28 (by decide)) (cR_28 _ _ _) 0 rfl (vp_in_nI (by omega) (by decide)) (er_ix (by omega) rfl) dM_stepSupplier_415 ?_
    refine lv_toe (y := nI cp) q28 ?_
    refine ew_iald (v := A 8 0 cp) hx hb hK hV (hE 8 (by decide)) (cR_8 _ _ _) 0 rfl (vp_in_nI (by omega) (by decide)) (er_ix (by omega) rfl) dM_stepSupplier_416 ?_
    refine ew_iast hx hb hK hV hS (hE 9 (by decide)) (cR_9 _ _ _) 0 rfl (vp_in_nI (by omega) (by decide)) cp (nI_clamp (by omega)) (qR_9 _ _ _ _ _) dM_stepSupplier_417 (fun H locs hV hS => ?_)
    refine lv_aload_n hx hb dM_stepSupplier_418 rfl (lv_at hl 3 rfl) ?_
    refine lv_iload hx hb dM_stepSupplier_419 (lv_at hl 2 rfl) ?_
    refine er_callv (va_runV (As := [.int (nI ((6 * ln) + b))]) (rest := []) ⟨hx, hb, hml, hown, hts⟩ (r_letGo l D T X L tg _ hE (up3 (up3 (up3 A 26 0 ((6 * ln) + b) ((A 25 0 ((6 * ln) + b)) + 0)) 6 0 b ((A 6 0 b) + ((A 25 0 ((6 * ln) + b)) + 0))) 9 0 cp (A 8 0 cp)) ((6 * ln) + b) (by omega) (Or.inr (by show vp_in (A 28 0 (6 * ln + b)) 32; rw [q28]; exact vp_in_nI hcp (by decide)))) (cwV 1 hts gM_169 rfl rfl rfl (by decide +kernel) ⟨Nat.le_of_ble_eq_true rfl, Nat.le_of_ble_eq_true rfl⟩) (er_preV hK hV hi0 (cR_0 _ _ _) rfl) rfl rfl hl.1 rfl (lv_room (Nat.le_of_ble_eq_true rfl)) dM_stepSupplier_421 ⟨Nat.le_of_ble_eq_true rfl, Nat.le_of_ble_eq_true rfl⟩) hV hS hA (fun u2 H locs eu2 hV hS => ?_)
    have eu2 : u2 = s_letGo (up3 (up3 (up3 A 26 0 ((6 * ln) + b) ((A 25 0 ((6 * ln) + b)) + 0)) 6 0 b ((A 6 0 b) + ((A 25 0 ((6 * ln) + b)) + 0))) 9 0 cp (A 8 0 cp)) ((6 * ln) + b) := eu2
    refine lv_aload_n hx hb dM_stepSupplier_424 rfl (lv_at hl 3 rfl) ?_
    refine ew_get (v := .ref (X 23 0)) hx hb hts hown hK hV fM_62 hi0 (cR_0 _ _ _) rfl dM_stepSupplier_425 ?_
    refine lv_iload hx hb dM_stepSupplier_428 (lv_at hl 2 rfl) ?_
    refine lv_bipush (v := 9) hx hb dM_stepSupplier_430 (by decide) ?_
    refine ew_iast hx hb hK hV hS (hE 23 (by decide)) (cR_23 _ _ _) 0 rfl (vp_in_nI (by omega) (by decide)) ((6 * ln) + b) (nI_clamp (by omega)) (qR_23 _ _ _ _ _) dM_stepSupplier_432 (fun H locs hV hS => ?_)
    refine lv_bipush (v := 13) hx hb dM_stepSupplier_433 (by decide) ?_
    refine lv_istore (lv' := [(6, .int 13), (7, .int 0), (5, .int (nI ((6 * ln) + b))), (0, .ref (X 0 0)), (1, .int (nI ln)), (2, .int (nI b)), (3, .int 14), (4, .int cc)]) hx hb dM_stepSupplier_435 hl (by decide) rfl (fun ls hl => ?_)
    refine lv_aload_n hx hb dM_stepSupplier_437 rfl (lv_at hl 3 rfl) ?_
    refine ew_get (v := .ref (X 26 0)) hx hb hts hown hK hV fM_71 hi0 (cR_0 _ _ _) rfl dM_stepSupplier_438 ?_
    refine lv_iload hx hb dM_stepSupplier_441 (lv_at hl 2 rfl) ?_
    refine ew_iald (v := u2 26 0 ((6 * ln) + b)) hx hb hK hV (hE 26 (by decide)) (cR_26 _ _ _) 0 rfl (vp_in_nI (by omega) (by decide)) (er_ix (by omega) rfl) dM_stepSupplier_443 ?_
    refine lv_istore (lv' := [(7, .int (u2 26 0 ((6 * ln) + b))), (6, .int 13), (5, .int (nI ((6 * ln) + b))), (0, .ref (X 0 0)), (1, .int (nI ln)), (2, .int (nI b)), (3, .int 14), (4, .int cc)]) hx hb dM_stepSupplier_444 hl (by decide) rfl (fun ls hl => ?_)
    refine lv_aload_n hx hb dM_stepSupplier_446 rfl (lv_at hl 3 rfl) ?_
    refine lv_iconst (v := 2) hx hb dM_stepSupplier_447 (by decide) ?_
    refine lv_iload hx hb dM_stepSupplier_448 (lv_at hl 2 rfl) ?_
    refine lv_imul hx hb dM_stepSupplier_450 ?_
    refine lv_toe (y := nI (2 * ((6 * ln) + b))) (pk_mul 2 ((6 * ln) + b)) ?_
    refine lv_iconst (v := 1) hx hb dM_stepSupplier_451 (by decide) ?_
    refine lv_iadd hx hb dM_stepSupplier_452 ?_
    refine lv_toe (y := nI ((2 * ((6 * ln) + b)) + 1)) (nI_add (2 * ((6 * ln) + b)) 1) ?_
    refine lv_iload hx hb dM_stepSupplier_453 (lv_at hl 1 rfl) ?_
    refine lv_iload hx hb dM_stepSupplier_455 (lv_at hl 0 rfl) ?_
    refine er_callv (va_runV (As := [.int (nI ((2 * ((6 * ln) + b)) + 1)), .int 13, .int (u2 26 0 ((6 * ln) + b))]) (rest := []) ⟨hx, hb, hml, hown, hts⟩ (r_write l D T X L tg _ hE (up3 u2 23 0 ((6 * ln) + b) 9) ((2 * ((6 * ln) + b)) + 1) 13 (u2 26 0 ((6 * ln) + b)) w lg (by omega) hw (by first | (rw [eu2]; exact ((s_letGo_lt _ _ (by decide) (by decide) _ _).trans hq)) | exact ((s_letGo_lt _ _ (by decide) (by decide) _ _).trans hq)) hlg (by first | (rw [eu2]; exact ((s_letGo_lt _ _ (by decide) (by decide) _ _).trans hg)) | exact ((s_letGo_lt _ _ (by decide) (by decide) _ _).trans hg))) (cwV 3 hts gM_138 rfl rfl rfl (by decide +kernel) ⟨Nat.le_of_ble_eq_true rfl, Nat.le_of_ble_eq_true rfl⟩) (er_preV hK hV hi0 (cR_0 _ _ _) rfl) rfl rfl hl.1 rfl (lv_room (Nat.le_of_ble_eq_true rfl)) dM_stepSupplier_457 ⟨Nat.le_of_ble_eq_true rfl, Nat.le_of_ble_eq_true rfl⟩) hV hS hA (fun u3 H locs eu3 hV hS => ?_)
    have eu3 : u3 = s_write (up3 u2 23 0 ((6 * ln) + b) 9) ((2 * ((6 * ln) + b)) + 1) 13 (u2 26 0 ((6 * ln) + b)) w lg := eu3
    subst eu3
    subst eu2
    exact er_vret hx hb hr hlocks hV hS dM_stepSupplier_460 (Eq.symm (by unfold s_stepSupplier_14; simp only [if_pos h1]))
  · refine lv_bipush (v := 10) hx hb dM_stepSupplier_357 (by decide) ?_
    refine lv_aload_n hx hb dM_stepSupplier_359 rfl (lv_at hl 3 rfl) ?_
    refine ew_get (v := .int (A 0 0 1)) hx hb hts hown hK hV fM_166 hi0 (cR_0 _ _ _) rfl dM_stepSupplier_360 ?_
    refine lv_aload_n hx hb dM_stepSupplier_363 rfl (lv_at hl 3 rfl) ?_
    refine ew_get (v := .ref (X 24 0)) hx hb hts hown hK hV fM_65 hi0 (cR_0 _ _ _) rfl dM_stepSupplier_364 ?_
    refine lv_iload hx hb dM_stepSupplier_367 (lv_at hl 2 rfl) ?_
    refine ew_iald (v := A 24 0 ((6 * ln) + b)) hx hb hK hV (hE 24 (by decide)) (cR_24 _ _ _) 0 rfl (vp_in_nI (by omega) (by decide)) (er_ix (by omega) rfl) dM_stepSupplier_369 ?_
    refine lv_isub hx hb dM_stepSupplier_370 ?_
    refine lv_imul hx hb dM_stepSupplier_371 ?_
    refine lv_goto (tgt := 376) hx hb dM_stepSupplier_372 rfl ?_
    refine lv_iadd hx hb dM_stepSupplier_376 ?_
    refine ew_iast hx hb hK hV hS (hE 26 (by decide)) (cR_26 _ _ _) 0 rfl (vp_in_nI (by omega) (by decide)) ((6 * ln) + b) (nI_clamp (by omega)) (qR_26 _ _ _ _ _) dM_stepSupplier_377 (fun H locs hV hS => ?_)
    refine lv_aload_n hx hb dM_stepSupplier_378 rfl (lv_at hl 3 rfl) ?_
    refine ew_get (v := .ref (X 6 0)) hx hb hts hown hK hV fM_7 hi0 (cR_0 _ _ _) rfl dM_stepSupplier_379 ?_
    refine lv_iload_n hx hb dM_stepSupplier_382 rfl (lv_at hl 5 rfl) ?_
    refine lv_dup2_11 hx hb dM_stepSupplier_383 rfl rfl ?_
    refine ew_iald (v := A 6 0 b) hx hb hK hV (hE 6 (by decide)) (cR_6 _ _ _) 0 rfl (vp_in_nI (by omega) (by decide)) (er_ix (by omega) rfl) dM_stepSupplier_384 ?_
    refine lv_aload_n hx hb dM_stepSupplier_385 rfl (lv_at hl 3 rfl) ?_
    refine ew_get (v := .ref (X 26 0)) hx hb hts hown hK hV fM_71 hi0 (cR_0 _ _ _) rfl dM_stepSupplier_386 ?_
    refine lv_iload hx hb dM_stepSupplier_389 (lv_at hl 2 rfl) ?_
    refine ew_iald (v := (A 25 0 ((6 * ln) + b)) + (10 * ((A 0 0 1) - (A 24 0 ((6 * ln) + b))))) hx hb hK hV (hE 26 (by decide)) (cR_26 _ _ _) 0 rfl (vp_in_nI (by omega) (by decide)) (er_ix (by omega) (by simp [up3, va_up])) dM_stepSupplier_391 ?_
    refine lv_iadd hx hb dM_stepSupplier_392 ?_
    refine ew_iast hx hb hK hV hS (hE 6 (by decide)) (cR_6 _ _ _) 0 rfl (vp_in_nI (by omega) (by decide)) b (nI_clamp (by omega)) (qR_6 _ _ _ _ _) dM_stepSupplier_393 (fun H locs hV hS => ?_)
    refine lv_aload_n hx hb dM_stepSupplier_394 rfl (lv_at hl 3 rfl) ?_
    refine ew_get (v := .ref (X 9 0)) hx hb hts hown hK hV fM_19 hi0 (cR_0 _ _ _) rfl dM_stepSupplier_395 ?_
    refine lv_aload_n hx hb dM_stepSupplier_398 rfl (lv_at hl 3 rfl) ?_
    refine ew_get (v := .ref (X 28 0)) hx hb hts hown hK hV fM_77 hi0 (cR_0 _ _ _) rfl dM_stepSupplier_399 ?_
    refine lv_iload hx hb dM_stepSupplier_402 (lv_at hl 2 rfl) ?_
    refine ew_iald (v := A 28 0 ((6 * ln) + b)) hx hb hK hV (hE 28 (by decide)) (cR_28 _ _ _) 0 rfl (vp_in_nI (by omega) (by decide)) (er_ix (by omega) rfl) dM_stepSupplier_404 ?_
    refine lv_toe (y := nI cp) q28 ?_
    refine lv_aload_n hx hb dM_stepSupplier_405 rfl (lv_at hl 3 rfl) ?_
    refine ew_get (v := .ref (X 8 0)) hx hb hts hown hK hV fM_16 hi0 (cR_0 _ _ _) rfl dM_stepSupplier_406 ?_
    refine lv_aload_n hx hb dM_stepSupplier_409 rfl (lv_at hl 3 rfl) ?_
    refine ew_get (v := .ref (X 28 0)) hx hb hts hown hK hV fM_77 hi0 (cR_0 _ _ _) rfl dM_stepSupplier_410 ?_
    refine lv_iload hx hb dM_stepSupplier_413 (lv_at hl 2 rfl) ?_
    refine ew_iald (v := A 28 0 ((6 * ln) + b)) hx hb hK hV (hE 28 (by decide)) (cR_28 _ _ _) 0 rfl (vp_in_nI (by omega) (by decide)) (er_ix (by omega) rfl) dM_stepSupplier_415 ?_
    refine lv_toe (y := nI cp) q28 ?_
    refine ew_iald (v := A 8 0 cp) hx hb hK hV (hE 8 (by decide)) (cR_8 _ _ _) 0 rfl (vp_in_nI (by omega) (by decide)) (er_ix (by omega) rfl) dM_stepSupplier_416 ?_
    refine ew_iast hx hb hK hV hS (hE 9 (by decide)) (cR_9 _ _ _) 0 rfl (vp_in_nI (by omega) (by decide)) cp (nI_clamp (by omega)) (qR_9 _ _ _ _ _) dM_stepSupplier_417 (fun H locs hV hS => ?_)
    refine lv_aload_n hx hb dM_stepSupplier_418 rfl (lv_at hl 3 rfl) ?_
    refine lv_iload hx hb dM_stepSupplier_419 (lv_at hl 2 rfl) ?_
    refine er_callv (va_runV (As := [.int (nI ((6 * ln) + b))]) (rest := []) ⟨hx, hb, hml, hown, hts⟩ (r_letGo l D T X L tg _ hE (up3 (up3 (up3 A 26 0 ((6 * ln) + b) ((A 25 0 ((6 * ln) + b)) + (10 * ((A 0 0 1) - (A 24 0 ((6 * ln) + b)))))) 6 0 b ((A 6 0 b) + ((A 25 0 ((6 * ln) + b)) + (10 * ((A 0 0 1) - (A 24 0 ((6 * ln) + b))))))) 9 0 cp (A 8 0 cp)) ((6 * ln) + b) (by omega) (Or.inr (by show vp_in (A 28 0 (6 * ln + b)) 32; rw [q28]; exact vp_in_nI hcp (by decide)))) (cwV 1 hts gM_169 rfl rfl rfl (by decide +kernel) ⟨Nat.le_of_ble_eq_true rfl, Nat.le_of_ble_eq_true rfl⟩) (er_preV hK hV hi0 (cR_0 _ _ _) rfl) rfl rfl hl.1 rfl (lv_room (Nat.le_of_ble_eq_true rfl)) dM_stepSupplier_421 ⟨Nat.le_of_ble_eq_true rfl, Nat.le_of_ble_eq_true rfl⟩) hV hS hA (fun u4 H locs eu4 hV hS => ?_)
    have eu4 : u4 = s_letGo (up3 (up3 (up3 A 26 0 ((6 * ln) + b) ((A 25 0 ((6 * ln) + b)) + (10 * ((A 0 0 1) - (A 24 0 ((6 * ln) + b)))))) 6 0 b ((A 6 0 b) + ((A 25 0 ((6 * ln) + b)) + (10 * ((A 0 0 1) - (A 24 0 ((6 * ln) + b))))))) 9 0 cp (A 8 0 cp)) ((6 * ln) + b) := eu4
    refine lv_aload_n hx hb dM_stepSupplier_424 rfl (lv_at hl 3 rfl) ?_
    refine ew_get (v := .ref (X 23 0)) hx hb hts hown hK hV fM_62 hi0 (cR_0 _ _ _) rfl dM_stepSupplier_425 ?_
    refine lv_iload hx hb dM_stepSupplier_428 (lv_at hl 2 rfl) ?_
    refine lv_bipush (v := 9) hx hb dM_stepSupplier_430 (by decide) ?_
    refine ew_iast hx hb hK hV hS (hE 23 (by decide)) (cR_23 _ _ _) 0 rfl (vp_in_nI (by omega) (by decide)) ((6 * ln) + b) (nI_clamp (by omega)) (qR_23 _ _ _ _ _) dM_stepSupplier_432 (fun H locs hV hS => ?_)
    refine lv_bipush (v := 13) hx hb dM_stepSupplier_433 (by decide) ?_
    refine lv_istore (lv' := [(6, .int 13), (7, .int 0), (5, .int (nI ((6 * ln) + b))), (0, .ref (X 0 0)), (1, .int (nI ln)), (2, .int (nI b)), (3, .int 14), (4, .int cc)]) hx hb dM_stepSupplier_435 hl (by decide) rfl (fun ls hl => ?_)
    refine lv_aload_n hx hb dM_stepSupplier_437 rfl (lv_at hl 3 rfl) ?_
    refine ew_get (v := .ref (X 26 0)) hx hb hts hown hK hV fM_71 hi0 (cR_0 _ _ _) rfl dM_stepSupplier_438 ?_
    refine lv_iload hx hb dM_stepSupplier_441 (lv_at hl 2 rfl) ?_
    refine ew_iald (v := u4 26 0 ((6 * ln) + b)) hx hb hK hV (hE 26 (by decide)) (cR_26 _ _ _) 0 rfl (vp_in_nI (by omega) (by decide)) (er_ix (by omega) rfl) dM_stepSupplier_443 ?_
    refine lv_istore (lv' := [(7, .int (u4 26 0 ((6 * ln) + b))), (6, .int 13), (5, .int (nI ((6 * ln) + b))), (0, .ref (X 0 0)), (1, .int (nI ln)), (2, .int (nI b)), (3, .int 14), (4, .int cc)]) hx hb dM_stepSupplier_444 hl (by decide) rfl (fun ls hl => ?_)
    refine lv_aload_n hx hb dM_stepSupplier_446 rfl (lv_at hl 3 rfl) ?_
    refine lv_iconst (v := 2) hx hb dM_stepSupplier_447 (by decide) ?_
    refine lv_iload hx hb dM_stepSupplier_448 (lv_at hl 2 rfl) ?_
    refine lv_imul hx hb dM_stepSupplier_450 ?_
    refine lv_toe (y := nI (2 * ((6 * ln) + b))) (pk_mul 2 ((6 * ln) + b)) ?_
    refine lv_iconst (v := 1) hx hb dM_stepSupplier_451 (by decide) ?_
    refine lv_iadd hx hb dM_stepSupplier_452 ?_
    refine lv_toe (y := nI ((2 * ((6 * ln) + b)) + 1)) (nI_add (2 * ((6 * ln) + b)) 1) ?_
    refine lv_iload hx hb dM_stepSupplier_453 (lv_at hl 1 rfl) ?_
    refine lv_iload hx hb dM_stepSupplier_455 (lv_at hl 0 rfl) ?_
    refine er_callv (va_runV (As := [.int (nI ((2 * ((6 * ln) + b)) + 1)), .int 13, .int (u4 26 0 ((6 * ln) + b))]) (rest := []) ⟨hx, hb, hml, hown, hts⟩ (r_write l D T X L tg _ hE (up3 u4 23 0 ((6 * ln) + b) 9) ((2 * ((6 * ln) + b)) + 1) 13 (u4 26 0 ((6 * ln) + b)) w lg (by omega) hw (by first | (rw [eu4]; exact ((s_letGo_lt _ _ (by decide) (by decide) _ _).trans hq)) | exact ((s_letGo_lt _ _ (by decide) (by decide) _ _).trans hq)) hlg (by first | (rw [eu4]; exact ((s_letGo_lt _ _ (by decide) (by decide) _ _).trans hg)) | exact ((s_letGo_lt _ _ (by decide) (by decide) _ _).trans hg))) (cwV 3 hts gM_138 rfl rfl rfl (by decide +kernel) ⟨Nat.le_of_ble_eq_true rfl, Nat.le_of_ble_eq_true rfl⟩) (er_preV hK hV hi0 (cR_0 _ _ _) rfl) rfl rfl hl.1 rfl (lv_room (Nat.le_of_ble_eq_true rfl)) dM_stepSupplier_457 ⟨Nat.le_of_ble_eq_true rfl, Nat.le_of_ble_eq_true rfl⟩) hV hS hA (fun u5 H locs eu5 hV hS => ?_)
    have eu5 : u5 = s_write (up3 u4 23 0 ((6 * ln) + b) 9) ((2 * ((6 * ln) + b)) + 1) 13 (u4 26 0 ((6 * ln) + b)) w lg := eu5
    subst eu5
    subst eu4
    exact er_vret hx hb hr hlocks hV hS dM_stepSupplier_460 (Eq.symm (by unfold s_stepSupplier_14; simp only [if_neg h1]))
