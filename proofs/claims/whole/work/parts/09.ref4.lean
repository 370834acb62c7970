theorem i3_in {x : Int32} {n : Nat} {N : Nat} (h1 : ¬ x < 0) (h2 : ¬ nI n ≤ x) (hn : n ≤ N) (hN : N ≤ 3000) : vp_in x N := by
  rw [vp_in_iff]
  rw [Int32.lt_iff_toInt_lt, Int32.toInt_zero] at h1
  rw [Int32.le_iff_toInt_le, nI_toInt (by omega)] at h2
  omega
theorem i3_nat {x : Int32} {n : Nat} (h1 : ¬ x < 0) (h2 : ¬ nI n ≤ x) (hn : n ≤ 3000) : ∃ j, j < n ∧ x = nI j := by
  rcases pk_ix x (n := n) (by omega) with h | h | h
  · exact absurd h h1
  · exact absurd h h2
  · exact h
theorem s_isLoan_1 {A : ew_R} {ln nl : Nat} (h : A 0 0 2 = nI nl) (hl : ln < nl) (hn : nl ≤ 32) : s_isLoan A (nI ln) = 1 := by
  unfold s_isLoan
  rw [if_neg (nI_pos (by omega)), h, if_neg (nI_ge hl (by omega))]
theorem s_isLibrary_1 {b : Nat} (h : b < 6) : s_isLibrary (nI b) = 1 := by
  unfold s_isLibrary
  rw [if_neg (nI_pos (by omega)), if_neg (show ¬ (6 : Int32) ≤ nI b from nI_ge (b := 6) h (by decide))]
theorem s_isTitle_1 {b : Nat} (h : b < 8) : s_isTitle (nI b) = 1 := by
  unfold s_isTitle
  rw [if_neg (nI_pos (by omega)), if_neg (show ¬ (8 : Int32) ≤ nI b from nI_ge (b := 8) h (by decide))]

def s_drop_neg (A : ew_R) (i : Int32) : Int32 × ew_R :=
  (0, up3 A 0 0 0 0)
set_option maxHeartbeats 4000000 in
set_option maxRecDepth 100000 in
theorem r_drop_neg (l : Launch) (D : va_G) (T : Nat → ClassId) (X : Nat → Nat → Nat) (L : List Nat) (tg : Nat → Nat × Nat) (sz : Nat) (hE : eR_E X L tg) (A : ew_R) (i : Int32) (hn0 : i < 0) : Met l yM_drop wsM_drop ({ frames := 1, cells := 0, slots := 0, locals := 22 }) (er_Pc D vwCl (tysA T) (cfR T) X L tg A sz [.ref (X 0 0), .int i]) (er_Qi D vwCl (cfR T) X L tg sz (fun r u => r = (s_drop_neg A i).1 ∧ u = (s_drop_neg A i).2)) 0 0 (ew_A L sz) := by
  refine er_met (by decide) rfl (Nat.le_of_ble_eq_true rfl) ?_
  intro p e s m below meth c ls hx hb hr hts hown hlocks hml hV hK hS hA hl hsz
  subst hsz
  have hi0 := hE 0 (by decide)
  have hl : lv_has ls 2 [(0, .ref (X 0 0)), (1, .int i)] := hl
  refine lv_aload_n hx hb dM_drop_0 rfl (lv_at hl 0 rfl) ?_
  refine lv_iconst (v := 0) hx hb dM_drop_1 (by decide) ?_
  refine ew_put (ty := .int) hx hb hts hown hK hV hS fM_113 gM hi0 (cR_0 _ _ _) 0 _ (pR_0 _ _ _ _) rfl (by decide +kernel) rfl rfl (Nat.le_of_ble_eq_true rfl) dM_drop_2 (fun H locs hV hS => ?_)
  refine lv_iload_n hx hb dM_drop_5 rfl (lv_at hl 1 rfl) ?_
  refine lv_if_lt (tgt := 17) hx hb dM_drop_6 rfl (fun _ => ?_) (fun h9 => absurd hn0 h9)
  refine lv_iconst (v := 0) hx hb dM_drop_17 (by decide) ?_
  exact er_zret hx hb hr hlocks hV hS dM_drop_18 (by decide) ⟨Eq.symm (by unfold s_drop_neg; rfl), Eq.symm (by unfold s_drop_neg; rfl)⟩

def s_drop_big (A : ew_R) (i : Int32) (w : Nat) : Int32 × ew_R :=
  (0, up3 A 0 0 0 0)
set_option maxHeartbeats 4000000 in
set_option maxRecDepth 100000 in
theorem r_drop_big (l : Launch) (D : va_G) (T : Nat → ClassId) (X : Nat → Nat → Nat) (L : List Nat) (tg : Nat → Nat × Nat) (sz : Nat) (hE : eR_E X L tg) (A : ew_R) (i : Int32) (w : Nat) (hn0 : ¬ i < 0) (hno : nI w ≤ i) (hq : A 0 0 4 = nI w) : Met l yM_drop wsM_drop ({ frames := 1, cells := 0, slots := 0, locals := 22 }) (er_Pc D vwCl (tysA T) (cfR T) X L tg A sz [.ref (X 0 0), .int i]) (er_Qi D vwCl (cfR T) X L tg sz (fun r u => r = (s_drop_big A i w).1 ∧ u = (s_drop_big A i w).2)) 0 0 (ew_A L sz) := by
  refine er_met (by decide) rfl (Nat.le_of_ble_eq_true rfl) ?_
  intro p e s m below meth c ls hx hb hr hts hown hlocks hml hV hK hS hA hl hsz
  subst hsz
  have hi0 := hE 0 (by decide)
  have hl : lv_has ls 2 [(0, .ref (X 0 0)), (1, .int i)] := hl
  refine lv_aload_n hx hb dM_drop_0 rfl (lv_at hl 0 rfl) ?_
  refine lv_iconst (v := 0) hx hb dM_drop_1 (by decide) ?_
  refine ew_put (ty := .int) hx hb hts hown hK hV hS fM_113 gM hi0 (cR_0 _ _ _) 0 _ (pR_0 _ _ _ _) rfl (by decide +kernel) rfl rfl (Nat.le_of_ble_eq_true rfl) dM_drop_2 (fun H locs hV hS => ?_)
  refine lv_iload_n hx hb dM_drop_5 rfl (lv_at hl 1 rfl) ?_
  refine lv_if_lt (tgt := 17) hx hb dM_drop_6 rfl (fun h9 => absurd h9 hn0) (fun _ => ?_)
  refine lv_iload_n hx hb dM_drop_9 rfl (lv_at hl 1 rfl) ?_
  refine lv_aload_n hx hb dM_drop_10 rfl (lv_at hl 0 rfl) ?_
  refine ew_get (v := .int (A 0 0 4)) hx hb hts hown hK hV fM_120 hi0 (cR_0 _ _ _) rfl dM_drop_11 ?_
  refine lv_toe (y := nI w) hq ?_
  refine lv_icmp_lt (tgt := 19) hx hb dM_drop_14 rfl (fun h9 => absurd h9 (i3_nlt hno)) (fun _ => ?_)
  refine lv_iconst (v := 0) hx hb dM_drop_17 (by decide) ?_
  exact er_zret hx hb hr hlocks hV hS dM_drop_18 (by decide) ⟨Eq.symm (by unfold s_drop_big; rfl), Eq.symm (by unfold s_drop_big; rfl)⟩

def s_drop_ok (A : ew_R) (i : Nat) (w : Nat) : Int32 × ew_R :=
  (1, (s_takeOut (up3 A 0 0 0 0) i w))
set_option maxHeartbeats 4000000 in
set_option maxRecDepth 100000 in
theorem r_drop_ok (l : Launch) (D : va_G) (T : Nat → ClassId) (X : Nat → Nat → Nat) (L : List Nat) (tg : Nat → Nat × Nat) (sz : Nat) (hE : eR_E X L tg) (A : ew_R) (i : Nat) (w : Nat) (hi : i < w) (hw : w ≤ 64) (hq : A 0 0 4 = nI w) : Met l yM_drop wsM_drop ({ frames := 1, cells := 0, slots := 0, locals := 22 }) (er_Pc D vwCl (tysA T) (cfR T) X L tg A sz [.ref (X 0 0), .int (nI i)]) (er_Qi D vwCl (cfR T) X L tg sz (fun r u => r = (s_drop_ok A i w).1 ∧ u = (s_drop_ok A i w).2)) 0 0 (ew_A L sz) := by
  refine er_met (by decide) rfl (Nat.le_of_ble_eq_true rfl) ?_
  intro p e s m below meth c ls hx hb hr hts hown hlocks hml hV hK hS hA hl hsz
  subst hsz
  have hi0 := hE 0 (by decide)
  have hl : lv_has ls 2 [(0, .ref (X 0 0)), (1, .int (nI i))] := hl
  refine lv_aload_n hx hb dM_drop_0 rfl (lv_at hl 0 rfl) ?_
  refine lv_iconst (v := 0) hx hb dM_drop_1 (by decide) ?_
  refine ew_put (ty := .int) hx hb hts hown hK hV hS fM_113 gM hi0 (cR_0 _ _ _) 0 _ (pR_0 _ _ _ _) rfl (by decide +kernel) rfl rfl (Nat.le_of_ble_eq_true rfl) dM_drop_2 (fun H locs hV hS => ?_)
  refine lv_iload_n hx hb dM_drop_5 rfl (lv_at hl 1 rfl) ?_
  refine lv_if_lt (tgt := 17) hx hb dM_drop_6 rfl (fun h9 => absurd h9 (fun z9 => (show ¬ (i < 0) by omega) ((nI_ltI (a := i) (b := 0) (by omega) (by omega)).mp z9))) (fun _ => ?_)
  refine lv_iload_n hx hb dM_drop_9 rfl (lv_at hl 1 rfl) ?_
  refine lv_aload_n hx hb dM_drop_10 rfl (lv_at hl 0 rfl) ?_
  refine ew_get (v := .int (A 0 0 4)) hx hb hts hown hK hV fM_120 hi0 (cR_0 _ _ _) rfl dM_drop_11 ?_
  refine lv_toe (y := nI w) hq ?_
  refine lv_icmp_lt (tgt := 19) hx hb dM_drop_14 rfl (fun _ => ?_) (fun h9 => absurd ((nI_ltI (a := i) (b := w) (by omega) (by omega)).mpr (show i < w by omega)) h9)
  refine lv_aload_n hx hb dM_drop_19 rfl (lv_at hl 0 rfl) ?_
  refine lv_iload_n hx hb dM_drop_20 rfl (lv_at hl 1 rfl) ?_
  refine er_callv (va_runV (As := [.int (nI i)]) (rest := []) ⟨hx, hb, hml, hown, hts⟩ (r_takeOut l D T X L tg _ hE (up3 A 0 0 0 0) i w hi hw hq) (cwV 1 hts gM_123 rfl rfl rfl (by decide +kernel) ⟨Nat.le_of_ble_eq_true rfl, Nat.le_of_ble_eq_true rfl⟩) (er_preV hK hV hi0 (cR_0 _ _ _) rfl) rfl rfl hl.1 rfl (lv_room (Nat.le_of_ble_eq_true rfl)) dM_drop_21 ⟨Nat.le_of_ble_eq_true rfl, Nat.le_of_ble_eq_true rfl⟩) hV hS hA (fun u1 H locs eu1 hV hS => ?_)
  have eu1 : u1 = s_takeOut (up3 A 0 0 0 0) i w := eu1
  refine lv_iconst (v := 1) hx hb dM_drop_24 (by decide) ?_
  subst eu1
  exact er_zret hx hb hr hlocks hV hS dM_drop_25 (by decide) ⟨Eq.symm (by unfold s_drop_ok; rfl), Eq.symm (by unfold s_drop_ok; rfl)⟩

def s_holder (A : ew_R) (cc : Int32) (nc : Nat) : Int32 × ew_R :=
  if cc < 0 then
    ((-1), up3 A 0 0 0 0)
  else
    if cc < nI nc then
      (A 9 0 cc.toNatClampNeg, up3 A 0 0 0 0)
    else
      ((-1), up3 A 0 0 0 0)
set_option maxHeartbeats 4000000 in
set_option maxRecDepth 100000 in
theorem r_holder (l : Launch) (D : va_G) (T : Nat → ClassId) (X : Nat → Nat → Nat) (L : List Nat) (tg : Nat → Nat × Nat) (sz : Nat) (hE : eR_E X L tg) (A : ew_R) (cc : Int32) (nc : Nat) (hnc : nc ≤ 32) (q3 : A 0 0 3 = nI nc) : Met l yM_holder wsM_holder ({ frames := 0, cells := 0, slots := 0, locals := 0 }) (er_Pc D vwCl (tysA T) (cfR T) X L tg A sz [.ref (X 0 0), .int cc]) (er_Qi D vwCl (cfR T) X L tg sz (fun r u => r = (s_holder A cc nc).1 ∧ u = (s_holder A cc nc).2)) 0 0 (ew_A L sz) := by
  refine er_met (by decide) rfl (Nat.le_of_ble_eq_true rfl) ?_
  intro p e s m below meth c ls hx hb hr hts hown hlocks hml hV hK hS hA hl hsz
  subst hsz
  have hi0 := hE 0 (by decide)
  have hl : lv_has ls 2 [(0, .ref (X 0 0)), (1, .int cc)] := hl
  refine lv_aload_n hx hb dM_holder_0 rfl (lv_at hl 0 rfl) ?_
  refine lv_iconst (v := 0) hx hb dM_holder_1 (by decide) ?_
  refine ew_put (ty := .int) hx hb hts hown hK hV hS fM_113 gM hi0 (cR_0 _ _ _) 0 _ (pR_0 _ _ _ _) rfl (by decide +kernel) rfl rfl (Nat.le_of_ble_eq_true rfl) dM_holder_2 (fun H locs hV hS => ?_)
  refine lv_iload_n hx hb dM_holder_5 rfl (lv_at hl 1 rfl) ?_
  refine lv_if_lt (tgt := 17) hx hb dM_holder_6 rfl (fun h1 => ?_) (fun h1 => ?_)
  · refine lv_iconst (v := (-1)) hx hb dM_holder_17 (by decide) ?_
    refine lv_goto (tgt := 27) hx hb dM_holder_18 rfl ?_
    exact er_iret hx hb hr hlocks hV hS dM_holder_27 ⟨Eq.symm (by unfold s_holder; simp only [if_pos h1]), Eq.symm (by unfold s_holder; simp only [if_pos h1])⟩
  · refine lv_iload_n hx hb dM_holder_9 rfl (lv_at hl 1 rfl) ?_
    refine lv_aload_n hx hb dM_holder_10 rfl (lv_at hl 0 rfl) ?_
    refine ew_get (v := .int (A 0 0 3)) hx hb hts hown hK hV fM_149 hi0 (cR_0 _ _ _) rfl dM_holder_11 ?_
    refine lv_toe (y := nI nc) q3 ?_
    refine lv_icmp_lt (tgt := 21) hx hb dM_holder_14 rfl (fun h2 => ?_) (fun h2 => ?_)
    · refine lv_aload_n hx hb dM_holder_21 rfl (lv_at hl 0 rfl) ?_
      refine ew_get (v := .ref (X 9 0)) hx hb hts hown hK hV fM_19 hi0 (cR_0 _ _ _) rfl dM_holder_22 ?_
      refine lv_iload_n hx hb dM_holder_25 rfl (lv_at hl 1 rfl) ?_
      refine ew_iald (v := A 9 0 cc.toNatClampNeg) hx hb hK hV (hE 9 (by decide)) (cR_9 _ _ _) 0 rfl (i3_in h1 (i3_nle h2) hnc (by decide)) rfl dM_holder_26 ?_
      exact er_iret hx hb hr hlocks hV hS dM_holder_27 ⟨Eq.symm (by unfold s_holder; simp only [if_neg h1, if_pos h2]), Eq.symm (by unfold s_holder; simp only [if_neg h1, if_pos h2])⟩
    · refine lv_iconst (v := (-1)) hx hb dM_holder_17 (by decide) ?_
      refine lv_goto (tgt := 27) hx hb dM_holder_18 rfl ?_
      exact er_iret hx hb hr hlocks hV hS dM_holder_27 ⟨Eq.symm (by unfold s_holder; simp only [if_neg h1, if_neg h2]), Eq.symm (by unfold s_holder; simp only [if_neg h1, if_neg h2])⟩

def s_promised (A : ew_R) (cc : Int32) (nc : Nat) : Int32 × ew_R :=
  if cc < 0 then
    ((-1), up3 A 0 0 0 0)
  else
    if cc < nI nc then
      (A 10 0 cc.toNatClampNeg, up3 A 0 0 0 0)
    else
      ((-1), up3 A 0 0 0 0)
set_option maxHeartbeats 4000000 in
set_option maxRecDepth 100000 in
theorem r_promised (l : Launch) (D : va_G) (T : Nat → ClassId) (X : Nat → Nat → Nat) (L : List Nat) (tg : Nat → Nat × Nat) (sz : Nat) (hE : eR_E X L tg) (A : ew_R) (cc : Int32) (nc : Nat) (hnc : nc ≤ 32) (q3 : A 0 0 3 = nI nc) : Met l yM_promised wsM_promised ({ frames := 0, cells := 0, slots := 0, locals := 0 }) (er_Pc D vwCl (tysA T) (cfR T) X L tg A sz [.ref (X 0 0), .int cc]) (er_Qi D vwCl (cfR T) X L tg sz (fun r u => r = (s_promised A cc nc).1 ∧ u = (s_promised A cc nc).2)) 0 0 (ew_A L sz) := by
  refine er_met (by decide) rfl (Nat.le_of_ble_eq_true rfl) ?_
  intro p e s m below meth c ls hx hb hr hts hown hlocks hml hV hK hS hA hl hsz
  subst hsz
  have hi0 := hE 0 (by decide)
  have hl : lv_has ls 2 [(0, .ref (X 0 0)), (1, .int cc)] := hl
  refine lv_aload_n hx hb dM_promised_0 rfl (lv_at hl 0 rfl) ?_
  refine lv_iconst (v := 0) hx hb dM_promised_1 (by decide) ?_
  refine ew_put (ty := .int) hx hb hts hown hK hV hS fM_113 gM hi0 (cR_0 _ _ _) 0 _ (pR_0 _ _ _ _) rfl (by decide +kernel) rfl rfl (Nat.le_of_ble_eq_true rfl) dM_promised_2 (fun H locs hV hS => ?_)
  refine lv_iload_n hx hb dM_promised_5 rfl (lv_at hl 1 rfl) ?_
  refine lv_if_lt (tgt := 17) hx hb dM_promised_6 rfl (fun h1 => ?_) (fun h1 => ?_)
  · refine lv_iconst (v := (-1)) hx hb dM_promised_17 (by decide) ?_
    refine lv_goto (tgt := 27) hx hb dM_promised_18 rfl ?_
    exact er_iret hx hb hr hlocks hV hS dM_promised_27 ⟨Eq.symm (by unfold s_promised; simp only [if_pos h1]), Eq.symm (by unfold s_promised; simp only [if_pos h1])⟩
  · refine lv_iload_n hx hb dM_promised_9 rfl (lv_at hl 1 rfl) ?_
    refine lv_aload_n hx hb dM_promised_10 rfl (lv_at hl 0 rfl) ?_
    refine ew_get (v := .int (A 0 0 3)) hx hb hts hown hK hV fM_149 hi0 (cR_0 _ _ _) rfl dM_promised_11 ?_
    refine lv_toe (y := nI nc) q3 ?_
    refine lv_icmp_lt (tgt := 21) hx hb dM_promised_14 rfl (fun h2 => ?_) (fun h2 => ?_)
    · refine lv_aload_n hx hb dM_promised_21 rfl (lv_at hl 0 rfl) ?_
      refine ew_get (v := .ref (X 10 0)) hx hb hts hown hK hV fM_22 hi0 (cR_0 _ _ _) rfl dM_promised_22 ?_
      refine lv_iload_n hx hb dM_promised_25 rfl (lv_at hl 1 rfl) ?_
      refine ew_iald (v := A 10 0 cc.toNatClampNeg) hx hb hK hV (hE 10 (by decide)) (cR_10 _ _ _) 0 rfl (i3_in h1 (i3_nle h2) hnc (by decide)) rfl dM_promised_26 ?_
      exact er_iret hx hb hr hlocks hV hS dM_promised_27 ⟨Eq.symm (by unfold s_promised; simp only [if_neg h1, if_pos h2]), Eq.symm (by unfold s_promised; simp only [if_neg h1, if_pos h2])⟩
    · refine lv_iconst (v := (-1)) hx hb dM_promised_17 (by decide) ?_
      refine lv_goto (tgt := 27) hx hb dM_promised_18 rfl ?_
      exact er_iret hx hb hr hlocks hV hS dM_promised_27 ⟨Eq.symm (by unfold s_promised; simp only [if_neg h1, if_neg h2]), Eq.symm (by unfold s_promised; simp only [if_neg h1, if_neg h2])⟩

theorem s_isLibrary_in {b : Int32} (h : ¬ s_isLibrary b = 0) : vp_in b 6 := by
  unfold s_isLibrary at h
  split at h
  · exact absurd rfl h
  · split at h
    · exact absurd rfl h
    · rename_i h1 h2
      exact i3_in (n := 6) h1 h2 (by decide) (by decide)

def s_balance (A : ew_R) (b : Int32) : Int32 × ew_R :=
  if s_isLibrary b = 0 then
    (0, up3 A 0 0 0 0)
  else
    (A 6 0 b.toNatClampNeg, up3 A 0 0 0 0)
set_option maxHeartbeats 4000000 in
set_option maxRecDepth 100000 in
theorem r_balance (l : Launch) (D : va_G) (T : Nat → ClassId) (X : Nat → Nat → Nat) (L : List Nat) (tg : Nat → Nat × Nat) (sz : Nat) (hE : eR_E X L tg) (A : ew_R) (b : Int32) : Met l yM_balance wsM_balance ({ frames := 1, cells := 0, slots := 0, locals := 20 }) (er_Pc D vwCl (tysA T) (cfR T) X L tg A sz [.ref (X 0 0), .int b]) (er_Qi D vwCl (cfR T) X L tg sz (fun r u => r = (s_balance A b).1 ∧ u = (s_balance A b).2)) 0 0 (ew_A L sz) := by
  refine er_met (by decide) rfl (Nat.le_of_ble_eq_true rfl) ?_
  intro p e s m below meth c ls hx hb hr hts hown hlocks hml hV hK hS hA hl hsz
  subst hsz
  have hi0 := hE 0 (by decide)
  have hl : lv_has ls 2 [(0, .ref (X 0 0)), (1, .int b)] := hl
  refine lv_aload_n hx hb dM_balance_0 rfl (lv_at hl 0 rfl) ?_
  refine lv_iconst (v := 0) hx hb dM_balance_1 (by decide) ?_
  refine ew_put (ty := .int) hx hb hts hown hK hV hS fM_113 gM hi0 (cR_0 _ _ _) 0 _ (pR_0 _ _ _ _) rfl (by decide +kernel) rfl rfl (Nat.le_of_ble_eq_true rfl) dM_balance_2 (fun H locs hV hS => ?_)
  refine lv_iload_n hx hb dM_balance_5 rfl (lv_at hl 1 rfl) ?_
  refine er_calli (va_runS (As := [.int b]) (rest := []) ⟨hx, hb, hml, hown, hts⟩ (r_isLibrary l D T X L tg _ hE (up3 A 0 0 0 0) b) (cwS 1 hts gM_142 rfl rfl rfl (by decide +kernel) ⟨Nat.le_of_ble_eq_true rfl, Nat.le_of_ble_eq_true rfl⟩) (er_preS hK hV) rfl rfl hl.1 rfl (lv_room (Nat.le_of_ble_eq_true rfl)) dM_balance_6 ⟨Nat.le_of_ble_eq_true rfl, Nat.le_of_ble_eq_true rfl⟩) hV hS hA (fun r u H locs hp hV hS => ?_)
  obtain ⟨rfl, eu9⟩ := hp
  rw [eu9] at hV
  refine lv_if_eq (tgt := 21) hx hb dM_balance_9 rfl (fun h1 => ?_) (fun h1 => ?_)
  · refine lv_iconst (v := 0) hx hb dM_balance_21 (by decide) ?_
    exact er_iret hx hb hr hlocks hV hS dM_balance_22 ⟨Eq.symm (by unfold s_balance; simp only [if_pos h1]), Eq.symm (by unfold s_balance; simp only [if_pos h1])⟩
  · refine lv_aload_n hx hb dM_balance_12 rfl (lv_at hl 0 rfl) ?_
    refine ew_get (v := .ref (X 6 0)) hx hb hts hown hK hV fM_7 hi0 (cR_0 _ _ _) rfl dM_balance_13 ?_
    refine lv_iload_n hx hb dM_balance_16 rfl (lv_at hl 1 rfl) ?_
    refine ew_iald (v := A 6 0 b.toNatClampNeg) hx hb hK hV (hE 6 (by decide)) (cR_6 _ _ _) 0 rfl (s_isLibrary_in h1) rfl dM_balance_17 ?_
    refine lv_goto (tgt := 22) hx hb dM_balance_18 rfl ?_
    exact er_iret hx hb hr hlocks hV hS dM_balance_22 ⟨Eq.symm (by unfold s_balance; simp only [if_neg h1]), Eq.symm (by unfold s_balance; simp only [if_neg h1])⟩

def s_supplier_ok (A : ew_R) (ln : Nat) (nl : Nat) : Int32 × ew_R :=
  (A 16 0 ln, up3 A 0 0 0 0)
set_option maxHeartbeats 4000000 in
set_option maxRecDepth 100000 in
theorem r_supplier_ok (l : Launch) (D : va_G) (T : Nat → ClassId) (X : Nat → Nat → Nat) (L : List Nat) (tg : Nat → Nat × Nat) (sz : Nat) (hE : eR_E X L tg) (A : ew_R) (ln : Nat) (nl : Nat) (hnl : ln < nl) (hn2 : nl ≤ 32) (q2 : A 0 0 2 = nI nl) : Met l yM_supplier wsM_supplier ({ frames := 1, cells := 0, slots := 0, locals := 21 }) (er_Pc D vwCl (tysA T) (cfR T) X L tg A sz [.ref (X 0 0), .int (nI ln)]) (er_Qi D vwCl (cfR T) X L tg sz (fun r u => r = (s_supplier_ok A ln nl).1 ∧ u = (s_supplier_ok A ln nl).2)) 0 0 (ew_A L sz) := by
  refine er_met (by decide) rfl (Nat.le_of_ble_eq_true rfl) ?_
  intro p e s m below meth c ls hx hb hr hts hown hlocks hml hV hK hS hA hl hsz
  subst hsz
  have hi0 := hE 0 (by decide)
  have hl : lv_has ls 2 [(0, .ref (X 0 0)), (1, .int (nI ln))] := hl
  refine lv_aload_n hx hb dM_supplier_0 rfl (lv_at hl 0 rfl) ?_
  refine lv_iconst (v := 0) hx hb dM_supplier_1 (by decide) ?_
  refine ew_put (ty := .int) hx hb hts hown hK hV hS fM_113 gM hi0 (cR_0 _ _ _) 0 _ (pR_0 _ _ _ _) rfl (by decide +kernel) rfl rfl (Nat.le_of_ble_eq_true rfl) dM_supplier_2 (fun H locs hV hS => ?_)
  refine lv_aload_n hx hb dM_supplier_5 rfl (lv_at hl 0 rfl) ?_
  refine lv_iload_n hx hb dM_supplier_6 rfl (lv_at hl 1 rfl) ?_
  refine er_calli (va_runV (As := [.int (nI ln)]) (rest := []) ⟨hx, hb, hml, hown, hts⟩ (r_isLoan l D T X L tg _ hE (up3 A 0 0 0 0) (nI ln)) (cwV 1 hts gM_172 rfl rfl rfl (by decide +kernel) ⟨Nat.le_of_ble_eq_true rfl, Nat.le_of_ble_eq_true rfl⟩) (er_preV hK hV hi0 (cR_0 _ _ _) rfl) rfl rfl hl.1 rfl (lv_room (Nat.le_of_ble_eq_true rfl)) dM_supplier_7 ⟨Nat.le_of_ble_eq_true rfl, Nat.le_of_ble_eq_true rfl⟩) hV hS hA (fun r u H locs hp hV hS => ?_)
  obtain ⟨rfl, eu9⟩ := hp
  rw [eu9] at hV
  refine lv_toe (y := 1) (s_isLoan_1 q2 hnl hn2) ?_
  refine lv_if_eq (tgt := 22) hx hb dM_supplier_10 rfl (fun h9 => absurd h9 (by decide)) (fun _ => ?_)
  refine lv_aload_n hx hb dM_supplier_13 rfl (lv_at hl 0 rfl) ?_
  refine ew_get (v := .ref (X 16 0)) hx hb hts hown hK hV fM_40 hi0 (cR_0 _ _ _) rfl dM_supplier_14 ?_
  refine lv_iload_n hx hb dM_supplier_17 rfl (lv_at hl 1 rfl) ?_
  refine ew_iald (v := A 16 0 ln) hx hb hK hV (hE 16 (by decide)) (cR_16 _ _ _) 0 rfl (vp_in_nI (by omega) (by decide)) (er_ix (by omega) rfl) dM_supplier_18 ?_
  refine lv_goto (tgt := 23) hx hb dM_supplier_19 rfl ?_
  exact er_iret hx hb hr hlocks hV hS dM_supplier_23 ⟨Eq.symm (by unfold s_supplier_ok; rfl), Eq.symm (by unfold s_supplier_ok; rfl)⟩

def s_supplier_no (A : ew_R) (ln : Int32) : Int32 × ew_R :=
  ((-1), up3 A 0 0 0 0)
set_option maxHeartbeats 4000000 in
set_option maxRecDepth 100000 in
theorem r_supplier_no (l : Launch) (D : va_G) (T : Nat → ClassId) (X : Nat → Nat → Nat) (L : List Nat) (tg : Nat → Nat × Nat) (sz : Nat) (hE : eR_E X L tg) (A : ew_R) (ln : Int32) (hno : s_isLoan A ln = 0) : Met l yM_supplier wsM_supplier ({ frames := 1, cells := 0, slots := 0, locals := 21 }) (er_Pc D vwCl (tysA T) (cfR T) X L tg A sz [.ref (X 0 0), .int ln]) (er_Qi D vwCl (cfR T) X L tg sz (fun r u => r = (s_supplier_no A ln).1 ∧ u = (s_supplier_no A ln).2)) 0 0 (ew_A L sz) := by
  refine er_met (by decide) rfl (Nat.le_of_ble_eq_true rfl) ?_
  intro p e s m below meth c ls hx hb hr hts hown hlocks hml hV hK hS hA hl hsz
  subst hsz
  have hi0 := hE 0 (by decide)
  have hl : lv_has ls 2 [(0, .ref (X 0 0)), (1, .int ln)] := hl
  refine lv_aload_n hx hb dM_supplier_0 rfl (lv_at hl 0 rfl) ?_
  refine lv_iconst (v := 0) hx hb dM_supplier_1 (by decide) ?_
  refine ew_put (ty := .int) hx hb hts hown hK hV hS fM_113 gM hi0 (cR_0 _ _ _) 0 _ (pR_0 _ _ _ _) rfl (by decide +kernel) rfl rfl (Nat.le_of_ble_eq_true rfl) dM_supplier_2 (fun H locs hV hS => ?_)
  refine lv_aload_n hx hb dM_supplier_5 rfl (lv_at hl 0 rfl) ?_
  refine lv_iload_n hx hb dM_supplier_6 rfl (lv_at hl 1 rfl) ?_
  refine er_calli (va_runV (As := [.int ln]) (rest := []) ⟨hx, hb, hml, hown, hts⟩ (r_isLoan l D T X L tg _ hE (up3 A 0 0 0 0) ln) (cwV 1 hts gM_172 rfl rfl rfl (by decide +kernel) ⟨Nat.le_of_ble_eq_true rfl, Nat.le_of_ble_eq_true rfl⟩) (er_preV hK hV hi0 (cR_0 _ _ _) rfl) rfl rfl hl.1 rfl (lv_room (Nat.le_of_ble_eq_true rfl)) dM_supplier_7 ⟨Nat.le_of_ble_eq_true rfl, Nat.le_of_ble_eq_true rfl⟩) hV hS hA (fun r u H locs hp hV hS => ?_)
  obtain ⟨rfl, eu9⟩ := hp
  rw [eu9] at hV
  refine lv_toe (y := 0) hno ?_
  refine lv_if_eq (tgt := 22) hx hb dM_supplier_10 rfl (fun _ => ?_) (fun h9 => absurd (by decide) h9)
  refine lv_iconst (v := (-1)) hx hb dM_supplier_22 (by decide) ?_
  exact er_iret hx hb hr hlocks hV hS dM_supplier_23 ⟨Eq.symm (by unfold s_supplier_no; rfl), Eq.symm (by unfold s_supplier_no; rfl)⟩

def s_settled_ok (A : ew_R) (ln : Nat) (nl : Nat) (pk : Nat) : Int32 × ew_R :=
  if A 29 0 (2 * (6 * ln + pk)) = A 31 0 (2 * (6 * ln + pk)) then
    if A 29 0 ((2 * (6 * ln + pk)) + 1) = A 31 0 ((2 * (6 * ln + pk)) + 1) then
      if A 29 0 (2 * (6 * ln + pk)) = A 30 0 ((2 * (6 * ln + pk)) + 1) then
        if A 29 0 ((2 * (6 * ln + pk)) + 1) = A 30 0 (2 * (6 * ln + pk)) then
          (1, up3 A 0 0 0 0)
        else
          (0, up3 A 0 0 0 0)
      else
        (0, up3 A 0 0 0 0)
    else
      (0, up3 A 0 0 0 0)
  else
    (0, up3 A 0 0 0 0)
set_option maxHeartbeats 4000000 in
set_option maxRecDepth 100000 in
theorem r_settled_ok (l : Launch) (D : va_G) (T : Nat → ClassId) (X : Nat → Nat → Nat) (L : List Nat) (tg : Nat → Nat × Nat) (sz : Nat) (hE : eR_E X L tg) (A : ew_R) (ln : Nat) (nl : Nat) (pk : Nat) (hnl : ln < nl) (hn2 : nl ≤ 32) (q2 : A 0 0 2 = nI nl) (hpk : pk < 6) (q16 : A 16 0 ln = nI pk) : Met l yM_settled wsM_settled ({ frames := 1, cells := 0, slots := 0, locals := 21 }) (er_Pc D vwCl (tysA T) (cfR T) X L tg A sz [.ref (X 0 0), .int (nI ln)]) (er_Qi D vwCl (cfR T) X L tg sz (fun r u => r = (s_settled_ok A ln nl pk).1 ∧ u = (s_settled_ok A ln nl pk).2)) 0 0 (ew_A L sz) := by
  refine er_met (by decide) rfl (Nat.le_of_ble_eq_true rfl) ?_
  intro p e s m below meth c ls hx hb hr hts hown hlocks hml hV hK hS hA hl hsz
  subst hsz
  have hi0 := hE 0 (by decide)
  have hl : lv_has ls 4 [(0, .ref (X 0 0)), (1, .int (nI ln))] := hl
  refine lv_aload_n hx hb dM_settled_0 rfl (lv_at hl 0 rfl) ?_
  refine lv_iconst (v := 0) hx hb dM_settled_1 (by decide) ?_
  refine ew_put (ty := .int) hx hb hts hown hK hV hS fM_113 gM hi0 (cR_0 _ _ _) 0 _ (pR_0 _ _ _ _) rfl (by decide +kernel) rfl rfl (Nat.le_of_ble_eq_true rfl) dM_settled_2 (fun H locs hV hS => ?_)
  refine lv_aload_n hx hb dM_settled_5 rfl (lv_at hl 0 rfl) ?_
  refine lv_iload_n hx hb dM_settled_6 rfl (lv_at hl 1 rfl) ?_
  refine er_calli (va_runV (As := [.int (nI ln)]) (rest := []) ⟨hx, hb, hml, hown, hts⟩ (r_isLoan l D T X L tg _ hE (up3 A 0 0 0 0) (nI ln)) (cwV 1 hts gM_172 rfl rfl rfl (by decide +kernel) ⟨Nat.le_of_ble_eq_true rfl, Nat.le_of_ble_eq_true rfl⟩) (er_preV hK hV hi0 (cR_0 _ _ _) rfl) rfl rfl hl.1 rfl (lv_room (Nat.le_of_ble_eq_true rfl)) dM_settled_7 ⟨Nat.le_of_ble_eq_true rfl, Nat.le_of_ble_eq_true rfl⟩) hV hS hA (fun r u H locs hp hV hS => ?_)
  obtain ⟨rfl, eu9⟩ := hp
  rw [eu9] at hV
  refine lv_toe (y := 1) (s_isLoan_1 q2 hnl hn2) ?_
  refine lv_if_ne (tgt := 15) hx hb dM_settled_10 rfl (fun _ => ?_) (fun h9 => absurd h9 (by decide))
  refine lv_aload_n hx hb dM_settled_15 rfl (lv_at hl 0 rfl) ?_
  refine lv_iload_n hx hb dM_settled_16 rfl (lv_at hl 1 rfl) ?_
  refine er_calli (va_runV (As := [.int (nI ln)]) (rest := []) ⟨hx, hb, hml, hown, hts⟩ (r_endOf l D T X L tg _ hE (up3 A 0 0 0 0) ln pk (by omega) hpk q16) (cwV 1 hts gM_134 rfl rfl rfl (by decide +kernel) ⟨Nat.le_of_ble_eq_true rfl, Nat.le_of_ble_eq_true rfl⟩) (er_preV hK hV hi0 (cR_0 _ _ _) rfl) rfl rfl hl.1 rfl (lv_room (Nat.le_of_ble_eq_true rfl)) dM_settled_17 ⟨Nat.le_of_ble_eq_true rfl, Nat.le_of_ble_eq_true rfl⟩) hV hS hA (fun r u H locs hp hV hS => ?_)
  obtain ⟨rfl, eu9⟩ := hp
  rw [eu9] at hV
  refine lv_istore_n (lv' := [(2, .int (nI (2 * (6 * ln + pk)))), (0, .ref (X 0 0)), (1, .int (nI ln))]) hx hb dM_settled_20 rfl hl (by decide) rfl (fun ls hl => ?_)
  refine lv_iload_n hx hb dM_settled_21 rfl (lv_at hl 0 rfl) ?_
  refine lv_iconst (v := 1) hx hb dM_settled_22 (by decide) ?_
  refine lv_iadd hx hb dM_settled_23 ?_
  refine lv_toe (y := nI ((2 * (6 * ln + pk)) + 1)) (nI_add (2 * (6 * ln + pk)) 1) ?_
  refine lv_istore_n (lv' := [(3, .int (nI ((2 * (6 * ln + pk)) + 1))), (2, .int (nI (2 * (6 * ln + pk)))), (0, .ref (X 0 0)), (1, .int (nI ln))]) hx hb dM_settled_24 rfl hl (by decide) rfl (fun ls hl => ?_)
  refine lv_aload_n hx hb dM_settled_25 rfl (lv_at hl 2 rfl) ?_
  refine ew_get (v := .ref (X 29 0)) hx hb hts hown hK hV fM_80 hi0 (cR_0 _ _ _) rfl dM_settled_26 ?_
  refine lv_iload_n hx hb dM_settled_29 rfl (lv_at hl 1 rfl) ?_
  refine ew_iald (v := A 29 0 (2 * (6 * ln + pk))) hx hb hK hV (hE 29 (by decide)) (cR_29 _ _ _) 0 rfl (vp_in_nI (by omega) (by decide)) (er_ix (by omega) rfl) dM_settled_30 ?_
  refine lv_aload_n hx hb dM_settled_31 rfl (lv_at hl 2 rfl) ?_
  refine ew_get (v := .ref (X 31 0)) hx hb hts hown hK hV fM_86 hi0 (cR_0 _ _ _) rfl dM_settled_32 ?_
  refine lv_iload_n hx hb dM_settled_35 rfl (lv_at hl 1 rfl) ?_
  refine ew_iald (v := A 31 0 (2 * (6 * ln + pk))) hx hb hK hV (hE 31 (by decide)) (cR_31 _ _ _) 0 rfl (vp_in_nI (by omega) (by decide)) (er_ix (by omega) rfl) dM_settled_36 ?_
  refine lv_icmp_ne (tgt := 89) hx hb dM_settled_37 rfl (fun h1 => ?_) (fun h1 => ?_)
  · refine lv_iconst (v := 0) hx hb dM_settled_89 (by decide) ?_
    exact er_zret hx hb hr hlocks hV hS dM_settled_90 (by decide) ⟨Eq.symm (by unfold s_settled_ok; simp only [if_neg h1]), Eq.symm (by unfold s_settled_ok; simp only [if_neg h1])⟩
  · refine lv_aload_n hx hb dM_settled_40 rfl (lv_at hl 2 rfl) ?_
    refine ew_get (v := .ref (X 29 0)) hx hb hts hown hK hV fM_80 hi0 (cR_0 _ _ _) rfl dM_settled_41 ?_
    refine lv_iload_n hx hb dM_settled_44 rfl (lv_at hl 0 rfl) ?_
    refine ew_iald (v := A 29 0 ((2 * (6 * ln + pk)) + 1)) hx hb hK hV (hE 29 (by decide)) (cR_29 _ _ _) 0 rfl (vp_in_nI (by omega) (by decide)) (er_ix (by omega) rfl) dM_settled_45 ?_
    refine lv_aload_n hx hb dM_settled_46 rfl (lv_at hl 2 rfl) ?_
    refine ew_get (v := .ref (X 31 0)) hx hb hts hown hK hV fM_86 hi0 (cR_0 _ _ _) rfl dM_settled_47 ?_
    refine lv_iload_n hx hb dM_settled_50 rfl (lv_at hl 0 rfl) ?_
    refine ew_iald (v := A 31 0 ((2 * (6 * ln + pk)) + 1)) hx hb hK hV (hE 31 (by decide)) (cR_31 _ _ _) 0 rfl (vp_in_nI (by omega) (by decide)) (er_ix (by omega) rfl) dM_settled_51 ?_
    refine lv_icmp_ne (tgt := 89) hx hb dM_settled_52 rfl (fun h2 => ?_) (fun h2 => ?_)
    · refine lv_iconst (v := 0) hx hb dM_settled_89 (by decide) ?_
      exact er_zret hx hb hr hlocks hV hS dM_settled_90 (by decide) ⟨Eq.symm (by unfold s_settled_ok; simp only [if_pos h1, if_neg h2]), Eq.symm (by unfold s_settled_ok; simp only [if_pos h1, if_neg h2])⟩
    · refine lv_aload_n hx hb dM_settled_55 rfl (lv_at hl 2 rfl) ?_
      refine ew_get (v := .ref (X 29 0)) hx hb hts hown hK hV fM_80 hi0 (cR_0 _ _ _) rfl dM_settled_56 ?_
      refine lv_iload_n hx hb dM_settled_59 rfl (lv_at hl 1 rfl) ?_
      refine ew_iald (v := A 29 0 (2 * (6 * ln + pk))) hx hb hK hV (hE 29 (by decide)) (cR_29 _ _ _) 0 rfl (vp_in_nI (by omega) (by decide)) (er_ix (by omega) rfl) dM_settled_60 ?_
      refine lv_aload_n hx hb dM_settled_61 rfl (lv_at hl 2 rfl) ?_
      refine ew_get (v := .ref (X 30 0)) hx hb hts hown hK hV fM_83 hi0 (cR_0 _ _ _) rfl dM_settled_62 ?_
      refine lv_iload_n hx hb dM_settled_65 rfl (lv_at hl 0 rfl) ?_
      refine ew_iald (v := A 30 0 ((2 * (6 * ln + pk)) + 1)) hx hb hK hV (hE 30 (by decide)) (cR_30 _ _ _) 0 rfl (vp_in_nI (by omega) (by decide)) (er_ix (by omega) rfl) dM_settled_66 ?_
      refine lv_icmp_ne (tgt := 89) hx hb dM_settled_67 rfl (fun h3 => ?_) (fun h3 => ?_)
      · refine lv_iconst (v := 0) hx hb dM_settled_89 (by decide) ?_
        exact er_zret hx hb hr hlocks hV hS dM_settled_90 (by decide) ⟨Eq.symm (by unfold s_settled_ok; simp only [if_pos h1, if_pos h2, if_neg h3]), Eq.symm (by unfold s_settled_ok; simp only [if_pos h1, if_pos h2, if_neg h3])⟩
      · refine lv_aload_n hx hb dM_settled_70 rfl (lv_at hl 2 rfl) ?_
        refine ew_get (v := .ref (X 29 0)) hx hb hts hown hK hV fM_80 hi0 (cR_0 _ _ _) rfl dM_settled_71 ?_
        refine lv_iload_n hx hb dM_settled_74 rfl (lv_at hl 0 rfl) ?_
        refine ew_iald (v := A 29 0 ((2 * (6 * ln + pk)) + 1)) hx hb hK hV (hE 29 (by decide)) (cR_29 _ _ _) 0 rfl (vp_in_nI (by omega) (by decide)) (er_ix (by omega) rfl) dM_settled_75 ?_
        refine lv_aload_n hx hb dM_settled_76 rfl (lv_at hl 2 rfl) ?_
        refine ew_get (v := .ref (X 30 0)) hx hb hts hown hK hV fM_83 hi0 (cR_0 _ _ _) rfl dM_settled_77 ?_
        refine lv_iload_n hx hb dM_settled_80 rfl (lv_at hl 1 rfl) ?_
        refine ew_iald (v := A 30 0 (2 * (6 * ln + pk))) hx hb hK hV (hE 30 (by decide)) (cR_30 _ _ _) 0 rfl (vp_in_nI (by omega) (by decide)) (er_ix (by omega) rfl) dM_settled_81 ?_
        refine lv_icmp_ne (tgt := 89) hx hb dM_settled_82 rfl (fun h4 => ?_) (fun h4 => ?_)
        · refine lv_iconst (v := 0) hx hb dM_settled_89 (by decide) ?_
          exact er_zret hx hb hr hlocks hV hS dM_settled_90 (by decide) ⟨Eq.symm (by unfold s_settled_ok; simp only [if_pos h1, if_pos h2, if_pos h3, if_neg h4]), Eq.symm (by unfold s_settled_ok; simp only [if_pos h1, if_pos h2, if_pos h3, if_neg h4])⟩
        · refine lv_iconst (v := 1) hx hb dM_settled_85 (by decide) ?_
          refine lv_goto (tgt := 90) hx hb dM_settled_86 rfl ?_
          exact er_zret hx hb hr hlocks hV hS dM_settled_90 (by decide) ⟨Eq.symm (by unfold s_settled_ok; simp only [if_pos h1, if_pos h2, if_pos h3, if_pos h4]), Eq.symm (by unfold s_settled_ok; simp only [if_pos h1, if_pos h2, if_pos h3, if_pos h4])⟩

def s_settled_no (A : ew_R) (ln : Int32) : Int32 × ew_R :=
  (0, up3 A 0 0 0 0)
set_option maxHeartbeats 4000000 in
set_option maxRecDepth 100000 in
theorem r_settled_no (l : Launch) (D : va_G) (T : Nat → ClassId) (X : Nat → Nat → Nat) (L : List Nat) (tg : Nat → Nat × Nat) (sz : Nat) (hE : eR_E X L tg) (A : ew_R) (ln : Int32) (hno : s_isLoan A ln = 0) : Met l yM_settled wsM_settled ({ frames := 1, cells := 0, slots := 0, locals := 21 }) (er_Pc D vwCl (tysA T) (cfR T) X L tg A sz [.ref (X 0 0), .int ln]) (er_Qi D vwCl (cfR T) X L tg sz (fun r u => r = (s_settled_no A ln).1 ∧ u = (s_settled_no A ln).2)) 0 0 (ew_A L sz) := by
  refine er_met (by decide) rfl (Nat.le_of_ble_eq_true rfl) ?_
  intro p e s m below meth c ls hx hb hr hts hown hlocks hml hV hK hS hA hl hsz
  subst hsz
  have hi0 := hE 0 (by decide)
  have hl : lv_has ls 4 [(0, .ref (X 0 0)), (1, .int ln)] := hl
  refine lv_aload_n hx hb dM_settled_0 rfl (lv_at hl 0 rfl) ?_
  refine lv_iconst (v := 0) hx hb dM_settled_1 (by decide) ?_
  refine ew_put (ty := .int) hx hb hts hown hK hV hS fM_113 gM hi0 (cR_0 _ _ _) 0 _ (pR_0 _ _ _ _) rfl (by decide +kernel) rfl rfl (Nat.le_of_ble_eq_true rfl) dM_settled_2 (fun H locs hV hS => ?_)
  refine lv_aload_n hx hb dM_settled_5 rfl (lv_at hl 0 rfl) ?_
  refine lv_iload_n hx hb dM_settled_6 rfl (lv_at hl 1 rfl) ?_
  refine er_calli (va_runV (As := [.int ln]) (rest := []) ⟨hx, hb, hml, hown, hts⟩ (r_isLoan l D T X L tg _ hE (up3 A 0 0 0 0) ln) (cwV 1 hts gM_172 rfl rfl rfl (by decide +kernel) ⟨Nat.le_of_ble_eq_true rfl, Nat.le_of_ble_eq_true rfl⟩) (er_preV hK hV hi0 (cR_0 _ _ _) rfl) rfl rfl hl.1 rfl (lv_room (Nat.le_of_ble_eq_true rfl)) dM_settled_7 ⟨Nat.le_of_ble_eq_true rfl, Nat.le_of_ble_eq_true rfl⟩) hV hS hA (fun r u H locs hp hV hS => ?_)
  obtain ⟨rfl, eu9⟩ := hp
  rw [eu9] at hV
  refine lv_toe (y := 0) hno ?_
  refine lv_if_ne (tgt := 15) hx hb dM_settled_10 rfl (fun h9 => absurd (by decide) h9) (fun _ => ?_)
  refine lv_iconst (v := 0) hx hb dM_settled_13 (by decide) ?_
  exact er_zret hx hb hr hlocks hV hS dM_settled_14 (by decide) ⟨Eq.symm (by unfold s_settled_no; rfl), Eq.symm (by unfold s_settled_no; rfl)⟩

def s_letter_neg (A : ew_R) (i : Int32) (what : Int32) : Int32 × ew_R :=
  ((-1), up3 A 0 0 0 0)
set_option maxHeartbeats 4000000 in
set_option maxRecDepth 100000 in
theorem r_letter_neg (l : Launch) (D : va_G) (T : Nat → ClassId) (X : Nat → Nat → Nat) (L : List Nat) (tg : Nat → Nat × Nat) (sz : Nat) (hE : eR_E X L tg) (A : ew_R) (i : Int32) (what : Int32) (hn0 : i < 0) : Met l yM_letter wsM_letter ({ frames := 0, cells := 0, slots := 0, locals := 0 }) (er_Pc D vwCl (tysA T) (cfR T) X L tg A sz [.ref (X 0 0), .int i, .int what]) (er_Qi D vwCl (cfR T) X L tg sz (fun r u => r = (s_letter_neg A i what).1 ∧ u = (s_letter_neg A i what).2)) 0 0 (ew_A L sz) := by
  refine er_met (by decide) rfl (Nat.le_of_ble_eq_true rfl) ?_
  intro p e s m below meth c ls hx hb hr hts hown hlocks hml hV hK hS hA hl hsz
  subst hsz
  have hi0 := hE 0 (by decide)
  have hl : lv_has ls 7 [(0, .ref (X 0 0)), (1, .int i), (2, .int what)] := hl
  refine lv_aload_n hx hb dM_letter_0 rfl (lv_at hl 0 rfl) ?_
  refine lv_iconst (v := 0) hx hb dM_letter_1 (by decide) ?_
  refine ew_put (ty := .int) hx hb hts hown hK hV hS fM_113 gM hi0 (cR_0 _ _ _) 0 _ (pR_0 _ _ _ _) rfl (by decide +kernel) rfl rfl (Nat.le_of_ble_eq_true rfl) dM_letter_2 (fun H locs hV hS => ?_)
  refine lv_iload_n hx hb dM_letter_5 rfl (lv_at hl 1 rfl) ?_
  refine lv_if_lt (tgt := 17) hx hb dM_letter_6 rfl (fun _ => ?_) (fun h9 => absurd hn0 h9)
  refine lv_iconst (v := (-1)) hx hb dM_letter_17 (by decide) ?_
  exact er_iret hx hb hr hlocks hV hS dM_letter_18 ⟨Eq.symm (by unfold s_letter_neg; rfl), Eq.symm (by unfold s_letter_neg; rfl)⟩

def s_letter_big (A : ew_R) (i : Int32) (what : Int32) (w : Nat) : Int32 × ew_R :=
  ((-1), up3 A 0 0 0 0)
set_option maxHeartbeats 4000000 in
set_option maxRecDepth 100000 in
theorem r_letter_big (l : Launch) (D : va_G) (T : Nat → ClassId) (X : Nat → Nat → Nat) (L : List Nat) (tg : Nat → Nat × Nat) (sz : Nat) (hE : eR_E X L tg) (A : ew_R) (i : Int32) (what : Int32) (w : Nat) (hn0 : ¬ i < 0) (hno : nI w ≤ i) (hq : A 0 0 4 = nI w) : Met l yM_letter wsM_letter ({ frames := 0, cells := 0, slots := 0, locals := 0 }) (er_Pc D vwCl (tysA T) (cfR T) X L tg A sz [.ref (X 0 0), .int i, .int what]) (er_Qi D vwCl (cfR T) X L tg sz (fun r u => r = (s_letter_big A i what w).1 ∧ u = (s_letter_big A i what w).2)) 0 0 (ew_A L sz) := by
  refine er_met (by decide) rfl (Nat.le_of_ble_eq_true rfl) ?_
  intro p e s m below meth c ls hx hb hr hts hown hlocks hml hV hK hS hA hl hsz
  subst hsz
  have hi0 := hE 0 (by decide)
  have hl : lv_has ls 7 [(0, .ref (X 0 0)), (1, .int i), (2, .int what)] := hl
  refine lv_aload_n hx hb dM_letter_0 rfl (lv_at hl 0 rfl) ?_
  refine lv_iconst (v := 0) hx hb dM_letter_1 (by decide) ?_
  refine ew_put (ty := .int) hx hb hts hown hK hV hS fM_113 gM hi0 (cR_0 _ _ _) 0 _ (pR_0 _ _ _ _) rfl (by decide +kernel) rfl rfl (Nat.le_of_ble_eq_true rfl) dM_letter_2 (fun H locs hV hS => ?_)
  refine lv_iload_n hx hb dM_letter_5 rfl (lv_at hl 1 rfl) ?_
  refine lv_if_lt (tgt := 17) hx hb dM_letter_6 rfl (fun h9 => absurd h9 hn0) (fun _ => ?_)
  refine lv_iload_n hx hb dM_letter_9 rfl (lv_at hl 1 rfl) ?_
  refine lv_aload_n hx hb dM_letter_10 rfl (lv_at hl 0 rfl) ?_
  refine ew_get (v := .int (A 0 0 4)) hx hb hts hown hK hV fM_120 hi0 (cR_0 _ _ _) rfl dM_letter_11 ?_
  refine lv_toe (y := nI w) hq ?_
  refine lv_icmp_lt (tgt := 19) hx hb dM_letter_14 rfl (fun h9 => absurd h9 (i3_nlt hno)) (fun _ => ?_)
  refine lv_iconst (v := (-1)) hx hb dM_letter_17 (by decide) ?_
  exact er_iret hx hb hr hlocks hV hS dM_letter_18 ⟨Eq.symm (by unfold s_letter_big; rfl), Eq.symm (by unfold s_letter_big; rfl)⟩

def s_letter_ok (A : ew_R) (i : Nat) (what : Int32) (w : Nat) (be : Nat) : Int32 × ew_R :=
  if be % 2 = 1 then
    if what = 0 then
      (nI (be / 12), up3 A 0 0 0 0)
    else
      if what = 1 then
        (nI ((be / 2) % 6), up3 A 0 0 0 0)
      else
        if what = 2 then
          (A 11 0 (be / 12), up3 A 0 0 0 0)
        else
          if what = 3 then
            if A 37 0 i = (-1) then
              (0, up3 A 0 0 0 0)
            else
              (A 33 0 ((A 37 0 i).toNatClampNeg), up3 A 0 0 0 0)
          else
            if what = 4 then
              (A 39 0 i, up3 A 0 0 0 0)
            else
              if what = 5 then
                if A 37 0 i = (-1) then
                  (0, up3 A 0 0 0 0)
                else
                  (A 34 0 ((A 37 0 i).toNatClampNeg), up3 A 0 0 0 0)
              else
                if what = 6 then
                  if A 37 0 i = (-1) then
                    (0, up3 A 0 0 0 0)
                  else
                    (A 35 0 ((A 37 0 i).toNatClampNeg), up3 A 0 0 0 0)
                else
                  ((-1), up3 A 0 0 0 0)
  else
    if what = 0 then
      (nI (be / 12), up3 A 0 0 0 0)
    else
      if what = 1 then
        (A 11 0 (be / 12), up3 A 0 0 0 0)
      else
        if what = 2 then
          (nI ((be / 2) % 6), up3 A 0 0 0 0)
        else
          if what = 3 then
            if A 37 0 i = (-1) then
              (0, up3 A 0 0 0 0)
            else
              (A 33 0 ((A 37 0 i).toNatClampNeg), up3 A 0 0 0 0)
          else
            if what = 4 then
              (A 39 0 i, up3 A 0 0 0 0)
            else
              if what = 5 then
                if A 37 0 i = (-1) then
                  (0, up3 A 0 0 0 0)
                else
                  (A 34 0 ((A 37 0 i).toNatClampNeg), up3 A 0 0 0 0)
              else
                if what = 6 then
                  if A 37 0 i = (-1) then
                    (0, up3 A 0 0 0 0)
                  else
                    (A 35 0 ((A 37 0 i).toNatClampNeg), up3 A 0 0 0 0)
                else
                  ((-1), up3 A 0 0 0 0)
set_option maxHeartbeats 4000000 in
set_option maxRecDepth 100000 in
theorem r_letter_ok (l : Launch) (D : va_G) (T : Nat → ClassId) (X : Nat → Nat → Nat) (L : List Nat) (tg : Nat → Nat × Nat) (sz : Nat) (hE : eR_E X L tg) (A : ew_R) (i : Nat) (what : Int32) (w : Nat) (be : Nat) (hi : i < w) (hw : w ≤ 64) (hq : A 0 0 4 = nI w) (hbe : be < 384) (q38 : A 38 0 i = nI be) (q37 : A 37 0 i = (-1) ∨ vp_in (A 37 0 i) 3000) : Met l yM_letter wsM_letter ({ frames := 0, cells := 0, slots := 0, locals := 0 }) (er_Pc D vwCl (tysA T) (cfR T) X L tg A sz [.ref (X 0 0), .int (nI i), .int what]) (er_Qi D vwCl (cfR T) X L tg sz (fun r u => r = (s_letter_ok A i what w be).1 ∧ u = (s_letter_ok A i what w be).2)) 0 0 (ew_A L sz) := by
  refine er_met (by decide) rfl (Nat.le_of_ble_eq_true rfl) ?_
  intro p e s m below meth c ls hx hb hr hts hown hlocks hml hV hK hS hA hl hsz
  subst hsz
  have hi0 := hE 0 (by decide)
  have hl : lv_has ls 7 [(0, .ref (X 0 0)), (1, .int (nI i)), (2, .int what)] := hl
  refine lv_aload_n hx hb dM_letter_0 rfl (lv_at hl 0 rfl) ?_
  refine lv_iconst (v := 0) hx hb dM_letter_1 (by decide) ?_
  refine ew_put (ty := .int) hx hb hts hown hK hV hS fM_113 gM hi0 (cR_0 _ _ _) 0 _ (pR_0 _ _ _ _) rfl (by decide +kernel) rfl rfl (Nat.le_of_ble_eq_true rfl) dM_letter_2 (fun H locs hV hS => ?_)
  refine lv_iload_n hx hb dM_letter_5 rfl (lv_at hl 1 rfl) ?_
  refine lv_if_lt (tgt := 17) hx hb dM_letter_6 rfl (fun h9 => absurd h9 (fun z9 => (show ¬ (i < 0) by omega) ((nI_ltI (a := i) (b := 0) (by omega) (by omega)).mp z9))) (fun _ => ?_)
  refine lv_iload_n hx hb dM_letter_9 rfl (lv_at hl 1 rfl) ?_
  refine lv_aload_n hx hb dM_letter_10 rfl (lv_at hl 0 rfl) ?_
  refine ew_get (v := .int (A 0 0 4)) hx hb hts hown hK hV fM_120 hi0 (cR_0 _ _ _) rfl dM_letter_11 ?_
  refine lv_toe (y := nI w) hq ?_
  refine lv_icmp_lt (tgt := 19) hx hb dM_letter_14 rfl (fun _ => ?_) (fun h9 => absurd ((nI_ltI (a := i) (b := w) (by omega) (by omega)).mpr (show i < w by omega)) h9)
  refine lv_aload_n hx hb dM_letter_19 rfl (lv_at hl 0 rfl) ?_
  refine ew_get (v := .ref (X 38 0)) hx hb hts hown hK hV fM_107 hi0 (cR_0 _ _ _) rfl dM_letter_20 ?_
  refine lv_iload_n hx hb dM_letter_23 rfl (lv_at hl 1 rfl) ?_
  refine ew_iald (v := A 38 0 i) hx hb hK hV (hE 38 (by decide)) (cR_38 _ _ _) 0 rfl (vp_in_nI (by omega) (by decide)) (er_ix (by omega) rfl) dM_letter_24 ?_
  refine lv_toe (y := nI be) q38 ?_
  refine lv_bipush (v := 12) hx hb dM_letter_25 (by decide) ?_
  refine lv_idiv hx hb dM_letter_27 (by decide) ?_
  refine lv_toe (y := nI (be / 12)) (pk_div (a := be) (d := 12) (by omega) (by decide) (by decide)) ?_
  refine lv_istore_n (lv' := [(3, .int (nI (be / 12))), (0, .ref (X 0 0)), (1, .int (nI i)), (2, .int what)]) hx hb dM_letter_28 rfl hl (by decide) rfl (fun ls hl => ?_)
  refine lv_aload_n hx hb dM_letter_29 rfl (lv_at hl 1 rfl) ?_
  refine ew_get (v := .ref (X 38 0)) hx hb hts hown hK hV fM_107 hi0 (cR_0 _ _ _) rfl dM_letter_30 ?_
  refine lv_iload_n hx hb dM_letter_33 rfl (lv_at hl 2 rfl) ?_
  refine ew_iald (v := A 38 0 i) hx hb hK hV (hE 38 (by decide)) (cR_38 _ _ _) 0 rfl (vp_in_nI (by omega) (by decide)) (er_ix (by omega) rfl) dM_letter_34 ?_
  refine lv_toe (y := nI be) q38 ?_
  refine lv_iconst (v := 2) hx hb dM_letter_35 (by decide) ?_
  refine lv_idiv hx hb dM_letter_36 (by decide) ?_
  refine lv_toe (y := nI (be / 2)) (pk_div (a := be) (d := 2) (by omega) (by decide) (by decide)) ?_
  refine lv_bipush (v := 6) hx hb dM_letter_37 (by decide) ?_
  refine lv_irem hx hb dM_letter_39 (by decide) ?_
  refine lv_toe (y := nI ((be / 2) % 6)) (pk_rem (a := (be / 2)) (d := 6) (by omega) (by decide) (by decide)) ?_
  refine lv_istore (lv' := [(4, .int (nI ((be / 2) % 6))), (3, .int (nI (be / 12))), (0, .ref (X 0 0)), (1, .int (nI i)), (2, .int what)]) hx hb dM_letter_40 hl (by decide) rfl (fun ls hl => ?_)
  refine lv_aload_n hx hb dM_letter_42 rfl (lv_at hl 2 rfl) ?_
  refine ew_get (v := .ref (X 38 0)) hx hb hts hown hK hV fM_107 hi0 (cR_0 _ _ _) rfl dM_letter_43 ?_
  refine lv_iload_n hx hb dM_letter_46 rfl (lv_at hl 3 rfl) ?_
  refine ew_iald (v := A 38 0 i) hx hb hK hV (hE 38 (by decide)) (cR_38 _ _ _) 0 rfl (vp_in_nI (by omega) (by decide)) (er_ix (by omega) rfl) dM_letter_47 ?_
  refine lv_toe (y := nI be) q38 ?_
  refine lv_iconst (v := 2) hx hb dM_letter_48 (by decide) ?_
  refine lv_irem hx hb dM_letter_49 (by decide) ?_
  refine lv_toe (y := nI (be % 2)) (pk_rem (a := be) (d := 2) (by omega) (by decide) (by decide)) ?_
  refine lv_iconst (v := 1) hx hb dM_letter_50 (by decide) ?_
  refine lv_icmp_ne (tgt := 58) hx hb dM_letter_51 rfl (fun h1 => ?_) (fun h1 => ?_)
  · replace h1 : ¬ (be % 2 = 1) := fun z9 => h1 ((nI_eq (a := be % 2) (b := 1) (by omega) (by omega)).mpr z9)
    refine lv_iconst (v := 0) hx hb dM_letter_58 (by decide) ?_
    refine lv_istore (lv' := [(5, .int 0), (4, .int (nI ((be / 2) % 6))), (3, .int (nI (be / 12))), (0, .ref (X 0 0)), (1, .int (nI i)), (2, .int what)]) hx hb dM_letter_59 hl (by decide) rfl (fun ls hl => ?_)
    refine lv_aload_n hx hb dM_letter_61 rfl (lv_at hl 3 rfl) ?_
    refine ew_get (v := .ref (X 37 0)) hx hb hts hown hK hV fM_104 hi0 (cR_0 _ _ _) rfl dM_letter_62 ?_
    refine lv_iload_n hx hb dM_letter_65 rfl (lv_at hl 4 rfl) ?_
    refine ew_iald (v := A 37 0 i) hx hb hK hV (hE 37 (by decide)) (cR_37 _ _ _) 0 rfl (vp_in_nI (by omega) (by decide)) (er_ix (by omega) rfl) dM_letter_66 ?_
    refine lv_istore (lv' := [(6, .int (A 37 0 i)), (5, .int 0), (4, .int (nI ((be / 2) % 6))), (3, .int (nI (be / 12))), (0, .ref (X 0 0)), (1, .int (nI i)), (2, .int what)]) hx hb dM_letter_67 hl (by decide) rfl (fun ls hl => ?_)
    refine lv_iload_n hx hb dM_letter_69 rfl (lv_at hl 6 rfl) ?_
    by_cases h2 : what = 0
    · refine lv_tableIn (tgt := 112) hx hb dM_letter_70 (by rw [h2]; decide) (by rw [h2]; decide) (by rw [h2]; rfl) rfl ?_
      refine lv_iload_n hx hb dM_letter_112 rfl (lv_at hl 3 rfl) ?_
      exact er_iret hx hb hr hlocks hV hS dM_letter_113 ⟨Eq.symm (by unfold s_letter_ok; simp only [if_neg h1, if_pos h2]), Eq.symm (by unfold s_letter_ok; simp only [if_neg h1, if_pos h2])⟩
    · by_cases h3 : what = 1
      · refine lv_tableIn (tgt := 114) hx hb dM_letter_70 (by rw [h3]; decide) (by rw [h3]; decide) (by rw [h3]; rfl) rfl ?_
        refine lv_iload hx hb dM_letter_114 (lv_at hl 1 rfl) ?_
        refine lv_if_eq (tgt := 124) hx hb dM_letter_116 rfl (fun _ => ?_) (fun h9 => absurd (by decide) h9)
        refine lv_aload_n hx hb dM_letter_124 rfl (lv_at hl 4 rfl) ?_
        refine ew_get (v := .ref (X 11 0)) hx hb hts hown hK hV fM_25 hi0 (cR_0 _ _ _) rfl dM_letter_125 ?_
        refine lv_iload_n hx hb dM_letter_128 rfl (lv_at hl 3 rfl) ?_
        refine ew_iald (v := A 11 0 (be / 12)) hx hb hK hV (hE 11 (by decide)) (cR_11 _ _ _) 0 rfl (vp_in_nI (by omega) (by decide)) (er_ix (by omega) rfl) dM_letter_129 ?_
        exact er_iret hx hb hr hlocks hV hS dM_letter_130 ⟨Eq.symm (by unfold s_letter_ok; simp only [if_neg h1, if_neg h2, if_pos h3]), Eq.symm (by unfold s_letter_ok; simp only [if_neg h1, if_neg h2, if_pos h3])⟩
      · by_cases h4 : what = 2
        · refine lv_tableIn (tgt := 131) hx hb dM_letter_70 (by rw [h4]; decide) (by rw [h4]; decide) (by rw [h4]; rfl) rfl ?_
          refine lv_iload hx hb dM_letter_131 (lv_at hl 1 rfl) ?_
          refine lv_if_eq (tgt := 145) hx hb dM_letter_133 rfl (fun _ => ?_) (fun h9 => absurd (by decide) h9)
          refine lv_iload hx hb dM_letter_145 (lv_at hl 2 rfl) ?_
          exact er_iret hx hb hr hlocks hV hS dM_letter_147 ⟨Eq.symm (by unfold s_letter_ok; simp only [if_neg h1, if_neg h2, if_neg h3, if_pos h4]), Eq.symm (by unfold s_letter_ok; simp only [if_neg h1, if_neg h2, if_neg h3, if_pos h4])⟩
        · by_cases h5 : what = 3
          · refine lv_tableIn (tgt := 148) hx hb dM_letter_70 (by rw [h5]; decide) (by rw [h5]; decide) (by rw [h5]; rfl) rfl ?_
            refine lv_iload hx hb dM_letter_148 (lv_at hl 0 rfl) ?_
            refine lv_iconst (v := (-1)) hx hb dM_letter_150 (by decide) ?_
            refine lv_icmp_ne (tgt := 158) hx hb dM_letter_151 rfl (fun h6 => ?_) (fun h6 => ?_)
            · refine lv_aload_n hx hb dM_letter_158 rfl (lv_at hl 4 rfl) ?_
              refine ew_get (v := .ref (X 33 0)) hx hb hts hown hK hV fM_92 hi0 (cR_0 _ _ _) rfl dM_letter_159 ?_
              refine lv_iload hx hb dM_letter_162 (lv_at hl 0 rfl) ?_
              refine ew_iald (v := A 33 0 ((A 37 0 i).toNatClampNeg)) hx hb hK hV (hE 33 (by decide)) (cR_33 _ _ _) 0 rfl (q37.resolve_left h6) rfl dM_letter_164 ?_
              exact er_iret hx hb hr hlocks hV hS dM_letter_165 ⟨Eq.symm (by unfold s_letter_ok; simp only [if_neg h1, if_neg h2, if_neg h3, if_neg h4, if_pos h5, if_neg h6]), Eq.symm (by unfold s_letter_ok; simp only [if_neg h1, if_neg h2, if_neg h3, if_neg h4, if_pos h5, if_neg h6])⟩
            · refine lv_iconst (v := 0) hx hb dM_letter_154 (by decide) ?_
              refine lv_goto (tgt := 165) hx hb dM_letter_155 rfl ?_
              exact er_iret hx hb hr hlocks hV hS dM_letter_165 ⟨Eq.symm (by unfold s_letter_ok; simp only [if_neg h1, if_neg h2, if_neg h3, if_neg h4, if_pos h5, if_pos h6]), Eq.symm (by unfold s_letter_ok; simp only [if_neg h1, if_neg h2, if_neg h3, if_neg h4, if_pos h5, if_pos h6])⟩
          · by_cases h7 : what = 4
            · refine lv_tableIn (tgt := 166) hx hb dM_letter_70 (by rw [h7]; decide) (by rw [h7]; decide) (by rw [h7]; rfl) rfl ?_
              refine lv_aload_n hx hb dM_letter_166 rfl (lv_at hl 4 rfl) ?_
              refine ew_get (v := .ref (X 39 0)) hx hb hts hown hK hV fM_110 hi0 (cR_0 _ _ _) rfl dM_letter_167 ?_
              refine lv_iload_n hx hb dM_letter_170 rfl (lv_at hl 5 rfl) ?_
              refine ew_iald (v := A 39 0 i) hx hb hK hV (hE 39 (by decide)) (cR_39 _ _ _) 0 rfl (vp_in_nI (by omega) (by decide)) (er_ix (by omega) rfl) dM_letter_171 ?_
              exact er_iret hx hb hr hlocks hV hS dM_letter_172 ⟨Eq.symm (by unfold s_letter_ok; simp only [if_neg h1, if_neg h2, if_neg h3, if_neg h4, if_neg h5, if_pos h7]), Eq.symm (by unfold s_letter_ok; simp only [if_neg h1, if_neg h2, if_neg h3, if_neg h4, if_neg h5, if_pos h7])⟩
            · by_cases h8 : what = 5
              · refine lv_tableIn (tgt := 173) hx hb dM_letter_70 (by rw [h8]; decide) (by rw [h8]; decide) (by rw [h8]; rfl) rfl ?_
                refine lv_iload hx hb dM_letter_173 (lv_at hl 0 rfl) ?_
                refine lv_iconst (v := (-1)) hx hb dM_letter_175 (by decide) ?_
                refine lv_icmp_ne (tgt := 183) hx hb dM_letter_176 rfl (fun h9 => ?_) (fun h9 => ?_)
                · refine lv_aload_n hx hb dM_letter_183 rfl (lv_at hl 4 rfl) ?_
                  refine ew_get (v := .ref (X 34 0)) hx hb hts hown hK hV fM_95 hi0 (cR_0 _ _ _) rfl dM_letter_184 ?_
                  refine lv_iload hx hb dM_letter_187 (lv_at hl 0 rfl) ?_
                  refine ew_iald (v := A 34 0 ((A 37 0 i).toNatClampNeg)) hx hb hK hV (hE 34 (by decide)) (cR_34 _ _ _) 0 rfl (q37.resolve_left h9) rfl dM_letter_189 ?_
                  exact er_iret hx hb hr hlocks hV hS dM_letter_190 ⟨Eq.symm (by unfold s_letter_ok; simp only [if_neg h1, if_neg h2, if_neg h3, if_neg h4, if_neg h5, if_neg h7, if_pos h8, if_neg h9]), Eq.symm (by unfold s_letter_ok; simp only [if_neg h1, if_neg h2, if_neg h3, if_neg h4, if_neg h5, if_neg h7, if_pos h8, if_neg h9])⟩
                · refine lv_iconst (v := 0) hx hb dM_letter_179 (by decide) ?_
                  refine lv_goto (tgt := 190) hx hb dM_letter_180 rfl ?_
                  exact er_iret hx hb hr hlocks hV hS dM_letter_190 ⟨Eq.symm (by unfold s_letter_ok; simp only [if_neg h1, if_neg h2, if_neg h3, if_neg h4, if_neg h5, if_neg h7, if_pos h8, if_pos h9]), Eq.symm (by unfold s_letter_ok; simp only [if_neg h1, if_neg h2, if_neg h3, if_neg h4, if_neg h5, if_neg h7, if_pos h8, if_pos h9])⟩
              · by_cases h10 : what = 6
                · refine lv_tableIn (tgt := 191) hx hb dM_letter_70 (by rw [h10]; decide) (by rw [h10]; decide) (by rw [h10]; rfl) rfl ?_
                  refine lv_iload hx hb dM_letter_191 (lv_at hl 0 rfl) ?_
                  refine lv_iconst (v := (-1)) hx hb dM_letter_193 (by decide) ?_
                  refine lv_icmp_ne (tgt := 201) hx hb dM_letter_194 rfl (fun h11 => ?_) (fun h11 => ?_)
                  · refine lv_aload_n hx hb dM_letter_201 rfl (lv_at hl 4 rfl) ?_
                    refine ew_get (v := .ref (X 35 0)) hx hb hts hown hK hV fM_98 hi0 (cR_0 _ _ _) rfl dM_letter_202 ?_
                    refine lv_iload hx hb dM_letter_205 (lv_at hl 0 rfl) ?_
                    refine ew_iald (v := A 35 0 ((A 37 0 i).toNatClampNeg)) hx hb hK hV (hE 35 (by decide)) (cR_35 _ _ _) 0 rfl (q37.resolve_left h11) rfl dM_letter_207 ?_
                    exact er_iret hx hb hr hlocks hV hS dM_letter_208 ⟨Eq.symm (by unfold s_letter_ok; simp only [if_neg h1, if_neg h2, if_neg h3, if_neg h4, if_neg h5, if_neg h7, if_neg h8, if_pos h10, if_neg h11]), Eq.symm (by unfold s_letter_ok; simp only [if_neg h1, if_neg h2, if_neg h3, if_neg h4, if_neg h5, if_neg h7, if_neg h8, if_pos h10, if_neg h11])⟩
                  · refine lv_iconst (v := 0) hx hb dM_letter_197 (by decide) ?_
                    refine lv_goto (tgt := 208) hx hb dM_letter_198 rfl ?_
                    exact er_iret hx hb hr hlocks hV hS dM_letter_208 ⟨Eq.symm (by unfold s_letter_ok; simp only [if_neg h1, if_neg h2, if_neg h3, if_neg h4, if_neg h5, if_neg h7, if_neg h8, if_pos h10, if_pos h11]), Eq.symm (by unfold s_letter_ok; simp only [if_neg h1, if_neg h2, if_neg h3, if_neg h4, if_neg h5, if_neg h7, if_neg h8, if_pos h10, if_pos h11])⟩
                · refine lv_tableOut (tgt := 209) hx hb dM_letter_70 (by have a0 := lv_neT (a := 0) h2 (by decide); have a1 := lv_neT (a := 1) h3 (by decide); have a2 := lv_neT (a := 2) h4 (by decide); have a3 := lv_neT (a := 3) h5 (by decide); have a4 := lv_neT (a := 4) h7 (by decide); have a5 := lv_neT (a := 5) h8 (by decide); have a6 := lv_neT (a := 6) h10 (by decide); omega) rfl ?_
                  refine lv_iconst (v := (-1)) hx hb dM_letter_209 (by decide) ?_
                  exact er_iret hx hb hr hlocks hV hS dM_letter_210 ⟨Eq.symm (by unfold s_letter_ok; simp only [if_neg h1, if_neg h2, if_neg h3, if_neg h4, if_neg h5, if_neg h7, if_neg h8, if_neg h10]), Eq.symm (by unfold s_letter_ok; simp only [if_neg h1, if_neg h2, if_neg h3, if_neg h4, if_neg h5, if_neg h7, if_neg h8, if_neg h10])⟩
  · replace h1 := (nI_eq (a := be % 2) (b := 1) (by omega) (by omega)).mp h1
    refine lv_iconst (v := 1) hx hb dM_letter_54 (by decide) ?_
    refine lv_goto (tgt := 59) hx hb dM_letter_55 rfl ?_
    refine lv_istore (lv' := [(5, .int 1), (4, .int (nI ((be / 2) % 6))), (3, .int (nI (be / 12))), (0, .ref (X 0 0)), (1, .int (nI i)), (2, .int what)]) hx hb dM_letter_59 hl (by decide) rfl (fun ls hl => ?_)
    refine lv_aload_n hx hb dM_letter_61 rfl (lv_at hl 3 rfl) ?_
    refine ew_get (v := .ref (X 37 0)) hx hb hts hown hK hV fM_104 hi0 (cR_0 _ _ _) rfl dM_letter_62 ?_
    refine lv_iload_n hx hb dM_letter_65 rfl (lv_at hl 4 rfl) ?_
    refine ew_iald (v := A 37 0 i) hx hb hK hV (hE 37 (by decide)) (cR_37 _ _ _) 0 rfl (vp_in_nI (by omega) (by decide)) (er_ix (by omega) rfl) dM_letter_66 ?_
    refine lv_istore (lv' := [(6, .int (A 37 0 i)), (5, .int 1), (4, .int (nI ((be / 2) % 6))), (3, .int (nI (be / 12))), (0, .ref (X 0 0)), (1, .int (nI i)), (2, .int what)]) hx hb dM_letter_67 hl (by decide) rfl (fun ls hl => ?_)
    refine lv_iload_n hx hb dM_letter_69 rfl (lv_at hl 6 rfl) ?_
    by_cases h12 : what = 0
    · refine lv_tableIn (tgt := 112) hx hb dM_letter_70 (by rw [h12]; decide) (by rw [h12]; decide) (by rw [h12]; rfl) rfl ?_
      refine lv_iload_n hx hb dM_letter_112 rfl (lv_at hl 3 rfl) ?_
      exact er_iret hx hb hr hlocks hV hS dM_letter_113 ⟨Eq.symm (by unfold s_letter_ok; simp only [if_pos h1, if_pos h12]), Eq.symm (by unfold s_letter_ok; simp only [if_pos h1, if_pos h12])⟩
    · by_cases h13 : what = 1
      · refine lv_tableIn (tgt := 114) hx hb dM_letter_70 (by rw [h13]; decide) (by rw [h13]; decide) (by rw [h13]; rfl) rfl ?_
        refine lv_iload hx hb dM_letter_114 (lv_at hl 1 rfl) ?_
        refine lv_if_eq (tgt := 124) hx hb dM_letter_116 rfl (fun h9 => absurd h9 (by decide)) (fun _ => ?_)
        refine lv_iload hx hb dM_letter_119 (lv_at hl 2 rfl) ?_
        refine lv_goto (tgt := 130) hx hb dM_letter_121 rfl ?_
        exact er_iret hx hb hr hlocks hV hS dM_letter_130 ⟨Eq.symm (by unfold s_letter_ok; simp only [if_pos h1, if_neg h12, if_pos h13]), Eq.symm (by unfold s_letter_ok; simp only [if_pos h1, if_neg h12, if_pos h13])⟩
      · by_cases h14 : what = 2
        · refine lv_tableIn (tgt := 131) hx hb dM_letter_70 (by rw [h14]; decide) (by rw [h14]; decide) (by rw [h14]; rfl) rfl ?_
          refine lv_iload hx hb dM_letter_131 (lv_at hl 1 rfl) ?_
          refine lv_if_eq (tgt := 145) hx hb dM_letter_133 rfl (fun h9 => absurd h9 (by decide)) (fun _ => ?_)
          refine lv_aload_n hx hb dM_letter_136 rfl (lv_at hl 4 rfl) ?_
          refine ew_get (v := .ref (X 11 0)) hx hb hts hown hK hV fM_25 hi0 (cR_0 _ _ _) rfl dM_letter_137 ?_
          refine lv_iload_n hx hb dM_letter_140 rfl (lv_at hl 3 rfl) ?_
          refine ew_iald (v := A 11 0 (be / 12)) hx hb hK hV (hE 11 (by decide)) (cR_11 _ _ _) 0 rfl (vp_in_nI (by omega) (by decide)) (er_ix (by omega) rfl) dM_letter_141 ?_
          refine lv_goto (tgt := 147) hx hb dM_letter_142 rfl ?_
          exact er_iret hx hb hr hlocks hV hS dM_letter_147 ⟨Eq.symm (by unfold s_letter_ok; simp only [if_pos h1, if_neg h12, if_neg h13, if_pos h14]), Eq.symm (by unfold s_letter_ok; simp only [if_pos h1, if_neg h12, if_neg h13, if_pos h14])⟩
        · by_cases h15 : what = 3
          · refine lv_tableIn (tgt := 148) hx hb dM_letter_70 (by rw [h15]; decide) (by rw [h15]; decide) (by rw [h15]; rfl) rfl ?_
            refine lv_iload hx hb dM_letter_148 (lv_at hl 0 rfl) ?_
            refine lv_iconst (v := (-1)) hx hb dM_letter_150 (by decide) ?_
            refine lv_icmp_ne (tgt := 158) hx hb dM_letter_151 rfl (fun h16 => ?_) (fun h16 => ?_)
            · refine lv_aload_n hx hb dM_letter_158 rfl (lv_at hl 4 rfl) ?_
              refine ew_get (v := .ref (X 33 0)) hx hb hts hown hK hV fM_92 hi0 (cR_0 _ _ _) rfl dM_letter_159 ?_
              refine lv_iload hx hb dM_letter_162 (lv_at hl 0 rfl) ?_
              refine ew_iald (v := A 33 0 ((A 37 0 i).toNatClampNeg)) hx hb hK hV (hE 33 (by decide)) (cR_33 _ _ _) 0 rfl (q37.resolve_left h16) rfl dM_letter_164 ?_
              exact er_iret hx hb hr hlocks hV hS dM_letter_165 ⟨Eq.symm (by unfold s_letter_ok; simp only [if_pos h1, if_neg h12, if_neg h13, if_neg h14, if_pos h15, if_neg h16]), Eq.symm (by unfold s_letter_ok; simp only [if_pos h1, if_neg h12, if_neg h13, if_neg h14, if_pos h15, if_neg h16])⟩
            · refine lv_iconst (v := 0) hx hb dM_letter_154 (by decide) ?_
              refine lv_goto (tgt := 165) hx hb dM_letter_155 rfl ?_
              exact er_iret hx hb hr hlocks hV hS dM_letter_165 ⟨Eq.symm (by unfold s_letter_ok; simp only [if_pos h1, if_neg h12, if_neg h13, if_neg h14, if_pos h15, if_pos h16]), Eq.symm (by unfold s_letter_ok; simp only [if_pos h1, if_neg h12, if_neg h13, if_neg h14, if_pos h15, if_pos h16])⟩
          · by_cases h17 : what = 4
            · refine lv_tableIn (tgt := 166) hx hb dM_letter_70 (by rw [h17]; decide) (by rw [h17]; decide) (by rw [h17]; rfl) rfl ?_
              refine lv_aload_n hx hb dM_letter_166 rfl (lv_at hl 4 rfl) ?_
              refine ew_get (v := .ref (X 39 0)) hx hb hts hown hK hV fM_110 hi0 (cR_0 _ _ _) rfl dM_letter_167 ?_
              refine lv_iload_n hx hb dM_letter_170 rfl (lv_at hl 5 rfl) ?_
              refine ew_iald (v := A 39 0 i) hx hb hK hV (hE 39 (by decide)) (cR_39 _ _ _) 0 rfl (vp_in_nI (by omega) (by decide)) (er_ix (by omega) rfl) dM_letter_171 ?_
              exact er_iret hx hb hr hlocks hV hS dM_letter_172 ⟨Eq.symm (by unfold s_letter_ok; simp only [if_pos h1, if_neg h12, if_neg h13, if_neg h14, if_neg h15, if_pos h17]), Eq.symm (by unfold s_letter_ok; simp only [if_pos h1, if_neg h12, if_neg h13, if_neg h14, if_neg h15, if_pos h17])⟩
            · by_cases h18 : what = 5
              · refine lv_tableIn (tgt := 173) hx hb dM_letter_70 (by rw [h18]; decide) (by rw [h18]; decide) (by rw [h18]; rfl) rfl ?_
                refine lv_iload hx hb dM_letter_173 (lv_at hl 0 rfl) ?_
                refine lv_iconst (v := (-1)) hx hb dM_letter_175 (by decide) ?_
                refine lv_icmp_ne (tgt := 183) hx hb dM_letter_176 rfl (fun h19 => ?_) (fun h19 => ?_)
                · refine lv_aload_n hx hb dM_letter_183 rfl (lv_at hl 4 rfl) ?_
                  refine ew_get (v := .ref (X 34 0)) hx hb hts hown hK hV fM_95 hi0 (cR_0 _ _ _) rfl dM_letter_184 ?_
                  refine lv_iload hx hb dM_letter_187 (lv_at hl 0 rfl) ?_
                  refine ew_iald (v := A 34 0 ((A 37 0 i).toNatClampNeg)) hx hb hK hV (hE 34 (by decide)) (cR_34 _ _ _) 0 rfl (q37.resolve_left h19) rfl dM_letter_189 ?_
                  exact er_iret hx hb hr hlocks hV hS dM_letter_190 ⟨Eq.symm (by unfold s_letter_ok; simp only [if_pos h1, if_neg h12, if_neg h13, if_neg h14, if_neg h15, if_neg h17, if_pos h18, if_neg h19]), Eq.symm (by unfold s_letter_ok; simp only [if_pos h1, if_neg h12, if_neg h13, if_neg h14, if_neg h15, if_neg h17, if_pos h18, if_neg h19])⟩
                · refine lv_iconst (v := 0) hx hb dM_letter_179 (by decide) ?_
                  refine lv_goto (tgt := 190) hx hb dM_letter_180 rfl ?_
                  exact er_iret hx hb hr hlocks hV hS dM_letter_190 ⟨Eq.symm (by unfold s_letter_ok; simp only [if_pos h1, if_neg h12, if_neg h13, if_neg h14, if_neg h15, if_neg h17, if_pos h18, if_pos h19]), Eq.symm (by unfold s_letter_ok; simp only [if_pos h1, if_neg h12, if_neg h13, if_neg h14, if_neg h15, if_neg h17, if_pos h18, if_pos h19])⟩
              · by_cases h20 : what = 6
                · refine lv_tableIn (tgt := 191) hx hb dM_letter_70 (by rw [h20]; decide) (by rw [h20]; decide) (by rw [h20]; rfl) rfl ?_
                  refine lv_iload hx hb dM_letter_191 (lv_at hl 0 rfl) ?_
                  refine lv_iconst (v := (-1)) hx hb dM_letter_193 (by decide) ?_
                  refine lv_icmp_ne (tgt := 201) hx hb dM_letter_194 rfl (fun h21 => ?_) (fun h21 => ?_)
                  · refine lv_aload_n hx hb dM_letter_201 rfl (lv_at hl 4 rfl) ?_
                    refine ew_get (v := .ref (X 35 0)) hx hb hts hown hK hV fM_98 hi0 (cR_0 _ _ _) rfl dM_letter_202 ?_
                    refine lv_iload hx hb dM_letter_205 (lv_at hl 0 rfl) ?_
                    refine ew_iald (v := A 35 0 ((A 37 0 i).toNatClampNeg)) hx hb hK hV (hE 35 (by decide)) (cR_35 _ _ _) 0 rfl (q37.resolve_left h21) rfl dM_letter_207 ?_
                    exact er_iret hx hb hr hlocks hV hS dM_letter_208 ⟨Eq.symm (by unfold s_letter_ok; simp only [if_pos h1, if_neg h12, if_neg h13, if_neg h14, if_neg h15, if_neg h17, if_neg h18, if_pos h20, if_neg h21]), Eq.symm (by unfold s_letter_ok; simp only [if_pos h1, if_neg h12, if_neg h13, if_neg h14, if_neg h15, if_neg h17, if_neg h18, if_pos h20, if_neg h21])⟩
                  · refine lv_iconst (v := 0) hx hb dM_letter_197 (by decide) ?_
                    refine lv_goto (tgt := 208) hx hb dM_letter_198 rfl ?_
                    exact er_iret hx hb hr hlocks hV hS dM_letter_208 ⟨Eq.symm (by unfold s_letter_ok; simp only [if_pos h1, if_neg h12, if_neg h13, if_neg h14, if_neg h15, if_neg h17, if_neg h18, if_pos h20, if_pos h21]), Eq.symm (by unfold s_letter_ok; simp only [if_pos h1, if_neg h12, if_neg h13, if_neg h14, if_neg h15, if_neg h17, if_neg h18, if_pos h20, if_pos h21])⟩
                · refine lv_tableOut (tgt := 209) hx hb dM_letter_70 (by have a0 := lv_neT (a := 0) h12 (by decide); have a1 := lv_neT (a := 1) h13 (by decide); have a2 := lv_neT (a := 2) h14 (by decide); have a3 := lv_neT (a := 3) h15 (by decide); have a4 := lv_neT (a := 4) h17 (by decide); have a5 := lv_neT (a := 5) h18 (by decide); have a6 := lv_neT (a := 6) h20 (by decide); omega) rfl ?_
                  refine lv_iconst (v := (-1)) hx hb dM_letter_209 (by decide) ?_
                  exact er_iret hx hb hr hlocks hV hS dM_letter_210 ⟨Eq.symm (by unfold s_letter_ok; simp only [if_pos h1, if_neg h12, if_neg h13, if_neg h14, if_neg h15, if_neg h17, if_neg h18, if_neg h20]), Eq.symm (by unfold s_letter_ok; simp only [if_pos h1, if_neg h12, if_neg h13, if_neg h14, if_neg h15, if_neg h17, if_neg h18, if_neg h20])⟩

def s_book_nol (A : ew_R) (b : Int32) (ln : Int32) (what : Int32) : Int32 × ew_R :=
  ((-1), up3 A 0 0 0 0)
set_option maxHeartbeats 4000000 in
set_option maxRecDepth 100000 in
theorem r_book_nol (l : Launch) (D : va_G) (T : Nat → ClassId) (X : Nat → Nat → Nat) (L : List Nat) (tg : Nat → Nat × Nat) (sz : Nat) (hE : eR_E X L tg) (A : ew_R) (b : Int32) (ln : Int32) (what : Int32) (hno : s_isLoan A ln = 0) : Met l yM_book wsM_book ({ frames := 1, cells := 0, slots := 0, locals := 21 }) (er_Pc D vwCl (tysA T) (cfR T) X L tg A sz [.ref (X 0 0), .int b, .int ln, .int what]) (er_Qi D vwCl (cfR T) X L tg sz (fun r u => r = (s_book_nol A b ln what).1 ∧ u = (s_book_nol A b ln what).2)) 0 0 (ew_A L sz) := by
  refine er_met (by decide) rfl (Nat.le_of_ble_eq_true rfl) ?_
  intro p e s m below meth c ls hx hb hr hts hown hlocks hml hV hK hS hA hl hsz
  subst hsz
  have hi0 := hE 0 (by decide)
  have hl : lv_has ls 7 [(0, .ref (X 0 0)), (1, .int b), (2, .int ln), (3, .int what)] := hl
  refine lv_aload_n hx hb dM_book_0 rfl (lv_at hl 0 rfl) ?_
  refine lv_iconst (v := 0) hx hb dM_book_1 (by decide) ?_
  refine ew_put (ty := .int) hx hb hts hown hK hV hS fM_113 gM hi0 (cR_0 _ _ _) 0 _ (pR_0 _ _ _ _) rfl (by decide +kernel) rfl rfl (Nat.le_of_ble_eq_true rfl) dM_book_2 (fun H locs hV hS => ?_)
  refine lv_aload_n hx hb dM_book_5 rfl (lv_at hl 0 rfl) ?_
  refine lv_iload_n hx hb dM_book_6 rfl (lv_at hl 2 rfl) ?_
  refine er_calli (va_runV (As := [.int ln]) (rest := []) ⟨hx, hb, hml, hown, hts⟩ (r_isLoan l D T X L tg _ hE (up3 A 0 0 0 0) ln) (cwV 1 hts gM_172 rfl rfl rfl (by decide +kernel) ⟨Nat.le_of_ble_eq_true rfl, Nat.le_of_ble_eq_true rfl⟩) (er_preV hK hV hi0 (cR_0 _ _ _) rfl) rfl rfl hl.1 rfl (lv_room (Nat.le_of_ble_eq_true rfl)) dM_book_7 ⟨Nat.le_of_ble_eq_true rfl, Nat.le_of_ble_eq_true rfl⟩) hV hS hA (fun r u H locs hp hV hS => ?_)
  obtain ⟨rfl, eu9⟩ := hp
  rw [eu9] at hV
  refine lv_toe (y := 0) hno ?_
  refine lv_if_eq (tgt := 20) hx hb dM_book_10 rfl (fun _ => ?_) (fun h9 => absurd (by decide) h9)
  refine lv_iconst (v := (-1)) hx hb dM_book_20 (by decide) ?_
  exact er_iret hx hb hr hlocks hV hS dM_book_21 ⟨Eq.symm (by unfold s_book_nol; rfl), Eq.symm (by unfold s_book_nol; rfl)⟩

def s_book_nob (A : ew_R) (b : Int32) (ln : Nat) (what : Int32) (nl : Nat) : Int32 × ew_R :=
  ((-1), up3 A 0 0 0 0)
set_option maxHeartbeats 4000000 in
set_option maxRecDepth 100000 in
theorem r_book_nob (l : Launch) (D : va_G) (T : Nat → ClassId) (X : Nat → Nat → Nat) (L : List Nat) (tg : Nat → Nat × Nat) (sz : Nat) (hE : eR_E X L tg) (A : ew_R) (b : Int32) (ln : Nat) (what : Int32) (nl : Nat) (hnl : ln < nl) (hn2 : nl ≤ 32) (q2 : A 0 0 2 = nI nl) (hnb : s_isLibrary b = 0) : Met l yM_book wsM_book ({ frames := 1, cells := 0, slots := 0, locals := 21 }) (er_Pc D vwCl (tysA T) (cfR T) X L tg A sz [.ref (X 0 0), .int b, .int (nI ln), .int what]) (er_Qi D vwCl (cfR T) X L tg sz (fun r u => r = (s_book_nob A b ln what nl).1 ∧ u = (s_book_nob A b ln what nl).2)) 0 0 (ew_A L sz) := by
  refine er_met (by decide) rfl (Nat.le_of_ble_eq_true rfl) ?_
  intro p e s m below meth c ls hx hb hr hts hown hlocks hml hV hK hS hA hl hsz
  subst hsz
  have hi0 := hE 0 (by decide)
  have hl : lv_has ls 7 [(0, .ref (X 0 0)), (1, .int b), (2, .int (nI ln)), (3, .int what)] := hl
  refine lv_aload_n hx hb dM_book_0 rfl (lv_at hl 0 rfl) ?_
  refine lv_iconst (v := 0) hx hb dM_book_1 (by decide) ?_
  refine ew_put (ty := .int) hx hb hts hown hK hV hS fM_113 gM hi0 (cR_0 _ _ _) 0 _ (pR_0 _ _ _ _) rfl (by decide +kernel) rfl rfl (Nat.le_of_ble_eq_true rfl) dM_book_2 (fun H locs hV hS => ?_)
  refine lv_aload_n hx hb dM_book_5 rfl (lv_at hl 0 rfl) ?_
  refine lv_iload_n hx hb dM_book_6 rfl (lv_at hl 2 rfl) ?_
  refine er_calli (va_runV (As := [.int (nI ln)]) (rest := []) ⟨hx, hb, hml, hown, hts⟩ (r_isLoan l D T X L tg _ hE (up3 A 0 0 0 0) (nI ln)) (cwV 1 hts gM_172 rfl rfl rfl (by decide +kernel) ⟨Nat.le_of_ble_eq_true rfl, Nat.le_of_ble_eq_true rfl⟩) (er_preV hK hV hi0 (cR_0 _ _ _) rfl) rfl rfl hl.1 rfl (lv_room (Nat.le_of_ble_eq_true rfl)) dM_book_7 ⟨Nat.le_of_ble_eq_true rfl, Nat.le_of_ble_eq_true rfl⟩) hV hS hA (fun r u H locs hp hV hS => ?_)
  obtain ⟨rfl, eu9⟩ := hp
  rw [eu9] at hV
  refine lv_toe (y := 1) (s_isLoan_1 q2 hnl hn2) ?_
  refine lv_if_eq (tgt := 20) hx hb dM_book_10 rfl (fun h9 => absurd h9 (by decide)) (fun _ => ?_)
  refine lv_iload_n hx hb dM_book_13 rfl (lv_at hl 1 rfl) ?_
  refine er_calli (va_runS (As := [.int b]) (rest := []) ⟨hx, hb, hml, hown, hts⟩ (r_isLibrary l D T X L tg _ hE (up3 A 0 0 0 0) b) (cwS 1 hts gM_142 rfl rfl rfl (by decide +kernel) ⟨Nat.le_of_ble_eq_true rfl, Nat.le_of_ble_eq_true rfl⟩) (er_preS hK hV) rfl rfl hl.1 rfl (lv_room (Nat.le_of_ble_eq_true rfl)) dM_book_14 ⟨Nat.le_of_ble_eq_true rfl, Nat.le_of_ble_eq_true rfl⟩) hV hS hA (fun r u H locs hp hV hS => ?_)
  obtain ⟨rfl, eu9⟩ := hp
  rw [eu9] at hV
  refine lv_toe (y := 0) hnb ?_
  refine lv_if_ne (tgt := 22) hx hb dM_book_17 rfl (fun h9 => absurd (by decide) h9) (fun _ => ?_)
  refine lv_iconst (v := (-1)) hx hb dM_book_20 (by decide) ?_
  exact er_iret hx hb hr hlocks hV hS dM_book_21 ⟨Eq.symm (by unfold s_book_nob; rfl), Eq.symm (by unfold s_book_nob; rfl)⟩

def s_book_ok (A : ew_R) (b : Nat) (ln : Nat) (what : Int32) (nl : Nat) (pk : Nat) (rq : Nat) : Int32 × ew_R :=
  if b = rq then
    if what = 0 then
      (A 18 0 ln, up3 A 0 0 0 0)
    else
      if what = 1 then
        (A 19 0 ln, up3 A 0 0 0 0)
      else
        if what = 2 then
          (A 20 0 ln, up3 A 0 0 0 0)
        else
          if what = 3 then
            (A 21 0 ln, up3 A 0 0 0 0)
          else
            if what = 4 then
              (A 29 0 (2 * (6 * ln + pk)), up3 A 0 0 0 0)
            else
              if what = 5 then
                (A 30 0 (2 * (6 * ln + pk)), up3 A 0 0 0 0)
              else
                if what = 6 then
                  (A 31 0 (2 * (6 * ln + pk)), up3 A 0 0 0 0)
                else
                  if what = 7 then
                    if s_hasIt (up3 A 0 0 0 0) ln = 0 then
                      (0, up3 A 0 0 0 0)
                    else
                      (1, up3 A 0 0 0 0)
                  else
                    ((-1), up3 A 0 0 0 0)
  else
    if A 22 0 ((6 * ln) + b) = 0 then
      ((-1), up3 A 0 0 0 0)
    else
      if what = 0 then
        (A 23 0 ((6 * ln) + b), up3 A 0 0 0 0)
      else
        if what = 1 then
          (A 24 0 ((6 * ln) + b), up3 A 0 0 0 0)
        else
          if what = 2 then
            (A 25 0 ((6 * ln) + b), up3 A 0 0 0 0)
          else
            if what = 3 then
              (A 26 0 ((6 * ln) + b), up3 A 0 0 0 0)
            else
              if what = 4 then
                (A 29 0 ((2 * ((6 * ln) + b)) + 1), up3 A 0 0 0 0)
              else
                if what = 5 then
                  (A 30 0 ((2 * ((6 * ln) + b)) + 1), up3 A 0 0 0 0)
                else
                  if what = 6 then
                    (A 31 0 ((2 * ((6 * ln) + b)) + 1), up3 A 0 0 0 0)
                  else
                    if what = 7 then
                      if A 23 0 ((6 * ln) + b) = 3 then
                        (1, up3 A 0 0 0 0)
                      else
                        (0, up3 A 0 0 0 0)
                    else
                      ((-1), up3 A 0 0 0 0)
set_option maxHeartbeats 4000000 in
set_option maxRecDepth 100000 in
theorem r_book_ok (l : Launch) (D : va_G) (T : Nat → ClassId) (X : Nat → Nat → Nat) (L : List Nat) (tg : Nat → Nat × Nat) (sz : Nat) (hE : eR_E X L tg) (A : ew_R) (b : Nat) (ln : Nat) (what : Int32) (nl : Nat) (pk : Nat) (rq : Nat) (hb6 : b < 6) (hnl : ln < nl) (hn2 : nl ≤ 32) (q2 : A 0 0 2 = nI nl) (hpk : pk < 6) (hrq : rq < 6) (q16 : A 16 0 ln = nI pk) (q11 : A 11 0 ln = nI rq) : Met l yM_book wsM_book ({ frames := 1, cells := 0, slots := 0, locals := 21 }) (er_Pc D vwCl (tysA T) (cfR T) X L tg A sz [.ref (X 0 0), .int (nI b), .int (nI ln), .int what]) (er_Qi D vwCl (cfR T) X L tg sz (fun r u => r = (s_book_ok A b ln what nl pk rq).1 ∧ u = (s_book_ok A b ln what nl pk rq).2)) 0 0 (ew_A L sz) := by
  refine er_met (by decide) rfl (Nat.le_of_ble_eq_true rfl) ?_
  intro p e s m below meth c ls hx hb hr hts hown hlocks hml hV hK hS hA hl hsz
  subst hsz
  have hi0 := hE 0 (by decide)
  have hl : lv_has ls 7 [(0, .ref (X 0 0)), (1, .int (nI b)), (2, .int (nI ln)), (3, .int what)] := hl
  refine lv_aload_n hx hb dM_book_0 rfl (lv_at hl 0 rfl) ?_
  refine lv_iconst (v := 0) hx hb dM_book_1 (by decide) ?_
  refine ew_put (ty := .int) hx hb hts hown hK hV hS fM_113 gM hi0 (cR_0 _ _ _) 0 _ (pR_0 _ _ _ _) rfl (by decide +kernel) rfl rfl (Nat.le_of_ble_eq_true rfl) dM_book_2 (fun H locs hV hS => ?_)
  refine lv_aload_n hx hb dM_book_5 rfl (lv_at hl 0 rfl) ?_
  refine lv_iload_n hx hb dM_book_6 rfl (lv_at hl 2 rfl) ?_
  refine er_calli (va_runV (As := [.int (nI ln)]) (rest := []) ⟨hx, hb, hml, hown, hts⟩ (r_isLoan l D T X L tg _ hE (up3 A 0 0 0 0) (nI ln)) (cwV 1 hts gM_172 rfl rfl rfl (by decide +kernel) ⟨Nat.le_of_ble_eq_true rfl, Nat.le_of_ble_eq_true rfl⟩) (er_preV hK hV hi0 (cR_0 _ _ _) rfl) rfl rfl hl.1 rfl (lv_room (Nat.le_of_ble_eq_true rfl)) dM_book_7 ⟨Nat.le_of_ble_eq_true rfl, Nat.le_of_ble_eq_true rfl⟩) hV hS hA (fun r u H locs hp hV hS => ?_)
  obtain ⟨rfl, eu9⟩ := hp
  rw [eu9] at hV
  refine lv_toe (y := 1) (s_isLoan_1 q2 hnl hn2) ?_
  refine lv_if_eq (tgt := 20) hx hb dM_book_10 rfl (fun h9 => absurd h9 (by decide)) (fun _ => ?_)
  refine lv_iload_n hx hb dM_book_13 rfl (lv_at hl 1 rfl) ?_
  refine er_calli (va_runS (As := [.int (nI b)]) (rest := []) ⟨hx, hb, hml, hown, hts⟩ (r_isLibrary l D T X L tg _ hE (up3 A 0 0 0 0) (nI b)) (cwS 1 hts gM_142 rfl rfl rfl (by decide +kernel) ⟨Nat.le_of_ble_eq_true rfl, Nat.le_of_ble_eq_true rfl⟩) (er_preS hK hV) rfl rfl hl.1 rfl (lv_room (Nat.le_of_ble_eq_true rfl)) dM_book_14 ⟨Nat.le_of_ble_eq_true rfl, Nat.le_of_ble_eq_true rfl⟩) hV hS hA (fun r u H locs hp hV hS => ?_)
  obtain ⟨rfl, eu9⟩ := hp
  rw [eu9] at hV
  refine lv_toe (y := 1) (s_isLibrary_1 hb6) ?_
  refine lv_if_ne (tgt := 22) hx hb dM_book_17 rfl (fun _ => ?_) (fun h9 => absurd h9 (by decide))
  refine lv_iload_n hx hb dM_book_22 rfl (lv_at hl 1 rfl) ?_
  refine lv_aload_n hx hb dM_book_23 rfl (lv_at hl 0 rfl) ?_
  refine ew_get (v := .ref (X 11 0)) hx hb hts hown hK hV fM_25 hi0 (cR_0 _ _ _) rfl dM_book_24 ?_
  refine lv_iload_n hx hb dM_book_27 rfl (lv_at hl 2 rfl) ?_
  refine ew_iald (v := A 11 0 ln) hx hb hK hV (hE 11 (by decide)) (cR_11 _ _ _) 0 rfl (vp_in_nI (by omega) (by decide)) (er_ix (by omega) rfl) dM_book_28 ?_
  refine lv_toe (y := nI rq) q11 ?_
  refine lv_icmp_ne (tgt := 36) hx hb dM_book_29 rfl (fun h1 => ?_) (fun h1 => ?_)
  · replace h1 : ¬ (b = rq) := fun z9 => h1 ((nI_eq (a := b) (b := rq) (by omega) (by omega)).mpr z9)
    refine lv_iconst (v := 0) hx hb dM_book_36 (by decide) ?_
    refine lv_istore (lv' := [(4, .int 0), (0, .ref (X 0 0)), (1, .int (nI b)), (2, .int (nI ln)), (3, .int what)]) hx hb dM_book_37 hl (by decide) rfl (fun ls hl => ?_)
    refine lv_bipush (v := 6) hx hb dM_book_39 (by decide) ?_
    refine lv_iload_n hx hb dM_book_41 rfl (lv_at hl 3 rfl) ?_
    refine lv_imul hx hb dM_book_42 ?_
    refine lv_toe (y := nI (6 * ln)) (pk_mul 6 ln) ?_
    refine lv_iload_n hx hb dM_book_43 rfl (lv_at hl 2 rfl) ?_
    refine lv_iadd hx hb dM_book_44 ?_
    refine lv_toe (y := nI ((6 * ln) + b)) (nI_add (6 * ln) b) ?_
    refine lv_istore (lv' := [(5, .int (nI ((6 * ln) + b))), (4, .int 0), (0, .ref (X 0 0)), (1, .int (nI b)), (2, .int (nI ln)), (3, .int what)]) hx hb dM_book_45 hl (by decide) rfl (fun ls hl => ?_)
    refine lv_iload hx hb dM_book_47 (lv_at hl 1 rfl) ?_
    refine lv_if_ne (tgt := 64) hx hb dM_book_49 rfl (fun h9 => absurd (by decide) h9) (fun _ => ?_)
    refine lv_aload_n hx hb dM_book_52 rfl (lv_at hl 2 rfl) ?_
    refine ew_get (v := .ref (X 22 0)) hx hb hts hown hK hV fM_58 hi0 (cR_0 _ _ _) rfl dM_book_53 ?_
    refine lv_iload hx hb dM_book_56 (lv_at hl 0 rfl) ?_
    refine ew_zald (v := A 22 0 ((6 * ln) + b)) hx hb hK hV (hE 22 (by decide)) (cR_22 _ _ _) 1 rfl (vp_in_nI (by omega) (by decide)) (er_ix (by omega) rfl) dM_book_58 ?_
    refine lv_if_ne (tgt := 64) hx hb dM_book_59 rfl (fun h2 => ?_) (fun h2 => ?_)
    · refine lv_iload hx hb dM_book_64 (lv_at hl 1 rfl) ?_
      refine lv_if_eq (tgt := 77) hx hb dM_book_66 rfl (fun _ => ?_) (fun h9 => absurd (by decide) h9)
      refine lv_iconst (v := 2) hx hb dM_book_77 (by decide) ?_
      refine lv_iload hx hb dM_book_78 (lv_at hl 0 rfl) ?_
      refine lv_imul hx hb dM_book_80 ?_
      refine lv_toe (y := nI (2 * ((6 * ln) + b))) (pk_mul 2 ((6 * ln) + b)) ?_
      refine lv_iconst (v := 1) hx hb dM_book_81 (by decide) ?_
      refine lv_iadd hx hb dM_book_82 ?_
      refine lv_toe (y := nI ((2 * ((6 * ln) + b)) + 1)) (nI_add (2 * ((6 * ln) + b)) 1) ?_
      refine lv_istore (lv' := [(6, .int (nI ((2 * ((6 * ln) + b)) + 1))), (5, .int (nI ((6 * ln) + b))), (4, .int 0), (0, .ref (X 0 0)), (1, .int (nI b)), (2, .int (nI ln)), (3, .int what)]) hx hb dM_book_83 hl (by decide) rfl (fun ls hl => ?_)
      refine lv_iload_n hx hb dM_book_85 rfl (lv_at hl 6 rfl) ?_
      by_cases h3 : what = 0
      · refine lv_tableIn (tgt := 132) hx hb dM_book_86 (by rw [h3]; decide) (by rw [h3]; decide) (by rw [h3]; rfl) rfl ?_
        refine lv_iload hx hb dM_book_132 (lv_at hl 2 rfl) ?_
        refine lv_if_eq (tgt := 146) hx hb dM_book_134 rfl (fun _ => ?_) (fun h9 => absurd (by decide) h9)
        refine lv_aload_n hx hb dM_book_146 rfl (lv_at hl 3 rfl) ?_
        refine ew_get (v := .ref (X 23 0)) hx hb hts hown hK hV fM_62 hi0 (cR_0 _ _ _) rfl dM_book_147 ?_
        refine lv_iload hx hb dM_book_150 (lv_at hl 1 rfl) ?_
        refine ew_iald (v := A 23 0 ((6 * ln) + b)) hx hb hK hV (hE 23 (by decide)) (cR_23 _ _ _) 0 rfl (vp_in_nI (by omega) (by decide)) (er_ix (by omega) rfl) dM_book_152 ?_
        exact er_iret hx hb hr hlocks hV hS dM_book_153 ⟨Eq.symm (by unfold s_book_ok; simp only [if_neg h1, if_neg h2, if_pos h3]), Eq.symm (by unfold s_book_ok; simp only [if_neg h1, if_neg h2, if_pos h3])⟩
      · by_cases h4 : what = 1
        · refine lv_tableIn (tgt := 154) hx hb dM_book_86 (by rw [h4]; decide) (by rw [h4]; decide) (by rw [h4]; rfl) rfl ?_
          refine lv_iload hx hb dM_book_154 (lv_at hl 2 rfl) ?_
          refine lv_if_eq (tgt := 168) hx hb dM_book_156 rfl (fun _ => ?_) (fun h9 => absurd (by decide) h9)
          refine lv_aload_n hx hb dM_book_168 rfl (lv_at hl 3 rfl) ?_
          refine ew_get (v := .ref (X 24 0)) hx hb hts hown hK hV fM_65 hi0 (cR_0 _ _ _) rfl dM_book_169 ?_
          refine lv_iload hx hb dM_book_172 (lv_at hl 1 rfl) ?_
          refine ew_iald (v := A 24 0 ((6 * ln) + b)) hx hb hK hV (hE 24 (by decide)) (cR_24 _ _ _) 0 rfl (vp_in_nI (by omega) (by decide)) (er_ix (by omega) rfl) dM_book_174 ?_
          exact er_iret hx hb hr hlocks hV hS dM_book_175 ⟨Eq.symm (by unfold s_book_ok; simp only [if_neg h1, if_neg h2, if_neg h3, if_pos h4]), Eq.symm (by unfold s_book_ok; simp only [if_neg h1, if_neg h2, if_neg h3, if_pos h4])⟩
        · by_cases h5 : what = 2
          · refine lv_tableIn (tgt := 176) hx hb dM_book_86 (by rw [h5]; decide) (by rw [h5]; decide) (by rw [h5]; rfl) rfl ?_
            refine lv_iload hx hb dM_book_176 (lv_at hl 2 rfl) ?_
            refine lv_if_eq (tgt := 190) hx hb dM_book_178 rfl (fun _ => ?_) (fun h9 => absurd (by decide) h9)
            refine lv_aload_n hx hb dM_book_190 rfl (lv_at hl 3 rfl) ?_
            refine ew_get (v := .ref (X 25 0)) hx hb hts hown hK hV fM_68 hi0 (cR_0 _ _ _) rfl dM_book_191 ?_
            refine lv_iload hx hb dM_book_194 (lv_at hl 1 rfl) ?_
            refine ew_iald (v := A 25 0 ((6 * ln) + b)) hx hb hK hV (hE 25 (by decide)) (cR_25 _ _ _) 0 rfl (vp_in_nI (by omega) (by decide)) (er_ix (by omega) rfl) dM_book_196 ?_
            exact er_iret hx hb hr hlocks hV hS dM_book_197 ⟨Eq.symm (by unfold s_book_ok; simp only [if_neg h1, if_neg h2, if_neg h3, if_neg h4, if_pos h5]), Eq.symm (by unfold s_book_ok; simp only [if_neg h1, if_neg h2, if_neg h3, if_neg h4, if_pos h5])⟩
          · by_cases h6 : what = 3
            · refine lv_tableIn (tgt := 198) hx hb dM_book_86 (by rw [h6]; decide) (by rw [h6]; decide) (by rw [h6]; rfl) rfl ?_
              refine lv_iload hx hb dM_book_198 (lv_at hl 2 rfl) ?_
              refine lv_if_eq (tgt := 212) hx hb dM_book_200 rfl (fun _ => ?_) (fun h9 => absurd (by decide) h9)
              refine lv_aload_n hx hb dM_book_212 rfl (lv_at hl 3 rfl) ?_
              refine ew_get (v := .ref (X 26 0)) hx hb hts hown hK hV fM_71 hi0 (cR_0 _ _ _) rfl dM_book_213 ?_
              refine lv_iload hx hb dM_book_216 (lv_at hl 1 rfl) ?_
              refine ew_iald (v := A 26 0 ((6 * ln) + b)) hx hb hK hV (hE 26 (by decide)) (cR_26 _ _ _) 0 rfl (vp_in_nI (by omega) (by decide)) (er_ix (by omega) rfl) dM_book_218 ?_
              exact er_iret hx hb hr hlocks hV hS dM_book_219 ⟨Eq.symm (by unfold s_book_ok; simp only [if_neg h1, if_neg h2, if_neg h3, if_neg h4, if_neg h5, if_pos h6]), Eq.symm (by unfold s_book_ok; simp only [if_neg h1, if_neg h2, if_neg h3, if_neg h4, if_neg h5, if_pos h6])⟩
            · by_cases h7 : what = 4
              · refine lv_tableIn (tgt := 220) hx hb dM_book_86 (by rw [h7]; decide) (by rw [h7]; decide) (by rw [h7]; rfl) rfl ?_
                refine lv_aload_n hx hb dM_book_220 rfl (lv_at hl 3 rfl) ?_
                refine ew_get (v := .ref (X 29 0)) hx hb hts hown hK hV fM_80 hi0 (cR_0 _ _ _) rfl dM_book_221 ?_
                refine lv_iload hx hb dM_book_224 (lv_at hl 0 rfl) ?_
                refine ew_iald (v := A 29 0 ((2 * ((6 * ln) + b)) + 1)) hx hb hK hV (hE 29 (by decide)) (cR_29 _ _ _) 0 rfl (vp_in_nI (by omega) (by decide)) (er_ix (by omega) rfl) dM_book_226 ?_
                exact er_iret hx hb hr hlocks hV hS dM_book_227 ⟨Eq.symm (by unfold s_book_ok; simp only [if_neg h1, if_neg h2, if_neg h3, if_neg h4, if_neg h5, if_neg h6, if_pos h7]), Eq.symm (by unfold s_book_ok; simp only [if_neg h1, if_neg h2, if_neg h3, if_neg h4, if_neg h5, if_neg h6, if_pos h7])⟩
              · by_cases h8 : what = 5
                · refine lv_tableIn (tgt := 228) hx hb dM_book_86 (by rw [h8]; decide) (by rw [h8]; decide) (by rw [h8]; rfl) rfl ?_
                  refine lv_aload_n hx hb dM_book_228 rfl (lv_at hl 3 rfl) ?_
                  refine ew_get (v := .ref (X 30 0)) hx hb hts hown hK hV fM_83 hi0 (cR_0 _ _ _) rfl dM_book_229 ?_
                  refine lv_iload hx hb dM_book_232 (lv_at hl 0 rfl) ?_
                  refine ew_iald (v := A 30 0 ((2 * ((6 * ln) + b)) + 1)) hx hb hK hV (hE 30 (by decide)) (cR_30 _ _ _) 0 rfl (vp_in_nI (by omega) (by decide)) (er_ix (by omega) rfl) dM_book_234 ?_
                  exact er_iret hx hb hr hlocks hV hS dM_book_235 ⟨Eq.symm (by unfold s_book_ok; simp only [if_neg h1, if_neg h2, if_neg h3, if_neg h4, if_neg h5, if_neg h6, if_neg h7, if_pos h8]), Eq.symm (by unfold s_book_ok; simp only [if_neg h1, if_neg h2, if_neg h3, if_neg h4, if_neg h5, if_neg h6, if_neg h7, if_pos h8])⟩
                · by_cases h9 : what = 6
                  · refine lv_tableIn (tgt := 236) hx hb dM_book_86 (by rw [h9]; decide) (by rw [h9]; decide) (by rw [h9]; rfl) rfl ?_
                    refine lv_aload_n hx hb dM_book_236 rfl (lv_at hl 3 rfl) ?_
                    refine ew_get (v := .ref (X 31 0)) hx hb hts hown hK hV fM_86 hi0 (cR_0 _ _ _) rfl dM_book_237 ?_
                    refine lv_iload hx hb dM_book_240 (lv_at hl 0 rfl) ?_
                    refine ew_iald (v := A 31 0 ((2 * ((6 * ln) + b)) + 1)) hx hb hK hV (hE 31 (by decide)) (cR_31 _ _ _) 0 rfl (vp_in_nI (by omega) (by decide)) (er_ix (by omega) rfl) dM_book_242 ?_
                    exact er_iret hx hb hr hlocks hV hS dM_book_243 ⟨Eq.symm (by unfold s_book_ok; simp only [if_neg h1, if_neg h2, if_neg h3, if_neg h4, if_neg h5, if_neg h6, if_neg h7, if_neg h8, if_pos h9]), Eq.symm (by unfold s_book_ok; simp only [if_neg h1, if_neg h2, if_neg h3, if_neg h4, if_neg h5, if_neg h6, if_neg h7, if_neg h8, if_pos h9])⟩
                  · by_cases h10 : what = 7
                    · refine lv_tableIn (tgt := 244) hx hb dM_book_86 (by rw [h10]; decide) (by rw [h10]; decide) (by rw [h10]; rfl) rfl ?_
                      refine lv_iload hx hb dM_book_244 (lv_at hl 2 rfl) ?_
                      refine lv_if_eq (tgt := 260) hx hb dM_book_246 rfl (fun _ => ?_) (fun h9 => absurd (by decide) h9)
                      refine lv_aload_n hx hb dM_book_260 rfl (lv_at hl 3 rfl) ?_
                      refine ew_get (v := .ref (X 23 0)) hx hb hts hown hK hV fM_62 hi0 (cR_0 _ _ _) rfl dM_book_261 ?_
                      refine lv_iload hx hb dM_book_264 (lv_at hl 1 rfl) ?_
                      refine ew_iald (v := A 23 0 ((6 * ln) + b)) hx hb hK hV (hE 23 (by decide)) (cR_23 _ _ _) 0 rfl (vp_in_nI (by omega) (by decide)) (er_ix (by omega) rfl) dM_book_266 ?_
                      refine lv_iconst (v := 3) hx hb dM_book_267 (by decide) ?_
                      refine lv_icmp_ne (tgt := 275) hx hb dM_book_268 rfl (fun h11 => ?_) (fun h11 => ?_)
                      · refine lv_iconst (v := 0) hx hb dM_book_275 (by decide) ?_
                        exact er_iret hx hb hr hlocks hV hS dM_book_276 ⟨Eq.symm (by unfold s_book_ok; simp only [if_neg h1, if_neg h2, if_neg h3, if_neg h4, if_neg h5, if_neg h6, if_neg h7, if_neg h8, if_neg h9, if_pos h10, if_neg h11]), Eq.symm (by unfold s_book_ok; simp only [if_neg h1, if_neg h2, if_neg h3, if_neg h4, if_neg h5, if_neg h6, if_neg h7, if_neg h8, if_neg h9, if_pos h10, if_neg h11])⟩
                      · refine lv_iconst (v := 1) hx hb dM_book_271 (by decide) ?_
                        refine lv_goto (tgt := 276) hx hb dM_book_272 rfl ?_
                        exact er_iret hx hb hr hlocks hV hS dM_book_276 ⟨Eq.symm (by unfold s_book_ok; simp only [if_neg h1, if_neg h2, if_neg h3, if_neg h4, if_neg h5, if_neg h6, if_neg h7, if_neg h8, if_neg h9, if_pos h10, if_pos h11]), Eq.symm (by unfold s_book_ok; simp only [if_neg h1, if_neg h2, if_neg h3, if_neg h4, if_neg h5, if_neg h6, if_neg h7, if_neg h8, if_neg h9, if_pos h10, if_pos h11])⟩
                    · refine lv_tableOut (tgt := 277) hx hb dM_book_86 (by have a0 := lv_neT (a := 0) h3 (by decide); have a1 := lv_neT (a := 1) h4 (by decide); have a2 := lv_neT (a := 2) h5 (by decide); have a3 := lv_neT (a := 3) h6 (by decide); have a4 := lv_neT (a := 4) h7 (by decide); have a5 := lv_neT (a := 5) h8 (by decide); have a6 := lv_neT (a := 6) h9 (by decide); have a7 := lv_neT (a := 7) h10 (by decide); omega) rfl ?_
                      refine lv_iconst (v := (-1)) hx hb dM_book_277 (by decide) ?_
                      exact er_iret hx hb hr hlocks hV hS dM_book_278 ⟨Eq.symm (by unfold s_book_ok; simp only [if_neg h1, if_neg h2, if_neg h3, if_neg h4, if_neg h5, if_neg h6, if_neg h7, if_neg h8, if_neg h9, if_neg h10]), Eq.symm (by unfold s_book_ok; simp only [if_neg h1, if_neg h2, if_neg h3, if_neg h4, if_neg h5, if_neg h6, if_neg h7, if_neg h8, if_neg h9, if_neg h10])⟩
    · refine lv_iconst (v := (-1)) hx hb dM_book_62 (by decide) ?_
      exact er_iret hx hb hr hlocks hV hS dM_book_63 ⟨Eq.symm (by unfold s_book_ok; simp only [if_neg h1, if_pos h2]), Eq.symm (by unfold s_book_ok; simp only [if_neg h1, if_pos h2])⟩
  · replace h1 := (nI_eq (a := b) (b := rq) (by omega) (by omega)).mp h1
    refine lv_iconst (v := 1) hx hb dM_book_32 (by decide) ?_
    refine lv_goto (tgt := 37) hx hb dM_book_33 rfl ?_
    refine lv_istore (lv' := [(4, .int 1), (0, .ref (X 0 0)), (1, .int (nI b)), (2, .int (nI ln)), (3, .int what)]) hx hb dM_book_37 hl (by decide) rfl (fun ls hl => ?_)
    refine lv_bipush (v := 6) hx hb dM_book_39 (by decide) ?_
    refine lv_iload_n hx hb dM_book_41 rfl (lv_at hl 3 rfl) ?_
    refine lv_imul hx hb dM_book_42 ?_
    refine lv_toe (y := nI (6 * ln)) (pk_mul 6 ln) ?_
    refine lv_iload_n hx hb dM_book_43 rfl (lv_at hl 2 rfl) ?_
    refine lv_iadd hx hb dM_book_44 ?_
    refine lv_toe (y := nI ((6 * ln) + b)) (nI_add (6 * ln) b) ?_
    refine lv_istore (lv' := [(5, .int (nI ((6 * ln) + b))), (4, .int 1), (0, .ref (X 0 0)), (1, .int (nI b)), (2, .int (nI ln)), (3, .int what)]) hx hb dM_book_45 hl (by decide) rfl (fun ls hl => ?_)
    refine lv_iload hx hb dM_book_47 (lv_at hl 1 rfl) ?_
    refine lv_if_ne (tgt := 64) hx hb dM_book_49 rfl (fun _ => ?_) (fun h9 => absurd h9 (by decide))
    refine lv_iload hx hb dM_book_64 (lv_at hl 1 rfl) ?_
    refine lv_if_eq (tgt := 77) hx hb dM_book_66 rfl (fun h9 => absurd h9 (by decide)) (fun _ => ?_)
    refine lv_aload_n hx hb dM_book_69 rfl (lv_at hl 2 rfl) ?_
    refine lv_iload_n hx hb dM_book_70 rfl (lv_at hl 4 rfl) ?_
    refine er_calli (va_runV (As := [.int (nI ln)]) (rest := []) ⟨hx, hb, hml, hown, hts⟩ (r_endOf l D T X L tg _ hE (up3 A 0 0 0 0) ln pk (by omega) hpk q16) (cwV 1 hts gM_134 rfl rfl rfl (by decide +kernel) ⟨Nat.le_of_ble_eq_true rfl, Nat.le_of_ble_eq_true rfl⟩) (er_preV hK hV hi0 (cR_0 _ _ _) rfl) rfl rfl hl.1 rfl (lv_room (Nat.le_of_ble_eq_true rfl)) dM_book_71 ⟨Nat.le_of_ble_eq_true rfl, Nat.le_of_ble_eq_true rfl⟩) hV hS hA (fun r u H locs hp hV hS => ?_)
    obtain ⟨rfl, eu9⟩ := hp
    rw [eu9] at hV
    refine lv_goto (tgt := 83) hx hb dM_book_74 rfl ?_
    refine lv_istore (lv' := [(6, .int (nI (2 * (6 * ln + pk)))), (5, .int (nI ((6 * ln) + b))), (4, .int 1), (0, .ref (X 0 0)), (1, .int (nI b)), (2, .int (nI ln)), (3, .int what)]) hx hb dM_book_83 hl (by decide) rfl (fun ls hl => ?_)
    refine lv_iload_n hx hb dM_book_85 rfl (lv_at hl 6 rfl) ?_
    by_cases h12 : what = 0
    · refine lv_tableIn (tgt := 132) hx hb dM_book_86 (by rw [h12]; decide) (by rw [h12]; decide) (by rw [h12]; rfl) rfl ?_
      refine lv_iload hx hb dM_book_132 (lv_at hl 2 rfl) ?_
      refine lv_if_eq (tgt := 146) hx hb dM_book_134 rfl (fun h9 => absurd h9 (by decide)) (fun _ => ?_)
      refine lv_aload_n hx hb dM_book_137 rfl (lv_at hl 3 rfl) ?_
      refine ew_get (v := .ref (X 18 0)) hx hb hts hown hK hV fM_46 hi0 (cR_0 _ _ _) rfl dM_book_138 ?_
      refine lv_iload_n hx hb dM_book_141 rfl (lv_at hl 5 rfl) ?_
      refine ew_iald (v := A 18 0 ln) hx hb hK hV (hE 18 (by decide)) (cR_18 _ _ _) 0 rfl (vp_in_nI (by omega) (by decide)) (er_ix (by omega) rfl) dM_book_142 ?_
      refine lv_goto (tgt := 153) hx hb dM_book_143 rfl ?_
      exact er_iret hx hb hr hlocks hV hS dM_book_153 ⟨Eq.symm (by unfold s_book_ok; simp only [if_pos h1, if_pos h12]), Eq.symm (by unfold s_book_ok; simp only [if_pos h1, if_pos h12])⟩
    · by_cases h13 : what = 1
      · refine lv_tableIn (tgt := 154) hx hb dM_book_86 (by rw [h13]; decide) (by rw [h13]; decide) (by rw [h13]; rfl) rfl ?_
        refine lv_iload hx hb dM_book_154 (lv_at hl 2 rfl) ?_
        refine lv_if_eq (tgt := 168) hx hb dM_book_156 rfl (fun h9 => absurd h9 (by decide)) (fun _ => ?_)
        refine lv_aload_n hx hb dM_book_159 rfl (lv_at hl 3 rfl) ?_
        refine ew_get (v := .ref (X 19 0)) hx hb hts hown hK hV fM_49 hi0 (cR_0 _ _ _) rfl dM_book_160 ?_
        refine lv_iload_n hx hb dM_book_163 rfl (lv_at hl 5 rfl) ?_
        refine ew_iald (v := A 19 0 ln) hx hb hK hV (hE 19 (by decide)) (cR_19 _ _ _) 0 rfl (vp_in_nI (by omega) (by decide)) (er_ix (by omega) rfl) dM_book_164 ?_
        refine lv_goto (tgt := 175) hx hb dM_book_165 rfl ?_
        exact er_iret hx hb hr hlocks hV hS dM_book_175 ⟨Eq.symm (by unfold s_book_ok; simp only [if_pos h1, if_neg h12, if_pos h13]), Eq.symm (by unfold s_book_ok; simp only [if_pos h1, if_neg h12, if_pos h13])⟩
      · by_cases h14 : what = 2
        · refine lv_tableIn (tgt := 176) hx hb dM_book_86 (by rw [h14]; decide) (by rw [h14]; decide) (by rw [h14]; rfl) rfl ?_
          refine lv_iload hx hb dM_book_176 (lv_at hl 2 rfl) ?_
          refine lv_if_eq (tgt := 190) hx hb dM_book_178 rfl (fun h9 => absurd h9 (by decide)) (fun _ => ?_)
          refine lv_aload_n hx hb dM_book_181 rfl (lv_at hl 3 rfl) ?_
          refine ew_get (v := .ref (X 20 0)) hx hb hts hown hK hV fM_52 hi0 (cR_0 _ _ _) rfl dM_book_182 ?_
          refine lv_iload_n hx hb dM_book_185 rfl (lv_at hl 5 rfl) ?_
          refine ew_iald (v := A 20 0 ln) hx hb hK hV (hE 20 (by decide)) (cR_20 _ _ _) 0 rfl (vp_in_nI (by omega) (by decide)) (er_ix (by omega) rfl) dM_book_186 ?_
          refine lv_goto (tgt := 197) hx hb dM_book_187 rfl ?_
          exact er_iret hx hb hr hlocks hV hS dM_book_197 ⟨Eq.symm (by unfold s_book_ok; simp only [if_pos h1, if_neg h12, if_neg h13, if_pos h14]), Eq.symm (by unfold s_book_ok; simp only [if_pos h1, if_neg h12, if_neg h13, if_pos h14])⟩
        · by_cases h15 : what = 3
          · refine lv_tableIn (tgt := 198) hx hb dM_book_86 (by rw [h15]; decide) (by rw [h15]; decide) (by rw [h15]; rfl) rfl ?_
            refine lv_iload hx hb dM_book_198 (lv_at hl 2 rfl) ?_
            refine lv_if_eq (tgt := 212) hx hb dM_book_200 rfl (fun h9 => absurd h9 (by decide)) (fun _ => ?_)
            refine lv_aload_n hx hb dM_book_203 rfl (lv_at hl 3 rfl) ?_
            refine ew_get (v := .ref (X 21 0)) hx hb hts hown hK hV fM_55 hi0 (cR_0 _ _ _) rfl dM_book_204 ?_
            refine lv_iload_n hx hb dM_book_207 rfl (lv_at hl 5 rfl) ?_
            refine ew_iald (v := A 21 0 ln) hx hb hK hV (hE 21 (by decide)) (cR_21 _ _ _) 0 rfl (vp_in_nI (by omega) (by decide)) (er_ix (by omega) rfl) dM_book_208 ?_
            refine lv_goto (tgt := 219) hx hb dM_book_209 rfl ?_
            exact er_iret hx hb hr hlocks hV hS dM_book_219 ⟨Eq.symm (by unfold s_book_ok; simp only [if_pos h1, if_neg h12, if_neg h13, if_neg h14, if_pos h15]), Eq.symm (by unfold s_book_ok; simp only [if_pos h1, if_neg h12, if_neg h13, if_neg h14, if_pos h15])⟩
          · by_cases h16 : what = 4
            · refine lv_tableIn (tgt := 220) hx hb dM_book_86 (by rw [h16]; decide) (by rw [h16]; decide) (by rw [h16]; rfl) rfl ?_
              refine lv_aload_n hx hb dM_book_220 rfl (lv_at hl 3 rfl) ?_
              refine ew_get (v := .ref (X 29 0)) hx hb hts hown hK hV fM_80 hi0 (cR_0 _ _ _) rfl dM_book_221 ?_
              refine lv_iload hx hb dM_book_224 (lv_at hl 0 rfl) ?_
              refine ew_iald (v := A 29 0 (2 * (6 * ln + pk))) hx hb hK hV (hE 29 (by decide)) (cR_29 _ _ _) 0 rfl (vp_in_nI (by omega) (by decide)) (er_ix (by omega) rfl) dM_book_226 ?_
              exact er_iret hx hb hr hlocks hV hS dM_book_227 ⟨Eq.symm (by unfold s_book_ok; simp only [if_pos h1, if_neg h12, if_neg h13, if_neg h14, if_neg h15, if_pos h16]), Eq.symm (by unfold s_book_ok; simp only [if_pos h1, if_neg h12, if_neg h13, if_neg h14, if_neg h15, if_pos h16])⟩
            · by_cases h17 : what = 5
              · refine lv_tableIn (tgt := 228) hx hb dM_book_86 (by rw [h17]; decide) (by rw [h17]; decide) (by rw [h17]; rfl) rfl ?_
                refine lv_aload_n hx hb dM_book_228 rfl (lv_at hl 3 rfl) ?_
                refine ew_get (v := .ref (X 30 0)) hx hb hts hown hK hV fM_83 hi0 (cR_0 _ _ _) rfl dM_book_229 ?_
                refine lv_iload hx hb dM_book_232 (lv_at hl 0 rfl) ?_
                refine ew_iald (v := A 30 0 (2 * (6 * ln + pk))) hx hb hK hV (hE 30 (by decide)) (cR_30 _ _ _) 0 rfl (vp_in_nI (by omega) (by decide)) (er_ix (by omega) rfl) dM_book_234 ?_
                exact er_iret hx hb hr hlocks hV hS dM_book_235 ⟨Eq.symm (by unfold s_book_ok; simp only [if_pos h1, if_neg h12, if_neg h13, if_neg h14, if_neg h15, if_neg h16, if_pos h17]), Eq.symm (by unfold s_book_ok; simp only [if_pos h1, if_neg h12, if_neg h13, if_neg h14, if_neg h15, if_neg h16, if_pos h17])⟩
              · by_cases h18 : what = 6
                · refine lv_tableIn (tgt := 236) hx hb dM_book_86 (by rw [h18]; decide) (by rw [h18]; decide) (by rw [h18]; rfl) rfl ?_
                  refine lv_aload_n hx hb dM_book_236 rfl (lv_at hl 3 rfl) ?_
                  refine ew_get (v := .ref (X 31 0)) hx hb hts hown hK hV fM_86 hi0 (cR_0 _ _ _) rfl dM_book_237 ?_
                  refine lv_iload hx hb dM_book_240 (lv_at hl 0 rfl) ?_
                  refine ew_iald (v := A 31 0 (2 * (6 * ln + pk))) hx hb hK hV (hE 31 (by decide)) (cR_31 _ _ _) 0 rfl (vp_in_nI (by omega) (by decide)) (er_ix (by omega) rfl) dM_book_242 ?_
                  exact er_iret hx hb hr hlocks hV hS dM_book_243 ⟨Eq.symm (by unfold s_book_ok; simp only [if_pos h1, if_neg h12, if_neg h13, if_neg h14, if_neg h15, if_neg h16, if_neg h17, if_pos h18]), Eq.symm (by unfold s_book_ok; simp only [if_pos h1, if_neg h12, if_neg h13, if_neg h14, if_neg h15, if_neg h16, if_neg h17, if_pos h18])⟩
                · by_cases h19 : what = 7
                  · refine lv_tableIn (tgt := 244) hx hb dM_book_86 (by rw [h19]; decide) (by rw [h19]; decide) (by rw [h19]; rfl) rfl ?_
                    refine lv_iload hx hb dM_book_244 (lv_at hl 2 rfl) ?_
                    refine lv_if_eq (tgt := 260) hx hb dM_book_246 rfl (fun h9 => absurd h9 (by decide)) (fun _ => ?_)
                    refine lv_aload_n hx hb dM_book_249 rfl (lv_at hl 3 rfl) ?_
                    refine lv_iload_n hx hb dM_book_250 rfl (lv_at hl 5 rfl) ?_
                    refine er_calli (va_runV (As := [.int (nI ln)]) (rest := []) ⟨hx, hb, hml, hown, hts⟩ (r_hasIt l D T X L tg _ hE (up3 A 0 0 0 0) ln (by omega)) (cwV 1 hts gM_159 rfl rfl rfl (by decide +kernel) ⟨Nat.le_of_ble_eq_true rfl, Nat.le_of_ble_eq_true rfl⟩) (er_preV hK hV hi0 (cR_0 _ _ _) rfl) rfl rfl hl.1 rfl (lv_room (Nat.le_of_ble_eq_true rfl)) dM_book_251 ⟨Nat.le_of_ble_eq_true rfl, Nat.le_of_ble_eq_true rfl⟩) hV hS hA (fun r u H locs hp hV hS => ?_)
                    obtain ⟨rfl, eu9⟩ := hp
                    rw [eu9] at hV
                    refine lv_if_eq (tgt := 275) hx hb dM_book_254 rfl (fun h20 => ?_) (fun h20 => ?_)
                    · refine lv_iconst (v := 0) hx hb dM_book_275 (by decide) ?_
                      exact er_iret hx hb hr hlocks hV hS dM_book_276 ⟨Eq.symm (by unfold s_book_ok; simp only [if_pos h1, if_neg h12, if_neg h13, if_neg h14, if_neg h15, if_neg h16, if_neg h17, if_neg h18, if_pos h19, if_pos h20]), Eq.symm (by unfold s_book_ok; simp only [if_pos h1, if_neg h12, if_neg h13, if_neg h14, if_neg h15, if_neg h16, if_neg h17, if_neg h18, if_pos h19, if_pos h20])⟩
                    · refine lv_goto (tgt := 271) hx hb dM_book_257 rfl ?_
                      refine lv_iconst (v := 1) hx hb dM_book_271 (by decide) ?_
                      refine lv_goto (tgt := 276) hx hb dM_book_272 rfl ?_
                      exact er_iret hx hb hr hlocks hV hS dM_book_276 ⟨Eq.symm (by unfold s_book_ok; simp only [if_pos h1, if_neg h12, if_neg h13, if_neg h14, if_neg h15, if_neg h16, if_neg h17, if_neg h18, if_pos h19, if_neg h20]), Eq.symm (by unfold s_book_ok; simp only [if_pos h1, if_neg h12, if_neg h13, if_neg h14, if_neg h15, if_neg h16, if_neg h17, if_neg h18, if_pos h19, if_neg h20])⟩
                  · refine lv_tableOut (tgt := 277) hx hb dM_book_86 (by have a0 := lv_neT (a := 0) h12 (by decide); have a1 := lv_neT (a := 1) h13 (by decide); have a2 := lv_neT (a := 2) h14 (by decide); have a3 := lv_neT (a := 3) h15 (by decide); have a4 := lv_neT (a := 4) h16 (by decide); have a5 := lv_neT (a := 5) h17 (by decide); have a6 := lv_neT (a := 6) h18 (by decide); have a7 := lv_neT (a := 7) h19 (by decide); omega) rfl ?_
                    refine lv_iconst (v := (-1)) hx hb dM_book_277 (by decide) ?_
                    exact er_iret hx hb hr hlocks hV hS dM_book_278 ⟨Eq.symm (by unfold s_book_ok; simp only [if_pos h1, if_neg h12, if_neg h13, if_neg h14, if_neg h15, if_neg h16, if_neg h17, if_neg h18, if_neg h19]), Eq.symm (by unfold s_book_ok; simp only [if_pos h1, if_neg h12, if_neg h13, if_neg h14, if_neg h15, if_neg h16, if_neg h17, if_neg h18, if_neg h19])⟩
