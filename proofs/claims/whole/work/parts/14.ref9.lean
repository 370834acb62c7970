def s_rs (A : ew_R) (en lg w ac : Nat) : Nat → ew_R
  | 0 => A
  | i + 1 => s_lay (s_rs A en lg w ac i) (s_find (s_rs A en lg w ac i) (nI en) (nI ((ac + 1) + i)) lg) en (min 64 (w + i))
theorem s_rs_lt (A : ew_R) (en lg w ac : Nat) {c : Nat} (h : c < 37) {k : Nat} (h0 : ¬ (c = 0 ∧ k = 4)) (a : Nat) : ∀ i, s_rs A en lg w ac i c a k = A c a k
  | 0 => rfl
  | i + 1 => by
    unfold s_rs
    rw [s_lay_lt _ _ _ _ h h0]
    exact s_rs_lt A en lg w ac h h0 a i
theorem s_rs_w (A : ew_R) (en lg w ac : Nat) (hq : A 0 0 4 = nI w) (hw : w ≤ 64) : ∀ i, s_rs A en lg w ac i 0 0 4 = nI (min 64 (w + i))
  | 0 => by
    show A 0 0 4 = _
    rw [hq, Nat.min_eq_right (by omega)]
    rfl
  | i + 1 => by
    unfold s_rs
    rw [s_lay_w _ _ _ _ (Nat.min_le_left _ _)]
    congr 1
    split <;> omega
def s_resend_q (A : ew_R) (rq ln nl pk ac sn w lg : Nat) : Int32 × ew_R := (nI (sn - ac + 1), s_lay (s_rs (up3 A 0 0 0 0) (2 * (6 * ln + pk)) lg w ac (sn - ac)) (-1) (2 * (6 * ln + pk)) (min 64 (w + (sn - ac))))

set_option maxHeartbeats 4000000 in
set_option maxRecDepth 100000 in
theorem r_resend_q (l : Launch) (D : va_G) (T : Nat → ClassId) (X : Nat → Nat → Nat) (L : List Nat) (tg : Nat → Nat × Nat) (sz : Nat) (hE : eR_E X L tg) (A : ew_R) (rq : Nat) (ln : Nat) (nl : Nat) (pk : Nat) (ac : Nat) (sn : Nat) (w : Nat) (lg : Nat) (hnl : ln < nl) (hn2 : nl ≤ 32) (q2 : A 0 0 2 = nI nl) (hrq : rq < 6) (q11 : A 11 0 ln = nI rq) (hpk : pk < 6) (q16 : A 16 0 ln = nI pk) (q29 : A 29 0 (2 * (6 * ln + pk)) = nI sn) (q31 : A 31 0 (2 * (6 * ln + pk)) = nI ac) (hac : ac ≤ sn) (hsn : sn ≤ 3000) (hw : w ≤ 64) (hq : A 0 0 4 = nI w) (hlg : lg ≤ 3000) (hg : A 0 0 5 = nI lg) : Met l yM_resend wsM_resend ({ frames := 2, cells := 0, slots := 0, locals := 44 }) (er_Pc D vwCl (tysA T) (cfR T) X L tg A sz [.ref (X 0 0), .int (nI rq), .int (nI ln)]) (er_Qi D vwCl (cfR T) X L tg sz (fun r u => r = (s_resend_q A rq ln nl pk ac sn w lg).1 ∧ u = (s_resend_q A rq ln nl pk ac sn w lg).2)) 0 0 (ew_A L sz) := by
  refine er_met (by decide) rfl (Nat.le_of_ble_eq_true rfl) ?_
  intro p e s m below meth c ls hx hb hr hts hown hlocks hml hV hK hS hA hl hsz
  subst hsz
  have hi0 := hE 0 (by decide)
  have hl : lv_has ls 6 [(0, .ref (X 0 0)), (1, .int (nI rq)), (2, .int (nI ln))] := hl
  refine lv_aload_n hx hb dM_resend_0 rfl (lv_at hl 0 rfl) ?_
  refine lv_iload_n hx hb dM_resend_1 rfl (lv_at hl 2 rfl) ?_
  refine er_calli (va_runV (As := [.int (nI ln)]) (rest := []) ⟨hx, hb, hml, hown, hts⟩ (r_isLoan l D T X L tg _ hE A (nI ln)) (cwV 1 hts gM_172 rfl rfl rfl (by decide +kernel) ⟨Nat.le_of_ble_eq_true rfl, Nat.le_of_ble_eq_true rfl⟩) (er_preV hK hV hi0 (cR_0 _ _ _) rfl) rfl rfl hl.1 rfl (lv_room (Nat.le_of_ble_eq_true rfl)) dM_resend_2 ⟨Nat.le_of_ble_eq_true rfl, Nat.le_of_ble_eq_true rfl⟩) hV hS hA (fun r u H locs hp hV hS => ?_)
  obtain ⟨rfl, eu9⟩ := hp
  rw [eu9] at hV
  refine lv_toe (y := 1) (s_isLoan_1 q2 hnl hn2) ?_
  refine lv_if_eq (tgt := 29) hx hb dM_resend_5 rfl (fun h9 => absurd h9 (by decide)) (fun _ => ?_)
  refine lv_iload_n hx hb dM_resend_8 rfl (lv_at hl 1 rfl) ?_
  refine er_calli (va_runS (As := [.int (nI rq)]) (rest := []) ⟨hx, hb, hml, hown, hts⟩ (r_isLibrary l D T X L tg _ hE A (nI rq)) (cwS 1 hts gM_142 rfl rfl rfl (by decide +kernel) ⟨Nat.le_of_ble_eq_true rfl, Nat.le_of_ble_eq_true rfl⟩) (er_preS hK hV) rfl rfl hl.1 rfl (lv_room (Nat.le_of_ble_eq_true rfl)) dM_resend_9 ⟨Nat.le_of_ble_eq_true rfl, Nat.le_of_ble_eq_true rfl⟩) hV hS hA (fun r u H locs hp hV hS => ?_)
  obtain ⟨rfl, eu9⟩ := hp
  rw [eu9] at hV
  refine lv_toe (y := 1) (s_isLibrary_1 hrq) ?_
  refine lv_if_eq (tgt := 29) hx hb dM_resend_12 rfl (fun h9 => absurd h9 (by decide)) (fun _ => ?_)
  refine lv_iload_n hx hb dM_resend_15 rfl (lv_at hl 1 rfl) ?_
  refine lv_aload_n hx hb dM_resend_16 rfl (lv_at hl 0 rfl) ?_
  refine ew_get (v := .ref (X 11 0)) hx hb hts hown hK hV fM_25 hi0 (cR_0 _ _ _) rfl dM_resend_17 ?_
  refine lv_iload_n hx hb dM_resend_20 rfl (lv_at hl 2 rfl) ?_
  refine ew_iald (v := A 11 0 ln) hx hb hK hV (hE 11 (by decide)) (cR_11 _ _ _) 0 rfl (vp_in_nI (by omega) (by decide)) (er_ix (by omega) rfl) dM_resend_21 ?_
  refine lv_toe (y := nI rq) q11 ?_
  refine lv_icmp_ne (tgt := 29) hx hb dM_resend_22 rfl (fun h9 => absurd ((nI_eq (a := rq) (b := rq) (by omega) (by omega)).mpr rfl) h9) (fun _ => ?_)
  refine lv_iconst (v := 1) hx hb dM_resend_25 (by decide) ?_
  refine lv_goto (tgt := 30) hx hb dM_resend_26 rfl ?_
  refine lv_istore_n (lv' := [(3, .int 1), (0, .ref (X 0 0)), (1, .int (nI rq)), (2, .int (nI ln))]) hx hb dM_resend_30 rfl hl (by decide) rfl (fun ls hl => ?_)
  refine lv_aload_n hx hb dM_resend_31 rfl (lv_at hl 1 rfl) ?_
  refine lv_iload_n hx hb dM_resend_32 rfl (lv_at hl 0 rfl) ?_
  refine lv_if_ne (tgt := 69) hx hb dM_resend_33 rfl (fun _ => ?_) (fun h9 => absurd h9 (by decide))
  refine lv_iconst (v := 0) hx hb dM_resend_69 (by decide) ?_
  refine lv_iconst (v := 0) hx hb dM_resend_70 (by decide) ?_
  refine er_calli (va_runV (As := [.int 0, .int 0]) (rest := []) ⟨hx, hb, hml, hown, hts⟩ (r_refuses_c l D T X L tg _ hE A) (cwV 2 hts gM_152 rfl rfl rfl (by decide +kernel) ⟨Nat.le_of_ble_eq_true rfl, Nat.le_of_ble_eq_true rfl⟩) (er_preV hK hV hi0 (cR_0 _ _ _) rfl) rfl rfl hl.1 rfl (lv_room (Nat.le_of_ble_eq_true rfl)) dM_resend_71 ⟨Nat.le_of_ble_eq_true rfl, Nat.le_of_ble_eq_true rfl⟩) hV hS hA (fun r u H locs hp hV hS => ?_)
  obtain ⟨rfl, rfl⟩ := hp
  refine lv_if_eq (tgt := 79) hx hb dM_resend_74 rfl (fun _ => ?_) (fun h9 => absurd (by decide) h9)
  refine lv_iload_n hx hb dM_resend_79 rfl (lv_at hl 0 rfl) ?_
  refine lv_if_eq (tgt := 91) hx hb dM_resend_80 rfl (fun h9 => absurd h9 (by decide)) (fun _ => ?_)
  refine lv_aload_n hx hb dM_resend_83 rfl (lv_at hl 1 rfl) ?_
  refine lv_iload_n hx hb dM_resend_84 rfl (lv_at hl 3 rfl) ?_
  refine er_calli (va_runV (As := [.int (nI ln)]) (rest := []) ⟨hx, hb, hml, hown, hts⟩ (r_endOf l D T X L tg _ hE (up3 A 0 0 0 0) ln pk (by omega) hpk q16) (cwV 1 hts gM_134 rfl rfl rfl (by decide +kernel) ⟨Nat.le_of_ble_eq_true rfl, Nat.le_of_ble_eq_true rfl⟩) (er_preV hK hV hi0 (cR_0 _ _ _) rfl) rfl rfl hl.1 rfl (lv_room (Nat.le_of_ble_eq_true rfl)) dM_resend_85 ⟨Nat.le_of_ble_eq_true rfl, Nat.le_of_ble_eq_true rfl⟩) hV hS hA (fun r u H locs hp hV hS => ?_)
  obtain ⟨rfl, eu9⟩ := hp
  rw [eu9] at hV
  refine lv_goto (tgt := 101) hx hb dM_resend_88 rfl ?_
  refine lv_istore (lv' := [(4, .int (nI (2 * (6 * ln + pk)))), (3, .int 1), (0, .ref (X 0 0)), (1, .int (nI rq)), (2, .int (nI ln))]) hx hb dM_resend_101 hl (by decide) rfl (fun ls hl => ?_)
  refine lv_aload_n hx hb dM_resend_103 rfl (lv_at hl 2 rfl) ?_
  refine ew_get (v := .ref (X 31 0)) hx hb hts hown hK hV fM_86 hi0 (cR_0 _ _ _) rfl dM_resend_104 ?_
  refine lv_iload hx hb dM_resend_107 (lv_at hl 0 rfl) ?_
  refine ew_iald (v := A 31 0 (2 * (6 * ln + pk))) hx hb hK hV (hE 31 (by decide)) (cR_31 _ _ _) 0 rfl (vp_in_nI (by omega) (by decide)) (er_ix (by omega) rfl) dM_resend_109 ?_
  refine lv_toe (y := nI ac) q31 ?_
  refine lv_iconst (v := 1) hx hb dM_resend_110 (by decide) ?_
  refine lv_iadd hx hb dM_resend_111 ?_
  refine lv_toe (y := nI (ac + 1)) (nI_add ac 1) ?_
  refine lv_istore (lv' := [(5, .int (nI (ac + 1))), (4, .int (nI (2 * (6 * ln + pk)))), (3, .int 1), (0, .ref (X 0 0)), (1, .int (nI rq)), (2, .int (nI ln))]) hx hb dM_resend_112 hl (by decide) rfl (fun ls hl => ?_)
  have loop : ∀ (r i : Nat), i + r = sn - ac → ∀ (H : Heap) (locs : List Loc) (ls : Array Slot), ew_V D vwCl (cfR T) (ew_A L s.heap.size) X L tg (s_rs (up3 A 0 0 0 0) (2 * (6 * ln + pk)) lg w ac i) [] H → va_S (ew_A L s.heap.size) s.heap H locs → lv_has ls 6 [(5, .int (nI ((ac + 1) + i))), (4, .int (nI (2 * (6 * ln + pk)))), (3, .int 1), (0, .ref (X 0 0)), (1, .int (nI rq)), (2, .int (nI ln))] → W p l e ({ frames := 2, cells := 0, slots := 0, locals := 44 }) s m ([.ref (X 0 0), .int (nI rq), .int (nI ln)] : List Value).toArray below meth c H locs 0 0 (MQ below (er_Qi D vwCl (cfR T) X L tg s.heap.size (fun r u => r = (s_resend_q A rq ln nl pk ac sn w lg).1 ∧ u = (s_resend_q A rq ln nl pk ac sn w lg).2)) ([.ref (X 0 0), .int (nI rq), .int (nI ln)] : List Value).toArray s 0 0 (ew_A L s.heap.size)) (F0 m 114 ls []) := by
    intro r
    induction r with
    | zero =>
      intro i hn H locs ls hV hS hl
      refine lv_iload hx hb dM_resend_114 (lv_at hl 0 rfl) ?_
      refine lv_aload_n hx hb dM_resend_116 rfl (lv_at hl 3 rfl) ?_
      refine ew_get (v := .ref (X 29 0)) hx hb hts hown hK hV fM_80 hi0 (cR_0 _ _ _) rfl dM_resend_117 ?_
      refine lv_iload hx hb dM_resend_120 (lv_at hl 1 rfl) ?_
      refine ew_iald (v := (s_rs (up3 A 0 0 0 0) (2 * (6 * ln + pk)) lg w ac i) 29 0 (2 * (6 * ln + pk))) hx hb hK hV (hE 29 (by decide)) (cR_29 _ _ _) 0 rfl (vp_in_nI (by omega) (by decide)) (er_ix (by omega) rfl) dM_resend_122 ?_
      refine lv_toe (y := nI sn) ((s_rs_lt _ _ _ _ _ (by decide) (by omega) _ _).trans q29) ?_
      refine lv_icmp_gt (tgt := 146) hx hb dM_resend_123 rfl (fun _ => ?_) (fun h9 => absurd ((nI_ltI (a := sn) (b := (ac + 1) + i) (by omega) (by omega)).mpr (show sn < (ac + 1) + i by omega)) h9)
      refine lv_aload_n hx hb dM_resend_146 rfl (lv_at hl 3 rfl) ?_
      refine lv_iconst (v := (-1)) hx hb dM_resend_147 (by decide) ?_
      refine lv_iload hx hb dM_resend_148 (lv_at hl 1 rfl) ?_
      refine er_callv (va_runV (As := [.int (-1), .int (nI (2 * (6 * ln + pk)))]) (rest := []) ⟨hx, hb, hml, hown, hts⟩ (r_lay l D T X L tg _ hE (s_rs (up3 A 0 0 0 0) (2 * (6 * ln + pk)) lg w ac i) (-1) (2 * (6 * ln + pk)) (min 64 (w + i)) (by omega) (Nat.min_le_left _ _) (s_rs_w (up3 A 0 0 0 0) _ _ _ _ hq hw i)) (cwV 2 hts gM_130 rfl rfl rfl (by decide +kernel) ⟨Nat.le_of_ble_eq_true rfl, Nat.le_of_ble_eq_true rfl⟩) (er_preV hK hV hi0 (cR_0 _ _ _) rfl) rfl rfl hl.1 rfl (lv_room (Nat.le_of_ble_eq_true rfl)) dM_resend_150 ⟨Nat.le_of_ble_eq_true rfl, Nat.le_of_ble_eq_true rfl⟩) hV hS hA (fun u1 H locs eu1 hV hS => ?_)
      have eu1 : u1 = s_lay (s_rs (up3 A 0 0 0 0) (2 * (6 * ln + pk)) lg w ac i) (-1) (2 * (6 * ln + pk)) (min 64 (w + i)) := eu1
      refine lv_aload_n hx hb dM_resend_153 rfl (lv_at hl 3 rfl) ?_
      refine ew_get (v := .ref (X 29 0)) hx hb hts hown hK hV fM_80 hi0 (cR_0 _ _ _) rfl dM_resend_154 ?_
      refine lv_iload hx hb dM_resend_157 (lv_at hl 1 rfl) ?_
      refine ew_iald (v := u1 29 0 (2 * (6 * ln + pk))) hx hb hK hV (hE 29 (by decide)) (cR_29 _ _ _) 0 rfl (vp_in_nI (by omega) (by decide)) (er_ix (by omega) rfl) dM_resend_159 ?_
      refine lv_toe (y := nI sn) (by rw [eu1]; exact ((s_lay_lt _ _ _ _ (by decide) (by omega) _).trans ((s_rs_lt _ _ _ _ _ (by decide) (by omega) _ _).trans q29))) ?_
      refine lv_aload_n hx hb dM_resend_160 rfl (lv_at hl 3 rfl) ?_
      refine ew_get (v := .ref (X 31 0)) hx hb hts hown hK hV fM_86 hi0 (cR_0 _ _ _) rfl dM_resend_161 ?_
      refine lv_iload hx hb dM_resend_164 (lv_at hl 1 rfl) ?_
      refine ew_iald (v := u1 31 0 (2 * (6 * ln + pk))) hx hb hK hV (hE 31 (by decide)) (cR_31 _ _ _) 0 rfl (vp_in_nI (by omega) (by decide)) (er_ix (by omega) rfl) dM_resend_166 ?_
      refine lv_toe (y := nI ac) (by rw [eu1]; exact ((s_lay_lt _ _ _ _ (by decide) (by omega) _).trans ((s_rs_lt _ _ _ _ _ (by decide) (by omega) _ _).trans q31))) ?_
      refine lv_isub hx hb dM_resend_167 ?_
      refine lv_toe (y := nI (sn - ac)) (pk_sub (a := sn) (b := ac) (by omega)) ?_
      refine lv_iconst (v := 1) hx hb dM_resend_168 (by decide) ?_
      refine lv_iadd hx hb dM_resend_169 ?_
      refine lv_toe (y := nI ((sn - ac) + 1)) (nI_add (sn - ac) 1) ?_
      subst eu1
      exact er_iret hx hb hr hlocks hV hS dM_resend_170 ⟨by unfold s_resend_q; rw [show sn - ac = i by omega], by unfold s_resend_q; rw [show sn - ac = i by omega]⟩
    | succ r ih =>
      intro i hn H locs ls hV hS hl
      refine lv_iload hx hb dM_resend_114 (lv_at hl 0 rfl) ?_
      refine lv_aload_n hx hb dM_resend_116 rfl (lv_at hl 3 rfl) ?_
      refine ew_get (v := .ref (X 29 0)) hx hb hts hown hK hV fM_80 hi0 (cR_0 _ _ _) rfl dM_resend_117 ?_
      refine lv_iload hx hb dM_resend_120 (lv_at hl 1 rfl) ?_
      refine ew_iald (v := (s_rs (up3 A 0 0 0 0) (2 * (6 * ln + pk)) lg w ac i) 29 0 (2 * (6 * ln + pk))) hx hb hK hV (hE 29 (by decide)) (cR_29 _ _ _) 0 rfl (vp_in_nI (by omega) (by decide)) (er_ix (by omega) rfl) dM_resend_122 ?_
      refine lv_toe (y := nI sn) ((s_rs_lt _ _ _ _ _ (by decide) (by omega) _ _).trans q29) ?_
      refine lv_icmp_gt (tgt := 146) hx hb dM_resend_123 rfl (fun h9 => absurd h9 (fun z9 => (show ¬ (sn < (ac + 1) + i) by omega) ((nI_ltI (a := sn) (b := (ac + 1) + i) (by omega) (by omega)).mp z9))) (fun _ => ?_)
      refine lv_aload_n hx hb dM_resend_126 rfl (lv_at hl 3 rfl) ?_
      refine lv_aload_n hx hb dM_resend_127 rfl (lv_at hl 3 rfl) ?_
      refine lv_iload hx hb dM_resend_128 (lv_at hl 1 rfl) ?_
      refine lv_iload hx hb dM_resend_130 (lv_at hl 0 rfl) ?_
      refine er_calli (va_runV (As := [.int (nI (2 * (6 * ln + pk))), .int (nI ((ac + 1) + i))]) (rest := [.ref (X 0 0)]) ⟨hx, hb, hml, hown, hts⟩ (r_find l D T X L tg _ hE (s_rs (up3 A 0 0 0 0) (2 * (6 * ln + pk)) lg w ac i) (nI (2 * (6 * ln + pk))) (nI ((ac + 1) + i)) lg hlg ((s_rs_lt _ _ _ _ _ (by decide) (by omega) _ _).trans hg)) (cwV 2 hts gM_190 rfl rfl rfl (by decide +kernel) ⟨Nat.le_of_ble_eq_true rfl, Nat.le_of_ble_eq_true rfl⟩) (er_preV hK hV hi0 (cR_0 _ _ _) rfl) rfl rfl hl.1 rfl (lv_room (Nat.le_of_ble_eq_true rfl)) dM_resend_132 ⟨Nat.le_of_ble_eq_true rfl, Nat.le_of_ble_eq_true rfl⟩) hV hS hA (fun r u H locs hp hV hS => ?_)
      obtain ⟨rfl, eu9⟩ := hp
      rw [eu9] at hV
      refine lv_iload hx hb dM_resend_135 (lv_at hl 1 rfl) ?_
      refine er_callv (va_runV (As := [.int (s_find (s_rs (up3 A 0 0 0 0) (2 * (6 * ln + pk)) lg w ac i) (nI (2 * (6 * ln + pk))) (nI ((ac + 1) + i)) lg), .int (nI (2 * (6 * ln + pk)))]) (rest := []) ⟨hx, hb, hml, hown, hts⟩ (r_lay l D T X L tg _ hE (s_rs (up3 A 0 0 0 0) (2 * (6 * ln + pk)) lg w ac i) (s_find (s_rs (up3 A 0 0 0 0) (2 * (6 * ln + pk)) lg w ac i) (nI (2 * (6 * ln + pk))) (nI ((ac + 1) + i)) lg) (2 * (6 * ln + pk)) (min 64 (w + i)) (by omega) (Nat.min_le_left _ _) (s_rs_w (up3 A 0 0 0 0) _ _ _ _ hq hw i)) (cwV 2 hts gM_130 rfl rfl rfl (by decide +kernel) ⟨Nat.le_of_ble_eq_true rfl, Nat.le_of_ble_eq_true rfl⟩) (er_preV hK hV hi0 (cR_0 _ _ _) rfl) rfl rfl hl.1 rfl (lv_room (Nat.le_of_ble_eq_true rfl)) dM_resend_137 ⟨Nat.le_of_ble_eq_true rfl, Nat.le_of_ble_eq_true rfl⟩) hV hS hA (fun u2 H locs eu2 hV hS => ?_)
      have eu2 : u2 = s_lay (s_rs (up3 A 0 0 0 0) (2 * (6 * ln + pk)) lg w ac i) (s_find (s_rs (up3 A 0 0 0 0) (2 * (6 * ln + pk)) lg w ac i) (nI (2 * (6 * ln + pk))) (nI ((ac + 1) + i)) lg) (2 * (6 * ln + pk)) (min 64 (w + i)) := eu2
      refine lv_iinc (k := 0) (v := nI (((ac + 1) + i) + 1)) (lv' := [(5, .int (nI (((ac + 1) + i) + 1))), (4, .int (nI (2 * (6 * ln + pk)))), (3, .int 1), (0, .ref (X 0 0)), (1, .int (nI rq)), (2, .int (nI ln))]) hx hb dM_resend_140 hl rfl (nI_add ((ac + 1) + i) 1) (by decide) rfl (fun ls hl => ?_)
      refine lv_goto (tgt := 114) hx hb dM_resend_143 rfl ?_
      subst eu2
      exact ih (i + 1) (by omega) H locs ls hV hS hl
  exact loop (sn - ac) 0 (by omega) H locs ls hV hS hl

def s_resend_s (A : ew_R) (b ln nl rq ac sn w lg : Nat) : Int32 × ew_R := (nI (sn - ac + 1), s_lay (s_rs (up3 A 0 0 0 0) ((2 * ((6 * ln) + b)) + 1) lg w ac (sn - ac)) (-1) ((2 * ((6 * ln) + b)) + 1) (min 64 (w + (sn - ac))))

set_option maxHeartbeats 4000000 in
set_option maxRecDepth 100000 in
theorem r_resend_s (l : Launch) (D : va_G) (T : Nat → ClassId) (X : Nat → Nat → Nat) (L : List Nat) (tg : Nat → Nat × Nat) (sz : Nat) (hE : eR_E X L tg) (A : ew_R) (b : Nat) (ln : Nat) (nl : Nat) (rq : Nat) (ac : Nat) (sn : Nat) (w : Nat) (lg : Nat) (hb6 : b < 6) (hnl : ln < nl) (hn2 : nl ≤ 32) (q2 : A 0 0 2 = nI nl) (hrq : rq < 6) (q11 : A 11 0 ln = nI rq) (hbr : ¬ b = rq) (q22 : ¬ A 22 0 (6 * ln + b) = 0) (q29 : A 29 0 ((2 * ((6 * ln) + b)) + 1) = nI sn) (q31 : A 31 0 ((2 * ((6 * ln) + b)) + 1) = nI ac) (hac : ac ≤ sn) (hsn : sn ≤ 3000) (hw : w ≤ 64) (hq : A 0 0 4 = nI w) (hlg : lg ≤ 3000) (hg : A 0 0 5 = nI lg) : Met l yM_resend wsM_resend ({ frames := 2, cells := 0, slots := 0, locals := 44 }) (er_Pc D vwCl (tysA T) (cfR T) X L tg A sz [.ref (X 0 0), .int (nI b), .int (nI ln)]) (er_Qi D vwCl (cfR T) X L tg sz (fun r u => r = (s_resend_s A b ln nl rq ac sn w lg).1 ∧ u = (s_resend_s A b ln nl rq ac sn w lg).2)) 0 0 (ew_A L sz) := by
  refine er_met (by decide) rfl (Nat.le_of_ble_eq_true rfl) ?_
  intro p e s m below meth c ls hx hb hr hts hown hlocks hml hV hK hS hA hl hsz
  subst hsz
  have hi0 := hE 0 (by decide)
  have hl : lv_has ls 6 [(0, .ref (X 0 0)), (1, .int (nI b)), (2, .int (nI ln))] := hl
  refine lv_aload_n hx hb dM_resend_0 rfl (lv_at hl 0 rfl) ?_
  refine lv_iload_n hx hb dM_resend_1 rfl (lv_at hl 2 rfl) ?_
  refine er_calli (va_runV (As := [.int (nI ln)]) (rest := []) ⟨hx, hb, hml, hown, hts⟩ (r_isLoan l D T X L tg _ hE A (nI ln)) (cwV 1 hts gM_172 rfl rfl rfl (by decide +kernel) ⟨Nat.le_of_ble_eq_true rfl, Nat.le_of_ble_eq_true rfl⟩) (er_preV hK hV hi0 (cR_0 _ _ _) rfl) rfl rfl hl.1 rfl (lv_room (Nat.le_of_ble_eq_true rfl)) dM_resend_2 ⟨Nat.le_of_ble_eq_true rfl, Nat.le_of_ble_eq_true rfl⟩) hV hS hA (fun r u H locs hp hV hS => ?_)
  obtain ⟨rfl, eu9⟩ := hp
  rw [eu9] at hV
  refine lv_toe (y := 1) (s_isLoan_1 q2 hnl hn2) ?_
  refine lv_if_eq (tgt := 29) hx hb dM_resend_5 rfl (fun h9 => absurd h9 (by decide)) (fun _ => ?_)
  refine lv_iload_n hx hb dM_resend_8 rfl (lv_at hl 1 rfl) ?_
  refine er_calli (va_runS (As := [.int (nI b)]) (rest := []) ⟨hx, hb, hml, hown, hts⟩ (r_isLibrary l D T X L tg _ hE A (nI b)) (cwS 1 hts gM_142 rfl rfl rfl (by decide +kernel) ⟨Nat.le_of_ble_eq_true rfl, Nat.le_of_ble_eq_true rfl⟩) (er_preS hK hV) rfl rfl hl.1 rfl (lv_room (Nat.le_of_ble_eq_true rfl)) dM_resend_9 ⟨Nat.le_of_ble_eq_true rfl, Nat.le_of_ble_eq_true rfl⟩) hV hS hA (fun r u H locs hp hV hS => ?_)
  obtain ⟨rfl, eu9⟩ := hp
  rw [eu9] at hV
  refine lv_toe (y := 1) (s_isLibrary_1 hb6) ?_
  refine lv_if_eq (tgt := 29) hx hb dM_resend_12 rfl (fun h9 => absurd h9 (by decide)) (fun _ => ?_)
  refine lv_iload_n hx hb dM_resend_15 rfl (lv_at hl 1 rfl) ?_
  refine lv_aload_n hx hb dM_resend_16 rfl (lv_at hl 0 rfl) ?_
  refine ew_get (v := .ref (X 11 0)) hx hb hts hown hK hV fM_25 hi0 (cR_0 _ _ _) rfl dM_resend_17 ?_
  refine lv_iload_n hx hb dM_resend_20 rfl (lv_at hl 2 rfl) ?_
  refine ew_iald (v := A 11 0 ln) hx hb hK hV (hE 11 (by decide)) (cR_11 _ _ _) 0 rfl (vp_in_nI (by omega) (by decide)) (er_ix (by omega) rfl) dM_resend_21 ?_
  refine lv_toe (y := nI rq) q11 ?_
  refine lv_icmp_ne (tgt := 29) hx hb dM_resend_22 rfl (fun _ => ?_) (fun h9 => absurd h9 (fun z9 => hbr ((nI_eq (a := b) (b := rq) (by omega) (by omega)).mp z9)))
  refine lv_iconst (v := 0) hx hb dM_resend_29 (by decide) ?_
  refine lv_istore_n (lv' := [(3, .int 0), (0, .ref (X 0 0)), (1, .int (nI b)), (2, .int (nI ln))]) hx hb dM_resend_30 rfl hl (by decide) rfl (fun ls hl => ?_)
  refine lv_aload_n hx hb dM_resend_31 rfl (lv_at hl 1 rfl) ?_
  refine lv_iload_n hx hb dM_resend_32 rfl (lv_at hl 0 rfl) ?_
  refine lv_if_ne (tgt := 69) hx hb dM_resend_33 rfl (fun h9 => absurd (by decide) h9) (fun _ => ?_)
  refine lv_aload_n hx hb dM_resend_36 rfl (lv_at hl 1 rfl) ?_
  refine lv_iload_n hx hb dM_resend_37 rfl (lv_at hl 3 rfl) ?_
  refine er_calli (va_runV (As := [.int (nI ln)]) (rest := [.ref (X 0 0)]) ⟨hx, hb, hml, hown, hts⟩ (r_isLoan l D T X L tg _ hE A (nI ln)) (cwV 1 hts gM_172 rfl rfl rfl (by decide +kernel) ⟨Nat.le_of_ble_eq_true rfl, Nat.le_of_ble_eq_true rfl⟩) (er_preV hK hV hi0 (cR_0 _ _ _) rfl) rfl rfl hl.1 rfl (lv_room (Nat.le_of_ble_eq_true rfl)) dM_resend_38 ⟨Nat.le_of_ble_eq_true rfl, Nat.le_of_ble_eq_true rfl⟩) hV hS hA (fun r u H locs hp hV hS => ?_)
  obtain ⟨rfl, eu9⟩ := hp
  rw [eu9] at hV
  refine lv_toe (y := 1) (s_isLoan_1 q2 hnl hn2) ?_
  refine lv_if_eq (tgt := 65) hx hb dM_resend_41 rfl (fun h9 => absurd h9 (by decide)) (fun _ => ?_)
  refine lv_iload_n hx hb dM_resend_44 rfl (lv_at hl 2 rfl) ?_
  refine er_calli (va_runS (As := [.int (nI b)]) (rest := [.ref (X 0 0)]) ⟨hx, hb, hml, hown, hts⟩ (r_isLibrary l D T X L tg _ hE A (nI b)) (cwS 1 hts gM_142 rfl rfl rfl (by decide +kernel) ⟨Nat.le_of_ble_eq_true rfl, Nat.le_of_ble_eq_true rfl⟩) (er_preS hK hV) rfl rfl hl.1 rfl (lv_room (Nat.le_of_ble_eq_true rfl)) dM_resend_45 ⟨Nat.le_of_ble_eq_true rfl, Nat.le_of_ble_eq_true rfl⟩) hV hS hA (fun r u H locs hp hV hS => ?_)
  obtain ⟨rfl, eu9⟩ := hp
  rw [eu9] at hV
  refine lv_toe (y := 1) (s_isLibrary_1 hb6) ?_
  refine lv_if_eq (tgt := 65) hx hb dM_resend_48 rfl (fun h9 => absurd h9 (by decide)) (fun _ => ?_)
  refine lv_aload_n hx hb dM_resend_51 rfl (lv_at hl 1 rfl) ?_
  refine ew_get (v := .ref (X 22 0)) hx hb hts hown hK hV fM_58 hi0 (cR_0 _ _ _) rfl dM_resend_52 ?_
  refine lv_bipush (v := 6) hx hb dM_resend_55 (by decide) ?_
  refine lv_iload_n hx hb dM_resend_57 rfl (lv_at hl 3 rfl) ?_
  refine lv_imul hx hb dM_resend_58 ?_
  refine lv_toe (y := nI (6 * ln)) (pk_mul 6 ln) ?_
  refine lv_iload_n hx hb dM_resend_59 rfl (lv_at hl 2 rfl) ?_
  refine lv_iadd hx hb dM_resend_60 ?_
  refine lv_toe (y := nI ((6 * ln) + b)) (nI_add (6 * ln) b) ?_
  refine ew_zald (v := A 22 0 ((6 * ln) + b)) hx hb hK hV (hE 22 (by decide)) (cR_22 _ _ _) 1 rfl (vp_in_nI (by omega) (by decide)) (er_ix (by omega) rfl) dM_resend_61 ?_
  refine lv_if_ne (tgt := 69) hx hb dM_resend_62 rfl (fun _ => ?_) (fun h9 => absurd h9 q22)
  refine lv_iconst (v := 0) hx hb dM_resend_69 (by decide) ?_
  refine lv_iconst (v := 0) hx hb dM_resend_70 (by decide) ?_
  refine er_calli (va_runV (As := [.int 0, .int 0]) (rest := []) ⟨hx, hb, hml, hown, hts⟩ (r_refuses_c l D T X L tg _ hE A) (cwV 2 hts gM_152 rfl rfl rfl (by decide +kernel) ⟨Nat.le_of_ble_eq_true rfl, Nat.le_of_ble_eq_true rfl⟩) (er_preV hK hV hi0 (cR_0 _ _ _) rfl) rfl rfl hl.1 rfl (lv_room (Nat.le_of_ble_eq_true rfl)) dM_resend_71 ⟨Nat.le_of_ble_eq_true rfl, Nat.le_of_ble_eq_true rfl⟩) hV hS hA (fun r u H locs hp hV hS => ?_)
  obtain ⟨rfl, rfl⟩ := hp
  refine lv_if_eq (tgt := 79) hx hb dM_resend_74 rfl (fun _ => ?_) (fun h9 => absurd (by decide) h9)
  refine lv_iload_n hx hb dM_resend_79 rfl (lv_at hl 0 rfl) ?_
  refine lv_if_eq (tgt := 91) hx hb dM_resend_80 rfl (fun _ => ?_) (fun h9 => absurd (by decide) h9)
  refine lv_iconst (v := 2) hx hb dM_resend_91 (by decide) ?_
  refine lv_bipush (v := 6) hx hb dM_resend_92 (by decide) ?_
  refine lv_iload_n hx hb dM_resend_94 rfl (lv_at hl 3 rfl) ?_
  refine lv_imul hx hb dM_resend_95 ?_
  refine lv_toe (y := nI (6 * ln)) (pk_mul 6 ln) ?_
  refine lv_iload_n hx hb dM_resend_96 rfl (lv_at hl 2 rfl) ?_
  refine lv_iadd hx hb dM_resend_97 ?_
  refine lv_toe (y := nI ((6 * ln) + b)) (nI_add (6 * ln) b) ?_
  refine lv_imul hx hb dM_resend_98 ?_
  refine lv_toe (y := nI (2 * ((6 * ln) + b))) (pk_mul 2 ((6 * ln) + b)) ?_
  refine lv_iconst (v := 1) hx hb dM_resend_99 (by decide) ?_
  refine lv_iadd hx hb dM_resend_100 ?_
  refine lv_toe (y := nI ((2 * ((6 * ln) + b)) + 1)) (nI_add (2 * ((6 * ln) + b)) 1) ?_
  refine lv_istore (lv' := [(4, .int (nI ((2 * ((6 * ln) + b)) + 1))), (3, .int 0), (0, .ref (X 0 0)), (1, .int (nI b)), (2, .int (nI ln))]) hx hb dM_resend_101 hl (by decide) rfl (fun ls hl => ?_)
  refine lv_aload_n hx hb dM_resend_103 rfl (lv_at hl 2 rfl) ?_
  refine ew_get (v := .ref (X 31 0)) hx hb hts hown hK hV fM_86 hi0 (cR_0 _ _ _) rfl dM_resend_104 ?_
  refine lv_iload hx hb dM_resend_107 (lv_at hl 0 rfl) ?_
  refine ew_iald (v := A 31 0 ((2 * ((6 * ln) + b)) + 1)) hx hb hK hV (hE 31 (by decide)) (cR_31 _ _ _) 0 rfl (vp_in_nI (by omega) (by decide)) (er_ix (by omega) rfl) dM_resend_109 ?_
  refine lv_toe (y := nI ac) q31 ?_
  refine lv_iconst (v := 1) hx hb dM_resend_110 (by decide) ?_
  refine lv_iadd hx hb dM_resend_111 ?_
  refine lv_toe (y := nI (ac + 1)) (nI_add ac 1) ?_
  refine lv_istore (lv' := [(5, .int (nI (ac + 1))), (4, .int (nI ((2 * ((6 * ln) + b)) + 1))), (3, .int 0), (0, .ref (X 0 0)), (1, .int (nI b)), (2, .int (nI ln))]) hx hb dM_resend_112 hl (by decide) rfl (fun ls hl => ?_)
  have loop : ∀ (r i : Nat), i + r = sn - ac → ∀ (H : Heap) (locs : List Loc) (ls : Array Slot), ew_V D vwCl (cfR T) (ew_A L s.heap.size) X L tg (s_rs (up3 A 0 0 0 0) ((2 * ((6 * ln) + b)) + 1) lg w ac i) [] H → va_S (ew_A L s.heap.size) s.heap H locs → lv_has ls 6 [(5, .int (nI ((ac + 1) + i))), (4, .int (nI ((2 * ((6 * ln) + b)) + 1))), (3, .int 0), (0, .ref (X 0 0)), (1, .int (nI b)), (2, .int (nI ln))] → W p l e ({ frames := 2, cells := 0, slots := 0, locals := 44 }) s m ([.ref (X 0 0), .int (nI b), .int (nI ln)] : List Value).toArray below meth c H locs 0 0 (MQ below (er_Qi D vwCl (cfR T) X L tg s.heap.size (fun r u => r = (s_resend_s A b ln nl rq ac sn w lg).1 ∧ u = (s_resend_s A b ln nl rq ac sn w lg).2)) ([.ref (X 0 0), .int (nI b), .int (nI ln)] : List Value).toArray s 0 0 (ew_A L s.heap.size)) (F0 m 114 ls []) := by
    intro r
    induction r with
    | zero =>
      intro i hn H locs ls hV hS hl
      refine lv_iload hx hb dM_resend_114 (lv_at hl 0 rfl) ?_
      refine lv_aload_n hx hb dM_resend_116 rfl (lv_at hl 3 rfl) ?_
      refine ew_get (v := .ref (X 29 0)) hx hb hts hown hK hV fM_80 hi0 (cR_0 _ _ _) rfl dM_resend_117 ?_
      refine lv_iload hx hb dM_resend_120 (lv_at hl 1 rfl) ?_
      refine ew_iald (v := (s_rs (up3 A 0 0 0 0) ((2 * ((6 * ln) + b)) + 1) lg w ac i) 29 0 ((2 * ((6 * ln) + b)) + 1)) hx hb hK hV (hE 29 (by decide)) (cR_29 _ _ _) 0 rfl (vp_in_nI (by omega) (by decide)) (er_ix (by omega) rfl) dM_resend_122 ?_
      refine lv_toe (y := nI sn) ((s_rs_lt _ _ _ _ _ (by decide) (by omega) _ _).trans q29) ?_
      refine lv_icmp_gt (tgt := 146) hx hb dM_resend_123 rfl (fun _ => ?_) (fun h9 => absurd ((nI_ltI (a := sn) (b := (ac + 1) + i) (by omega) (by omega)).mpr (show sn < (ac + 1) + i by omega)) h9)
      refine lv_aload_n hx hb dM_resend_146 rfl (lv_at hl 3 rfl) ?_
      refine lv_iconst (v := (-1)) hx hb dM_resend_147 (by decide) ?_
      refine lv_iload hx hb dM_resend_148 (lv_at hl 1 rfl) ?_
      refine er_callv (va_runV (As := [.int (-1), .int (nI ((2 * ((6 * ln) + b)) + 1))]) (rest := []) ⟨hx, hb, hml, hown, hts⟩ (r_lay l D T X L tg _ hE (s_rs (up3 A 0 0 0 0) ((2 * ((6 * ln) + b)) + 1) lg w ac i) (-1) ((2 * ((6 * ln) + b)) + 1) (min 64 (w + i)) (by omega) (Nat.min_le_left _ _) (s_rs_w (up3 A 0 0 0 0) _ _ _ _ hq hw i)) (cwV 2 hts gM_130 rfl rfl rfl (by decide +kernel) ⟨Nat.le_of_ble_eq_true rfl, Nat.le_of_ble_eq_true rfl⟩) (er_preV hK hV hi0 (cR_0 _ _ _) rfl) rfl rfl hl.1 rfl (lv_room (Nat.le_of_ble_eq_true rfl)) dM_resend_150 ⟨Nat.le_of_ble_eq_true rfl, Nat.le_of_ble_eq_true rfl⟩) hV hS hA (fun u1 H locs eu1 hV hS => ?_)
      have eu1 : u1 = s_lay (s_rs (up3 A 0 0 0 0) ((2 * ((6 * ln) + b)) + 1) lg w ac i) (-1) ((2 * ((6 * ln) + b)) + 1) (min 64 (w + i)) := eu1
      refine lv_aload_n hx hb dM_resend_153 rfl (lv_at hl 3 rfl) ?_
      refine ew_get (v := .ref (X 29 0)) hx hb hts hown hK hV fM_80 hi0 (cR_0 _ _ _) rfl dM_resend_154 ?_
      refine lv_iload hx hb dM_resend_157 (lv_at hl 1 rfl) ?_
      refine ew_iald (v := u1 29 0 ((2 * ((6 * ln) + b)) + 1)) hx hb hK hV (hE 29 (by decide)) (cR_29 _ _ _) 0 rfl (vp_in_nI (by omega) (by decide)) (er_ix (by omega) rfl) dM_resend_159 ?_
      refine lv_toe (y := nI sn) (by rw [eu1]; exact ((s_lay_lt _ _ _ _ (by decide) (by omega) _).trans ((s_rs_lt _ _ _ _ _ (by decide) (by omega) _ _).trans q29))) ?_
      refine lv_aload_n hx hb dM_resend_160 rfl (lv_at hl 3 rfl) ?_
      refine ew_get (v := .ref (X 31 0)) hx hb hts hown hK hV fM_86 hi0 (cR_0 _ _ _) rfl dM_resend_161 ?_
      refine lv_iload hx hb dM_resend_164 (lv_at hl 1 rfl) ?_
      refine ew_iald (v := u1 31 0 ((2 * ((6 * ln) + b)) + 1)) hx hb hK hV (hE 31 (by decide)) (cR_31 _ _ _) 0 rfl (vp_in_nI (by omega) (by decide)) (er_ix (by omega) rfl) dM_resend_166 ?_
      refine lv_toe (y := nI ac) (by rw [eu1]; exact ((s_lay_lt _ _ _ _ (by decide) (by omega) _).trans ((s_rs_lt _ _ _ _ _ (by decide) (by omega) _ _).trans q31))) ?_
      refine lv_isub hx hb dM_resend_167 ?_
      refine lv_toe (y := nI (sn - ac)) (pk_sub (a := sn) (b := ac) (by omega)) ?_
      refine lv_iconst (v := 1) hx hb dM_resend_168 (by decide) ?_
      refine lv_iadd hx hb dM_resend_169 ?_
      refine lv_toe (y := nI ((sn - ac) + 1)) (nI_add (sn - ac) 1) ?_
      subst eu1
      exact er_iret hx hb hr hlocks hV hS dM_resend_170 ⟨by unfold s_resend_s; rw [show sn - ac = i by omega], by unfold s_resend_s; rw [show sn - ac = i by omega]⟩
    | succ r ih =>
      intro i hn H locs ls hV hS hl
      refine lv_iload hx hb dM_resend_114 (lv_at hl 0 rfl) ?_
      refine lv_aload_n hx hb dM_resend_116 rfl (lv_at hl 3 rfl) ?_
      refine ew_get (v := .ref (X 29 0)) hx hb hts hown hK hV fM_80 hi0 (cR_0 _ _ _) rfl dM_resend_117 ?_
      refine lv_iload hx hb dM_resend_120 (lv_at hl 1 rfl) ?_
      refine ew_iald (v := (s_rs (up3 A 0 0 0 0) ((2 * ((6 * ln) + b)) + 1) lg w ac i) 29 0 ((2 * ((6 * ln) + b)) + 1)) hx hb hK hV (hE 29 (by decide)) (cR_29 _ _ _) 0 rfl (vp_in_nI (by omega) (by decide)) (er_ix (by omega) rfl) dM_resend_122 ?_
      refine lv_toe (y := nI sn) ((s_rs_lt _ _ _ _ _ (by decide) (by omega) _ _).trans q29) ?_
      refine lv_icmp_gt (tgt := 146) hx hb dM_resend_123 rfl (fun h9 => absurd h9 (fun z9 => (show ¬ (sn < (ac + 1) + i) by omega) ((nI_ltI (a := sn) (b := (ac + 1) + i) (by omega) (by omega)).mp z9))) (fun _ => ?_)
      refine lv_aload_n hx hb dM_resend_126 rfl (lv_at hl 3 rfl) ?_
      refine lv_aload_n hx hb dM_resend_127 rfl (lv_at hl 3 rfl) ?_
      refine lv_iload hx hb dM_resend_128 (lv_at hl 1 rfl) ?_
      refine lv_iload hx hb dM_resend_130 (lv_at hl 0 rfl) ?_
      refine er_calli (va_runV (As := [.int (nI ((2 * ((6 * ln) + b)) + 1)), .int (nI ((ac + 1) + i))]) (rest := [.ref (X 0 0)]) ⟨hx, hb, hml, hown, hts⟩ (r_find l D T X L tg _ hE (s_rs (up3 A 0 0 0 0) ((2 * ((6 * ln) + b)) + 1) lg w ac i) (nI ((2 * ((6 * ln) + b)) + 1)) (nI ((ac + 1) + i)) lg hlg ((s_rs_lt _ _ _ _ _ (by decide) (by omega) _ _).trans hg)) (cwV 2 hts gM_190 rfl rfl rfl (by decide +kernel) ⟨Nat.le_of_ble_eq_true rfl, Nat.le_of_ble_eq_true rfl⟩) (er_preV hK hV hi0 (cR_0 _ _ _) rfl) rfl rfl hl.1 rfl (lv_room (Nat.le_of_ble_eq_true rfl)) dM_resend_132 ⟨Nat.le_of_ble_eq_true rfl, Nat.le_of_ble_eq_true rfl⟩) hV hS hA (fun r u H locs hp hV hS => ?_)
      obtain ⟨rfl, eu9⟩ := hp
      rw [eu9] at hV
      refine lv_iload hx hb dM_resend_135 (lv_at hl 1 rfl) ?_
      refine er_callv (va_runV (As := [.int (s_find (s_rs (up3 A 0 0 0 0) ((2 * ((6 * ln) + b)) + 1) lg w ac i) (nI ((2 * ((6 * ln) + b)) + 1)) (nI ((ac + 1) + i)) lg), .int (nI ((2 * ((6 * ln) + b)) + 1))]) (rest := []) ⟨hx, hb, hml, hown, hts⟩ (r_lay l D T X L tg _ hE (s_rs (up3 A 0 0 0 0) ((2 * ((6 * ln) + b)) + 1) lg w ac i) (s_find (s_rs (up3 A 0 0 0 0) ((2 * ((6 * ln) + b)) + 1) lg w ac i) (nI ((2 * ((6 * ln) + b)) + 1)) (nI ((ac + 1) + i)) lg) ((2 * ((6 * ln) + b)) + 1) (min 64 (w + i)) (by omega) (Nat.min_le_left _ _) (s_rs_w (up3 A 0 0 0 0) _ _ _ _ hq hw i)) (cwV 2 hts gM_130 rfl rfl rfl (by decide +kernel) ⟨Nat.le_of_ble_eq_true rfl, Nat.le_of_ble_eq_true rfl⟩) (er_preV hK hV hi0 (cR_0 _ _ _) rfl) rfl rfl hl.1 rfl (lv_room (Nat.le_of_ble_eq_true rfl)) dM_resend_137 ⟨Nat.le_of_ble_eq_true rfl, Nat.le_of_ble_eq_true rfl⟩) hV hS hA (fun u2 H locs eu2 hV hS => ?_)
      have eu2 : u2 = s_lay (s_rs (up3 A 0 0 0 0) ((2 * ((6 * ln) + b)) + 1) lg w ac i) (s_find (s_rs (up3 A 0 0 0 0) ((2 * ((6 * ln) + b)) + 1) lg w ac i) (nI ((2 * ((6 * ln) + b)) + 1)) (nI ((ac + 1) + i)) lg) ((2 * ((6 * ln) + b)) + 1) (min 64 (w + i)) := eu2
      refine lv_iinc (k := 0) (v := nI (((ac + 1) + i) + 1)) (lv' := [(5, .int (nI (((ac + 1) + i) + 1))), (4, .int (nI ((2 * ((6 * ln) + b)) + 1))), (3, .int 0), (0, .ref (X 0 0)), (1, .int (nI b)), (2, .int (nI ln))]) hx hb dM_resend_140 hl rfl (nI_add ((ac + 1) + i) 1) (by decide) rfl (fun ls hl => ?_)
      refine lv_goto (tgt := 114) hx hb dM_resend_143 rfl ?_
      subst eu2
      exact ih (i + 1) (by omega) H locs ls hV hS hl
  exact loop (sn - ac) 0 (by omega) H locs ls hV hS hl

def s_resend_nol (A : ew_R) (b : Int32) (ln : Int32) : Int32 × ew_R :=
  (0, up3 A 0 0 0 1)
set_option maxHeartbeats 4000000 in
set_option maxRecDepth 100000 in
theorem r_resend_nol (l : Launch) (D : va_G) (T : Nat → ClassId) (X : Nat → Nat → Nat) (L : List Nat) (tg : Nat → Nat × Nat) (sz : Nat) (hE : eR_E X L tg) (A : ew_R) (b : Int32) (ln : Int32) (hno : s_isLoan A ln = 0) : Met l yM_resend wsM_resend ({ frames := 2, cells := 0, slots := 0, locals := 44 }) (er_Pc D vwCl (tysA T) (cfR T) X L tg A sz [.ref (X 0 0), .int b, .int ln]) (er_Qi D vwCl (cfR T) X L tg sz (fun r u => r = (s_resend_nol A b ln).1 ∧ u = (s_resend_nol A b ln).2)) 0 0 (ew_A L sz) := by
  refine er_met (by decide) rfl (Nat.le_of_ble_eq_true rfl) ?_
  intro p e s m below meth c ls hx hb hr hts hown hlocks hml hV hK hS hA hl hsz
  subst hsz
  have hi0 := hE 0 (by decide)
  have hl : lv_has ls 6 [(0, .ref (X 0 0)), (1, .int b), (2, .int ln)] := hl
  refine lv_aload_n hx hb dM_resend_0 rfl (lv_at hl 0 rfl) ?_
  refine lv_iload_n hx hb dM_resend_1 rfl (lv_at hl 2 rfl) ?_
  refine er_calli (va_runV (As := [.int ln]) (rest := []) ⟨hx, hb, hml, hown, hts⟩ (r_isLoan l D T X L tg _ hE A ln) (cwV 1 hts gM_172 rfl rfl rfl (by decide +kernel) ⟨Nat.le_of_ble_eq_true rfl, Nat.le_of_ble_eq_true rfl⟩) (er_preV hK hV hi0 (cR_0 _ _ _) rfl) rfl rfl hl.1 rfl (lv_room (Nat.le_of_ble_eq_true rfl)) dM_resend_2 ⟨Nat.le_of_ble_eq_true rfl, Nat.le_of_ble_eq_true rfl⟩) hV hS hA (fun r u H locs hp hV hS => ?_)
  obtain ⟨rfl, eu9⟩ := hp
  rw [eu9] at hV
  refine lv_toe (y := 0) hno ?_
  refine lv_if_eq (tgt := 29) hx hb dM_resend_5 rfl (fun _ => ?_) (fun h9 => absurd (by decide) h9)
  refine lv_iconst (v := 0) hx hb dM_resend_29 (by decide) ?_
  refine lv_istore_n (lv' := [(3, .int 0), (0, .ref (X 0 0)), (1, .int b), (2, .int ln)]) hx hb dM_resend_30 rfl hl (by decide) rfl (fun ls hl => ?_)
  refine lv_aload_n hx hb dM_resend_31 rfl (lv_at hl 1 rfl) ?_
  refine lv_iload_n hx hb dM_resend_32 rfl (lv_at hl 0 rfl) ?_
  refine lv_if_ne (tgt := 69) hx hb dM_resend_33 rfl (fun h9 => absurd (by decide) h9) (fun _ => ?_)
  refine lv_aload_n hx hb dM_resend_36 rfl (lv_at hl 1 rfl) ?_
  refine lv_iload_n hx hb dM_resend_37 rfl (lv_at hl 3 rfl) ?_
  refine er_calli (va_runV (As := [.int ln]) (rest := [.ref (X 0 0)]) ⟨hx, hb, hml, hown, hts⟩ (r_isLoan l D T X L tg _ hE A ln) (cwV 1 hts gM_172 rfl rfl rfl (by decide +kernel) ⟨Nat.le_of_ble_eq_true rfl, Nat.le_of_ble_eq_true rfl⟩) (er_preV hK hV hi0 (cR_0 _ _ _) rfl) rfl rfl hl.1 rfl (lv_room (Nat.le_of_ble_eq_true rfl)) dM_resend_38 ⟨Nat.le_of_ble_eq_true rfl, Nat.le_of_ble_eq_true rfl⟩) hV hS hA (fun r u H locs hp hV hS => ?_)
  obtain ⟨rfl, eu9⟩ := hp
  rw [eu9] at hV
  refine lv_toe (y := 0) hno ?_
  refine lv_if_eq (tgt := 65) hx hb dM_resend_41 rfl (fun _ => ?_) (fun h9 => absurd (by decide) h9)
  refine lv_iconst (v := 1) hx hb dM_resend_65 (by decide) ?_
  refine lv_goto (tgt := 70) hx hb dM_resend_66 rfl ?_
  refine lv_iconst (v := 0) hx hb dM_resend_70 (by decide) ?_
  refine er_calli (va_runV (As := [.int 1, .int 0]) (rest := []) ⟨hx, hb, hml, hown, hts⟩ (r_refuses_a l D T X L tg _ hE A 0) (cwV 2 hts gM_152 rfl rfl rfl (by decide +kernel) ⟨Nat.le_of_ble_eq_true rfl, Nat.le_of_ble_eq_true rfl⟩) (er_preV hK hV hi0 (cR_0 _ _ _) rfl) rfl rfl hl.1 rfl (lv_room (Nat.le_of_ble_eq_true rfl)) dM_resend_71 ⟨Nat.le_of_ble_eq_true rfl, Nat.le_of_ble_eq_true rfl⟩) hV hS hA (fun r u H locs hp hV hS => ?_)
  obtain ⟨rfl, rfl⟩ := hp
  refine lv_if_eq (tgt := 79) hx hb dM_resend_74 rfl (fun h9 => absurd h9 (by decide)) (fun _ => ?_)
  refine lv_iconst (v := 0) hx hb dM_resend_77 (by decide) ?_
  exact er_iret hx hb hr hlocks hV hS dM_resend_78 ⟨Eq.symm (by unfold s_resend_nol; rfl), Eq.symm (by unfold s_resend_nol; rfl)⟩

def s_resend_nob (A : ew_R) (b : Int32) (ln : Nat) (nl : Nat) : Int32 × ew_R :=
  (0, up3 A 0 0 0 1)
set_option maxHeartbeats 4000000 in
set_option maxRecDepth 100000 in
theorem r_resend_nob (l : Launch) (D : va_G) (T : Nat → ClassId) (X : Nat → Nat → Nat) (L : List Nat) (tg : Nat → Nat × Nat) (sz : Nat) (hE : eR_E X L tg) (A : ew_R) (b : Int32) (ln : Nat) (nl : Nat) (hnl : ln < nl) (hn2 : nl ≤ 32) (q2 : A 0 0 2 = nI nl) (hnb : s_isLibrary b = 0) : Met l yM_resend wsM_resend ({ frames := 2, cells := 0, slots := 0, locals := 44 }) (er_Pc D vwCl (tysA T) (cfR T) X L tg A sz [.ref (X 0 0), .int b, .int (nI ln)]) (er_Qi D vwCl (cfR T) X L tg sz (fun r u => r = (s_resend_nob A b ln nl).1 ∧ u = (s_resend_nob A b ln nl).2)) 0 0 (ew_A L sz) := by
  refine er_met (by decide) rfl (Nat.le_of_ble_eq_true rfl) ?_
  intro p e s m below meth c ls hx hb hr hts hown hlocks hml hV hK hS hA hl hsz
  subst hsz
  have hi0 := hE 0 (by decide)
  have hl : lv_has ls 6 [(0, .ref (X 0 0)), (1, .int b), (2, .int (nI ln))] := hl
  refine lv_aload_n hx hb dM_resend_0 rfl (lv_at hl 0 rfl) ?_
  refine lv_iload_n hx hb dM_resend_1 rfl (lv_at hl 2 rfl) ?_
  refine er_calli (va_runV (As := [.int (nI ln)]) (rest := []) ⟨hx, hb, hml, hown, hts⟩ (r_isLoan l D T X L tg _ hE A (nI ln)) (cwV 1 hts gM_172 rfl rfl rfl (by decide +kernel) ⟨Nat.le_of_ble_eq_true rfl, Nat.le_of_ble_eq_true rfl⟩) (er_preV hK hV hi0 (cR_0 _ _ _) rfl) rfl rfl hl.1 rfl (lv_room (Nat.le_of_ble_eq_true rfl)) dM_resend_2 ⟨Nat.le_of_ble_eq_true rfl, Nat.le_of_ble_eq_true rfl⟩) hV hS hA (fun r u H locs hp hV hS => ?_)
  obtain ⟨rfl, eu9⟩ := hp
  rw [eu9] at hV
  refine lv_toe (y := 1) (s_isLoan_1 q2 hnl hn2) ?_
  refine lv_if_eq (tgt := 29) hx hb dM_resend_5 rfl (fun h9 => absurd h9 (by decide)) (fun _ => ?_)
  refine lv_iload_n hx hb dM_resend_8 rfl (lv_at hl 1 rfl) ?_
  refine er_calli (va_runS (As := [.int b]) (rest := []) ⟨hx, hb, hml, hown, hts⟩ (r_isLibrary l D T X L tg _ hE A b) (cwS 1 hts gM_142 rfl rfl rfl (by decide +kernel) ⟨Nat.le_of_ble_eq_true rfl, Nat.le_of_ble_eq_true rfl⟩) (er_preS hK hV) rfl rfl hl.1 rfl (lv_room (Nat.le_of_ble_eq_true rfl)) dM_resend_9 ⟨Nat.le_of_ble_eq_true rfl, Nat.le_of_ble_eq_true rfl⟩) hV hS hA (fun r u H locs hp hV hS => ?_)
  obtain ⟨rfl, eu9⟩ := hp
  rw [eu9] at hV
  refine lv_toe (y := 0) hnb ?_
  refine lv_if_eq (tgt := 29) hx hb dM_resend_12 rfl (fun _ => ?_) (fun h9 => absurd (by decide) h9)
  refine lv_iconst (v := 0) hx hb dM_resend_29 (by decide) ?_
  refine lv_istore_n (lv' := [(3, .int 0), (0, .ref (X 0 0)), (1, .int b), (2, .int (nI ln))]) hx hb dM_resend_30 rfl hl (by decide) rfl (fun ls hl => ?_)
  refine lv_aload_n hx hb dM_resend_31 rfl (lv_at hl 1 rfl) ?_
  refine lv_iload_n hx hb dM_resend_32 rfl (lv_at hl 0 rfl) ?_
  refine lv_if_ne (tgt := 69) hx hb dM_resend_33 rfl (fun h9 => absurd (by decide) h9) (fun _ => ?_)
  refine lv_aload_n hx hb dM_resend_36 rfl (lv_at hl 1 rfl) ?_
  refine lv_iload_n hx hb dM_resend_37 rfl (lv_at hl 3 rfl) ?_
  refine er_calli (va_runV (As := [.int (nI ln)]) (rest := [.ref (X 0 0)]) ⟨hx, hb, hml, hown, hts⟩ (r_isLoan l D T X L tg _ hE A (nI ln)) (cwV 1 hts gM_172 rfl rfl rfl (by decide +kernel) ⟨Nat.le_of_ble_eq_true rfl, Nat.le_of_ble_eq_true rfl⟩) (er_preV hK hV hi0 (cR_0 _ _ _) rfl) rfl rfl hl.1 rfl (lv_room (Nat.le_of_ble_eq_true rfl)) dM_resend_38 ⟨Nat.le_of_ble_eq_true rfl, Nat.le_of_ble_eq_true rfl⟩) hV hS hA (fun r u H locs hp hV hS => ?_)
  obtain ⟨rfl, eu9⟩ := hp
  rw [eu9] at hV
  refine lv_toe (y := 1) (s_isLoan_1 q2 hnl hn2) ?_
  refine lv_if_eq (tgt := 65) hx hb dM_resend_41 rfl (fun h9 => absurd h9 (by decide)) (fun _ => ?_)
  refine lv_iload_n hx hb dM_resend_44 rfl (lv_at hl 2 rfl) ?_
  refine er_calli (va_runS (As := [.int b]) (rest := [.ref (X 0 0)]) ⟨hx, hb, hml, hown, hts⟩ (r_isLibrary l D T X L tg _ hE A b) (cwS 1 hts gM_142 rfl rfl rfl (by decide +kernel) ⟨Nat.le_of_ble_eq_true rfl, Nat.le_of_ble_eq_true rfl⟩) (er_preS hK hV) rfl rfl hl.1 rfl (lv_room (Nat.le_of_ble_eq_true rfl)) dM_resend_45 ⟨Nat.le_of_ble_eq_true rfl, Nat.le_of_ble_eq_true rfl⟩) hV hS hA (fun r u H locs hp hV hS => ?_)
  obtain ⟨rfl, eu9⟩ := hp
  rw [eu9] at hV
  refine lv_toe (y := 0) hnb ?_
  refine lv_if_eq (tgt := 65) hx hb dM_resend_48 rfl (fun _ => ?_) (fun h9 => absurd (by decide) h9)
  refine lv_iconst (v := 1) hx hb dM_resend_65 (by decide) ?_
  refine lv_goto (tgt := 70) hx hb dM_resend_66 rfl ?_
  refine lv_iconst (v := 0) hx hb dM_resend_70 (by decide) ?_
  refine er_calli (va_runV (As := [.int 1, .int 0]) (rest := []) ⟨hx, hb, hml, hown, hts⟩ (r_refuses_a l D T X L tg _ hE A 0) (cwV 2 hts gM_152 rfl rfl rfl (by decide +kernel) ⟨Nat.le_of_ble_eq_true rfl, Nat.le_of_ble_eq_true rfl⟩) (er_preV hK hV hi0 (cR_0 _ _ _) rfl) rfl rfl hl.1 rfl (lv_room (Nat.le_of_ble_eq_true rfl)) dM_resend_71 ⟨Nat.le_of_ble_eq_true rfl, Nat.le_of_ble_eq_true rfl⟩) hV hS hA (fun r u H locs hp hV hS => ?_)
  obtain ⟨rfl, rfl⟩ := hp
  refine lv_if_eq (tgt := 79) hx hb dM_resend_74 rfl (fun h9 => absurd h9 (by decide)) (fun _ => ?_)
  refine lv_iconst (v := 0) hx hb dM_resend_77 (by decide) ?_
  exact er_iret hx hb hr hlocks hV hS dM_resend_78 ⟨Eq.symm (by unfold s_resend_nob; rfl), Eq.symm (by unfold s_resend_nob; rfl)⟩

def s_resend_no (A : ew_R) (b : Nat) (ln : Nat) (nl : Nat) (rq : Nat) : Int32 × ew_R :=
  (0, up3 A 0 0 0 1)
set_option maxHeartbeats 4000000 in
set_option maxRecDepth 100000 in
theorem r_resend_no (l : Launch) (D : va_G) (T : Nat → ClassId) (X : Nat → Nat → Nat) (L : List Nat) (tg : Nat → Nat × Nat) (sz : Nat) (hE : eR_E X L tg) (A : ew_R) (b : Nat) (ln : Nat) (nl : Nat) (rq : Nat) (hb6 : b < 6) (hnl : ln < nl) (hn2 : nl ≤ 32) (q2 : A 0 0 2 = nI nl) (hrq : rq < 6) (q11 : A 11 0 ln = nI rq) (hbr : ¬ b = rq) (q22 : A 22 0 (6 * ln + b) = 0) : Met l yM_resend wsM_resend ({ frames := 2, cells := 0, slots := 0, locals := 44 }) (er_Pc D vwCl (tysA T) (cfR T) X L tg A sz [.ref (X 0 0), .int (nI b), .int (nI ln)]) (er_Qi D vwCl (cfR T) X L tg sz (fun r u => r = (s_resend_no A b ln nl rq).1 ∧ u = (s_resend_no A b ln nl rq).2)) 0 0 (ew_A L sz) := by
  refine er_met (by decide) rfl (Nat.le_of_ble_eq_true rfl) ?_
  intro p e s m below meth c ls hx hb hr hts hown hlocks hml hV hK hS hA hl hsz
  subst hsz
  have hi0 := hE 0 (by decide)
  have hl : lv_has ls 6 [(0, .ref (X 0 0)), (1, .int (nI b)), (2, .int (nI ln))] := hl
  refine lv_aload_n hx hb dM_resend_0 rfl (lv_at hl 0 rfl) ?_
  refine lv_iload_n hx hb dM_resend_1 rfl (lv_at hl 2 rfl) ?_
  refine er_calli (va_runV (As := [.int (nI ln)]) (rest := []) ⟨hx, hb, hml, hown, hts⟩ (r_isLoan l D T X L tg _ hE A (nI ln)) (cwV 1 hts gM_172 rfl rfl rfl (by decide +kernel) ⟨Nat.le_of_ble_eq_true rfl, Nat.le_of_ble_eq_true rfl⟩) (er_preV hK hV hi0 (cR_0 _ _ _) rfl) rfl rfl hl.1 rfl (lv_room (Nat.le_of_ble_eq_true rfl)) dM_resend_2 ⟨Nat.le_of_ble_eq_true rfl, Nat.le_of_ble_eq_true rfl⟩) hV hS hA (fun r u H locs hp hV hS => ?_)
  obtain ⟨rfl, eu9⟩ := hp
  rw [eu9] at hV
  refine lv_toe (y := 1) (s_isLoan_1 q2 hnl hn2) ?_
  refine lv_if_eq (tgt := 29) hx hb dM_resend_5 rfl (fun h9 => absurd h9 (by decide)) (fun _ => ?_)
  refine lv_iload_n hx hb dM_resend_8 rfl (lv_at hl 1 rfl) ?_
  refine er_calli (va_runS (As := [.int (nI b)]) (rest := []) ⟨hx, hb, hml, hown, hts⟩ (r_isLibrary l D T X L tg _ hE A (nI b)) (cwS 1 hts gM_142 rfl rfl rfl (by decide +kernel) ⟨Nat.le_of_ble_eq_true rfl, Nat.le_of_ble_eq_true rfl⟩) (er_preS hK hV) rfl rfl hl.1 rfl (lv_room (Nat.le_of_ble_eq_true rfl)) dM_resend_9 ⟨Nat.le_of_ble_eq_true rfl, Nat.le_of_ble_eq_true rfl⟩) hV hS hA (fun r u H locs hp hV hS => ?_)
  obtain ⟨rfl, eu9⟩ := hp
  rw [eu9] at hV
  refine lv_toe (y := 1) (s_isLibrary_1 hb6) ?_
  refine lv_if_eq (tgt := 29) hx hb dM_resend_12 rfl (fun h9 => absurd h9 (by decide)) (fun _ => ?_)
  refine lv_iload_n hx hb dM_resend_15 rfl (lv_at hl 1 rfl) ?_
  refine lv_aload_n hx hb dM_resend_16 rfl (lv_at hl 0 rfl) ?_
  refine ew_get (v := .ref (X 11 0)) hx hb hts hown hK hV fM_25 hi0 (cR_0 _ _ _) rfl dM_resend_17 ?_
  refine lv_iload_n hx hb dM_resend_20 rfl (lv_at hl 2 rfl) ?_
  refine ew_iald (v := A 11 0 ln) hx hb hK hV (hE 11 (by decide)) (cR_11 _ _ _) 0 rfl (vp_in_nI (by omega) (by decide)) (er_ix (by omega) rfl) dM_resend_21 ?_
  refine lv_toe (y := nI rq) q11 ?_
  refine lv_icmp_ne (tgt := 29) hx hb dM_resend_22 rfl (fun _ => ?_) (fun h9 => absurd h9 (fun z9 => hbr ((nI_eq (a := b) (b := rq) (by omega) (by omega)).mp z9)))
  refine lv_iconst (v := 0) hx hb dM_resend_29 (by decide) ?_
  refine lv_istore_n (lv' := [(3, .int 0), (0, .ref (X 0 0)), (1, .int (nI b)), (2, .int (nI ln))]) hx hb dM_resend_30 rfl hl (by decide) rfl (fun ls hl => ?_)
  refine lv_aload_n hx hb dM_resend_31 rfl (lv_at hl 1 rfl) ?_
  refine lv_iload_n hx hb dM_resend_32 rfl (lv_at hl 0 rfl) ?_
  refine lv_if_ne (tgt := 69) hx hb dM_resend_33 rfl (fun h9 => absurd (by decide) h9) (fun _ => ?_)
  refine lv_aload_n hx hb dM_resend_36 rfl (lv_at hl 1 rfl) ?_
  refine lv_iload_n hx hb dM_resend_37 rfl (lv_at hl 3 rfl) ?_
  refine er_calli (va_runV (As := [.int (nI ln)]) (rest := [.ref (X 0 0)]) ⟨hx, hb, hml, hown, hts⟩ (r_isLoan l D T X L tg _ hE A (nI ln)) (cwV 1 hts gM_172 rfl rfl rfl (by decide +kernel) ⟨Nat.le_of_ble_eq_true rfl, Nat.le_of_ble_eq_true rfl⟩) (er_preV hK hV hi0 (cR_0 _ _ _) rfl) rfl rfl hl.1 rfl (lv_room (Nat.le_of_ble_eq_true rfl)) dM_resend_38 ⟨Nat.le_of_ble_eq_true rfl, Nat.le_of_ble_eq_true rfl⟩) hV hS hA (fun r u H locs hp hV hS => ?_)
  obtain ⟨rfl, eu9⟩ := hp
  rw [eu9] at hV
  refine lv_toe (y := 1) (s_isLoan_1 q2 hnl hn2) ?_
  refine lv_if_eq (tgt := 65) hx hb dM_resend_41 rfl (fun h9 => absurd h9 (by decide)) (fun _ => ?_)
  refine lv_iload_n hx hb dM_resend_44 rfl (lv_at hl 2 rfl) ?_
  refine er_calli (va_runS (As := [.int (nI b)]) (rest := [.ref (X 0 0)]) ⟨hx, hb, hml, hown, hts⟩ (r_isLibrary l D T X L tg _ hE A (nI b)) (cwS 1 hts gM_142 rfl rfl rfl (by decide +kernel) ⟨Nat.le_of_ble_eq_true rfl, Nat.le_of_ble_eq_true rfl⟩) (er_preS hK hV) rfl rfl hl.1 rfl (lv_room (Nat.le_of_ble_eq_true rfl)) dM_resend_45 ⟨Nat.le_of_ble_eq_true rfl, Nat.le_of_ble_eq_true rfl⟩) hV hS hA (fun r u H locs hp hV hS => ?_)
  obtain ⟨rfl, eu9⟩ := hp
  rw [eu9] at hV
  refine lv_toe (y := 1) (s_isLibrary_1 hb6) ?_
  refine lv_if_eq (tgt := 65) hx hb dM_resend_48 rfl (fun h9 => absurd h9 (by decide)) (fun _ => ?_)
  refine lv_aload_n hx hb dM_resend_51 rfl (lv_at hl 1 rfl) ?_
  refine ew_get (v := .ref (X 22 0)) hx hb hts hown hK hV fM_58 hi0 (cR_0 _ _ _) rfl dM_resend_52 ?_
  refine lv_bipush (v := 6) hx hb dM_resend_55 (by decide) ?_
  refine lv_iload_n hx hb dM_resend_57 rfl (lv_at hl 3 rfl) ?_
  refine lv_imul hx hb dM_resend_58 ?_
  refine lv_toe (y := nI (6 * ln)) (pk_mul 6 ln) ?_
  refine lv_iload_n hx hb dM_resend_59 rfl (lv_at hl 2 rfl) ?_
  refine lv_iadd hx hb dM_resend_60 ?_
  refine lv_toe (y := nI ((6 * ln) + b)) (nI_add (6 * ln) b) ?_
  refine ew_zald (v := A 22 0 ((6 * ln) + b)) hx hb hK hV (hE 22 (by decide)) (cR_22 _ _ _) 1 rfl (vp_in_nI (by omega) (by decide)) (er_ix (by omega) rfl) dM_resend_61 ?_
  refine lv_if_ne (tgt := 69) hx hb dM_resend_62 rfl (fun h9 => absurd q22 h9) (fun _ => ?_)
  refine lv_iconst (v := 1) hx hb dM_resend_65 (by decide) ?_
  refine lv_goto (tgt := 70) hx hb dM_resend_66 rfl ?_
  refine lv_iconst (v := 0) hx hb dM_resend_70 (by decide) ?_
  refine er_calli (va_runV (As := [.int 1, .int 0]) (rest := []) ⟨hx, hb, hml, hown, hts⟩ (r_refuses_a l D T X L tg _ hE A 0) (cwV 2 hts gM_152 rfl rfl rfl (by decide +kernel) ⟨Nat.le_of_ble_eq_true rfl, Nat.le_of_ble_eq_true rfl⟩) (er_preV hK hV hi0 (cR_0 _ _ _) rfl) rfl rfl hl.1 rfl (lv_room (Nat.le_of_ble_eq_true rfl)) dM_resend_71 ⟨Nat.le_of_ble_eq_true rfl, Nat.le_of_ble_eq_true rfl⟩) hV hS hA (fun r u H locs hp hV hS => ?_)
  obtain ⟨rfl, rfl⟩ := hp
  refine lv_if_eq (tgt := 79) hx hb dM_resend_74 rfl (fun h9 => absurd h9 (by decide)) (fun _ => ?_)
  refine lv_iconst (v := 0) hx hb dM_resend_77 (by decide) ?_
  exact er_iret hx hb hr hlocks hV hS dM_resend_78 ⟨Eq.symm (by unfold s_resend_no; rfl), Eq.symm (by unfold s_resend_no; rfl)⟩

def s_queue_bl (A : ew_R) (b : Int32) (t : Int32) : Int32 × ew_R :=
  ((-1), up3 A 0 0 0 0)
set_option maxHeartbeats 4000000 in
set_option maxRecDepth 100000 in
theorem r_queue_bl (l : Launch) (D : va_G) (T : Nat → ClassId) (X : Nat → Nat → Nat) (L : List Nat) (tg : Nat → Nat × Nat) (sz : Nat) (hE : eR_E X L tg) (A : ew_R) (b : Int32) (t : Int32) (hnb : s_isLibrary b = 0) : Met l yM_queue wsM_queue ({ frames := 1, cells := 0, slots := 0, locals := 20 }) (er_Pc D vwCl (tysA T) (cfR T) X L tg A sz [.ref (X 0 0), .int b, .int t]) (er_Qi D vwCl (cfR T) X L tg sz (fun r u => r = (s_queue_bl A b t).1 ∧ u = (s_queue_bl A b t).2)) 0 0 (ew_A L sz) := by
  refine er_met (by decide) rfl (Nat.le_of_ble_eq_true rfl) ?_
  intro p e s m below meth c ls hx hb hr hts hown hlocks hml hV hK hS hA hl hsz
  subst hsz
  have hi0 := hE 0 (by decide)
  have hl : lv_has ls 5 [(0, .ref (X 0 0)), (1, .int b), (2, .int t)] := hl
  refine lv_aload_n hx hb dM_queue_0 rfl (lv_at hl 0 rfl) ?_
  refine lv_iconst (v := 0) hx hb dM_queue_1 (by decide) ?_
  refine ew_put (ty := .int) hx hb hts hown hK hV hS fM_113 gM hi0 (cR_0 _ _ _) 0 _ (pR_0 _ _ _ _) rfl (by decide +kernel) rfl rfl (Nat.le_of_ble_eq_true rfl) dM_queue_2 (fun H locs hV hS => ?_)
  refine lv_iload_n hx hb dM_queue_5 rfl (lv_at hl 1 rfl) ?_
  refine er_calli (va_runS (As := [.int b]) (rest := []) ⟨hx, hb, hml, hown, hts⟩ (r_isLibrary l D T X L tg _ hE (up3 A 0 0 0 0) b) (cwS 1 hts gM_142 rfl rfl rfl (by decide +kernel) ⟨Nat.le_of_ble_eq_true rfl, Nat.le_of_ble_eq_true rfl⟩) (er_preS hK hV) rfl rfl hl.1 rfl (lv_room (Nat.le_of_ble_eq_true rfl)) dM_queue_6 ⟨Nat.le_of_ble_eq_true rfl, Nat.le_of_ble_eq_true rfl⟩) hV hS hA (fun r u H locs hp hV hS => ?_)
  obtain ⟨rfl, eu9⟩ := hp
  rw [eu9] at hV
  refine lv_toe (y := 0) hnb ?_
  refine lv_if_eq (tgt := 19) hx hb dM_queue_9 rfl (fun _ => ?_) (fun h9 => absurd (by decide) h9)
  refine lv_iconst (v := (-1)) hx hb dM_queue_19 (by decide) ?_
  exact er_iret hx hb hr hlocks hV hS dM_queue_20 ⟨Eq.symm (by unfold s_queue_bl; rfl), Eq.symm (by unfold s_queue_bl; rfl)⟩

def s_queue_bt (A : ew_R) (b : Nat) (t : Int32) : Int32 × ew_R :=
  ((-1), up3 A 0 0 0 0)
set_option maxHeartbeats 4000000 in
set_option maxRecDepth 100000 in
theorem r_queue_bt (l : Launch) (D : va_G) (T : Nat → ClassId) (X : Nat → Nat → Nat) (L : List Nat) (tg : Nat → Nat × Nat) (sz : Nat) (hE : eR_E X L tg) (A : ew_R) (b : Nat) (t : Int32) (hb6 : b < 6) (hnt : s_isTitle t = 0) : Met l yM_queue wsM_queue ({ frames := 1, cells := 0, slots := 0, locals := 20 }) (er_Pc D vwCl (tysA T) (cfR T) X L tg A sz [.ref (X 0 0), .int (nI b), .int t]) (er_Qi D vwCl (cfR T) X L tg sz (fun r u => r = (s_queue_bt A b t).1 ∧ u = (s_queue_bt A b t).2)) 0 0 (ew_A L sz) := by
  refine er_met (by decide) rfl (Nat.le_of_ble_eq_true rfl) ?_
  intro p e s m below meth c ls hx hb hr hts hown hlocks hml hV hK hS hA hl hsz
  subst hsz
  have hi0 := hE 0 (by decide)
  have hl : lv_has ls 5 [(0, .ref (X 0 0)), (1, .int (nI b)), (2, .int t)] := hl
  refine lv_aload_n hx hb dM_queue_0 rfl (lv_at hl 0 rfl) ?_
  refine lv_iconst (v := 0) hx hb dM_queue_1 (by decide) ?_
  refine ew_put (ty := .int) hx hb hts hown hK hV hS fM_113 gM hi0 (cR_0 _ _ _) 0 _ (pR_0 _ _ _ _) rfl (by decide +kernel) rfl rfl (Nat.le_of_ble_eq_true rfl) dM_queue_2 (fun H locs hV hS => ?_)
  refine lv_iload_n hx hb dM_queue_5 rfl (lv_at hl 1 rfl) ?_
  refine er_calli (va_runS (As := [.int (nI b)]) (rest := []) ⟨hx, hb, hml, hown, hts⟩ (r_isLibrary l D T X L tg _ hE (up3 A 0 0 0 0) (nI b)) (cwS 1 hts gM_142 rfl rfl rfl (by decide +kernel) ⟨Nat.le_of_ble_eq_true rfl, Nat.le_of_ble_eq_true rfl⟩) (er_preS hK hV) rfl rfl hl.1 rfl (lv_room (Nat.le_of_ble_eq_true rfl)) dM_queue_6 ⟨Nat.le_of_ble_eq_true rfl, Nat.le_of_ble_eq_true rfl⟩) hV hS hA (fun r u H locs hp hV hS => ?_)
  obtain ⟨rfl, eu9⟩ := hp
  rw [eu9] at hV
  refine lv_toe (y := 1) (s_isLibrary_1 hb6) ?_
  refine lv_if_eq (tgt := 19) hx hb dM_queue_9 rfl (fun h9 => absurd h9 (by decide)) (fun _ => ?_)
  refine lv_iload_n hx hb dM_queue_12 rfl (lv_at hl 2 rfl) ?_
  refine er_calli (va_runS (As := [.int t]) (rest := []) ⟨hx, hb, hml, hown, hts⟩ (r_isTitle l D T X L tg _ hE (up3 A 0 0 0 0) t) (cwS 1 hts gM_146 rfl rfl rfl (by decide +kernel) ⟨Nat.le_of_ble_eq_true rfl, Nat.le_of_ble_eq_true rfl⟩) (er_preS hK hV) rfl rfl hl.1 rfl (lv_room (Nat.le_of_ble_eq_true rfl)) dM_queue_13 ⟨Nat.le_of_ble_eq_true rfl, Nat.le_of_ble_eq_true rfl⟩) hV hS hA (fun r u H locs hp hV hS => ?_)
  obtain ⟨rfl, eu9⟩ := hp
  rw [eu9] at hV
  refine lv_toe (y := 0) hnt ?_
  refine lv_if_ne (tgt := 21) hx hb dM_queue_16 rfl (fun h9 => absurd (by decide) h9) (fun _ => ?_)
  refine lv_iconst (v := (-1)) hx hb dM_queue_19 (by decide) ?_
  exact er_iret hx hb hr hlocks hV hS dM_queue_20 ⟨Eq.symm (by unfold s_queue_bt; rfl), Eq.symm (by unfold s_queue_bt; rfl)⟩

def s_qu (A : ew_R) (b t : Nat) : Nat → Int32
  | 0 => 0
  | i + 1 => s_qu A b t i + (if A 12 0 i = nI t then (if A 22 0 ((6 * i) + b) = 0 then 0 else if A 23 0 ((6 * i) + b) = 1 then 1 else 0) else 0)
def s_queue_ok (A : ew_R) (b t nl : Nat) : Int32 × ew_R := (s_qu A b t nl, up3 A 0 0 0 0)

set_option maxHeartbeats 4000000 in
set_option maxRecDepth 100000 in
theorem r_queue_ok (l : Launch) (D : va_G) (T : Nat → ClassId) (X : Nat → Nat → Nat) (L : List Nat) (tg : Nat → Nat × Nat) (sz : Nat) (hE : eR_E X L tg) (A : ew_R) (b : Nat) (t : Nat) (nl : Nat) (hb6 : b < 6) (ht8 : t < 8) (hn2 : nl ≤ 32) (q2 : A 0 0 2 = nI nl) : Met l yM_queue wsM_queue ({ frames := 1, cells := 0, slots := 0, locals := 20 }) (er_Pc D vwCl (tysA T) (cfR T) X L tg A sz [.ref (X 0 0), .int (nI b), .int (nI t)]) (er_Qi D vwCl (cfR T) X L tg sz (fun r u => r = (s_queue_ok A b t nl).1 ∧ u = (s_queue_ok A b t nl).2)) 0 0 (ew_A L sz) := by
  refine er_met (by decide) rfl (Nat.le_of_ble_eq_true rfl) ?_
  intro p e s m below meth c ls hx hb hr hts hown hlocks hml hV hK hS hA hl hsz
  subst hsz
  have hi0 := hE 0 (by decide)
  have hl : lv_has ls 5 [(0, .ref (X 0 0)), (1, .int (nI b)), (2, .int (nI t))] := hl
  refine lv_aload_n hx hb dM_queue_0 rfl (lv_at hl 0 rfl) ?_
  refine lv_iconst (v := 0) hx hb dM_queue_1 (by decide) ?_
  refine ew_put (ty := .int) hx hb hts hown hK hV hS fM_113 gM hi0 (cR_0 _ _ _) 0 _ (pR_0 _ _ _ _) rfl (by decide +kernel) rfl rfl (Nat.le_of_ble_eq_true rfl) dM_queue_2 (fun H locs hV hS => ?_)
  refine lv_iload_n hx hb dM_queue_5 rfl (lv_at hl 1 rfl) ?_
  refine er_calli (va_runS (As := [.int (nI b)]) (rest := []) ⟨hx, hb, hml, hown, hts⟩ (r_isLibrary l D T X L tg _ hE (up3 A 0 0 0 0) (nI b)) (cwS 1 hts gM_142 rfl rfl rfl (by decide +kernel) ⟨Nat.le_of_ble_eq_true rfl, Nat.le_of_ble_eq_true rfl⟩) (er_preS hK hV) rfl rfl hl.1 rfl (lv_room (Nat.le_of_ble_eq_true rfl)) dM_queue_6 ⟨Nat.le_of_ble_eq_true rfl, Nat.le_of_ble_eq_true rfl⟩) hV hS hA (fun r u H locs hp hV hS => ?_)
  obtain ⟨rfl, eu9⟩ := hp
  rw [eu9] at hV
  refine lv_toe (y := 1) (s_isLibrary_1 hb6) ?_
  refine lv_if_eq (tgt := 19) hx hb dM_queue_9 rfl (fun h9 => absurd h9 (by decide)) (fun _ => ?_)
  refine lv_iload_n hx hb dM_queue_12 rfl (lv_at hl 2 rfl) ?_
  refine er_calli (va_runS (As := [.int (nI t)]) (rest := []) ⟨hx, hb, hml, hown, hts⟩ (r_isTitle l D T X L tg _ hE (up3 A 0 0 0 0) (nI t)) (cwS 1 hts gM_146 rfl rfl rfl (by decide +kernel) ⟨Nat.le_of_ble_eq_true rfl, Nat.le_of_ble_eq_true rfl⟩) (er_preS hK hV) rfl rfl hl.1 rfl (lv_room (Nat.le_of_ble_eq_true rfl)) dM_queue_13 ⟨Nat.le_of_ble_eq_true rfl, Nat.le_of_ble_eq_true rfl⟩) hV hS hA (fun r u H locs hp hV hS => ?_)
  obtain ⟨rfl, eu9⟩ := hp
  rw [eu9] at hV
  refine lv_toe (y := 1) (s_isTitle_1 ht8) ?_
  refine lv_if_ne (tgt := 21) hx hb dM_queue_16 rfl (fun _ => ?_) (fun h9 => absurd h9 (by decide))
  refine lv_iconst (v := 0) hx hb dM_queue_21 (by decide) ?_
  refine lv_istore_n (lv' := [(3, .int 0), (0, .ref (X 0 0)), (1, .int (nI b)), (2, .int (nI t))]) hx hb dM_queue_22 rfl hl (by decide) rfl (fun ls hl => ?_)
  refine lv_iconst (v := 0) hx hb dM_queue_23 (by decide) ?_
  refine lv_istore (lv' := [(4, .int 0), (3, .int 0), (0, .ref (X 0 0)), (1, .int (nI b)), (2, .int (nI t))]) hx hb dM_queue_24 hl (by decide) rfl (fun ls hl => ?_)
  have loop : ∀ (r i : Nat), i + r = nl → ∀ (ls : Array Slot), lv_has ls 5 [(4, .int (nI i)), (3, .int (s_qu A b t i)), (0, .ref (X 0 0)), (1, .int (nI b)), (2, .int (nI t))] → W p l e ({ frames := 1, cells := 0, slots := 0, locals := 20 }) s m ([.ref (X 0 0), .int (nI b), .int (nI t)] : List Value).toArray below meth c H locs 0 0 (MQ below (er_Qi D vwCl (cfR T) X L tg s.heap.size (fun r u => r = (s_queue_ok A b t nl).1 ∧ u = (s_queue_ok A b t nl).2)) ([.ref (X 0 0), .int (nI b), .int (nI t)] : List Value).toArray s 0 0 (ew_A L s.heap.size)) (F0 m 26 ls []) := by
    intro r
    induction r with
    | zero =>
      intro i hn ls hl
      refine lv_iload hx hb dM_queue_26 (lv_at hl 0 rfl) ?_
      refine lv_aload_n hx hb dM_queue_28 rfl (lv_at hl 2 rfl) ?_
      refine ew_get (v := .int (A 0 0 2)) hx hb hts hown hK hV fM_117 hi0 (cR_0 _ _ _) rfl dM_queue_29 ?_
      refine lv_toe (y := nI nl) q2 ?_
      refine lv_icmp_ge (tgt := 91) hx hb dM_queue_32 rfl (fun _ => ?_) (fun h9 => absurd ((nI_leI (a := nl) (b := i) (by omega) (by omega)).mpr (show nl ≤ i by omega)) h9)
      refine lv_iload_n hx hb dM_queue_91 rfl (lv_at hl 1 rfl) ?_
      exact er_iret hx hb hr hlocks hV hS dM_queue_92 ⟨by unfold s_queue_ok; rw [show nl = i by omega], rfl⟩
    | succ r ih =>
      intro i hn ls hl
      refine lv_iload hx hb dM_queue_26 (lv_at hl 0 rfl) ?_
      refine lv_aload_n hx hb dM_queue_28 rfl (lv_at hl 2 rfl) ?_
      refine ew_get (v := .int (A 0 0 2)) hx hb hts hown hK hV fM_117 hi0 (cR_0 _ _ _) rfl dM_queue_29 ?_
      refine lv_toe (y := nI nl) q2 ?_
      refine lv_icmp_ge (tgt := 91) hx hb dM_queue_32 rfl (fun h9 => absurd h9 (fun z9 => (show ¬ (nl ≤ i) by omega) ((nI_leI (a := nl) (b := i) (by omega) (by omega)).mp z9))) (fun _ => ?_)
      refine lv_iload_n hx hb dM_queue_35 rfl (lv_at hl 1 rfl) ?_
      refine lv_aload_n hx hb dM_queue_36 rfl (lv_at hl 2 rfl) ?_
      refine ew_get (v := .ref (X 12 0)) hx hb hts hown hK hV fM_28 hi0 (cR_0 _ _ _) rfl dM_queue_37 ?_
      refine lv_iload hx hb dM_queue_40 (lv_at hl 0 rfl) ?_
      refine ew_iald (v := A 12 0 i) hx hb hK hV (hE 12 (by decide)) (cR_12 _ _ _) 0 rfl (vp_in_nI (by omega) (by decide)) (er_ix (by omega) rfl) dM_queue_42 ?_
      refine lv_iload_n hx hb dM_queue_43 rfl (lv_at hl 4 rfl) ?_
      refine lv_icmp_ne (tgt := 82) hx hb dM_queue_44 rfl (fun h1 => ?_) (fun h1 => ?_)
      · refine lv_iconst (v := 0) hx hb dM_queue_82 (by decide) ?_
        refine lv_iadd hx hb dM_queue_83 ?_
        refine lv_toe (y := s_qu A b t (i + 1)) (Eq.symm (by show s_qu A b t i + _ = _; rw [if_neg h1])) ?_
        refine lv_istore_n (lv' := [(3, .int (s_qu A b t (i + 1))), (4, .int (nI i)), (0, .ref (X 0 0)), (1, .int (nI b)), (2, .int (nI t))]) hx hb dM_queue_84 rfl hl (by decide) rfl (fun ls hl => ?_)
        refine lv_iinc (k := 1) (v := nI (i + 1)) (lv' := [(4, .int (nI (i + 1))), (3, .int (s_qu A b t (i + 1))), (0, .ref (X 0 0)), (1, .int (nI b)), (2, .int (nI t))]) hx hb dM_queue_85 hl rfl (nI_add i 1) (by decide) rfl (fun ls hl => ?_)
        refine lv_goto (tgt := 26) hx hb dM_queue_88 rfl ?_
        exact ih (i + 1) (by omega) ls hl
      · refine lv_aload_n hx hb dM_queue_47 rfl (lv_at hl 2 rfl) ?_
        refine ew_get (v := .ref (X 22 0)) hx hb hts hown hK hV fM_58 hi0 (cR_0 _ _ _) rfl dM_queue_48 ?_
        refine lv_bipush (v := 6) hx hb dM_queue_51 (by decide) ?_
        refine lv_iload hx hb dM_queue_53 (lv_at hl 0 rfl) ?_
        refine lv_imul hx hb dM_queue_55 ?_
        refine lv_toe (y := nI (6 * i)) (pk_mul 6 i) ?_
        refine lv_iload_n hx hb dM_queue_56 rfl (lv_at hl 3 rfl) ?_
        refine lv_iadd hx hb dM_queue_57 ?_
        refine lv_toe (y := nI ((6 * i) + b)) (nI_add (6 * i) b) ?_
        refine ew_zald (v := A 22 0 ((6 * i) + b)) hx hb hK hV (hE 22 (by decide)) (cR_22 _ _ _) 1 rfl (vp_in_nI (by omega) (by decide)) (er_ix (by omega) rfl) dM_queue_58 ?_
        refine lv_if_eq (tgt := 82) hx hb dM_queue_59 rfl (fun h2 => ?_) (fun h2 => ?_)
        · refine lv_iconst (v := 0) hx hb dM_queue_82 (by decide) ?_
          refine lv_iadd hx hb dM_queue_83 ?_
          refine lv_toe (y := s_qu A b t (i + 1)) (Eq.symm (by show s_qu A b t i + _ = _; rw [if_pos h1, if_pos h2])) ?_
          refine lv_istore_n (lv' := [(3, .int (s_qu A b t (i + 1))), (4, .int (nI i)), (0, .ref (X 0 0)), (1, .int (nI b)), (2, .int (nI t))]) hx hb dM_queue_84 rfl hl (by decide) rfl (fun ls hl => ?_)
          refine lv_iinc (k := 1) (v := nI (i + 1)) (lv' := [(4, .int (nI (i + 1))), (3, .int (s_qu A b t (i + 1))), (0, .ref (X 0 0)), (1, .int (nI b)), (2, .int (nI t))]) hx hb dM_queue_85 hl rfl (nI_add i 1) (by decide) rfl (fun ls hl => ?_)
          refine lv_goto (tgt := 26) hx hb dM_queue_88 rfl ?_
          exact ih (i + 1) (by omega) ls hl
        · refine lv_aload_n hx hb dM_queue_62 rfl (lv_at hl 2 rfl) ?_
          refine ew_get (v := .ref (X 23 0)) hx hb hts hown hK hV fM_62 hi0 (cR_0 _ _ _) rfl dM_queue_63 ?_
          refine lv_bipush (v := 6) hx hb dM_queue_66 (by decide) ?_
          refine lv_iload hx hb dM_queue_68 (lv_at hl 0 rfl) ?_
          refine lv_imul hx hb dM_queue_70 ?_
          refine lv_toe (y := nI (6 * i)) (pk_mul 6 i) ?_
          refine lv_iload_n hx hb dM_queue_71 rfl (lv_at hl 3 rfl) ?_
          refine lv_iadd hx hb dM_queue_72 ?_
          refine lv_toe (y := nI ((6 * i) + b)) (nI_add (6 * i) b) ?_
          refine ew_iald (v := A 23 0 ((6 * i) + b)) hx hb hK hV (hE 23 (by decide)) (cR_23 _ _ _) 0 rfl (vp_in_nI (by omega) (by decide)) (er_ix (by omega) rfl) dM_queue_73 ?_
          refine lv_iconst (v := 1) hx hb dM_queue_74 (by decide) ?_
          refine lv_icmp_ne (tgt := 82) hx hb dM_queue_75 rfl (fun h3 => ?_) (fun h3 => ?_)
          · refine lv_iconst (v := 0) hx hb dM_queue_82 (by decide) ?_
            refine lv_iadd hx hb dM_queue_83 ?_
            refine lv_toe (y := s_qu A b t (i + 1)) (Eq.symm (by show s_qu A b t i + _ = _; rw [if_pos h1, if_neg h2, if_neg h3])) ?_
            refine lv_istore_n (lv' := [(3, .int (s_qu A b t (i + 1))), (4, .int (nI i)), (0, .ref (X 0 0)), (1, .int (nI b)), (2, .int (nI t))]) hx hb dM_queue_84 rfl hl (by decide) rfl (fun ls hl => ?_)
            refine lv_iinc (k := 1) (v := nI (i + 1)) (lv' := [(4, .int (nI (i + 1))), (3, .int (s_qu A b t (i + 1))), (0, .ref (X 0 0)), (1, .int (nI b)), (2, .int (nI t))]) hx hb dM_queue_85 hl rfl (nI_add i 1) (by decide) rfl (fun ls hl => ?_)
            refine lv_goto (tgt := 26) hx hb dM_queue_88 rfl ?_
            exact ih (i + 1) (by omega) ls hl
          · refine lv_iconst (v := 1) hx hb dM_queue_78 (by decide) ?_
            refine lv_goto (tgt := 83) hx hb dM_queue_79 rfl ?_
            refine lv_iadd hx hb dM_queue_83 ?_
            refine lv_toe (y := s_qu A b t (i + 1)) (Eq.symm (by show s_qu A b t i + _ = _; rw [if_pos h1, if_neg h2, if_pos h3])) ?_
            refine lv_istore_n (lv' := [(3, .int (s_qu A b t (i + 1))), (4, .int (nI i)), (0, .ref (X 0 0)), (1, .int (nI b)), (2, .int (nI t))]) hx hb dM_queue_84 rfl hl (by decide) rfl (fun ls hl => ?_)
            refine lv_iinc (k := 1) (v := nI (i + 1)) (lv' := [(4, .int (nI (i + 1))), (3, .int (s_qu A b t (i + 1))), (0, .ref (X 0 0)), (1, .int (nI b)), (2, .int (nI t))]) hx hb dM_queue_85 hl rfl (nI_add i 1) (by decide) rfl (fun ls hl => ?_)
            refine lv_goto (tgt := 26) hx hb dM_queue_88 rfl ?_
            exact ih (i + 1) (by omega) ls hl
  exact loop nl 0 (by omega) ls hl
