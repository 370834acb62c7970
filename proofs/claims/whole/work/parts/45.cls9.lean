theorem clC_1 {X : Nat → Nat → Nat} {L : List Nat} {tg : Nat → Nat × Nat} {A : ew_R} {i k : Nat} {x : Int32} (h : clC X L tg A) : clC X L tg (up3 A 1 i k x) := clC_up h (fun _ _ q => False.elim q)
theorem clC_3 {X : Nat → Nat → Nat} {L : List Nat} {tg : Nat → Nat × Nat} {A : ew_R} {i k : Nat} {x : Int32} (h : clC X L tg A) : clC X L tg (up3 A 3 i k x) := clC_up h (fun _ _ q => False.elim q)
theorem clC_11 {X : Nat → Nat → Nat} {L : List Nat} {tg : Nat → Nat × Nat} {A : ew_R} {i k : Nat} {x : Int32} (h : clC X L tg A) : clC X L tg (up3 A 11 i k x) := clC_up h (fun _ _ q => False.elim q)
theorem clC_17 {X : Nat → Nat → Nat} {L : List Nat} {tg : Nat → Nat × Nat} {A : ew_R} {i k : Nat} {x : Int32} (h : clC X L tg A) : clC X L tg (up3 A 17 i k x) := clC_up h (fun _ _ q => False.elim q)
theorem clC_4_5 {X : Nat → Nat → Nat} {L : List Nat} {tg : Nat → Nat × Nat} {A : ew_R} {d : Nat} {x : Int32} (h : clC X L tg A) : clC X L tg (up3 A 4 d 5 x) := by
  refine clC_up h (fun c i q => ?_)
  rcases q with q | ⟨q1, q2, q3⟩
  · exact Or.inl q
  · rw [va_up_ne _ _ (by decide)] at q2 q3
    exact Or.inr ⟨q1, q2, q3⟩
theorem clC_cp {X : Nat → Nat → Nat} {L : List Nat} {tg : Nat → Nat × Nat} {A : ew_R} (h : clC X L tg A) {d cp : Nat} (hcp : cp < 32) (he : ew_in X L tg 1 cp (X 1 cp)) : clC X L tg (up3 A 4 d 4 (nI cp)) := by
  intro b hb c i hr
  by_cases hq : (tg b).1 = 4 ∧ (tg b).2 = d
  · have h0 := h b hb c i
    rw [hq.1, hq.2] at h0 hr
    rw [up3_row] at hr
    rcases hr with hr | ⟨h1, h2, h3⟩
    · exact h0 (Or.inl hr)
    · rw [va_up_self, nI_clamp (by omega)] at h3
      subst h1 h3; exact Or.inr he
  · rw [up3_oth _ _ _ hq] at hr; exact h b hb c i hr
def z_L_recall_5 (A : ew_R) (d : Nat) (g : Nat) (n : Nat) (w : Nat) (M : Int32) : ew_R :=
  z_L_supplierWrites (up3 A 17 d 1 M) d g n w 7 11 M
set_option maxHeartbeats 4000000 in
set_option maxRecDepth 100000 in
theorem c_L_recall_5 (l : Launch) (D : va_G) (T : Nat → ClassId) (t0 : Nat × Nat) (X : Nat → Nat → Nat) (L : List Nat) (tg : Nat → Nat × Nat) (sz : Nat) (A : ew_R) (d : Nat) (th : Nat) (hth : ew_in X L tg 0 0 th) (dl : Nat) (hdl : ew_in X L tg 4 d dl) (g : Nat) (n : Nat) (w : Nat) (M : Int32) (e17_0 : ew_in X L tg 17 d (X 17 d)) (e15_1 : ew_in X L tg 15 d (X 15 d)) (e16_2 : ew_in X L tg 16 d (X 16 d)) (e7_3 : ew_in X L tg 7 0 (X 7 0)) (e12_4 : ew_in X L tg 12 0 (X 12 0)) (hd : d < 192) (hn : n < 512) (hLS : lsC 16 20 t0 X L tg A d g n) (hw : w ≤ 64) (qw : A 7 0 1 = nI w) (hcl : clC X L tg A) (hnl : ∀ b ∈ L, (19, 512 * d + n) ≠ tg b) (hnew : ∀ b ∈ L, (20, 64 * d + g + 1) ≠ tg b) (hM : (if (A 0 0 7) + 7 < A 17 d 1 then (A 0 0 7) + 7 else A 17 d 1) = M) (hst : A 17 d 0 = 5) : Met l yL_recall wsL_recall ({ frames := 10, cells := 2, slots := 1004, locals := 320 }) (em_Pc D vwCl (tysA T) (cfC T) t0 X L tg A sz [.ref th, .ref dl]) (em_Qi D vwCl (cfC T) L sz (fun r u => r = 1 ∧ em_S (nw_15 d g n) X L tg u.1 u.2.1 u.2.2.1 ∧ u.2.2.2 = z_L_recall_5 A d g n w M)) 2 1004 (ew_A L sz) := by
  refine em_met (by decide) rfl (Nat.le_of_ble_eq_true rfl) ?_
  intro p e s m below meth c ls hx hb hr hts hown hlocks hml hnm hV hK hN hZ hS hA hl hsz
  subst hsz
  have hl : lv_has ls 2 [(0, .ref th), (1, .ref dl)] := hl
  refine lv_aload_n hx hb dL_recall_0 rfl (lv_at hl 1 rfl) ?_
  refine ew_get (v := .ref (X 17 d)) hx hb hts hown hK hV fL_128 hdl (cC_4 _ _ _ _) rfl dL_recall_1 ?_
  refine ew_get (v := .int (A 17 d 0)) hx hb hts hown hK hV fL_111 e17_0 (cC_17 _ _ _ _) rfl dL_recall_4 ?_
  refine lv_iconst (v := 5) hx hb dL_recall_7 (by decide) ?_
  refine lv_icmp_eq (tgt := 25) hx hb dL_recall_8 rfl (fun _ => ?_) (fun h9 => absurd hst h9)
  refine lv_aload_n hx hb dL_recall_25 rfl (lv_at hl 1 rfl) ?_
  refine ew_get (v := .ref (X 17 d)) hx hb hts hown hK hV fL_128 hdl (cC_4 _ _ _ _) rfl dL_recall_26 ?_
  refine lv_aload_n hx hb dL_recall_29 rfl (lv_at hl 1 rfl) ?_
  refine ew_get (v := .ref (X 17 d)) hx hb hts hown hK hV fL_128 hdl (cC_4 _ _ _ _) rfl dL_recall_30 ?_
  refine ew_get (v := .int (A 17 d 1)) hx hb hts hown hK hV fL_240 e17_0 (cC_17 _ _ _ _) rfl dL_recall_33 ?_
  refine lv_aload_n hx hb dL_recall_36 rfl (lv_at hl 0 rfl) ?_
  refine ew_get (v := .int (A 0 0 7)) hx hb hts hown hK hV fL_131 hth (cC_0 _ _ _ _) rfl dL_recall_37 ?_
  refine lv_bipush (v := 7) hx hb dL_recall_40 (by decide) ?_
  refine lv_iadd hx hb dL_recall_42 ?_
  refine va_mmin hx hb (hml.trans hl.1.symm) hown (hts _ km_344) (hts _ km_mmin_s) (hts _ km_ini) (hts _ km_mmin_c) (Nat.le_of_ble_eq_true rfl) (Nat.le_of_ble_eq_true rfl) (Nat.le_of_ble_eq_true rfl) (Nat.le_of_ble_eq_true rfl) dL_recall_43 ?_
  refine lv_toe (y := M) hM ?_
  refine ew_put (ty := .int) hx hb hts hown hK hV hS fL_240 gPage e17_0 (cC_17 _ _ _ _) 1 _ (pC_17_1 _ _ _ _ _) rfl (by decide +kernel) rfl rfl (Nat.le_of_ble_eq_true rfl) dL_recall_46 (fun H locs hV hS => ?_)
  refine lv_aload_n hx hb dL_recall_49 rfl (lv_at hl 0 rfl) ?_
  refine lv_aload_n hx hb dL_recall_50 rfl (lv_at hl 1 rfl) ?_
  refine lv_bipush (v := 7) hx hb dL_recall_51 (by decide) ?_
  refine lv_bipush (v := 11) hx hb dL_recall_53 (by decide) ?_
  refine lv_aload_n hx hb dL_recall_55 rfl (lv_at hl 1 rfl) ?_
  refine ew_get (v := .ref (X 17 d)) hx hb hts hown hK hV fL_128 hdl (cC_4 _ _ _ _) rfl dL_recall_56 ?_
  refine ew_get (v := .int M) hx hb hts hown hK hV fL_240 e17_0 (cC_17 _ _ _ _) (congrArg (fun z => some (Value.int z)) (up3_self A 17 d 1 M)) dL_recall_59 ?_
  refine em_calli (va_runV (As := [.ref dl, .int 7, .int 11, .int M]) (rest := []) ⟨hx, hb, hml, hown, hts⟩ (c_L_supplierWrites l D T t0 X L tg _ (up3 A 17 d 1 M) d g n w th dl (X 17 d) (X 15 d) (X 16 d) (X 7 0) (X 12 0) 7 11 M hd hn hth e15_1 e16_2 e7_3 e12_4 (lsC_up (c := 17) (i := d) (j := 1) (x := M) hLS (by decide) (by decide)) hw qw (clC_17 (i := d) (k := 1) (x := M) hcl) hnl hnew e17_0 hdl) (cwV 4 hts gL_337 rfl rfl rfl (by decide +kernel) ⟨Nat.le_of_ble_eq_true rfl, Nat.le_of_ble_eq_true rfl⟩) (em_preV hK hN hV hZ hS hA hth (cC_0 _ _ _ _) rfl) rfl rfl hl.1 rfl (lv_room (Nat.le_of_ble_eq_true rfl)) dL_recall_62 ⟨Nat.le_of_ble_eq_true rfl, Nat.le_of_ble_eq_true rfl⟩) hV hS hA (fun r X1 L1 tg1 u H locs hp hV hS => ?_)
  obtain ⟨rfl, hS9, eA9⟩ := hp
  rw [show z_L_recall_5 A d g n w M = z_L_supplierWrites (up3 A 17 d 1 M) d g n w 7 11 M from rfl]
  exact em_zret hx hb hr hlocks hV hS dL_recall_65 (by decide) ⟨rfl, hS9, eA9⟩

def z_L_recall_6 (A : ew_R) (d : Nat) (g : Nat) (n : Nat) (w : Nat) (M : Int32) : ew_R :=
  z_L_supplierWrites (up3 A 17 d 1 M) d g n w 7 11 M
set_option maxHeartbeats 4000000 in
set_option maxRecDepth 100000 in
theorem c_L_recall_6 (l : Launch) (D : va_G) (T : Nat → ClassId) (t0 : Nat × Nat) (X : Nat → Nat → Nat) (L : List Nat) (tg : Nat → Nat × Nat) (sz : Nat) (A : ew_R) (d : Nat) (th : Nat) (hth : ew_in X L tg 0 0 th) (dl : Nat) (hdl : ew_in X L tg 4 d dl) (g : Nat) (n : Nat) (w : Nat) (M : Int32) (e17_0 : ew_in X L tg 17 d (X 17 d)) (e15_1 : ew_in X L tg 15 d (X 15 d)) (e16_2 : ew_in X L tg 16 d (X 16 d)) (e7_3 : ew_in X L tg 7 0 (X 7 0)) (e12_4 : ew_in X L tg 12 0 (X 12 0)) (hd : d < 192) (hn : n < 512) (hLS : lsC 16 20 t0 X L tg A d g n) (hw : w ≤ 64) (qw : A 7 0 1 = nI w) (hcl : clC X L tg A) (hnl : ∀ b ∈ L, (19, 512 * d + n) ≠ tg b) (hnew : ∀ b ∈ L, (20, 64 * d + g + 1) ≠ tg b) (hM : (if (A 0 0 7) + 7 < A 17 d 1 then (A 0 0 7) + 7 else A 17 d 1) = M) (hst : A 17 d 0 = 6) : Met l yL_recall wsL_recall ({ frames := 10, cells := 2, slots := 1004, locals := 320 }) (em_Pc D vwCl (tysA T) (cfC T) t0 X L tg A sz [.ref th, .ref dl]) (em_Qi D vwCl (cfC T) L sz (fun r u => r = 1 ∧ em_S (nw_15 d g n) X L tg u.1 u.2.1 u.2.2.1 ∧ u.2.2.2 = z_L_recall_6 A d g n w M)) 2 1004 (ew_A L sz) := by
  refine em_met (by decide) rfl (Nat.le_of_ble_eq_true rfl) ?_
  intro p e s m below meth c ls hx hb hr hts hown hlocks hml hnm hV hK hN hZ hS hA hl hsz
  subst hsz
  have hl : lv_has ls 2 [(0, .ref th), (1, .ref dl)] := hl
  refine lv_aload_n hx hb dL_recall_0 rfl (lv_at hl 1 rfl) ?_
  refine ew_get (v := .ref (X 17 d)) hx hb hts hown hK hV fL_128 hdl (cC_4 _ _ _ _) rfl dL_recall_1 ?_
  refine ew_get (v := .int (A 17 d 0)) hx hb hts hown hK hV fL_111 e17_0 (cC_17 _ _ _ _) rfl dL_recall_4 ?_
  refine lv_iconst (v := 5) hx hb dL_recall_7 (by decide) ?_
  refine lv_icmp_eq (tgt := 25) hx hb dL_recall_8 rfl (fun h9 => absurd h9 (i3_ne2 hst (by decide))) (fun _ => ?_)
  refine lv_aload_n hx hb dL_recall_11 rfl (lv_at hl 1 rfl) ?_
  refine ew_get (v := .ref (X 17 d)) hx hb hts hown hK hV fL_128 hdl (cC_4 _ _ _ _) rfl dL_recall_12 ?_
  refine ew_get (v := .int (A 17 d 0)) hx hb hts hown hK hV fL_111 e17_0 (cC_17 _ _ _ _) rfl dL_recall_15 ?_
  refine lv_bipush (v := 6) hx hb dL_recall_18 (by decide) ?_
  refine lv_icmp_eq (tgt := 25) hx hb dL_recall_20 rfl (fun _ => ?_) (fun h9 => absurd hst h9)
  refine lv_aload_n hx hb dL_recall_25 rfl (lv_at hl 1 rfl) ?_
  refine ew_get (v := .ref (X 17 d)) hx hb hts hown hK hV fL_128 hdl (cC_4 _ _ _ _) rfl dL_recall_26 ?_
  refine lv_aload_n hx hb dL_recall_29 rfl (lv_at hl 1 rfl) ?_
  refine ew_get (v := .ref (X 17 d)) hx hb hts hown hK hV fL_128 hdl (cC_4 _ _ _ _) rfl dL_recall_30 ?_
  refine ew_get (v := .int (A 17 d 1)) hx hb hts hown hK hV fL_240 e17_0 (cC_17 _ _ _ _) rfl dL_recall_33 ?_
  refine lv_aload_n hx hb dL_recall_36 rfl (lv_at hl 0 rfl) ?_
  refine ew_get (v := .int (A 0 0 7)) hx hb hts hown hK hV fL_131 hth (cC_0 _ _ _ _) rfl dL_recall_37 ?_
  refine lv_bipush (v := 7) hx hb dL_recall_40 (by decide) ?_
  refine lv_iadd hx hb dL_recall_42 ?_
  refine va_mmin hx hb (hml.trans hl.1.symm) hown (hts _ km_344) (hts _ km_mmin_s) (hts _ km_ini) (hts _ km_mmin_c) (Nat.le_of_ble_eq_true rfl) (Nat.le_of_ble_eq_true rfl) (Nat.le_of_ble_eq_true rfl) (Nat.le_of_ble_eq_true rfl) dL_recall_43 ?_
  refine lv_toe (y := M) hM ?_
  refine ew_put (ty := .int) hx hb hts hown hK hV hS fL_240 gPage e17_0 (cC_17 _ _ _ _) 1 _ (pC_17_1 _ _ _ _ _) rfl (by decide +kernel) rfl rfl (Nat.le_of_ble_eq_true rfl) dL_recall_46 (fun H locs hV hS => ?_)
  refine lv_aload_n hx hb dL_recall_49 rfl (lv_at hl 0 rfl) ?_
  refine lv_aload_n hx hb dL_recall_50 rfl (lv_at hl 1 rfl) ?_
  refine lv_bipush (v := 7) hx hb dL_recall_51 (by decide) ?_
  refine lv_bipush (v := 11) hx hb dL_recall_53 (by decide) ?_
  refine lv_aload_n hx hb dL_recall_55 rfl (lv_at hl 1 rfl) ?_
  refine ew_get (v := .ref (X 17 d)) hx hb hts hown hK hV fL_128 hdl (cC_4 _ _ _ _) rfl dL_recall_56 ?_
  refine ew_get (v := .int M) hx hb hts hown hK hV fL_240 e17_0 (cC_17 _ _ _ _) (congrArg (fun z => some (Value.int z)) (up3_self A 17 d 1 M)) dL_recall_59 ?_
  refine em_calli (va_runV (As := [.ref dl, .int 7, .int 11, .int M]) (rest := []) ⟨hx, hb, hml, hown, hts⟩ (c_L_supplierWrites l D T t0 X L tg _ (up3 A 17 d 1 M) d g n w th dl (X 17 d) (X 15 d) (X 16 d) (X 7 0) (X 12 0) 7 11 M hd hn hth e15_1 e16_2 e7_3 e12_4 (lsC_up (c := 17) (i := d) (j := 1) (x := M) hLS (by decide) (by decide)) hw qw (clC_17 (i := d) (k := 1) (x := M) hcl) hnl hnew e17_0 hdl) (cwV 4 hts gL_337 rfl rfl rfl (by decide +kernel) ⟨Nat.le_of_ble_eq_true rfl, Nat.le_of_ble_eq_true rfl⟩) (em_preV hK hN hV hZ hS hA hth (cC_0 _ _ _ _) rfl) rfl rfl hl.1 rfl (lv_room (Nat.le_of_ble_eq_true rfl)) dL_recall_62 ⟨Nat.le_of_ble_eq_true rfl, Nat.le_of_ble_eq_true rfl⟩) hV hS hA (fun r X1 L1 tg1 u H locs hp hV hS => ?_)
  obtain ⟨rfl, hS9, eA9⟩ := hp
  rw [show z_L_recall_6 A d g n w M = z_L_supplierWrites (up3 A 17 d 1 M) d g n w 7 11 M from rfl]
  exact em_zret hx hb hr hlocks hV hS dL_recall_65 (by decide) ⟨rfl, hS9, eA9⟩

set_option maxHeartbeats 4000000 in
set_option maxRecDepth 100000 in
theorem c_L_recall_no (l : Launch) (D : va_G) (T : Nat → ClassId) (X : Nat → Nat → Nat) (L : List Nat) (tg : Nat → Nat × Nat) (sz : Nat) (A : ew_R) (d : Nat) (th : Nat) (hth : ew_in X L tg 0 0 th) (dl : Nat) (hdl : ew_in X L tg 4 d dl) (e17_0 : ew_in X L tg 17 d (X 17 d)) (hst : ¬ A 17 d 0 = 5) (hst2 : ¬ A 17 d 0 = 6) : Met l yL_recall wsL_recall ({ frames := 10, cells := 0, slots := 0, locals := 227 }) (ec_Pc D vwCl (tysA T) (cfC T) X L tg A sz [.ref th, .ref dl]) (er_Qi D vwCl (cfC T) X L tg sz (fun r u => r = 0 ∧ u = A)) 0 0 (ew_A L sz) := by
  refine ec_met (by decide) rfl (Nat.le_of_ble_eq_true rfl) ?_
  intro p e s m below meth c ls hx hb hr hts hown hlocks hml hV hK hN hS hA hl hsz
  subst hsz
  have hl : lv_has ls 2 [(0, .ref th), (1, .ref dl)] := hl
  refine lv_aload_n hx hb dL_recall_0 rfl (lv_at hl 1 rfl) ?_
  refine ew_get (v := .ref (X 17 d)) hx hb hts hown hK hV fL_128 hdl (cC_4 _ _ _ _) rfl dL_recall_1 ?_
  refine ew_get (v := .int (A 17 d 0)) hx hb hts hown hK hV fL_111 e17_0 (cC_17 _ _ _ _) rfl dL_recall_4 ?_
  refine lv_iconst (v := 5) hx hb dL_recall_7 (by decide) ?_
  refine lv_icmp_eq (tgt := 25) hx hb dL_recall_8 rfl (fun h9 => absurd h9 hst) (fun _ => ?_)
  refine lv_aload_n hx hb dL_recall_11 rfl (lv_at hl 1 rfl) ?_
  refine ew_get (v := .ref (X 17 d)) hx hb hts hown hK hV fL_128 hdl (cC_4 _ _ _ _) rfl dL_recall_12 ?_
  refine ew_get (v := .int (A 17 d 0)) hx hb hts hown hK hV fL_111 e17_0 (cC_17 _ _ _ _) rfl dL_recall_15 ?_
  refine lv_bipush (v := 6) hx hb dL_recall_18 (by decide) ?_
  refine lv_icmp_eq (tgt := 25) hx hb dL_recall_20 rfl (fun h9 => absurd h9 hst2) (fun _ => ?_)
  refine lv_iconst (v := 0) hx hb dL_recall_23 (by decide) ?_
  exact er_zret hx hb hr hlocks hV hS dL_recall_24 (by decide) ⟨rfl, rfl⟩

def z_L_grant_ok (A : ew_R) (ln : Nat) (d : Nat) (g : Nat) (n : Nat) (w : Nat) (M : Int32) : ew_R :=
  z_L_supplierWrites (up3 (up3 A 4 d 5 ((A 4 d 5) + 1)) 17 d 1 M) d g n w 5 10 M
set_option maxHeartbeats 4000000 in
set_option maxRecDepth 100000 in
theorem c_L_grant_ok (l : Launch) (D : va_G) (T : Nat → ClassId) (t0 : Nat × Nat) (X : Nat → Nat → Nat) (L : List Nat) (tg : Nat → Nat × Nat) (sz : Nat) (A : ew_R) (ln : Nat) (d : Nat) (th : Nat) (hth : ew_in X L tg 0 0 th) (lo : Nat) (hlo : ew_in X L tg 2 ln lo) (dl : Nat) (hdl : ew_in X L tg 4 d dl) (g : Nat) (n : Nat) (w : Nat) (M : Int32) (e17_0 : ew_in X L tg 17 d (X 17 d)) (e15_1 : ew_in X L tg 15 d (X 15 d)) (e16_2 : ew_in X L tg 16 d (X 16 d)) (e7_3 : ew_in X L tg 7 0 (X 7 0)) (e12_4 : ew_in X L tg 12 0 (X 12 0)) (hd : d < 192) (hn : n < 512) (hLS : lsC 16 20 t0 X L tg A d g n) (hw : w ≤ 64) (qw : A 7 0 1 = nI w) (hcl : clC X L tg A) (hnl : ∀ b ∈ L, (19, 512 * d + n) ≠ tg b) (hnew : ∀ b ∈ L, (20, 64 * d + g + 1) ≠ tg b) (hM : (A 17 d 1) + (A 2 ln 4) = M) (hst : A 17 d 0 = 6) (hgr : A 4 d 5 < 3) : Met l yL_grant wsL_grant ({ frames := 10, cells := 2, slots := 1004, locals := 320 }) (em_Pc D vwCl (tysA T) (cfC T) t0 X L tg A sz [.ref th, .ref lo, .ref dl]) (em_Qi D vwCl (cfC T) L sz (fun r u => r = 1 ∧ em_S (nw_15 d g n) X L tg u.1 u.2.1 u.2.2.1 ∧ u.2.2.2 = z_L_grant_ok A ln d g n w M)) 2 1004 (ew_A L sz) := by
  refine em_met (by decide) rfl (Nat.le_of_ble_eq_true rfl) ?_
  intro p e s m below meth c ls hx hb hr hts hown hlocks hml hnm hV hK hN hZ hS hA hl hsz
  subst hsz
  have hl : lv_has ls 3 [(0, .ref th), (1, .ref lo), (2, .ref dl)] := hl
  refine lv_aload_n hx hb dL_grant_0 rfl (lv_at hl 2 rfl) ?_
  refine ew_get (v := .ref (X 17 d)) hx hb hts hown hK hV fL_128 hdl (cC_4 _ _ _ _) rfl dL_grant_1 ?_
  refine ew_get (v := .int (A 17 d 0)) hx hb hts hown hK hV fL_111 e17_0 (cC_17 _ _ _ _) rfl dL_grant_4 ?_
  refine lv_bipush (v := 6) hx hb dL_grant_7 (by decide) ?_
  refine lv_icmp_ne (tgt := 20) hx hb dL_grant_9 rfl (fun h9 => absurd hst h9) (fun _ => ?_)
  refine lv_aload_n hx hb dL_grant_12 rfl (lv_at hl 2 rfl) ?_
  refine ew_get (v := .int (A 4 d 5)) hx hb hts hown hK hV fL_341 hdl (cC_4 _ _ _ _) rfl dL_grant_13 ?_
  refine lv_iconst (v := 3) hx hb dL_grant_16 (by decide) ?_
  refine lv_icmp_lt (tgt := 22) hx hb dL_grant_17 rfl (fun _ => ?_) (fun h9 => absurd hgr h9)
  refine lv_aload_n hx hb dL_grant_22 rfl (lv_at hl 2 rfl) ?_
  refine lv_dup hx hb dL_grant_23 rfl ?_
  refine ew_get (v := .int (A 4 d 5)) hx hb hts hown hK hV fL_341 hdl (cC_4 _ _ _ _) rfl dL_grant_24 ?_
  refine lv_iconst (v := 1) hx hb dL_grant_27 (by decide) ?_
  refine lv_iadd hx hb dL_grant_28 ?_
  refine ew_put (ty := .int) hx hb hts hown hK hV hS fL_341 gDeal hdl (cC_4 _ _ _ _) 5 _ (pC_4_5 _ _ _ _ _) rfl (by decide +kernel) rfl rfl (Nat.le_of_ble_eq_true rfl) dL_grant_29 (fun H locs hV hS => ?_)
  refine lv_aload_n hx hb dL_grant_32 rfl (lv_at hl 2 rfl) ?_
  refine ew_get (v := .ref (X 17 d)) hx hb hts hown hK hV fL_128 hdl (cC_4 _ _ _ _) rfl dL_grant_33 ?_
  refine lv_dup hx hb dL_grant_36 rfl ?_
  refine ew_get (v := .int (A 17 d 1)) hx hb hts hown hK hV fL_240 e17_0 (cC_17 _ _ _ _) rfl dL_grant_37 ?_
  refine lv_aload_n hx hb dL_grant_40 rfl (lv_at hl 1 rfl) ?_
  refine ew_get (v := .int (A 2 ln 4)) hx hb hts hown hK hV fL_292 hlo (cC_2 _ _ _ _) rfl dL_grant_41 ?_
  refine lv_iadd hx hb dL_grant_44 ?_
  refine lv_toe (y := M) hM ?_
  refine ew_put (ty := .int) hx hb hts hown hK hV hS fL_240 gPage e17_0 (cC_17 _ _ _ _) 1 _ (pC_17_1 _ _ _ _ _) rfl (by decide +kernel) rfl rfl (Nat.le_of_ble_eq_true rfl) dL_grant_45 (fun H locs hV hS => ?_)
  refine lv_aload_n hx hb dL_grant_48 rfl (lv_at hl 0 rfl) ?_
  refine lv_aload_n hx hb dL_grant_49 rfl (lv_at hl 2 rfl) ?_
  refine lv_iconst (v := 5) hx hb dL_grant_50 (by decide) ?_
  refine lv_bipush (v := 10) hx hb dL_grant_51 (by decide) ?_
  refine lv_aload_n hx hb dL_grant_53 rfl (lv_at hl 2 rfl) ?_
  refine ew_get (v := .ref (X 17 d)) hx hb hts hown hK hV fL_128 hdl (cC_4 _ _ _ _) rfl dL_grant_54 ?_
  refine ew_get (v := .int M) hx hb hts hown hK hV fL_240 e17_0 (cC_17 _ _ _ _) (congrArg (fun z => some (Value.int z)) (up3_self (up3 A 4 d 5 ((A 4 d 5) + 1)) 17 d 1 M)) dL_grant_57 ?_
  refine em_calli (va_runV (As := [.ref dl, .int 5, .int 10, .int M]) (rest := []) ⟨hx, hb, hml, hown, hts⟩ (c_L_supplierWrites l D T t0 X L tg _ (up3 (up3 A 4 d 5 ((A 4 d 5) + 1)) 17 d 1 M) d g n w th dl (X 17 d) (X 15 d) (X 16 d) (X 7 0) (X 12 0) 5 10 M hd hn hth e15_1 e16_2 e7_3 e12_4 (lsC_up (c := 17) (i := d) (j := 1) (x := M) (lsC_up (c := 4) (i := d) (j := 5) (x := (A 4 d 5) + 1) hLS (by decide) (by decide)) (by decide) (by decide)) hw qw (clC_17 (i := d) (k := 1) (x := M) (clC_4_5 (d := d) (x := (A 4 d 5) + 1) hcl)) hnl hnew e17_0 hdl) (cwV 4 hts gL_337 rfl rfl rfl (by decide +kernel) ⟨Nat.le_of_ble_eq_true rfl, Nat.le_of_ble_eq_true rfl⟩) (em_preV hK hN hV hZ hS hA hth (cC_0 _ _ _ _) rfl) rfl rfl hl.1 rfl (lv_room (Nat.le_of_ble_eq_true rfl)) dL_grant_60 ⟨Nat.le_of_ble_eq_true rfl, Nat.le_of_ble_eq_true rfl⟩) hV hS hA (fun r X1 L1 tg1 u H locs hp hV hS => ?_)
  obtain ⟨rfl, hS9, eA9⟩ := hp
  rw [show z_L_grant_ok A ln d g n w M = z_L_supplierWrites (up3 (up3 A 4 d 5 ((A 4 d 5) + 1)) 17 d 1 M) d g n w 5 10 M from rfl]
  exact em_zret hx hb hr hlocks hV hS dL_grant_63 (by decide) ⟨rfl, hS9, eA9⟩

set_option maxHeartbeats 4000000 in
set_option maxRecDepth 100000 in
theorem c_L_grant_no (l : Launch) (D : va_G) (T : Nat → ClassId) (X : Nat → Nat → Nat) (L : List Nat) (tg : Nat → Nat × Nat) (sz : Nat) (A : ew_R) (ln : Nat) (d : Nat) (th : Nat) (hth : ew_in X L tg 0 0 th) (lo : Nat) (hlo : ew_in X L tg 2 ln lo) (dl : Nat) (hdl : ew_in X L tg 4 d dl) (e17_0 : ew_in X L tg 17 d (X 17 d)) (hst : ¬ A 17 d 0 = 6) : Met l yL_grant wsL_grant ({ frames := 10, cells := 0, slots := 0, locals := 227 }) (ec_Pc D vwCl (tysA T) (cfC T) X L tg A sz [.ref th, .ref lo, .ref dl]) (er_Qi D vwCl (cfC T) X L tg sz (fun r u => r = 0 ∧ u = A)) 0 0 (ew_A L sz) := by
  refine ec_met (by decide) rfl (Nat.le_of_ble_eq_true rfl) ?_
  intro p e s m below meth c ls hx hb hr hts hown hlocks hml hV hK hN hS hA hl hsz
  subst hsz
  have hl : lv_has ls 3 [(0, .ref th), (1, .ref lo), (2, .ref dl)] := hl
  refine lv_aload_n hx hb dL_grant_0 rfl (lv_at hl 2 rfl) ?_
  refine ew_get (v := .ref (X 17 d)) hx hb hts hown hK hV fL_128 hdl (cC_4 _ _ _ _) rfl dL_grant_1 ?_
  refine ew_get (v := .int (A 17 d 0)) hx hb hts hown hK hV fL_111 e17_0 (cC_17 _ _ _ _) rfl dL_grant_4 ?_
  refine lv_bipush (v := 6) hx hb dL_grant_7 (by decide) ?_
  refine lv_icmp_ne (tgt := 20) hx hb dL_grant_9 rfl (fun _ => ?_) (fun h9 => absurd h9 hst)
  refine lv_iconst (v := 0) hx hb dL_grant_20 (by decide) ?_
  exact er_zret hx hb hr hlocks hV hS dL_grant_21 (by decide) ⟨rfl, rfl⟩

set_option maxHeartbeats 4000000 in
set_option maxRecDepth 100000 in
theorem c_L_grant_no3 (l : Launch) (D : va_G) (T : Nat → ClassId) (X : Nat → Nat → Nat) (L : List Nat) (tg : Nat → Nat × Nat) (sz : Nat) (A : ew_R) (ln : Nat) (d : Nat) (th : Nat) (hth : ew_in X L tg 0 0 th) (lo : Nat) (hlo : ew_in X L tg 2 ln lo) (dl : Nat) (hdl : ew_in X L tg 4 d dl) (e17_0 : ew_in X L tg 17 d (X 17 d)) (hst : A 17 d 0 = 6) (hgr : ¬ A 4 d 5 < 3) : Met l yL_grant wsL_grant ({ frames := 10, cells := 0, slots := 0, locals := 227 }) (ec_Pc D vwCl (tysA T) (cfC T) X L tg A sz [.ref th, .ref lo, .ref dl]) (er_Qi D vwCl (cfC T) X L tg sz (fun r u => r = 0 ∧ u = A)) 0 0 (ew_A L sz) := by
  refine ec_met (by decide) rfl (Nat.le_of_ble_eq_true rfl) ?_
  intro p e s m below meth c ls hx hb hr hts hown hlocks hml hV hK hN hS hA hl hsz
  subst hsz
  have hl : lv_has ls 3 [(0, .ref th), (1, .ref lo), (2, .ref dl)] := hl
  refine lv_aload_n hx hb dL_grant_0 rfl (lv_at hl 2 rfl) ?_
  refine ew_get (v := .ref (X 17 d)) hx hb hts hown hK hV fL_128 hdl (cC_4 _ _ _ _) rfl dL_grant_1 ?_
  refine ew_get (v := .int (A 17 d 0)) hx hb hts hown hK hV fL_111 e17_0 (cC_17 _ _ _ _) rfl dL_grant_4 ?_
  refine lv_bipush (v := 6) hx hb dL_grant_7 (by decide) ?_
  refine lv_icmp_ne (tgt := 20) hx hb dL_grant_9 rfl (fun h9 => absurd hst h9) (fun _ => ?_)
  refine lv_aload_n hx hb dL_grant_12 rfl (lv_at hl 2 rfl) ?_
  refine ew_get (v := .int (A 4 d 5)) hx hb hts hown hK hV fL_341 hdl (cC_4 _ _ _ _) rfl dL_grant_13 ?_
  refine lv_iconst (v := 3) hx hb dL_grant_16 (by decide) ?_
  refine lv_icmp_lt (tgt := 22) hx hb dL_grant_17 rfl (fun h9 => absurd h9 hgr) (fun _ => ?_)
  refine lv_iconst (v := 0) hx hb dL_grant_20 (by decide) ?_
  exact er_zret hx hb hr hlocks hV hS dL_grant_21 (by decide) ⟨rfl, rfl⟩

def z_L_ship_ok (A : ew_R) (ln : Nat) (d : Nat) (g : Nat) (n : Nat) (w : Nat) (cp : Nat) (M : Int32) : ew_R :=
  z_L_supplierWrites (up3 (up3 A 1 cp 2 6) 17 d 1 M) d g n w 4 7 M
set_option maxHeartbeats 4000000 in
set_option maxRecDepth 100000 in
theorem c_L_ship_ok (l : Launch) (D : va_G) (T : Nat → ClassId) (t0 : Nat × Nat) (X : Nat → Nat → Nat) (L : List Nat) (tg : Nat → Nat × Nat) (sz : Nat) (A : ew_R) (ln : Nat) (d : Nat) (th : Nat) (hth : ew_in X L tg 0 0 th) (lo : Nat) (hlo : ew_in X L tg 2 ln lo) (dl : Nat) (hdl : ew_in X L tg 4 d dl) (g : Nat) (n : Nat) (w : Nat) (cp : Nat) (M : Int32) (e17_0 : ew_in X L tg 17 d (X 17 d)) (e15_1 : ew_in X L tg 15 d (X 15 d)) (e16_2 : ew_in X L tg 16 d (X 16 d)) (e7_3 : ew_in X L tg 7 0 (X 7 0)) (e12_4 : ew_in X L tg 12 0 (X 12 0)) (e1_5 : ew_in X L tg 1 cp (X 1 cp)) (hd : d < 192) (hn : n < 512) (hLS : lsC 16 20 t0 X L tg A d g n) (hw : w ≤ 64) (qw : A 7 0 1 = nI w) (hcl : clC X L tg A) (hnl : ∀ b ∈ L, (19, 512 * d + n) ≠ tg b) (hnew : ∀ b ∈ L, (20, 64 * d + g + 1) ≠ tg b) (hcp : cp < 32) (q4 : A 4 d 4 = nI cp) (hM : (A 0 0 7) + (A 2 ln 4) = M) (hst : A 17 d 0 = 3) : Met l yL_ship wsL_ship ({ frames := 10, cells := 2, slots := 1004, locals := 320 }) (em_Pc D vwCl (tysA T) (cfC T) t0 X L tg A sz [.ref th, .ref lo, .ref dl]) (em_Qi D vwCl (cfC T) L sz (fun r u => r = 1 ∧ em_S (nw_15 d g n) X L tg u.1 u.2.1 u.2.2.1 ∧ u.2.2.2 = z_L_ship_ok A ln d g n w cp M)) 2 1004 (ew_A L sz) := by
  refine em_met (by decide) rfl (Nat.le_of_ble_eq_true rfl) ?_
  intro p e s m below meth c ls hx hb hr hts hown hlocks hml hnm hV hK hN hZ hS hA hl hsz
  subst hsz
  have hl : lv_has ls 3 [(0, .ref th), (1, .ref lo), (2, .ref dl)] := hl
  refine lv_aload_n hx hb dL_ship_0 rfl (lv_at hl 2 rfl) ?_
  refine ew_get (v := .ref (X 17 d)) hx hb hts hown hK hV fL_128 hdl (cC_4 _ _ _ _) rfl dL_ship_1 ?_
  refine ew_get (v := .int (A 17 d 0)) hx hb hts hown hK hV fL_111 e17_0 (cC_17 _ _ _ _) rfl dL_ship_4 ?_
  refine lv_iconst (v := 3) hx hb dL_ship_7 (by decide) ?_
  refine lv_icmp_eq (tgt := 13) hx hb dL_ship_8 rfl (fun _ => ?_) (fun h9 => absurd hst h9)
  refine lv_aload_n hx hb dL_ship_13 rfl (lv_at hl 2 rfl) ?_
  refine lv_bipush (v := 6) hx hb dL_ship_14 (by decide) ?_
  refine er_callv (va_runV (As := [.int 6]) (rest := []) ⟨hx, hb, hml, hown, hts⟩ (c_Deal_moveCopy_c l D T X L tg _ A d dl hdl 6 cp e1_5 hcp q4) (cwV 1 hts gL_295 rfl rfl rfl (by decide +kernel) ⟨Nat.le_of_ble_eq_true rfl, Nat.le_of_ble_eq_true rfl⟩) (ec_preV hK hN hV hdl (cC_4 _ _ _ _) rfl) rfl rfl hl.1 rfl (lv_room (Nat.le_of_ble_eq_true rfl)) dL_ship_16 ⟨Nat.le_of_ble_eq_true rfl, Nat.le_of_ble_eq_true rfl⟩) hV hS hA (fun u1 H locs eu1 hV hS => ?_)
  have eu1 : u1 = up3 A 1 cp 2 6 := eu1
  rw [eu1] at hV
  refine lv_aload_n hx hb dL_ship_19 rfl (lv_at hl 2 rfl) ?_
  refine ew_get (v := .ref (X 17 d)) hx hb hts hown hK hV fL_128 hdl (cC_4 _ _ _ _) rfl dL_ship_20 ?_
  refine lv_aload_n hx hb dL_ship_23 rfl (lv_at hl 0 rfl) ?_
  refine ew_get (v := .int (A 0 0 7)) hx hb hts hown hK hV fL_131 hth (cC_0 _ _ _ _) rfl dL_ship_24 ?_
  refine lv_aload_n hx hb dL_ship_27 rfl (lv_at hl 1 rfl) ?_
  refine ew_get (v := .int (A 2 ln 4)) hx hb hts hown hK hV fL_292 hlo (cC_2 _ _ _ _) rfl dL_ship_28 ?_
  refine lv_iadd hx hb dL_ship_31 ?_
  refine lv_toe (y := M) hM ?_
  refine ew_put (ty := .int) hx hb hts hown hK hV hS fL_240 gPage e17_0 (cC_17 _ _ _ _) 1 _ (pC_17_1 _ _ _ _ _) rfl (by decide +kernel) rfl rfl (Nat.le_of_ble_eq_true rfl) dL_ship_32 (fun H locs hV hS => ?_)
  refine lv_aload_n hx hb dL_ship_35 rfl (lv_at hl 0 rfl) ?_
  refine lv_aload_n hx hb dL_ship_36 rfl (lv_at hl 2 rfl) ?_
  refine lv_iconst (v := 4) hx hb dL_ship_37 (by decide) ?_
  refine lv_bipush (v := 7) hx hb dL_ship_38 (by decide) ?_
  refine lv_aload_n hx hb dL_ship_40 rfl (lv_at hl 2 rfl) ?_
  refine ew_get (v := .ref (X 17 d)) hx hb hts hown hK hV fL_128 hdl (cC_4 _ _ _ _) rfl dL_ship_41 ?_
  refine ew_get (v := .int M) hx hb hts hown hK hV fL_240 e17_0 (cC_17 _ _ _ _) (congrArg (fun z => some (Value.int z)) (up3_self (up3 A 1 cp 2 6) 17 d 1 M)) dL_ship_44 ?_
  refine em_calli (va_runV (As := [.ref dl, .int 4, .int 7, .int M]) (rest := []) ⟨hx, hb, hml, hown, hts⟩ (c_L_supplierWrites l D T t0 X L tg _ (up3 (up3 A 1 cp 2 6) 17 d 1 M) d g n w th dl (X 17 d) (X 15 d) (X 16 d) (X 7 0) (X 12 0) 4 7 M hd hn hth e15_1 e16_2 e7_3 e12_4 (lsC_up (c := 17) (i := d) (j := 1) (x := M) (lsC_up (c := 1) (i := cp) (j := 2) (x := 6) hLS (by decide) (by decide)) (by decide) (by decide)) hw qw (clC_17 (i := d) (k := 1) (x := M) (clC_1 (i := cp) (k := 2) (x := 6) hcl)) hnl hnew e17_0 hdl) (cwV 4 hts gL_337 rfl rfl rfl (by decide +kernel) ⟨Nat.le_of_ble_eq_true rfl, Nat.le_of_ble_eq_true rfl⟩) (em_preV hK hN hV hZ hS hA hth (cC_0 _ _ _ _) rfl) rfl rfl hl.1 rfl (lv_room (Nat.le_of_ble_eq_true rfl)) dL_ship_47 ⟨Nat.le_of_ble_eq_true rfl, Nat.le_of_ble_eq_true rfl⟩) hV hS hA (fun r X1 L1 tg1 u H locs hp hV hS => ?_)
  obtain ⟨rfl, hS9, eA9⟩ := hp
  rw [show z_L_ship_ok A ln d g n w cp M = z_L_supplierWrites (up3 (up3 A 1 cp 2 6) 17 d 1 M) d g n w 4 7 M from rfl]
  exact em_zret hx hb hr hlocks hV hS dL_ship_50 (by decide) ⟨rfl, hS9, eA9⟩

def z_L_lose_ok (A : ew_R) (ln : Nat) (pd : Nat) (g : Nat) (n : Nat) (w : Nat) (cp : Nat) (rq : Nat) : ew_R :=
  z_L_requesterWrites (up3 (up3 A 1 cp 2 7) 11 0 rq ((A 11 0 rq) + (-4000))) ln pd g n w 12 14 0
set_option maxHeartbeats 4000000 in
set_option maxRecDepth 100000 in
theorem c_L_lose_ok (l : Launch) (D : va_G) (T : Nat → ClassId) (t0 : Nat × Nat) (X : Nat → Nat → Nat) (L : List Nat) (tg : Nat → Nat × Nat) (sz : Nat) (A : ew_R) (ln : Nat) (th : Nat) (hth : ew_in X L tg 0 0 th) (lo : Nat) (hlo : ew_in X L tg 2 ln lo) (pd : Nat) (g : Nat) (n : Nat) (w : Nat) (cp : Nat) (rq : Nat) (e3_0 : ew_in X L tg 3 ln (X 3 ln)) (e4_1 : ew_in X L tg 4 pd (X 4 pd)) (e5_2 : ew_in X L tg 5 pd (X 5 pd)) (e8_3 : ew_in X L tg 8 pd (X 8 pd)) (e7_4 : ew_in X L tg 7 0 (X 7 0)) (e12_5 : ew_in X L tg 12 0 (X 12 0)) (e1_6 : ew_in X L tg 1 cp (X 1 cp)) (e11_7 : ew_in X L tg 11 0 (X 11 0)) (hd : pd < 192) (hn : n < 512) (hLS : lsC 8 14 t0 X L tg A pd g n) (hw : w ≤ 64) (qw : A 7 0 1 = nI w) (hcl : clC X L tg A) (hnl : ∀ b ∈ L, (6, 512 * pd + n) ≠ tg b) (hnew : ∀ b ∈ L, (14, 64 * pd + g + 1) ≠ tg b) (q7 : A 2 ln 7 = nI pd) (hcp : cp < 32) (q4 : A 4 pd 4 = nI cp) (hrq : rq < 6) (q1 : A 2 ln 1 = nI rq) (hst : z_Asker_hasCopy (A 3 ln 0) = 1) : Met l yL_lose wsL_lose ({ frames := 10, cells := 2, slots := 1004, locals := 320 }) (em_Pc D vwCl (tysA T) (cfC T) t0 X L tg A sz [.ref th, .ref lo]) (em_Qi D vwCl (cfC T) L sz (fun r u => r = 1 ∧ em_S (nw_5 pd g n) X L tg u.1 u.2.1 u.2.2.1 ∧ u.2.2.2 = z_L_lose_ok A ln pd g n w cp rq)) 2 1004 (ew_A L sz) := by
  refine em_met (by decide) rfl (Nat.le_of_ble_eq_true rfl) ?_
  intro p e s m below meth c ls hx hb hr hts hown hlocks hml hnm hV hK hN hZ hS hA hl hsz
  subst hsz
  have hl : lv_has ls 2 [(0, .ref th), (1, .ref lo)] := hl
  refine lv_aload_n hx hb dL_lose_0 rfl (lv_at hl 1 rfl) ?_
  refine ew_get (v := .ref (X 3 ln)) hx hb hts hown hK hV fL_107 hlo (cC_2 _ _ _ _) rfl dL_lose_1 ?_
  refine ew_get (v := .int (A 3 ln 0)) hx hb hts hown hK hV fL_111 e3_0 (cC_3 _ _ _ _) rfl dL_lose_4 ?_
  refine er_calli (va_runS (As := [.int (A 3 ln 0)]) (rest := []) ⟨hx, hb, hml, hown, hts⟩ (c_Asker_hasCopy l D T X L tg _ A (A 3 ln 0)) ⟨callB_of 1 hts gL_203.1 rfl rfl rfl (hts _ gL_203.2.2.2) (hts _ gL_203.2.1) (by decide +kernel) ⟨Nat.le_of_ble_eq_true rfl, Nat.le_of_ble_eq_true rfl⟩, hts _ gL_203.2.2.1⟩ (ec_preS hK hN hV) rfl rfl hl.1 rfl (lv_room (Nat.le_of_ble_eq_true rfl)) dL_lose_7 ⟨Nat.le_of_ble_eq_true rfl, Nat.le_of_ble_eq_true rfl⟩) hV hS hA (fun r u H locs hp hV hS => ?_)
  obtain ⟨rfl, eu9⟩ := hp
  rw [eu9] at hV
  refine lv_toe (y := 1) hst ?_
  refine lv_if_ne (tgt := 15) hx hb dL_lose_10 rfl (fun _ => ?_) (fun h9 => absurd h9 (by decide))
  refine lv_aload_n hx hb dL_lose_15 rfl (lv_at hl 1 rfl) ?_
  refine ew_get (v := .ref (X 4 pd)) hx hb hts hown hK hV fL_212 hlo (cC_2 _ _ _ _) (ec_rd q7 (by omega)) dL_lose_16 ?_
  refine lv_bipush (v := 7) hx hb dL_lose_19 (by decide) ?_
  refine er_callv (va_runV (As := [.int 7]) (rest := []) ⟨hx, hb, hml, hown, hts⟩ (c_Deal_moveCopy_c l D T X L tg _ A pd (X 4 pd) e4_1 7 cp e1_6 hcp q4) (cwV 1 hts gL_295 rfl rfl rfl (by decide +kernel) ⟨Nat.le_of_ble_eq_true rfl, Nat.le_of_ble_eq_true rfl⟩) (ec_preV hK hN hV e4_1 (cC_4 _ _ _ _) rfl) rfl rfl hl.1 rfl (lv_room (Nat.le_of_ble_eq_true rfl)) dL_lose_21 ⟨Nat.le_of_ble_eq_true rfl, Nat.le_of_ble_eq_true rfl⟩) hV hS hA (fun u1 H locs eu1 hV hS => ?_)
  have eu1 : u1 = up3 A 1 cp 2 7 := eu1
  rw [eu1] at hV
  refine lv_aload_n hx hb dL_lose_24 rfl (lv_at hl 0 rfl) ?_
  refine lv_aload_n hx hb dL_lose_25 rfl (lv_at hl 1 rfl) ?_
  refine ew_get (v := .int (A 2 ln 1)) hx hb hts hown hK hV fL_96 hlo (cC_2 _ _ _ _) rfl dL_lose_26 ?_
  refine lv_toe (y := nI rq) q1 ?_
  refine lv_sipush (v := (-4000)) hx hb dL_lose_29 (by decide) ?_
  refine er_callv (va_runV (As := [.int (nI rq), .int (-4000)]) (rest := []) ⟨hx, hb, hml, hown, hts⟩ (c_L_addToBalance l D T X L tg _ (up3 A 1 cp 2 7) th hth rq (-4000) e11_7 hrq) (cwV 2 hts gL_298 rfl rfl rfl (by decide +kernel) ⟨Nat.le_of_ble_eq_true rfl, Nat.le_of_ble_eq_true rfl⟩) (ec_preV hK hN hV hth (cC_0 _ _ _ _) rfl) rfl rfl hl.1 rfl (lv_room (Nat.le_of_ble_eq_true rfl)) dL_lose_32 ⟨Nat.le_of_ble_eq_true rfl, Nat.le_of_ble_eq_true rfl⟩) hV hS hA (fun u2 H locs eu2 hV hS => ?_)
  have eu2 : u2 = up3 (up3 A 1 cp 2 7) 11 0 rq ((A 11 0 rq) + (-4000)) := eu2
  rw [eu2] at hV
  refine lv_aload_n hx hb dL_lose_35 rfl (lv_at hl 0 rfl) ?_
  refine lv_aload_n hx hb dL_lose_36 rfl (lv_at hl 1 rfl) ?_
  refine lv_bipush (v := 12) hx hb dL_lose_37 (by decide) ?_
  refine lv_bipush (v := 14) hx hb dL_lose_39 (by decide) ?_
  refine lv_iconst (v := 0) hx hb dL_lose_41 (by decide) ?_
  refine em_calli (va_runV (As := [.ref lo, .int 12, .int 14, .int 0]) (rest := []) ⟨hx, hb, hml, hown, hts⟩ (c_L_requesterWrites l D T t0 X L tg _ (up3 (up3 A 1 cp 2 7) 11 0 rq ((A 11 0 rq) + (-4000))) ln pd g n w th lo (X 3 ln) (X 4 pd) (X 5 pd) (X 8 pd) (X 7 0) (X 12 0) 12 14 0 hd hn hth e5_2 e8_3 e7_4 e12_5 (lsC_up (c := 11) (i := 0) (j := rq) (x := (A 11 0 rq) + (-4000)) (lsC_up (c := 1) (i := cp) (j := 2) (x := 7) hLS (by decide) (by decide)) (by decide) (by decide)) hw qw (clC_11 (i := 0) (k := rq) (x := (A 11 0 rq) + (-4000)) (clC_1 (i := cp) (k := 2) (x := 7) hcl)) hnl hnew hlo e3_0 e4_1 q7) (cwV 4 hts gL_81 rfl rfl rfl (by decide +kernel) ⟨Nat.le_of_ble_eq_true rfl, Nat.le_of_ble_eq_true rfl⟩) (em_preV hK hN hV hZ hS hA hth (cC_0 _ _ _ _) rfl) rfl rfl hl.1 rfl (lv_room (Nat.le_of_ble_eq_true rfl)) dL_lose_42 ⟨Nat.le_of_ble_eq_true rfl, Nat.le_of_ble_eq_true rfl⟩) hV hS hA (fun r X1 L1 tg1 u H locs hp hV hS => ?_)
  obtain ⟨rfl, hS9, eA9⟩ := hp
  rw [show z_L_lose_ok A ln pd g n w cp rq = z_L_requesterWrites (up3 (up3 A 1 cp 2 7) 11 0 rq ((A 11 0 rq) + (-4000))) ln pd g n w 12 14 0 from rfl]
  exact em_zret hx hb hr hlocks hV hS dL_lose_45 (by decide) ⟨rfl, hS9, eA9⟩

def z_L_checkIn_ok (A : ew_R) (d : Nat) (g : Nat) (n : Nat) (w : Nat) (cp : Nat) (b : Nat) (M : Int32) : ew_R :=
  z_L_supplierWrites (up3 (up3 (up3 (up3 A 1 cp 2 (A 1 cp 0)) 1 cp 3 (-1)) 17 d 3 M) 11 0 b ((A 11 0 b) + M)) d g n w 9 13 M
set_option maxHeartbeats 4000000 in
set_option maxRecDepth 100000 in
theorem c_L_checkIn_ok (l : Launch) (D : va_G) (T : Nat → ClassId) (t0 : Nat × Nat) (X : Nat → Nat → Nat) (L : List Nat) (tg : Nat → Nat × Nat) (sz : Nat) (A : ew_R) (d : Nat) (th : Nat) (hth : ew_in X L tg 0 0 th) (dl : Nat) (hdl : ew_in X L tg 4 d dl) (g : Nat) (n : Nat) (w : Nat) (cp : Nat) (b : Nat) (M : Int32) (e17_0 : ew_in X L tg 17 d (X 17 d)) (e15_1 : ew_in X L tg 15 d (X 15 d)) (e16_2 : ew_in X L tg 16 d (X 16 d)) (e7_3 : ew_in X L tg 7 0 (X 7 0)) (e12_4 : ew_in X L tg 12 0 (X 12 0)) (e1_5 : ew_in X L tg 1 cp (X 1 cp)) (e11_6 : ew_in X L tg 11 0 (X 11 0)) (hd : d < 192) (hn : n < 512) (hLS : lsC 16 20 t0 X L tg A d g n) (hw : w ≤ 64) (qw : A 7 0 1 = nI w) (hcl : clC X L tg A) (hnl : ∀ b ∈ L, (19, 512 * d + n) ≠ tg b) (hnew : ∀ b ∈ L, (20, 64 * d + g + 1) ≠ tg b) (hcp : cp < 32) (q4 : A 4 d 4 = nI cp) (hb6 : b < 6) (q0 : A 4 d 0 = nI b) (hM : (10 * (if 0 < (A 0 0 7) - (A 17 d 1) then (A 0 0 7) - (A 17 d 1) else 0)) + (A 17 d 2) = M) (hst : A 17 d 0 = 8) : Met l yL_checkIn wsL_checkIn ({ frames := 10, cells := 2, slots := 1004, locals := 320 }) (em_Pc D vwCl (tysA T) (cfC T) t0 X L tg A sz [.ref th, .ref dl]) (em_Qi D vwCl (cfC T) L sz (fun r u => r = 1 ∧ em_S (nw_15 d g n) X L tg u.1 u.2.1 u.2.2.1 ∧ u.2.2.2 = z_L_checkIn_ok A d g n w cp b M)) 2 1004 (ew_A L sz) := by
  refine em_met (by decide) rfl (Nat.le_of_ble_eq_true rfl) ?_
  intro p e s m below meth c ls hx hb hr hts hown hlocks hml hnm hV hK hN hZ hS hA hl hsz
  subst hsz
  have hl : lv_has ls 2 [(0, .ref th), (1, .ref dl)] := hl
  refine lv_aload_n hx hb dL_checkIn_0 rfl (lv_at hl 1 rfl) ?_
  refine ew_get (v := .ref (X 17 d)) hx hb hts hown hK hV fL_128 hdl (cC_4 _ _ _ _) rfl dL_checkIn_1 ?_
  refine ew_get (v := .int (A 17 d 0)) hx hb hts hown hK hV fL_111 e17_0 (cC_17 _ _ _ _) rfl dL_checkIn_4 ?_
  refine lv_bipush (v := 8) hx hb dL_checkIn_7 (by decide) ?_
  refine lv_icmp_eq (tgt := 14) hx hb dL_checkIn_9 rfl (fun _ => ?_) (fun h9 => absurd hst h9)
  refine lv_aload_n hx hb dL_checkIn_14 rfl (lv_at hl 1 rfl) ?_
  refine er_callv (va_runV (As := []) (rest := []) ⟨hx, hb, hml, hown, hts⟩ (c_Deal_bringCopyHome_c l D T X L tg _ A d dl hdl cp e1_5 hcp q4) (cwV 0 hts gL_347 rfl rfl rfl (by decide +kernel) ⟨Nat.le_of_ble_eq_true rfl, Nat.le_of_ble_eq_true rfl⟩) (ec_preV hK hN hV hdl (cC_4 _ _ _ _) rfl) rfl rfl hl.1 rfl (lv_room (Nat.le_of_ble_eq_true rfl)) dL_checkIn_15 ⟨Nat.le_of_ble_eq_true rfl, Nat.le_of_ble_eq_true rfl⟩) hV hS hA (fun u1 H locs eu1 hV hS => ?_)
  have eu1 : u1 = up3 (up3 A 1 cp 2 (A 1 cp 0)) 1 cp 3 (-1) := eu1
  rw [eu1] at hV
  refine lv_aload_n hx hb dL_checkIn_18 rfl (lv_at hl 1 rfl) ?_
  refine ew_get (v := .ref (X 17 d)) hx hb hts hown hK hV fL_128 hdl (cC_4 _ _ _ _) rfl dL_checkIn_19 ?_
  refine lv_bipush (v := 10) hx hb dL_checkIn_22 (by decide) ?_
  refine lv_iconst (v := 0) hx hb dL_checkIn_24 (by decide) ?_
  refine lv_aload_n hx hb dL_checkIn_25 rfl (lv_at hl 0 rfl) ?_
  refine ew_get (v := .int (A 0 0 7)) hx hb hts hown hK hV fL_131 hth (cC_0 _ _ _ _) rfl dL_checkIn_26 ?_
  refine lv_aload_n hx hb dL_checkIn_29 rfl (lv_at hl 1 rfl) ?_
  refine ew_get (v := .ref (X 17 d)) hx hb hts hown hK hV fL_128 hdl (cC_4 _ _ _ _) rfl dL_checkIn_30 ?_
  refine ew_get (v := .int (A 17 d 1)) hx hb hts hown hK hV fL_240 e17_0 (cC_17 _ _ _ _) rfl dL_checkIn_33 ?_
  refine lv_isub hx hb dL_checkIn_36 ?_
  refine va_mmax hx hb (hml.trans hl.1.symm) hown (hts _ km_176) (hts _ km_mmax_s) (hts _ km_ini) (hts _ km_mmax_c) (Nat.le_of_ble_eq_true rfl) (Nat.le_of_ble_eq_true rfl) (Nat.le_of_ble_eq_true rfl) (Nat.le_of_ble_eq_true rfl) dL_checkIn_37 ?_
  refine lv_imul hx hb dL_checkIn_40 ?_
  refine lv_aload_n hx hb dL_checkIn_41 rfl (lv_at hl 1 rfl) ?_
  refine ew_get (v := .ref (X 17 d)) hx hb hts hown hK hV fL_128 hdl (cC_4 _ _ _ _) rfl dL_checkIn_42 ?_
  refine ew_get (v := .int (A 17 d 2)) hx hb hts hown hK hV fL_243 e17_0 (cC_17 _ _ _ _) rfl dL_checkIn_45 ?_
  refine lv_iadd hx hb dL_checkIn_48 ?_
  refine lv_toe (y := M) hM ?_
  refine ew_put (ty := .int) hx hb hts hown hK hV hS fL_246 gPage e17_0 (cC_17 _ _ _ _) 3 _ (pC_17_3 _ _ _ _ _) rfl (by decide +kernel) rfl rfl (Nat.le_of_ble_eq_true rfl) dL_checkIn_49 (fun H locs hV hS => ?_)
  refine lv_aload_n hx hb dL_checkIn_52 rfl (lv_at hl 0 rfl) ?_
  refine lv_aload_n hx hb dL_checkIn_53 rfl (lv_at hl 1 rfl) ?_
  refine ew_get (v := .int (A 4 d 0)) hx hb hts hown hK hV fL_216 hdl (cC_4 _ _ _ _) rfl dL_checkIn_54 ?_
  refine lv_toe (y := nI b) q0 ?_
  refine lv_aload_n hx hb dL_checkIn_57 rfl (lv_at hl 1 rfl) ?_
  refine ew_get (v := .ref (X 17 d)) hx hb hts hown hK hV fL_128 hdl (cC_4 _ _ _ _) rfl dL_checkIn_58 ?_
  refine ew_get (v := .int M) hx hb hts hown hK hV fL_246 e17_0 (cC_17 _ _ _ _) (congrArg (fun z => some (Value.int z)) (up3_self (up3 (up3 A 1 cp 2 (A 1 cp 0)) 1 cp 3 (-1)) 17 d 3 M)) dL_checkIn_61 ?_
  refine er_callv (va_runV (As := [.int (nI b), .int M]) (rest := []) ⟨hx, hb, hml, hown, hts⟩ (c_L_addToBalance l D T X L tg _ (up3 (up3 (up3 A 1 cp 2 (A 1 cp 0)) 1 cp 3 (-1)) 17 d 3 M) th hth b M e11_6 hb6) (cwV 2 hts gL_298 rfl rfl rfl (by decide +kernel) ⟨Nat.le_of_ble_eq_true rfl, Nat.le_of_ble_eq_true rfl⟩) (ec_preV hK hN hV hth (cC_0 _ _ _ _) rfl) rfl rfl hl.1 rfl (lv_room (Nat.le_of_ble_eq_true rfl)) dL_checkIn_64 ⟨Nat.le_of_ble_eq_true rfl, Nat.le_of_ble_eq_true rfl⟩) hV hS hA (fun u2 H locs eu2 hV hS => ?_)
  have eu2 : u2 = up3 (up3 (up3 (up3 A 1 cp 2 (A 1 cp 0)) 1 cp 3 (-1)) 17 d 3 M) 11 0 b ((A 11 0 b) + M) := eu2
  rw [eu2] at hV
  refine lv_aload_n hx hb dL_checkIn_67 rfl (lv_at hl 0 rfl) ?_
  refine lv_aload_n hx hb dL_checkIn_68 rfl (lv_at hl 1 rfl) ?_
  refine lv_bipush (v := 9) hx hb dL_checkIn_69 (by decide) ?_
  refine lv_bipush (v := 13) hx hb dL_checkIn_71 (by decide) ?_
  refine lv_aload_n hx hb dL_checkIn_73 rfl (lv_at hl 1 rfl) ?_
  refine ew_get (v := .ref (X 17 d)) hx hb hts hown hK hV fL_128 hdl (cC_4 _ _ _ _) rfl dL_checkIn_74 ?_
  refine ew_get (v := .int M) hx hb hts hown hK hV fL_246 e17_0 (cC_17 _ _ _ _) (congrArg (fun z => some (Value.int z)) (up3_self (up3 (up3 A 1 cp 2 (A 1 cp 0)) 1 cp 3 (-1)) 17 d 3 M)) dL_checkIn_77 ?_
  refine em_calli (va_runV (As := [.ref dl, .int 9, .int 13, .int M]) (rest := []) ⟨hx, hb, hml, hown, hts⟩ (c_L_supplierWrites l D T t0 X L tg _ (up3 (up3 (up3 (up3 A 1 cp 2 (A 1 cp 0)) 1 cp 3 (-1)) 17 d 3 M) 11 0 b ((A 11 0 b) + M)) d g n w th dl (X 17 d) (X 15 d) (X 16 d) (X 7 0) (X 12 0) 9 13 M hd hn hth e15_1 e16_2 e7_3 e12_4 (lsC_up (c := 11) (i := 0) (j := b) (x := (A 11 0 b) + M) (lsC_up (c := 17) (i := d) (j := 3) (x := M) (lsC_up (c := 1) (i := cp) (j := 3) (x := (-1)) (lsC_up (c := 1) (i := cp) (j := 2) (x := (A 1 cp 0)) hLS (by decide) (by decide)) (by decide) (by decide)) (by decide) (by decide)) (by decide) (by decide)) hw qw (clC_11 (i := 0) (k := b) (x := (A 11 0 b) + M) (clC_17 (i := d) (k := 3) (x := M) (clC_1 (i := cp) (k := 3) (x := (-1)) (clC_1 (i := cp) (k := 2) (x := (A 1 cp 0)) hcl)))) hnl hnew e17_0 hdl) (cwV 4 hts gL_337 rfl rfl rfl (by decide +kernel) ⟨Nat.le_of_ble_eq_true rfl, Nat.le_of_ble_eq_true rfl⟩) (em_preV hK hN hV hZ hS hA hth (cC_0 _ _ _ _) rfl) rfl rfl hl.1 rfl (lv_room (Nat.le_of_ble_eq_true rfl)) dL_checkIn_80 ⟨Nat.le_of_ble_eq_true rfl, Nat.le_of_ble_eq_true rfl⟩) hV hS hA (fun r X1 L1 tg1 u H locs hp hV hS => ?_)
  obtain ⟨rfl, hS9, eA9⟩ := hp
  rw [show z_L_checkIn_ok A d g n w cp b M = z_L_supplierWrites (up3 (up3 (up3 (up3 A 1 cp 2 (A 1 cp 0)) 1 cp 3 (-1)) 17 d 3 M) 11 0 b ((A 11 0 b) + M)) d g n w 9 13 M from rfl]
  exact em_zret hx hb hr hlocks hV hS dL_checkIn_83 (by decide) ⟨rfl, hS9, eA9⟩

set_option maxHeartbeats 4000000 in
set_option maxRecDepth 100000 in
theorem c_L_checkIn_no (l : Launch) (D : va_G) (T : Nat → ClassId) (X : Nat → Nat → Nat) (L : List Nat) (tg : Nat → Nat × Nat) (sz : Nat) (A : ew_R) (d : Nat) (th : Nat) (hth : ew_in X L tg 0 0 th) (dl : Nat) (hdl : ew_in X L tg 4 d dl) (e17_0 : ew_in X L tg 17 d (X 17 d)) (hst : ¬ A 17 d 0 = 8) : Met l yL_checkIn wsL_checkIn ({ frames := 10, cells := 0, slots := 0, locals := 227 }) (ec_Pc D vwCl (tysA T) (cfC T) X L tg A sz [.ref th, .ref dl]) (er_Qi D vwCl (cfC T) X L tg sz (fun r u => r = 0 ∧ u = A)) 0 0 (ew_A L sz) := by
  refine ec_met (by decide) rfl (Nat.le_of_ble_eq_true rfl) ?_
  intro p e s m below meth c ls hx hb hr hts hown hlocks hml hV hK hN hS hA hl hsz
  subst hsz
  have hl : lv_has ls 2 [(0, .ref th), (1, .ref dl)] := hl
  refine lv_aload_n hx hb dL_checkIn_0 rfl (lv_at hl 1 rfl) ?_
  refine ew_get (v := .ref (X 17 d)) hx hb hts hown hK hV fL_128 hdl (cC_4 _ _ _ _) rfl dL_checkIn_1 ?_
  refine ew_get (v := .int (A 17 d 0)) hx hb hts hown hK hV fL_111 e17_0 (cC_17 _ _ _ _) rfl dL_checkIn_4 ?_
  refine lv_bipush (v := 8) hx hb dL_checkIn_7 (by decide) ?_
  refine lv_icmp_eq (tgt := 14) hx hb dL_checkIn_9 rfl (fun h9 => absurd h9 hst) (fun _ => ?_)
  refine lv_iconst (v := 0) hx hb dL_checkIn_12 (by decide) ?_
  exact er_zret hx hb hr hlocks hV hS dL_checkIn_13 (by decide) ⟨rfl, rfl⟩

def z_L_promiseCopy_ok (A : ew_R) (ln : Nat) (d : Nat) (cp : Nat) (g : Nat) (n : Nat) (w : Nat) : ew_R :=
  z_L_supplierWrites (up3 (up3 A 4 d 4 (nI cp)) 1 cp 3 (A 2 ln 0)) d g n w 3 2 0
set_option maxHeartbeats 4000000 in
set_option maxRecDepth 100000 in
theorem c_L_promiseCopy_ok (l : Launch) (D : va_G) (T : Nat → ClassId) (t0 : Nat × Nat) (X : Nat → Nat → Nat) (L : List Nat) (tg : Nat → Nat × Nat) (sz : Nat) (A : ew_R) (ln : Nat) (d : Nat) (cp : Nat) (th : Nat) (hth : ew_in X L tg 0 0 th) (lo : Nat) (hlo : ew_in X L tg 2 ln lo) (dl : Nat) (hdl : ew_in X L tg 4 d dl) (co : Nat) (hco : ew_in X L tg 1 cp co) (g : Nat) (n : Nat) (w : Nat) (e17_0 : ew_in X L tg 17 d (X 17 d)) (e15_1 : ew_in X L tg 15 d (X 15 d)) (e16_2 : ew_in X L tg 16 d (X 16 d)) (e7_3 : ew_in X L tg 7 0 (X 7 0)) (e12_4 : ew_in X L tg 12 0 (X 12 0)) (e1_5 : ew_in X L tg 1 cp (X 1 cp)) (hd : d < 192) (hn : n < 512) (hLS : lsC 16 20 t0 X L tg A d g n) (hw : w ≤ 64) (qw : A 7 0 1 = nI w) (hcl : clC X L tg A) (hnl : ∀ b ∈ L, (19, 512 * d + n) ≠ tg b) (hnew : ∀ b ∈ L, (20, 64 * d + g + 1) ≠ tg b) (hcp : cp < 32) (hst : A 17 d 0 = 1) (hcg : z_Copy_canGo A cp (A 4 d 0) (A 2 ln 2) = 1) : Met l yL_promiseCopy wsL_promiseCopy ({ frames := 10, cells := 2, slots := 1004, locals := 320 }) (em_Pc D vwCl (tysA T) (cfC T) t0 X L tg A sz [.ref th, .ref lo, .ref dl, .ref co]) (em_Qi D vwCl (cfC T) L sz (fun r u => r = 1 ∧ em_S (nw_15 d g n) X L tg u.1 u.2.1 u.2.2.1 ∧ u.2.2.2 = z_L_promiseCopy_ok A ln d cp g n w)) 2 1004 (ew_A L sz) := by
  refine em_met (by decide) rfl (Nat.le_of_ble_eq_true rfl) ?_
  intro p e s m below meth c ls hx hb hr hts hown hlocks hml hnm hV hK hN hZ hS hA hl hsz
  subst hsz
  have hl : lv_has ls 4 [(0, .ref th), (1, .ref lo), (2, .ref dl), (3, .ref co)] := hl
  refine lv_aload_n hx hb dL_promiseCopy_0 rfl (lv_at hl 2 rfl) ?_
  refine ew_get (v := .ref (X 17 d)) hx hb hts hown hK hV fL_128 hdl (cC_4 _ _ _ _) rfl dL_promiseCopy_1 ?_
  refine ew_get (v := .int (A 17 d 0)) hx hb hts hown hK hV fL_111 e17_0 (cC_17 _ _ _ _) rfl dL_promiseCopy_4 ?_
  refine lv_iconst (v := 1) hx hb dL_promiseCopy_7 (by decide) ?_
  refine lv_icmp_ne (tgt := 30) hx hb dL_promiseCopy_8 rfl (fun h9 => absurd hst h9) (fun _ => ?_)
  refine lv_aload_n hx hb dL_promiseCopy_11 rfl (lv_at hl 3 rfl) ?_
  refine lv_ifnull hx hb dL_promiseCopy_12 ?_
  refine lv_aload_n hx hb dL_promiseCopy_15 rfl (lv_at hl 3 rfl) ?_
  refine lv_aload_n hx hb dL_promiseCopy_16 rfl (lv_at hl 2 rfl) ?_
  refine ew_get (v := .int (A 4 d 0)) hx hb hts hown hK hV fL_216 hdl (cC_4 _ _ _ _) rfl dL_promiseCopy_17 ?_
  refine lv_aload_n hx hb dL_promiseCopy_20 rfl (lv_at hl 1 rfl) ?_
  refine ew_get (v := .int (A 2 ln 2)) hx hb hts hown hK hV fL_237 hlo (cC_2 _ _ _ _) rfl dL_promiseCopy_21 ?_
  refine er_calli (va_runV (As := [.int (A 4 d 0), .int (A 2 ln 2)]) (rest := []) ⟨hx, hb, hml, hown, hts⟩ (c_Copy_canGo l D T X L tg _ A cp co hco (A 4 d 0) (A 2 ln 2)) (cwV 2 hts gL_329 rfl rfl rfl (by decide +kernel) ⟨Nat.le_of_ble_eq_true rfl, Nat.le_of_ble_eq_true rfl⟩) (ec_preV hK hN hV hco (cC_1 _ _ _ _) rfl) rfl rfl hl.1 rfl (lv_room (Nat.le_of_ble_eq_true rfl)) dL_promiseCopy_24 ⟨Nat.le_of_ble_eq_true rfl, Nat.le_of_ble_eq_true rfl⟩) hV hS hA (fun r u H locs hp hV hS => ?_)
  obtain ⟨rfl, eu9⟩ := hp
  rw [eu9] at hV
  refine lv_toe (y := 1) hcg ?_
  refine lv_if_ne (tgt := 32) hx hb dL_promiseCopy_27 rfl (fun _ => ?_) (fun h9 => absurd h9 (by decide))
  refine lv_aload_n hx hb dL_promiseCopy_32 rfl (lv_at hl 2 rfl) ?_
  refine lv_aload_n hx hb dL_promiseCopy_33 rfl (lv_at hl 3 rfl) ?_
  refine ew_put (ty := .object "LoanLetters$Copy") (v := .ref co) hx hb hts hown hK hV hS fL_333 gDeal hdl (cC_4 _ _ _ _) 4 (nI cp) ((pC_4_4 _ _ _ _ _).trans (by rw [if_neg (nI_m1 (by omega)), nI_clamp (by omega), hco.1]; rfl)) rfl (by decide +kernel) rfl rfl (Nat.le_of_ble_eq_true rfl) dL_promiseCopy_34 (fun H locs hV hS => ?_)
  refine lv_aload_n hx hb dL_promiseCopy_37 rfl (lv_at hl 3 rfl) ?_
  refine lv_aload_n hx hb dL_promiseCopy_38 rfl (lv_at hl 1 rfl) ?_
  refine ew_get (v := .int (A 2 ln 0)) hx hb hts hown hK hV fL_85 hlo (cC_2 _ _ _ _) rfl dL_promiseCopy_39 ?_
  refine ew_put (ty := .int) hx hb hts hown hK hV hS fL_226 gCopy hco (cC_1 _ _ _ _) 3 _ (pC_1_3 _ _ _ _ _) rfl (by decide +kernel) rfl rfl (Nat.le_of_ble_eq_true rfl) dL_promiseCopy_42 (fun H locs hV hS => ?_)
  refine lv_aload_n hx hb dL_promiseCopy_45 rfl (lv_at hl 0 rfl) ?_
  refine lv_aload_n hx hb dL_promiseCopy_46 rfl (lv_at hl 2 rfl) ?_
  refine lv_iconst (v := 3) hx hb dL_promiseCopy_47 (by decide) ?_
  refine lv_iconst (v := 2) hx hb dL_promiseCopy_48 (by decide) ?_
  refine lv_iconst (v := 0) hx hb dL_promiseCopy_49 (by decide) ?_
  refine em_calli (va_runV (As := [.ref dl, .int 3, .int 2, .int 0]) (rest := []) ⟨hx, hb, hml, hown, hts⟩ (c_L_supplierWrites l D T t0 X L tg _ (up3 (up3 A 4 d 4 (nI cp)) 1 cp 3 (A 2 ln 0)) d g n w th dl (X 17 d) (X 15 d) (X 16 d) (X 7 0) (X 12 0) 3 2 0 hd hn hth e15_1 e16_2 e7_3 e12_4 (lsC_up (c := 1) (i := cp) (j := 3) (x := A 2 ln 0) (lsC_up (c := 4) (i := d) (j := 4) (x := nI cp) hLS (by decide) (by decide)) (by decide) (by decide)) hw qw (clC_1 (i := cp) (k := 3) (x := A 2 ln 0) (clC_cp (d := d) hcl hcp e1_5)) hnl hnew e17_0 hdl) (cwV 4 hts gL_337 rfl rfl rfl (by decide +kernel) ⟨Nat.le_of_ble_eq_true rfl, Nat.le_of_ble_eq_true rfl⟩) (em_preV hK hN hV hZ hS hA hth (cC_0 _ _ _ _) rfl) rfl rfl hl.1 rfl (lv_room (Nat.le_of_ble_eq_true rfl)) dL_promiseCopy_50 ⟨Nat.le_of_ble_eq_true rfl, Nat.le_of_ble_eq_true rfl⟩) hV hS hA (fun r X1 L1 tg1 u H locs hp hV hS => ?_)
  obtain ⟨rfl, hS9, eA9⟩ := hp
  rw [show z_L_promiseCopy_ok A ln d cp g n w = z_L_supplierWrites (up3 (up3 A 4 d 4 (nI cp)) 1 cp 3 (A 2 ln 0)) d g n w 3 2 0 from rfl]
  exact em_zret hx hb hr hlocks hV hS dL_promiseCopy_53 (by decide) ⟨rfl, hS9, eA9⟩

set_option maxHeartbeats 4000000 in
set_option maxRecDepth 100000 in
theorem c_L_promiseCopy_no (l : Launch) (D : va_G) (T : Nat → ClassId) (X : Nat → Nat → Nat) (L : List Nat) (tg : Nat → Nat × Nat) (sz : Nat) (A : ew_R) (ln : Nat) (d : Nat) (cp : Nat) (th : Nat) (hth : ew_in X L tg 0 0 th) (lo : Nat) (hlo : ew_in X L tg 2 ln lo) (dl : Nat) (hdl : ew_in X L tg 4 d dl) (co : Nat) (hco : ew_in X L tg 1 cp co) (e17_0 : ew_in X L tg 17 d (X 17 d)) (hst : ¬ A 17 d 0 = 1) : Met l yL_promiseCopy wsL_promiseCopy ({ frames := 10, cells := 0, slots := 0, locals := 227 }) (ec_Pc D vwCl (tysA T) (cfC T) X L tg A sz [.ref th, .ref lo, .ref dl, .ref co]) (er_Qi D vwCl (cfC T) X L tg sz (fun r u => r = 0 ∧ u = A)) 0 0 (ew_A L sz) := by
  refine ec_met (by decide) rfl (Nat.le_of_ble_eq_true rfl) ?_
  intro p e s m below meth c ls hx hb hr hts hown hlocks hml hV hK hN hS hA hl hsz
  subst hsz
  have hl : lv_has ls 4 [(0, .ref th), (1, .ref lo), (2, .ref dl), (3, .ref co)] := hl
  refine lv_aload_n hx hb dL_promiseCopy_0 rfl (lv_at hl 2 rfl) ?_
  refine ew_get (v := .ref (X 17 d)) hx hb hts hown hK hV fL_128 hdl (cC_4 _ _ _ _) rfl dL_promiseCopy_1 ?_
  refine ew_get (v := .int (A 17 d 0)) hx hb hts hown hK hV fL_111 e17_0 (cC_17 _ _ _ _) rfl dL_promiseCopy_4 ?_
  refine lv_iconst (v := 1) hx hb dL_promiseCopy_7 (by decide) ?_
  refine lv_icmp_ne (tgt := 30) hx hb dL_promiseCopy_8 rfl (fun _ => ?_) (fun h9 => absurd h9 hst)
  refine lv_iconst (v := 0) hx hb dL_promiseCopy_30 (by decide) ?_
  exact er_zret hx hb hr hlocks hV hS dL_promiseCopy_31 (by decide) ⟨rfl, rfl⟩

set_option maxHeartbeats 4000000 in
set_option maxRecDepth 100000 in
theorem c_L_promiseCopy_nog (l : Launch) (D : va_G) (T : Nat → ClassId) (X : Nat → Nat → Nat) (L : List Nat) (tg : Nat → Nat × Nat) (sz : Nat) (A : ew_R) (ln : Nat) (d : Nat) (cp : Nat) (th : Nat) (hth : ew_in X L tg 0 0 th) (lo : Nat) (hlo : ew_in X L tg 2 ln lo) (dl : Nat) (hdl : ew_in X L tg 4 d dl) (co : Nat) (hco : ew_in X L tg 1 cp co) (e17_0 : ew_in X L tg 17 d (X 17 d)) (hst : A 17 d 0 = 1) (hcg : z_Copy_canGo A cp (A 4 d 0) (A 2 ln 2) = 0) : Met l yL_promiseCopy wsL_promiseCopy ({ frames := 10, cells := 0, slots := 0, locals := 227 }) (ec_Pc D vwCl (tysA T) (cfC T) X L tg A sz [.ref th, .ref lo, .ref dl, .ref co]) (er_Qi D vwCl (cfC T) X L tg sz (fun r u => r = 0 ∧ u = A)) 0 0 (ew_A L sz) := by
  refine ec_met (by decide) rfl (Nat.le_of_ble_eq_true rfl) ?_
  intro p e s m below meth c ls hx hb hr hts hown hlocks hml hV hK hN hS hA hl hsz
  subst hsz
  have hl : lv_has ls 4 [(0, .ref th), (1, .ref lo), (2, .ref dl), (3, .ref co)] := hl
  refine lv_aload_n hx hb dL_promiseCopy_0 rfl (lv_at hl 2 rfl) ?_
  refine ew_get (v := .ref (X 17 d)) hx hb hts hown hK hV fL_128 hdl (cC_4 _ _ _ _) rfl dL_promiseCopy_1 ?_
  refine ew_get (v := .int (A 17 d 0)) hx hb hts hown hK hV fL_111 e17_0 (cC_17 _ _ _ _) rfl dL_promiseCopy_4 ?_
  refine lv_iconst (v := 1) hx hb dL_promiseCopy_7 (by decide) ?_
  refine lv_icmp_ne (tgt := 30) hx hb dL_promiseCopy_8 rfl (fun h9 => absurd hst h9) (fun _ => ?_)
  refine lv_aload_n hx hb dL_promiseCopy_11 rfl (lv_at hl 3 rfl) ?_
  refine lv_ifnull hx hb dL_promiseCopy_12 ?_
  refine lv_aload_n hx hb dL_promiseCopy_15 rfl (lv_at hl 3 rfl) ?_
  refine lv_aload_n hx hb dL_promiseCopy_16 rfl (lv_at hl 2 rfl) ?_
  refine ew_get (v := .int (A 4 d 0)) hx hb hts hown hK hV fL_216 hdl (cC_4 _ _ _ _) rfl dL_promiseCopy_17 ?_
  refine lv_aload_n hx hb dL_promiseCopy_20 rfl (lv_at hl 1 rfl) ?_
  refine ew_get (v := .int (A 2 ln 2)) hx hb hts hown hK hV fL_237 hlo (cC_2 _ _ _ _) rfl dL_promiseCopy_21 ?_
  refine er_calli (va_runV (As := [.int (A 4 d 0), .int (A 2 ln 2)]) (rest := []) ⟨hx, hb, hml, hown, hts⟩ (c_Copy_canGo l D T X L tg _ A cp co hco (A 4 d 0) (A 2 ln 2)) (cwV 2 hts gL_329 rfl rfl rfl (by decide +kernel) ⟨Nat.le_of_ble_eq_true rfl, Nat.le_of_ble_eq_true rfl⟩) (ec_preV hK hN hV hco (cC_1 _ _ _ _) rfl) rfl rfl hl.1 rfl (lv_room (Nat.le_of_ble_eq_true rfl)) dL_promiseCopy_24 ⟨Nat.le_of_ble_eq_true rfl, Nat.le_of_ble_eq_true rfl⟩) hV hS hA (fun r u H locs hp hV hS => ?_)
  obtain ⟨rfl, eu9⟩ := hp
  rw [eu9] at hV
  refine lv_toe (y := 0) hcg ?_
  refine lv_if_ne (tgt := 32) hx hb dL_promiseCopy_27 rfl (fun h9 => absurd (by decide) h9) (fun _ => ?_)
  refine lv_iconst (v := 0) hx hb dL_promiseCopy_30 (by decide) ?_
  exact er_zret hx hb hr hlocks hV hS dL_promiseCopy_31 (by decide) ⟨rfl, rfl⟩

set_option maxHeartbeats 4000000 in
set_option maxRecDepth 100000 in
theorem c_L_promiseCopy_non (l : Launch) (D : va_G) (T : Nat → ClassId) (X : Nat → Nat → Nat) (L : List Nat) (tg : Nat → Nat × Nat) (sz : Nat) (A : ew_R) (ln : Nat) (d : Nat) (th : Nat) (hth : ew_in X L tg 0 0 th) (lo : Nat) (hlo : ew_in X L tg 2 ln lo) (dl : Nat) (hdl : ew_in X L tg 4 d dl) (e17_0 : ew_in X L tg 17 d (X 17 d)) (hst : A 17 d 0 = 1) : Met l yL_promiseCopy wsL_promiseCopy ({ frames := 10, cells := 0, slots := 0, locals := 227 }) (ec_Pc D vwCl (tysA T) (cfC T) X L tg A sz [.ref th, .ref lo, .ref dl, .null]) (er_Qi D vwCl (cfC T) X L tg sz (fun r u => r = 0 ∧ u = A)) 0 0 (ew_A L sz) := by
  refine ec_met (by decide) rfl (Nat.le_of_ble_eq_true rfl) ?_
  intro p e s m below meth c ls hx hb hr hts hown hlocks hml hV hK hN hS hA hl hsz
  subst hsz
  have hl : lv_has ls 4 [(0, .ref th), (1, .ref lo), (2, .ref dl), (3, .null)] := hl
  refine lv_aload_n hx hb dL_promiseCopy_0 rfl (lv_at hl 2 rfl) ?_
  refine ew_get (v := .ref (X 17 d)) hx hb hts hown hK hV fL_128 hdl (cC_4 _ _ _ _) rfl dL_promiseCopy_1 ?_
  refine ew_get (v := .int (A 17 d 0)) hx hb hts hown hK hV fL_111 e17_0 (cC_17 _ _ _ _) rfl dL_promiseCopy_4 ?_
  refine lv_iconst (v := 1) hx hb dL_promiseCopy_7 (by decide) ?_
  refine lv_icmp_ne (tgt := 30) hx hb dL_promiseCopy_8 rfl (fun h9 => absurd hst h9) (fun _ => ?_)
  refine lv_aload_nN hx hb dL_promiseCopy_11 rfl (lv_at hl 3 rfl) ?_
  refine lv_ifnullN (tgt := 30) hx hb dL_promiseCopy_12 rfl ?_
  refine lv_iconst (v := 0) hx hb dL_promiseCopy_30 (by decide) ?_
  exact er_zret hx hb hr hlocks hV hS dL_promiseCopy_31 (by decide) ⟨rfl, rfl⟩

set_option maxHeartbeats 4000000 in
set_option maxRecDepth 100000 in
theorem c_L_promiseCopy_no1 (l : Launch) (D : va_G) (T : Nat → ClassId) (X : Nat → Nat → Nat) (L : List Nat) (tg : Nat → Nat × Nat) (sz : Nat) (A : ew_R) (ln : Nat) (d : Nat) (th : Nat) (hth : ew_in X L tg 0 0 th) (lo : Nat) (hlo : ew_in X L tg 2 ln lo) (dl : Nat) (hdl : ew_in X L tg 4 d dl) (e17_0 : ew_in X L tg 17 d (X 17 d)) (hst : ¬ A 17 d 0 = 1) : Met l yL_promiseCopy wsL_promiseCopy ({ frames := 10, cells := 0, slots := 0, locals := 227 }) (ec_Pc D vwCl (tysA T) (cfC T) X L tg A sz [.ref th, .ref lo, .ref dl, .null]) (er_Qi D vwCl (cfC T) X L tg sz (fun r u => r = 0 ∧ u = A)) 0 0 (ew_A L sz) := by
  refine ec_met (by decide) rfl (Nat.le_of_ble_eq_true rfl) ?_
  intro p e s m below meth c ls hx hb hr hts hown hlocks hml hV hK hN hS hA hl hsz
  subst hsz
  have hl : lv_has ls 4 [(0, .ref th), (1, .ref lo), (2, .ref dl), (3, .null)] := hl
  refine lv_aload_n hx hb dL_promiseCopy_0 rfl (lv_at hl 2 rfl) ?_
  refine ew_get (v := .ref (X 17 d)) hx hb hts hown hK hV fL_128 hdl (cC_4 _ _ _ _) rfl dL_promiseCopy_1 ?_
  refine ew_get (v := .int (A 17 d 0)) hx hb hts hown hK hV fL_111 e17_0 (cC_17 _ _ _ _) rfl dL_promiseCopy_4 ?_
  refine lv_iconst (v := 1) hx hb dL_promiseCopy_7 (by decide) ?_
  refine lv_icmp_ne (tgt := 30) hx hb dL_promiseCopy_8 rfl (fun _ => ?_) (fun h9 => absurd h9 hst)
  refine lv_iconst (v := 0) hx hb dL_promiseCopy_30 (by decide) ?_
  exact er_zret hx hb hr hlocks hV hS dL_promiseCopy_31 (by decide) ⟨rfl, rfl⟩

def z_L_supplierIsCancelled_n (A : ew_R) (d : Nat) (g : Nat) (n : Nat) (w : Nat) : List (Nat × Nat) × ew_R :=
  if A 17 d 0 = 1 then
    (nw_15 d g n, z_L_supplierWrites A d g n w 11 16 0)
  else
    if A 17 d 0 = 2 then
      (nw_15 d g n, z_L_supplierWrites A d g n w 11 16 0)
    else
      if A 17 d 0 = 3 then
        (nw_15 d g n, z_L_supplierWrites A d g n w 11 16 0)
      else
        ([], A)
set_option maxHeartbeats 4000000 in
set_option maxRecDepth 100000 in
theorem c_L_supplierIsCancelled_n (l : Launch) (D : va_G) (T : Nat → ClassId) (t0 : Nat × Nat) (X : Nat → Nat → Nat) (L : List Nat) (tg : Nat → Nat × Nat) (sz : Nat) (A : ew_R) (d : Nat) (th : Nat) (hth : ew_in X L tg 0 0 th) (dl : Nat) (hdl : ew_in X L tg 4 d dl) (g : Nat) (n : Nat) (w : Nat) (e17_0 : ew_in X L tg 17 d (X 17 d)) (e15_1 : ew_in X L tg 15 d (X 15 d)) (e16_2 : ew_in X L tg 16 d (X 16 d)) (e7_3 : ew_in X L tg 7 0 (X 7 0)) (e12_4 : ew_in X L tg 12 0 (X 12 0)) (hd : d < 192) (hn : n < 512) (hLS : lsC 16 20 t0 X L tg A d g n) (hw : w ≤ 64) (qw : A 7 0 1 = nI w) (hcl : clC X L tg A) (hnl : ∀ b ∈ L, (19, 512 * d + n) ≠ tg b) (hnew : ∀ b ∈ L, (20, 64 * d + g + 1) ≠ tg b) (q4 : A 4 d 4 = (-1)) : Met l yL_supplierIsCancelled wsL_supplierIsCancelled ({ frames := 10, cells := 2, slots := 1004, locals := 320 }) (em_Pc D vwCl (tysA T) (cfC T) t0 X L tg A sz [.ref th, .ref dl]) (em_Qv D vwCl (cfC T) L sz (fun u => em_S (z_L_supplierIsCancelled_n A d g n w).1 X L tg u.1 u.2.1 u.2.2.1 ∧ u.2.2.2 = (z_L_supplierIsCancelled_n A d g n w).2)) 2 1004 (ew_A L sz) := by
  refine em_met (by decide) rfl (Nat.le_of_ble_eq_true rfl) ?_
  intro p e s m below meth c ls hx hb hr hts hown hlocks hml hnm hV hK hN hZ hS hA hl hsz
  subst hsz
  have hl : lv_has ls 3 [(0, .ref th), (1, .ref dl)] := hl
  refine lv_aload_n hx hb dL_supplierIsCancelled_0 rfl (lv_at hl 1 rfl) ?_
  refine ew_get (v := .ref (X 17 d)) hx hb hts hown hK hV fL_128 hdl (cC_4 _ _ _ _) rfl dL_supplierIsCancelled_1 ?_
  refine ew_get (v := .int (A 17 d 0)) hx hb hts hown hK hV fL_111 e17_0 (cC_17 _ _ _ _) rfl dL_supplierIsCancelled_4 ?_
  refine lv_istore_n (lv' := [(2, .int (A 17 d 0)), (0, .ref th), (1, .ref dl)]) hx hb dL_supplierIsCancelled_7 rfl hl (by decide) rfl (fun ls hl => ?_)
  refine lv_iload_n hx hb dL_supplierIsCancelled_8 rfl (lv_at hl 0 rfl) ?_
  refine lv_iconst (v := 1) hx hb dL_supplierIsCancelled_9 (by decide) ?_
  refine lv_icmp_eq (tgt := 23) hx hb dL_supplierIsCancelled_10 rfl (fun h1 => ?_) (fun h1 => ?_)
  · refine lv_aload_n hx hb dL_supplierIsCancelled_23 rfl (lv_at hl 2 rfl) ?_
    refine er_callv (va_runV (As := []) (rest := []) ⟨hx, hb, hml, hown, hts⟩ (c_Deal_freeCopy_n l D T X L tg _ A d dl hdl q4) (cwV 0 hts gL_367 rfl rfl rfl (by decide +kernel) ⟨Nat.le_of_ble_eq_true rfl, Nat.le_of_ble_eq_true rfl⟩) (ec_preV hK hN hV hdl (cC_4 _ _ _ _) rfl) rfl rfl hl.1 rfl (lv_room (Nat.le_of_ble_eq_true rfl)) dL_supplierIsCancelled_24 ⟨Nat.le_of_ble_eq_true rfl, Nat.le_of_ble_eq_true rfl⟩) hV hS hA (fun u2 H locs eu2 hV hS => ?_)
    have eu2 : u2 = A := eu2
    rw [eu2] at hV
    refine lv_aload_n hx hb dL_supplierIsCancelled_27 rfl (lv_at hl 1 rfl) ?_
    refine lv_aload_n hx hb dL_supplierIsCancelled_28 rfl (lv_at hl 2 rfl) ?_
    refine lv_bipush (v := 11) hx hb dL_supplierIsCancelled_29 (by decide) ?_
    refine lv_bipush (v := 16) hx hb dL_supplierIsCancelled_31 (by decide) ?_
    refine lv_iconst (v := 0) hx hb dL_supplierIsCancelled_33 (by decide) ?_
    refine em_calli (va_runV (As := [.ref dl, .int 11, .int 16, .int 0]) (rest := []) ⟨hx, hb, hml, hown, hts⟩ (c_L_supplierWrites l D T t0 X L tg _ A d g n w th dl (X 17 d) (X 15 d) (X 16 d) (X 7 0) (X 12 0) 11 16 0 hd hn hth e15_1 e16_2 e7_3 e12_4 hLS hw qw hcl hnl hnew e17_0 hdl) (cwV 4 hts gL_337 rfl rfl rfl (by decide +kernel) ⟨Nat.le_of_ble_eq_true rfl, Nat.le_of_ble_eq_true rfl⟩) (em_preV hK hN hV hZ hS hA hth (cC_0 _ _ _ _) rfl) rfl rfl hl.1 rfl (lv_room (Nat.le_of_ble_eq_true rfl)) dL_supplierIsCancelled_34 ⟨Nat.le_of_ble_eq_true rfl, Nat.le_of_ble_eq_true rfl⟩) hV hS hA (fun r X1 L1 tg1 u H locs hp hV hS => ?_)
    obtain ⟨rfl, hS9, eA9⟩ := hp
    refine lv_pop hx hb dL_supplierIsCancelled_37 rfl ?_
    rw [show z_L_supplierIsCancelled_n A d g n w = (nw_15 d g n, z_L_supplierWrites A d g n w 11 16 0) by unfold z_L_supplierIsCancelled_n; simp only [if_pos h1]]
    exact em_vret hx hb hr hlocks hV hS dL_supplierIsCancelled_38 ⟨hS9, eA9⟩
  · refine lv_iload_n hx hb dL_supplierIsCancelled_13 rfl (lv_at hl 0 rfl) ?_
    refine lv_iconst (v := 2) hx hb dL_supplierIsCancelled_14 (by decide) ?_
    refine lv_icmp_eq (tgt := 23) hx hb dL_supplierIsCancelled_15 rfl (fun h3 => ?_) (fun h3 => ?_)
    · refine lv_aload_n hx hb dL_supplierIsCancelled_23 rfl (lv_at hl 2 rfl) ?_
      refine er_callv (va_runV (As := []) (rest := []) ⟨hx, hb, hml, hown, hts⟩ (c_Deal_freeCopy_n l D T X L tg _ A d dl hdl q4) (cwV 0 hts gL_367 rfl rfl rfl (by decide +kernel) ⟨Nat.le_of_ble_eq_true rfl, Nat.le_of_ble_eq_true rfl⟩) (ec_preV hK hN hV hdl (cC_4 _ _ _ _) rfl) rfl rfl hl.1 rfl (lv_room (Nat.le_of_ble_eq_true rfl)) dL_supplierIsCancelled_24 ⟨Nat.le_of_ble_eq_true rfl, Nat.le_of_ble_eq_true rfl⟩) hV hS hA (fun u4 H locs eu4 hV hS => ?_)
      have eu4 : u4 = A := eu4
      rw [eu4] at hV
      refine lv_aload_n hx hb dL_supplierIsCancelled_27 rfl (lv_at hl 1 rfl) ?_
      refine lv_aload_n hx hb dL_supplierIsCancelled_28 rfl (lv_at hl 2 rfl) ?_
      refine lv_bipush (v := 11) hx hb dL_supplierIsCancelled_29 (by decide) ?_
      refine lv_bipush (v := 16) hx hb dL_supplierIsCancelled_31 (by decide) ?_
      refine lv_iconst (v := 0) hx hb dL_supplierIsCancelled_33 (by decide) ?_
      refine em_calli (va_runV (As := [.ref dl, .int 11, .int 16, .int 0]) (rest := []) ⟨hx, hb, hml, hown, hts⟩ (c_L_supplierWrites l D T t0 X L tg _ A d g n w th dl (X 17 d) (X 15 d) (X 16 d) (X 7 0) (X 12 0) 11 16 0 hd hn hth e15_1 e16_2 e7_3 e12_4 hLS hw qw hcl hnl hnew e17_0 hdl) (cwV 4 hts gL_337 rfl rfl rfl (by decide +kernel) ⟨Nat.le_of_ble_eq_true rfl, Nat.le_of_ble_eq_true rfl⟩) (em_preV hK hN hV hZ hS hA hth (cC_0 _ _ _ _) rfl) rfl rfl hl.1 rfl (lv_room (Nat.le_of_ble_eq_true rfl)) dL_supplierIsCancelled_34 ⟨Nat.le_of_ble_eq_true rfl, Nat.le_of_ble_eq_true rfl⟩) hV hS hA (fun r X1 L1 tg1 u H locs hp hV hS => ?_)
      obtain ⟨rfl, hS9, eA9⟩ := hp
      refine lv_pop hx hb dL_supplierIsCancelled_37 rfl ?_
      rw [show z_L_supplierIsCancelled_n A d g n w = (nw_15 d g n, z_L_supplierWrites A d g n w 11 16 0) by unfold z_L_supplierIsCancelled_n; simp only [if_neg h1, if_pos h3]]
      exact em_vret hx hb hr hlocks hV hS dL_supplierIsCancelled_38 ⟨hS9, eA9⟩
    · refine lv_iload_n hx hb dL_supplierIsCancelled_18 rfl (lv_at hl 0 rfl) ?_
      refine lv_iconst (v := 3) hx hb dL_supplierIsCancelled_19 (by decide) ?_
      refine lv_icmp_ne (tgt := 38) hx hb dL_supplierIsCancelled_20 rfl (fun h5 => ?_) (fun h5 => ?_)
      · rw [show z_L_supplierIsCancelled_n A d g n w = ([], A) by unfold z_L_supplierIsCancelled_n; simp only [if_neg h1, if_neg h3, if_neg h5]]
        refine W.widen (k := 2) (n := 1004) (Nat.le_of_ble_eq_true rfl) (Nat.le_of_ble_eq_true rfl) ?_
        exact em_vret hx hb hr hlocks hV hS dL_supplierIsCancelled_38 ⟨em_S.nil, rfl⟩
      · refine lv_aload_n hx hb dL_supplierIsCancelled_23 rfl (lv_at hl 2 rfl) ?_
        refine er_callv (va_runV (As := []) (rest := []) ⟨hx, hb, hml, hown, hts⟩ (c_Deal_freeCopy_n l D T X L tg _ A d dl hdl q4) (cwV 0 hts gL_367 rfl rfl rfl (by decide +kernel) ⟨Nat.le_of_ble_eq_true rfl, Nat.le_of_ble_eq_true rfl⟩) (ec_preV hK hN hV hdl (cC_4 _ _ _ _) rfl) rfl rfl hl.1 rfl (lv_room (Nat.le_of_ble_eq_true rfl)) dL_supplierIsCancelled_24 ⟨Nat.le_of_ble_eq_true rfl, Nat.le_of_ble_eq_true rfl⟩) hV hS hA (fun u6 H locs eu6 hV hS => ?_)
        have eu6 : u6 = A := eu6
        rw [eu6] at hV
        refine lv_aload_n hx hb dL_supplierIsCancelled_27 rfl (lv_at hl 1 rfl) ?_
        refine lv_aload_n hx hb dL_supplierIsCancelled_28 rfl (lv_at hl 2 rfl) ?_
        refine lv_bipush (v := 11) hx hb dL_supplierIsCancelled_29 (by decide) ?_
        refine lv_bipush (v := 16) hx hb dL_supplierIsCancelled_31 (by decide) ?_
        refine lv_iconst (v := 0) hx hb dL_supplierIsCancelled_33 (by decide) ?_
        refine em_calli (va_runV (As := [.ref dl, .int 11, .int 16, .int 0]) (rest := []) ⟨hx, hb, hml, hown, hts⟩ (c_L_supplierWrites l D T t0 X L tg _ A d g n w th dl (X 17 d) (X 15 d) (X 16 d) (X 7 0) (X 12 0) 11 16 0 hd hn hth e15_1 e16_2 e7_3 e12_4 hLS hw qw hcl hnl hnew e17_0 hdl) (cwV 4 hts gL_337 rfl rfl rfl (by decide +kernel) ⟨Nat.le_of_ble_eq_true rfl, Nat.le_of_ble_eq_true rfl⟩) (em_preV hK hN hV hZ hS hA hth (cC_0 _ _ _ _) rfl) rfl rfl hl.1 rfl (lv_room (Nat.le_of_ble_eq_true rfl)) dL_supplierIsCancelled_34 ⟨Nat.le_of_ble_eq_true rfl, Nat.le_of_ble_eq_true rfl⟩) hV hS hA (fun r X1 L1 tg1 u H locs hp hV hS => ?_)
        obtain ⟨rfl, hS9, eA9⟩ := hp
        refine lv_pop hx hb dL_supplierIsCancelled_37 rfl ?_
        rw [show z_L_supplierIsCancelled_n A d g n w = (nw_15 d g n, z_L_supplierWrites A d g n w 11 16 0) by unfold z_L_supplierIsCancelled_n; simp only [if_neg h1, if_neg h3, if_pos h5]]
        exact em_vret hx hb hr hlocks hV hS dL_supplierIsCancelled_38 ⟨hS9, eA9⟩

def z_L_supplierIsCancelled_c (A : ew_R) (d : Nat) (g : Nat) (n : Nat) (w : Nat) (cp : Nat) : List (Nat × Nat) × ew_R :=
  if A 17 d 0 = 1 then
    (nw_15 d g n, z_L_supplierWrites (up3 A 1 cp 3 (-1)) d g n w 11 16 0)
  else
    if A 17 d 0 = 2 then
      (nw_15 d g n, z_L_supplierWrites (up3 A 1 cp 3 (-1)) d g n w 11 16 0)
    else
      if A 17 d 0 = 3 then
        (nw_15 d g n, z_L_supplierWrites (up3 A 1 cp 3 (-1)) d g n w 11 16 0)
      else
        ([], A)
set_option maxHeartbeats 4000000 in
set_option maxRecDepth 100000 in
theorem c_L_supplierIsCancelled_c (l : Launch) (D : va_G) (T : Nat → ClassId) (t0 : Nat × Nat) (X : Nat → Nat → Nat) (L : List Nat) (tg : Nat → Nat × Nat) (sz : Nat) (A : ew_R) (d : Nat) (th : Nat) (hth : ew_in X L tg 0 0 th) (dl : Nat) (hdl : ew_in X L tg 4 d dl) (g : Nat) (n : Nat) (w : Nat) (cp : Nat) (e17_0 : ew_in X L tg 17 d (X 17 d)) (e15_1 : ew_in X L tg 15 d (X 15 d)) (e16_2 : ew_in X L tg 16 d (X 16 d)) (e7_3 : ew_in X L tg 7 0 (X 7 0)) (e12_4 : ew_in X L tg 12 0 (X 12 0)) (e1_5 : ew_in X L tg 1 cp (X 1 cp)) (hd : d < 192) (hn : n < 512) (hLS : lsC 16 20 t0 X L tg A d g n) (hw : w ≤ 64) (qw : A 7 0 1 = nI w) (hcl : clC X L tg A) (hnl : ∀ b ∈ L, (19, 512 * d + n) ≠ tg b) (hnew : ∀ b ∈ L, (20, 64 * d + g + 1) ≠ tg b) (hcp : cp < 32) (q4 : A 4 d 4 = nI cp) : Met l yL_supplierIsCancelled wsL_supplierIsCancelled ({ frames := 10, cells := 2, slots := 1004, locals := 320 }) (em_Pc D vwCl (tysA T) (cfC T) t0 X L tg A sz [.ref th, .ref dl]) (em_Qv D vwCl (cfC T) L sz (fun u => em_S (z_L_supplierIsCancelled_c A d g n w cp).1 X L tg u.1 u.2.1 u.2.2.1 ∧ u.2.2.2 = (z_L_supplierIsCancelled_c A d g n w cp).2)) 2 1004 (ew_A L sz) := by
  refine em_met (by decide) rfl (Nat.le_of_ble_eq_true rfl) ?_
  intro p e s m below meth c ls hx hb hr hts hown hlocks hml hnm hV hK hN hZ hS hA hl hsz
  subst hsz
  have hl : lv_has ls 3 [(0, .ref th), (1, .ref dl)] := hl
  refine lv_aload_n hx hb dL_supplierIsCancelled_0 rfl (lv_at hl 1 rfl) ?_
  refine ew_get (v := .ref (X 17 d)) hx hb hts hown hK hV fL_128 hdl (cC_4 _ _ _ _) rfl dL_supplierIsCancelled_1 ?_
  refine ew_get (v := .int (A 17 d 0)) hx hb hts hown hK hV fL_111 e17_0 (cC_17 _ _ _ _) rfl dL_supplierIsCancelled_4 ?_
  refine lv_istore_n (lv' := [(2, .int (A 17 d 0)), (0, .ref th), (1, .ref dl)]) hx hb dL_supplierIsCancelled_7 rfl hl (by decide) rfl (fun ls hl => ?_)
  refine lv_iload_n hx hb dL_supplierIsCancelled_8 rfl (lv_at hl 0 rfl) ?_
  refine lv_iconst (v := 1) hx hb dL_supplierIsCancelled_9 (by decide) ?_
  refine lv_icmp_eq (tgt := 23) hx hb dL_supplierIsCancelled_10 rfl (fun h1 => ?_) (fun h1 => ?_)
  · refine lv_aload_n hx hb dL_supplierIsCancelled_23 rfl (lv_at hl 2 rfl) ?_
    refine er_callv (va_runV (As := []) (rest := []) ⟨hx, hb, hml, hown, hts⟩ (c_Deal_freeCopy_c l D T X L tg _ A d dl hdl cp e1_5 hcp q4) (cwV 0 hts gL_367 rfl rfl rfl (by decide +kernel) ⟨Nat.le_of_ble_eq_true rfl, Nat.le_of_ble_eq_true rfl⟩) (ec_preV hK hN hV hdl (cC_4 _ _ _ _) rfl) rfl rfl hl.1 rfl (lv_room (Nat.le_of_ble_eq_true rfl)) dL_supplierIsCancelled_24 ⟨Nat.le_of_ble_eq_true rfl, Nat.le_of_ble_eq_true rfl⟩) hV hS hA (fun u2 H locs eu2 hV hS => ?_)
    have eu2 : u2 = up3 A 1 cp 3 (-1) := eu2
    rw [eu2] at hV
    refine lv_aload_n hx hb dL_supplierIsCancelled_27 rfl (lv_at hl 1 rfl) ?_
    refine lv_aload_n hx hb dL_supplierIsCancelled_28 rfl (lv_at hl 2 rfl) ?_
    refine lv_bipush (v := 11) hx hb dL_supplierIsCancelled_29 (by decide) ?_
    refine lv_bipush (v := 16) hx hb dL_supplierIsCancelled_31 (by decide) ?_
    refine lv_iconst (v := 0) hx hb dL_supplierIsCancelled_33 (by decide) ?_
    refine em_calli (va_runV (As := [.ref dl, .int 11, .int 16, .int 0]) (rest := []) ⟨hx, hb, hml, hown, hts⟩ (c_L_supplierWrites l D T t0 X L tg _ (up3 A 1 cp 3 (-1)) d g n w th dl (X 17 d) (X 15 d) (X 16 d) (X 7 0) (X 12 0) 11 16 0 hd hn hth e15_1 e16_2 e7_3 e12_4 (lsC_up (c := 1) (i := cp) (j := 3) (x := (-1)) hLS (by decide) (by decide)) hw qw (clC_1 (i := cp) (k := 3) (x := (-1)) hcl) hnl hnew e17_0 hdl) (cwV 4 hts gL_337 rfl rfl rfl (by decide +kernel) ⟨Nat.le_of_ble_eq_true rfl, Nat.le_of_ble_eq_true rfl⟩) (em_preV hK hN hV hZ hS hA hth (cC_0 _ _ _ _) rfl) rfl rfl hl.1 rfl (lv_room (Nat.le_of_ble_eq_true rfl)) dL_supplierIsCancelled_34 ⟨Nat.le_of_ble_eq_true rfl, Nat.le_of_ble_eq_true rfl⟩) hV hS hA (fun r X1 L1 tg1 u H locs hp hV hS => ?_)
    obtain ⟨rfl, hS9, eA9⟩ := hp
    refine lv_pop hx hb dL_supplierIsCancelled_37 rfl ?_
    rw [show z_L_supplierIsCancelled_c A d g n w cp = (nw_15 d g n, z_L_supplierWrites (up3 A 1 cp 3 (-1)) d g n w 11 16 0) by unfold z_L_supplierIsCancelled_c; simp only [if_pos h1]]
    exact em_vret hx hb hr hlocks hV hS dL_supplierIsCancelled_38 ⟨hS9, eA9⟩
  · refine lv_iload_n hx hb dL_supplierIsCancelled_13 rfl (lv_at hl 0 rfl) ?_
    refine lv_iconst (v := 2) hx hb dL_supplierIsCancelled_14 (by decide) ?_
    refine lv_icmp_eq (tgt := 23) hx hb dL_supplierIsCancelled_15 rfl (fun h3 => ?_) (fun h3 => ?_)
    · refine lv_aload_n hx hb dL_supplierIsCancelled_23 rfl (lv_at hl 2 rfl) ?_
      refine er_callv (va_runV (As := []) (rest := []) ⟨hx, hb, hml, hown, hts⟩ (c_Deal_freeCopy_c l D T X L tg _ A d dl hdl cp e1_5 hcp q4) (cwV 0 hts gL_367 rfl rfl rfl (by decide +kernel) ⟨Nat.le_of_ble_eq_true rfl, Nat.le_of_ble_eq_true rfl⟩) (ec_preV hK hN hV hdl (cC_4 _ _ _ _) rfl) rfl rfl hl.1 rfl (lv_room (Nat.le_of_ble_eq_true rfl)) dL_supplierIsCancelled_24 ⟨Nat.le_of_ble_eq_true rfl, Nat.le_of_ble_eq_true rfl⟩) hV hS hA (fun u4 H locs eu4 hV hS => ?_)
      have eu4 : u4 = up3 A 1 cp 3 (-1) := eu4
      rw [eu4] at hV
      refine lv_aload_n hx hb dL_supplierIsCancelled_27 rfl (lv_at hl 1 rfl) ?_
      refine lv_aload_n hx hb dL_supplierIsCancelled_28 rfl (lv_at hl 2 rfl) ?_
      refine lv_bipush (v := 11) hx hb dL_supplierIsCancelled_29 (by decide) ?_
      refine lv_bipush (v := 16) hx hb dL_supplierIsCancelled_31 (by decide) ?_
      refine lv_iconst (v := 0) hx hb dL_supplierIsCancelled_33 (by decide) ?_
      refine em_calli (va_runV (As := [.ref dl, .int 11, .int 16, .int 0]) (rest := []) ⟨hx, hb, hml, hown, hts⟩ (c_L_supplierWrites l D T t0 X L tg _ (up3 A 1 cp 3 (-1)) d g n w th dl (X 17 d) (X 15 d) (X 16 d) (X 7 0) (X 12 0) 11 16 0 hd hn hth e15_1 e16_2 e7_3 e12_4 (lsC_up (c := 1) (i := cp) (j := 3) (x := (-1)) hLS (by decide) (by decide)) hw qw (clC_1 (i := cp) (k := 3) (x := (-1)) hcl) hnl hnew e17_0 hdl) (cwV 4 hts gL_337 rfl rfl rfl (by decide +kernel) ⟨Nat.le_of_ble_eq_true rfl, Nat.le_of_ble_eq_true rfl⟩) (em_preV hK hN hV hZ hS hA hth (cC_0 _ _ _ _) rfl) rfl rfl hl.1 rfl (lv_room (Nat.le_of_ble_eq_true rfl)) dL_supplierIsCancelled_34 ⟨Nat.le_of_ble_eq_true rfl, Nat.le_of_ble_eq_true rfl⟩) hV hS hA (fun r X1 L1 tg1 u H locs hp hV hS => ?_)
      obtain ⟨rfl, hS9, eA9⟩ := hp
      refine lv_pop hx hb dL_supplierIsCancelled_37 rfl ?_
      rw [show z_L_supplierIsCancelled_c A d g n w cp = (nw_15 d g n, z_L_supplierWrites (up3 A 1 cp 3 (-1)) d g n w 11 16 0) by unfold z_L_supplierIsCancelled_c; simp only [if_neg h1, if_pos h3]]
      exact em_vret hx hb hr hlocks hV hS dL_supplierIsCancelled_38 ⟨hS9, eA9⟩
    · refine lv_iload_n hx hb dL_supplierIsCancelled_18 rfl (lv_at hl 0 rfl) ?_
      refine lv_iconst (v := 3) hx hb dL_supplierIsCancelled_19 (by decide) ?_
      refine lv_icmp_ne (tgt := 38) hx hb dL_supplierIsCancelled_20 rfl (fun h5 => ?_) (fun h5 => ?_)
      · rw [show z_L_supplierIsCancelled_c A d g n w cp = ([], A) by unfold z_L_supplierIsCancelled_c; simp only [if_neg h1, if_neg h3, if_neg h5]]
        refine W.widen (k := 2) (n := 1004) (Nat.le_of_ble_eq_true rfl) (Nat.le_of_ble_eq_true rfl) ?_
        exact em_vret hx hb hr hlocks hV hS dL_supplierIsCancelled_38 ⟨em_S.nil, rfl⟩
      · refine lv_aload_n hx hb dL_supplierIsCancelled_23 rfl (lv_at hl 2 rfl) ?_
        refine er_callv (va_runV (As := []) (rest := []) ⟨hx, hb, hml, hown, hts⟩ (c_Deal_freeCopy_c l D T X L tg _ A d dl hdl cp e1_5 hcp q4) (cwV 0 hts gL_367 rfl rfl rfl (by decide +kernel) ⟨Nat.le_of_ble_eq_true rfl, Nat.le_of_ble_eq_true rfl⟩) (ec_preV hK hN hV hdl (cC_4 _ _ _ _) rfl) rfl rfl hl.1 rfl (lv_room (Nat.le_of_ble_eq_true rfl)) dL_supplierIsCancelled_24 ⟨Nat.le_of_ble_eq_true rfl, Nat.le_of_ble_eq_true rfl⟩) hV hS hA (fun u6 H locs eu6 hV hS => ?_)
        have eu6 : u6 = up3 A 1 cp 3 (-1) := eu6
        rw [eu6] at hV
        refine lv_aload_n hx hb dL_supplierIsCancelled_27 rfl (lv_at hl 1 rfl) ?_
        refine lv_aload_n hx hb dL_supplierIsCancelled_28 rfl (lv_at hl 2 rfl) ?_
        refine lv_bipush (v := 11) hx hb dL_supplierIsCancelled_29 (by decide) ?_
        refine lv_bipush (v := 16) hx hb dL_supplierIsCancelled_31 (by decide) ?_
        refine lv_iconst (v := 0) hx hb dL_supplierIsCancelled_33 (by decide) ?_
        refine em_calli (va_runV (As := [.ref dl, .int 11, .int 16, .int 0]) (rest := []) ⟨hx, hb, hml, hown, hts⟩ (c_L_supplierWrites l D T t0 X L tg _ (up3 A 1 cp 3 (-1)) d g n w th dl (X 17 d) (X 15 d) (X 16 d) (X 7 0) (X 12 0) 11 16 0 hd hn hth e15_1 e16_2 e7_3 e12_4 (lsC_up (c := 1) (i := cp) (j := 3) (x := (-1)) hLS (by decide) (by decide)) hw qw (clC_1 (i := cp) (k := 3) (x := (-1)) hcl) hnl hnew e17_0 hdl) (cwV 4 hts gL_337 rfl rfl rfl (by decide +kernel) ⟨Nat.le_of_ble_eq_true rfl, Nat.le_of_ble_eq_true rfl⟩) (em_preV hK hN hV hZ hS hA hth (cC_0 _ _ _ _) rfl) rfl rfl hl.1 rfl (lv_room (Nat.le_of_ble_eq_true rfl)) dL_supplierIsCancelled_34 ⟨Nat.le_of_ble_eq_true rfl, Nat.le_of_ble_eq_true rfl⟩) hV hS hA (fun r X1 L1 tg1 u H locs hp hV hS => ?_)
        obtain ⟨rfl, hS9, eA9⟩ := hp
        refine lv_pop hx hb dL_supplierIsCancelled_37 rfl ?_
        rw [show z_L_supplierIsCancelled_c A d g n w cp = (nw_15 d g n, z_L_supplierWrites (up3 A 1 cp 3 (-1)) d g n w 11 16 0) by unfold z_L_supplierIsCancelled_c; simp only [if_neg h1, if_neg h3, if_pos h5]]
        exact em_vret hx hb hr hlocks hV hS dL_supplierIsCancelled_38 ⟨hS9, eA9⟩

def z_L_supplierHearsOfLoss_n (A : ew_R) (d : Nat) : ew_R :=
  A
set_option maxHeartbeats 4000000 in
set_option maxRecDepth 100000 in
theorem c_L_supplierHearsOfLoss_n (l : Launch) (D : va_G) (T : Nat → ClassId) (X : Nat → Nat → Nat) (L : List Nat) (tg : Nat → Nat × Nat) (sz : Nat) (A : ew_R) (d : Nat) (th : Nat) (hth : ew_in X L tg 0 0 th) (dl : Nat) (hdl : ew_in X L tg 4 d dl) (e17_0 : ew_in X L tg 17 d (X 17 d)) (hst : z_Lender_isOut (A 17 d 0) = 0) : Met l yL_supplierHearsOfLoss wsL_supplierHearsOfLoss ({ frames := 2, cells := 0, slots := 0, locals := 42 }) (ec_Pc D vwCl (tysA T) (cfC T) X L tg A sz [.ref th, .ref dl]) (er_Qv D vwCl (cfC T) X L tg sz (fun u => u = z_L_supplierHearsOfLoss_n A d)) 0 0 (ew_A L sz) := by
  refine ec_met (by decide) rfl (Nat.le_of_ble_eq_true rfl) ?_
  intro p e s m below meth c ls hx hb hr hts hown hlocks hml hV hK hN hS hA hl hsz
  subst hsz
  have hl : lv_has ls 2 [(0, .ref th), (1, .ref dl)] := hl
  refine lv_aload_n hx hb dL_supplierHearsOfLoss_0 rfl (lv_at hl 1 rfl) ?_
  refine ew_get (v := .ref (X 17 d)) hx hb hts hown hK hV fL_128 hdl (cC_4 _ _ _ _) rfl dL_supplierHearsOfLoss_1 ?_
  refine ew_get (v := .int (A 17 d 0)) hx hb hts hown hK hV fL_111 e17_0 (cC_17 _ _ _ _) rfl dL_supplierHearsOfLoss_4 ?_
  refine er_calli (va_runS (As := [.int (A 17 d 0)]) (rest := []) ⟨hx, hb, hml, hown, hts⟩ (c_Lender_isOut l D T X L tg _ A (A 17 d 0)) ⟨callB_of 1 hts gL_361.1 rfl rfl rfl (hts _ gL_361.2.2.2) (hts _ gL_361.2.1) (by decide +kernel) ⟨Nat.le_of_ble_eq_true rfl, Nat.le_of_ble_eq_true rfl⟩, hts _ gL_361.2.2.1⟩ (ec_preS hK hN hV) rfl rfl hl.1 rfl (lv_room (Nat.le_of_ble_eq_true rfl)) dL_supplierHearsOfLoss_7 ⟨Nat.le_of_ble_eq_true rfl, Nat.le_of_ble_eq_true rfl⟩) hV hS hA (fun r u H locs hp hV hS => ?_)
  obtain ⟨rfl, eu9⟩ := hp
  rw [eu9] at hV
  refine lv_toe (y := 0) hst ?_
  refine lv_if_eq (tgt := 37) hx hb dL_supplierHearsOfLoss_10 rfl (fun _ => ?_) (fun h9 => absurd (by decide) h9)
  exact er_vret hx hb hr hlocks hV hS dL_supplierHearsOfLoss_37 (Eq.symm (by unfold z_L_supplierHearsOfLoss_n; rfl))

def z_L_supplierHearsOfLoss_c (A : ew_R) (d : Nat) (cp : Nat) (b : Nat) : ew_R :=
  if z_Lender_isOut (A 17 d 0) = 0 then
    A
  else
    up3 (up3 (up3 A 1 cp 3 (-1)) 17 d 0 12) 11 0 b ((A 11 0 b) + 4000)
set_option maxHeartbeats 4000000 in
set_option maxRecDepth 100000 in
theorem c_L_supplierHearsOfLoss_c (l : Launch) (D : va_G) (T : Nat → ClassId) (X : Nat → Nat → Nat) (L : List Nat) (tg : Nat → Nat × Nat) (sz : Nat) (A : ew_R) (d : Nat) (th : Nat) (hth : ew_in X L tg 0 0 th) (dl : Nat) (hdl : ew_in X L tg 4 d dl) (cp : Nat) (b : Nat) (e17_0 : ew_in X L tg 17 d (X 17 d)) (e1_1 : ew_in X L tg 1 cp (X 1 cp)) (e11_2 : ew_in X L tg 11 0 (X 11 0)) (hcp : cp < 32) (q4 : A 4 d 4 = nI cp) (hb6 : b < 6) (q0 : A 4 d 0 = nI b) : Met l yL_supplierHearsOfLoss wsL_supplierHearsOfLoss ({ frames := 2, cells := 0, slots := 0, locals := 42 }) (ec_Pc D vwCl (tysA T) (cfC T) X L tg A sz [.ref th, .ref dl]) (er_Qv D vwCl (cfC T) X L tg sz (fun u => u = z_L_supplierHearsOfLoss_c A d cp b)) 0 0 (ew_A L sz) := by
  refine ec_met (by decide) rfl (Nat.le_of_ble_eq_true rfl) ?_
  intro p e s m below meth c ls hx hb hr hts hown hlocks hml hV hK hN hS hA hl hsz
  subst hsz
  have hl : lv_has ls 2 [(0, .ref th), (1, .ref dl)] := hl
  refine lv_aload_n hx hb dL_supplierHearsOfLoss_0 rfl (lv_at hl 1 rfl) ?_
  refine ew_get (v := .ref (X 17 d)) hx hb hts hown hK hV fL_128 hdl (cC_4 _ _ _ _) rfl dL_supplierHearsOfLoss_1 ?_
  refine ew_get (v := .int (A 17 d 0)) hx hb hts hown hK hV fL_111 e17_0 (cC_17 _ _ _ _) rfl dL_supplierHearsOfLoss_4 ?_
  refine er_calli (va_runS (As := [.int (A 17 d 0)]) (rest := []) ⟨hx, hb, hml, hown, hts⟩ (c_Lender_isOut l D T X L tg _ A (A 17 d 0)) ⟨callB_of 1 hts gL_361.1 rfl rfl rfl (hts _ gL_361.2.2.2) (hts _ gL_361.2.1) (by decide +kernel) ⟨Nat.le_of_ble_eq_true rfl, Nat.le_of_ble_eq_true rfl⟩, hts _ gL_361.2.2.1⟩ (ec_preS hK hN hV) rfl rfl hl.1 rfl (lv_room (Nat.le_of_ble_eq_true rfl)) dL_supplierHearsOfLoss_7 ⟨Nat.le_of_ble_eq_true rfl, Nat.le_of_ble_eq_true rfl⟩) hV hS hA (fun r u H locs hp hV hS => ?_)
  obtain ⟨rfl, eu9⟩ := hp
  rw [eu9] at hV
  refine lv_if_eq (tgt := 37) hx hb dL_supplierHearsOfLoss_10 rfl (fun h1 => ?_) (fun h1 => ?_)
  · exact er_vret hx hb hr hlocks hV hS dL_supplierHearsOfLoss_37 (Eq.symm (by unfold z_L_supplierHearsOfLoss_c; simp only [if_pos h1]))
  · refine lv_aload_n hx hb dL_supplierHearsOfLoss_13 rfl (lv_at hl 1 rfl) ?_
    refine er_callv (va_runV (As := []) (rest := []) ⟨hx, hb, hml, hown, hts⟩ (c_Deal_freeCopy_c l D T X L tg _ A d dl hdl cp e1_1 hcp q4) (cwV 0 hts gL_367 rfl rfl rfl (by decide +kernel) ⟨Nat.le_of_ble_eq_true rfl, Nat.le_of_ble_eq_true rfl⟩) (ec_preV hK hN hV hdl (cC_4 _ _ _ _) rfl) rfl rfl hl.1 rfl (lv_room (Nat.le_of_ble_eq_true rfl)) dL_supplierHearsOfLoss_14 ⟨Nat.le_of_ble_eq_true rfl, Nat.le_of_ble_eq_true rfl⟩) hV hS hA (fun u2 H locs eu2 hV hS => ?_)
    have eu2 : u2 = up3 A 1 cp 3 (-1) := eu2
    rw [eu2] at hV
    refine lv_aload_n hx hb dL_supplierHearsOfLoss_17 rfl (lv_at hl 1 rfl) ?_
    refine ew_get (v := .ref (X 17 d)) hx hb hts hown hK hV fL_128 hdl (cC_4 _ _ _ _) rfl dL_supplierHearsOfLoss_18 ?_
    refine lv_bipush (v := 12) hx hb dL_supplierHearsOfLoss_21 (by decide) ?_
    refine ew_put (ty := .int) hx hb hts hown hK hV hS fL_111 gPage e17_0 (cC_17 _ _ _ _) 0 _ (pC_17_0 _ _ _ _ _) rfl (by decide +kernel) rfl rfl (Nat.le_of_ble_eq_true rfl) dL_supplierHearsOfLoss_23 (fun H locs hV hS => ?_)
    refine lv_aload_n hx hb dL_supplierHearsOfLoss_26 rfl (lv_at hl 0 rfl) ?_
    refine lv_aload_n hx hb dL_supplierHearsOfLoss_27 rfl (lv_at hl 1 rfl) ?_
    refine ew_get (v := .int (A 4 d 0)) hx hb hts hown hK hV fL_216 hdl (cC_4 _ _ _ _) rfl dL_supplierHearsOfLoss_28 ?_
    refine lv_toe (y := nI b) q0 ?_
    refine lv_sipush (v := 4000) hx hb dL_supplierHearsOfLoss_31 (by decide) ?_
    refine er_callv (va_runV (As := [.int (nI b), .int 4000]) (rest := []) ⟨hx, hb, hml, hown, hts⟩ (c_L_addToBalance l D T X L tg _ (up3 (up3 A 1 cp 3 (-1)) 17 d 0 12) th hth b 4000 e11_2 hb6) (cwV 2 hts gL_298 rfl rfl rfl (by decide +kernel) ⟨Nat.le_of_ble_eq_true rfl, Nat.le_of_ble_eq_true rfl⟩) (ec_preV hK hN hV hth (cC_0 _ _ _ _) rfl) rfl rfl hl.1 rfl (lv_room (Nat.le_of_ble_eq_true rfl)) dL_supplierHearsOfLoss_34 ⟨Nat.le_of_ble_eq_true rfl, Nat.le_of_ble_eq_true rfl⟩) hV hS hA (fun u3 H locs eu3 hV hS => ?_)
    have eu3 : u3 = up3 (up3 (up3 A 1 cp 3 (-1)) 17 d 0 12) 11 0 b ((A 11 0 b) + 4000) := eu3
    rw [eu3] at hV
    exact er_vret hx hb hr hlocks hV hS dL_supplierHearsOfLoss_37 (Eq.symm (by unfold z_L_supplierHearsOfLoss_c; simp only [if_neg h1]))

def z_L_supplierTakes_n (A : ew_R) (d : Nat) (t : Nat) (g : Nat) (n : Nat) (w : Nat) : List (Nat × Nat) × ew_R :=
  if A 6 t 1 = 1 then
    if A 17 d 0 = 0 then
      ([], (z_Deal_turn A d 1 1))
    else
      ([], (z_Deal_turn A d 0 1))
  else
    if A 6 t 1 = 2 then
      ([], A)
    else
      if A 6 t 1 = 3 then
        ([], A)
      else
        if A 6 t 1 = 4 then
          ([], A)
        else
          if A 6 t 1 = 5 then
            if A 17 d 0 = 2 then
              ([], (z_Deal_turn A d 1 1))
            else
              ([], (z_Deal_turn A d 0 1))
          else
            if A 6 t 1 = 6 then
              if A 17 d 0 = 2 then
                ([], (z_Deal_turn A d 1 10))
              else
                ([], (z_Deal_turn A d 0 10))
            else
              if A 6 t 1 = 7 then
                ([], A)
              else
                if A 6 t 1 = 8 then
                  if A 17 d 0 = 4 then
                    ([], (z_Deal_turn A d 1 5))
                  else
                    ([], (z_Deal_turn A d 0 5))
                else
                  if A 6 t 1 = 9 then
                    if A 17 d 0 = 5 then
                      ([], (z_Deal_turn A d 1 6))
                    else
                      ([], (z_Deal_turn A d 0 6))
                  else
                    if A 6 t 1 = 10 then
                      ([], A)
                    else
                      if A 6 t 1 = 11 then
                        ([], A)
                      else
                        if A 6 t 1 = 12 then
                          ([], (z_Deal_turn A d (z_Lender_isOut (A 17 d 0)) 8))
                        else
                          if A 6 t 1 = 13 then
                            ([], A)
                          else
                            if A 6 t 1 = 14 then
                              ([], (z_L_supplierHearsOfLoss_n A d))
                            else
                              if A 6 t 1 = 15 then
                                ((z_L_supplierIsCancelled_n A d g n w).1, (z_L_supplierIsCancelled_n A d g n w).2)
                              else
                                ([], A)
set_option maxHeartbeats 4000000 in
set_option maxRecDepth 100000 in
theorem c_L_supplierTakes_n (l : Launch) (D : va_G) (T : Nat → ClassId) (t0 : Nat × Nat) (X : Nat → Nat → Nat) (L : List Nat) (tg : Nat → Nat × Nat) (sz : Nat) (A : ew_R) (d : Nat) (t : Nat) (th : Nat) (hth : ew_in X L tg 0 0 th) (dl : Nat) (hdl : ew_in X L tg 4 d dl) (lt : Nat) (hlt : ew_in X L tg 6 t lt) (g : Nat) (n : Nat) (w : Nat) (e17_0 : ew_in X L tg 17 d (X 17 d)) (e15_1 : ew_in X L tg 15 d (X 15 d)) (e16_2 : ew_in X L tg 16 d (X 16 d)) (e7_3 : ew_in X L tg 7 0 (X 7 0)) (e12_4 : ew_in X L tg 12 0 (X 12 0)) (hd : d < 192) (hn : n < 512) (hLS : lsC 16 20 t0 X L tg A d g n) (hw : w ≤ 64) (qw : A 7 0 1 = nI w) (hcl : clC X L tg A) (hnl : ∀ b ∈ L, (19, 512 * d + n) ≠ tg b) (hnew : ∀ b ∈ L, (20, 64 * d + g + 1) ≠ tg b) (q4 : A 4 d 4 = (-1)) (hout : z_Lender_isOut (A 17 d 0) = 0) : Met l yL_supplierTakes wsL_supplierTakes ({ frames := 11, cells := 2, slots := 1004, locals := 350 }) (em_Pc D vwCl (tysA T) (cfC T) t0 X L tg A sz [.ref th, .ref dl, .ref lt]) (em_Qv D vwCl (cfC T) L sz (fun u => em_S (z_L_supplierTakes_n A d t g n w).1 X L tg u.1 u.2.1 u.2.2.1 ∧ u.2.2.2 = (z_L_supplierTakes_n A d t g n w).2)) 2 1004 (ew_A L sz) := by
  refine em_met (by decide) rfl (Nat.le_of_ble_eq_true rfl) ?_
  intro p e s m below meth c ls hx hb hr hts hown hlocks hml hnm hV hK hN hZ hS hA hl hsz
  subst hsz
  have hl : lv_has ls 4 [(0, .ref th), (1, .ref dl), (2, .ref lt)] := hl
  refine lv_aload_n hx hb dL_supplierTakes_0 rfl (lv_at hl 1 rfl) ?_
  refine ew_get (v := .ref (X 17 d)) hx hb hts hown hK hV fL_128 hdl (cC_4 _ _ _ _) rfl dL_supplierTakes_1 ?_
  refine ew_get (v := .int (A 17 d 0)) hx hb hts hown hK hV fL_111 e17_0 (cC_17 _ _ _ _) rfl dL_supplierTakes_4 ?_
  refine lv_istore_n (lv' := [(3, .int (A 17 d 0)), (0, .ref th), (1, .ref dl), (2, .ref lt)]) hx hb dL_supplierTakes_7 rfl hl (by decide) rfl (fun ls hl => ?_)
  refine lv_aload_n hx hb dL_supplierTakes_8 rfl (lv_at hl 3 rfl) ?_
  refine ew_get (v := .int (A 6 t 1)) hx hb hts hown hK hV fL_350 hlt (cC_6 _ _ _ _) rfl dL_supplierTakes_9 ?_
  by_cases h1 : A 6 t 1 = 1
  · refine lv_tableIn (tgt := 88) hx hb dL_supplierTakes_12 (by rw [h1]; decide) (by rw [h1]; decide) (by rw [h1]; rfl) rfl ?_
    refine lv_aload_n hx hb dL_supplierTakes_88 rfl (lv_at hl 2 rfl) ?_
    refine lv_iload_n hx hb dL_supplierTakes_89 rfl (lv_at hl 0 rfl) ?_
    refine lv_if_ne (tgt := 97) hx hb dL_supplierTakes_90 rfl (fun h2 => ?_) (fun h2 => ?_)
    · refine lv_iconst (v := 0) hx hb dL_supplierTakes_97 (by decide) ?_
      refine lv_iconst (v := 1) hx hb dL_supplierTakes_98 (by decide) ?_
      refine er_callv (va_runV (As := [.int 0, .int 1]) (rest := []) ⟨hx, hb, hml, hown, hts⟩ (c_Deal_turn l D T X L tg _ A d dl hdl 0 1 e17_0) (cwV 2 hts gL_353 rfl rfl rfl (by decide +kernel) ⟨Nat.le_of_ble_eq_true rfl, Nat.le_of_ble_eq_true rfl⟩) (ec_preV hK hN hV hdl (cC_4 _ _ _ _) rfl) rfl rfl hl.1 rfl (lv_room (Nat.le_of_ble_eq_true rfl)) dL_supplierTakes_99 ⟨Nat.le_of_ble_eq_true rfl, Nat.le_of_ble_eq_true rfl⟩) hV hS hA (fun u3 H locs eu3 hV hS => ?_)
      have eu3 : u3 = z_Deal_turn A d 0 1 := eu3
      refine lv_goto (tgt := 208) hx hb dL_supplierTakes_102 rfl ?_
      rw [eu3] at hV
      rw [show z_L_supplierTakes_n A d t g n w = ([], (z_Deal_turn A d 0 1)) by unfold z_L_supplierTakes_n; simp only [if_pos h1, if_neg h2]]
      refine W.widen (k := 2) (n := 1004) (Nat.le_of_ble_eq_true rfl) (Nat.le_of_ble_eq_true rfl) ?_
      exact em_vret hx hb hr hlocks hV hS dL_supplierTakes_208 ⟨em_S.nil, rfl⟩
    · refine lv_iconst (v := 1) hx hb dL_supplierTakes_93 (by decide) ?_
      refine lv_goto (tgt := 98) hx hb dL_supplierTakes_94 rfl ?_
      refine lv_iconst (v := 1) hx hb dL_supplierTakes_98 (by decide) ?_
      refine er_callv (va_runV (As := [.int 1, .int 1]) (rest := []) ⟨hx, hb, hml, hown, hts⟩ (c_Deal_turn l D T X L tg _ A d dl hdl 1 1 e17_0) (cwV 2 hts gL_353 rfl rfl rfl (by decide +kernel) ⟨Nat.le_of_ble_eq_true rfl, Nat.le_of_ble_eq_true rfl⟩) (ec_preV hK hN hV hdl (cC_4 _ _ _ _) rfl) rfl rfl hl.1 rfl (lv_room (Nat.le_of_ble_eq_true rfl)) dL_supplierTakes_99 ⟨Nat.le_of_ble_eq_true rfl, Nat.le_of_ble_eq_true rfl⟩) hV hS hA (fun u4 H locs eu4 hV hS => ?_)
      have eu4 : u4 = z_Deal_turn A d 1 1 := eu4
      refine lv_goto (tgt := 208) hx hb dL_supplierTakes_102 rfl ?_
      rw [eu4] at hV
      rw [show z_L_supplierTakes_n A d t g n w = ([], (z_Deal_turn A d 1 1)) by unfold z_L_supplierTakes_n; simp only [if_pos h1, if_pos h2]]
      refine W.widen (k := 2) (n := 1004) (Nat.le_of_ble_eq_true rfl) (Nat.le_of_ble_eq_true rfl) ?_
      exact em_vret hx hb hr hlocks hV hS dL_supplierTakes_208 ⟨em_S.nil, rfl⟩
  · by_cases h5 : A 6 t 1 = 2
    · refine lv_tableIn (tgt := 208) hx hb dL_supplierTakes_12 (by rw [h5]; decide) (by rw [h5]; decide) (by rw [h5]; rfl) rfl ?_
      rw [show z_L_supplierTakes_n A d t g n w = ([], A) by unfold z_L_supplierTakes_n; simp only [if_neg h1, if_pos h5]]
      refine W.widen (k := 2) (n := 1004) (Nat.le_of_ble_eq_true rfl) (Nat.le_of_ble_eq_true rfl) ?_
      exact em_vret hx hb hr hlocks hV hS dL_supplierTakes_208 ⟨em_S.nil, rfl⟩
    · by_cases h6 : A 6 t 1 = 3
      · refine lv_tableIn (tgt := 208) hx hb dL_supplierTakes_12 (by rw [h6]; decide) (by rw [h6]; decide) (by rw [h6]; rfl) rfl ?_
        rw [show z_L_supplierTakes_n A d t g n w = ([], A) by unfold z_L_supplierTakes_n; simp only [if_neg h1, if_neg h5, if_pos h6]]
        refine W.widen (k := 2) (n := 1004) (Nat.le_of_ble_eq_true rfl) (Nat.le_of_ble_eq_true rfl) ?_
        exact em_vret hx hb hr hlocks hV hS dL_supplierTakes_208 ⟨em_S.nil, rfl⟩
      · by_cases h7 : A 6 t 1 = 4
        · refine lv_tableIn (tgt := 208) hx hb dL_supplierTakes_12 (by rw [h7]; decide) (by rw [h7]; decide) (by rw [h7]; rfl) rfl ?_
          rw [show z_L_supplierTakes_n A d t g n w = ([], A) by unfold z_L_supplierTakes_n; simp only [if_neg h1, if_neg h5, if_neg h6, if_pos h7]]
          refine W.widen (k := 2) (n := 1004) (Nat.le_of_ble_eq_true rfl) (Nat.le_of_ble_eq_true rfl) ?_
          exact em_vret hx hb hr hlocks hV hS dL_supplierTakes_208 ⟨em_S.nil, rfl⟩
        · by_cases h8 : A 6 t 1 = 5
          · refine lv_tableIn (tgt := 105) hx hb dL_supplierTakes_12 (by rw [h8]; decide) (by rw [h8]; decide) (by rw [h8]; rfl) rfl ?_
            refine lv_aload_n hx hb dL_supplierTakes_105 rfl (lv_at hl 2 rfl) ?_
            refine lv_iload_n hx hb dL_supplierTakes_106 rfl (lv_at hl 0 rfl) ?_
            refine lv_iconst (v := 2) hx hb dL_supplierTakes_107 (by decide) ?_
            refine lv_icmp_ne (tgt := 115) hx hb dL_supplierTakes_108 rfl (fun h9 => ?_) (fun h9 => ?_)
            · refine lv_iconst (v := 0) hx hb dL_supplierTakes_115 (by decide) ?_
              refine lv_iconst (v := 1) hx hb dL_supplierTakes_116 (by decide) ?_
              refine er_callv (va_runV (As := [.int 0, .int 1]) (rest := []) ⟨hx, hb, hml, hown, hts⟩ (c_Deal_turn l D T X L tg _ A d dl hdl 0 1 e17_0) (cwV 2 hts gL_353 rfl rfl rfl (by decide +kernel) ⟨Nat.le_of_ble_eq_true rfl, Nat.le_of_ble_eq_true rfl⟩) (ec_preV hK hN hV hdl (cC_4 _ _ _ _) rfl) rfl rfl hl.1 rfl (lv_room (Nat.le_of_ble_eq_true rfl)) dL_supplierTakes_117 ⟨Nat.le_of_ble_eq_true rfl, Nat.le_of_ble_eq_true rfl⟩) hV hS hA (fun u10 H locs eu10 hV hS => ?_)
              have eu10 : u10 = z_Deal_turn A d 0 1 := eu10
              refine lv_goto (tgt := 208) hx hb dL_supplierTakes_120 rfl ?_
              rw [eu10] at hV
              rw [show z_L_supplierTakes_n A d t g n w = ([], (z_Deal_turn A d 0 1)) by unfold z_L_supplierTakes_n; simp only [if_neg h1, if_neg h5, if_neg h6, if_neg h7, if_pos h8, if_neg h9]]
              refine W.widen (k := 2) (n := 1004) (Nat.le_of_ble_eq_true rfl) (Nat.le_of_ble_eq_true rfl) ?_
              exact em_vret hx hb hr hlocks hV hS dL_supplierTakes_208 ⟨em_S.nil, rfl⟩
            · refine lv_iconst (v := 1) hx hb dL_supplierTakes_111 (by decide) ?_
              refine lv_goto (tgt := 116) hx hb dL_supplierTakes_112 rfl ?_
              refine lv_iconst (v := 1) hx hb dL_supplierTakes_116 (by decide) ?_
              refine er_callv (va_runV (As := [.int 1, .int 1]) (rest := []) ⟨hx, hb, hml, hown, hts⟩ (c_Deal_turn l D T X L tg _ A d dl hdl 1 1 e17_0) (cwV 2 hts gL_353 rfl rfl rfl (by decide +kernel) ⟨Nat.le_of_ble_eq_true rfl, Nat.le_of_ble_eq_true rfl⟩) (ec_preV hK hN hV hdl (cC_4 _ _ _ _) rfl) rfl rfl hl.1 rfl (lv_room (Nat.le_of_ble_eq_true rfl)) dL_supplierTakes_117 ⟨Nat.le_of_ble_eq_true rfl, Nat.le_of_ble_eq_true rfl⟩) hV hS hA (fun u11 H locs eu11 hV hS => ?_)
              have eu11 : u11 = z_Deal_turn A d 1 1 := eu11
              refine lv_goto (tgt := 208) hx hb dL_supplierTakes_120 rfl ?_
              rw [eu11] at hV
              rw [show z_L_supplierTakes_n A d t g n w = ([], (z_Deal_turn A d 1 1)) by unfold z_L_supplierTakes_n; simp only [if_neg h1, if_neg h5, if_neg h6, if_neg h7, if_pos h8, if_pos h9]]
              refine W.widen (k := 2) (n := 1004) (Nat.le_of_ble_eq_true rfl) (Nat.le_of_ble_eq_true rfl) ?_
              exact em_vret hx hb hr hlocks hV hS dL_supplierTakes_208 ⟨em_S.nil, rfl⟩
          · by_cases h12 : A 6 t 1 = 6
            · refine lv_tableIn (tgt := 123) hx hb dL_supplierTakes_12 (by rw [h12]; decide) (by rw [h12]; decide) (by rw [h12]; rfl) rfl ?_
              refine lv_aload_n hx hb dL_supplierTakes_123 rfl (lv_at hl 2 rfl) ?_
              refine lv_iload_n hx hb dL_supplierTakes_124 rfl (lv_at hl 0 rfl) ?_
              refine lv_iconst (v := 2) hx hb dL_supplierTakes_125 (by decide) ?_
              refine lv_icmp_ne (tgt := 133) hx hb dL_supplierTakes_126 rfl (fun h13 => ?_) (fun h13 => ?_)
              · refine lv_iconst (v := 0) hx hb dL_supplierTakes_133 (by decide) ?_
                refine lv_bipush (v := 10) hx hb dL_supplierTakes_134 (by decide) ?_
                refine er_callv (va_runV (As := [.int 0, .int 10]) (rest := []) ⟨hx, hb, hml, hown, hts⟩ (c_Deal_turn l D T X L tg _ A d dl hdl 0 10 e17_0) (cwV 2 hts gL_353 rfl rfl rfl (by decide +kernel) ⟨Nat.le_of_ble_eq_true rfl, Nat.le_of_ble_eq_true rfl⟩) (ec_preV hK hN hV hdl (cC_4 _ _ _ _) rfl) rfl rfl hl.1 rfl (lv_room (Nat.le_of_ble_eq_true rfl)) dL_supplierTakes_136 ⟨Nat.le_of_ble_eq_true rfl, Nat.le_of_ble_eq_true rfl⟩) hV hS hA (fun u14 H locs eu14 hV hS => ?_)
                have eu14 : u14 = z_Deal_turn A d 0 10 := eu14
                refine lv_goto (tgt := 208) hx hb dL_supplierTakes_139 rfl ?_
                rw [eu14] at hV
                rw [show z_L_supplierTakes_n A d t g n w = ([], (z_Deal_turn A d 0 10)) by unfold z_L_supplierTakes_n; simp only [if_neg h1, if_neg h5, if_neg h6, if_neg h7, if_neg h8, if_pos h12, if_neg h13]]
                refine W.widen (k := 2) (n := 1004) (Nat.le_of_ble_eq_true rfl) (Nat.le_of_ble_eq_true rfl) ?_
                exact em_vret hx hb hr hlocks hV hS dL_supplierTakes_208 ⟨em_S.nil, rfl⟩
              · refine lv_iconst (v := 1) hx hb dL_supplierTakes_129 (by decide) ?_
                refine lv_goto (tgt := 134) hx hb dL_supplierTakes_130 rfl ?_
                refine lv_bipush (v := 10) hx hb dL_supplierTakes_134 (by decide) ?_
                refine er_callv (va_runV (As := [.int 1, .int 10]) (rest := []) ⟨hx, hb, hml, hown, hts⟩ (c_Deal_turn l D T X L tg _ A d dl hdl 1 10 e17_0) (cwV 2 hts gL_353 rfl rfl rfl (by decide +kernel) ⟨Nat.le_of_ble_eq_true rfl, Nat.le_of_ble_eq_true rfl⟩) (ec_preV hK hN hV hdl (cC_4 _ _ _ _) rfl) rfl rfl hl.1 rfl (lv_room (Nat.le_of_ble_eq_true rfl)) dL_supplierTakes_136 ⟨Nat.le_of_ble_eq_true rfl, Nat.le_of_ble_eq_true rfl⟩) hV hS hA (fun u15 H locs eu15 hV hS => ?_)
                have eu15 : u15 = z_Deal_turn A d 1 10 := eu15
                refine lv_goto (tgt := 208) hx hb dL_supplierTakes_139 rfl ?_
                rw [eu15] at hV
                rw [show z_L_supplierTakes_n A d t g n w = ([], (z_Deal_turn A d 1 10)) by unfold z_L_supplierTakes_n; simp only [if_neg h1, if_neg h5, if_neg h6, if_neg h7, if_neg h8, if_pos h12, if_pos h13]]
                refine W.widen (k := 2) (n := 1004) (Nat.le_of_ble_eq_true rfl) (Nat.le_of_ble_eq_true rfl) ?_
                exact em_vret hx hb hr hlocks hV hS dL_supplierTakes_208 ⟨em_S.nil, rfl⟩
            · by_cases h16 : A 6 t 1 = 7
              · refine lv_tableIn (tgt := 208) hx hb dL_supplierTakes_12 (by rw [h16]; decide) (by rw [h16]; decide) (by rw [h16]; rfl) rfl ?_
                rw [show z_L_supplierTakes_n A d t g n w = ([], A) by unfold z_L_supplierTakes_n; simp only [if_neg h1, if_neg h5, if_neg h6, if_neg h7, if_neg h8, if_neg h12, if_pos h16]]
                refine W.widen (k := 2) (n := 1004) (Nat.le_of_ble_eq_true rfl) (Nat.le_of_ble_eq_true rfl) ?_
                exact em_vret hx hb hr hlocks hV hS dL_supplierTakes_208 ⟨em_S.nil, rfl⟩
              · by_cases h17 : A 6 t 1 = 8
                · refine lv_tableIn (tgt := 150) hx hb dL_supplierTakes_12 (by rw [h17]; decide) (by rw [h17]; decide) (by rw [h17]; rfl) rfl ?_
                  refine lv_aload_n hx hb dL_supplierTakes_150 rfl (lv_at hl 2 rfl) ?_
                  refine lv_iload_n hx hb dL_supplierTakes_151 rfl (lv_at hl 0 rfl) ?_
                  refine lv_iconst (v := 4) hx hb dL_supplierTakes_152 (by decide) ?_
                  refine lv_icmp_ne (tgt := 160) hx hb dL_supplierTakes_153 rfl (fun h18 => ?_) (fun h18 => ?_)
                  · refine lv_iconst (v := 0) hx hb dL_supplierTakes_160 (by decide) ?_
                    refine lv_iconst (v := 5) hx hb dL_supplierTakes_161 (by decide) ?_
                    refine er_callv (va_runV (As := [.int 0, .int 5]) (rest := []) ⟨hx, hb, hml, hown, hts⟩ (c_Deal_turn l D T X L tg _ A d dl hdl 0 5 e17_0) (cwV 2 hts gL_353 rfl rfl rfl (by decide +kernel) ⟨Nat.le_of_ble_eq_true rfl, Nat.le_of_ble_eq_true rfl⟩) (ec_preV hK hN hV hdl (cC_4 _ _ _ _) rfl) rfl rfl hl.1 rfl (lv_room (Nat.le_of_ble_eq_true rfl)) dL_supplierTakes_162 ⟨Nat.le_of_ble_eq_true rfl, Nat.le_of_ble_eq_true rfl⟩) hV hS hA (fun u19 H locs eu19 hV hS => ?_)
                    have eu19 : u19 = z_Deal_turn A d 0 5 := eu19
                    refine lv_goto (tgt := 208) hx hb dL_supplierTakes_165 rfl ?_
                    rw [eu19] at hV
                    rw [show z_L_supplierTakes_n A d t g n w = ([], (z_Deal_turn A d 0 5)) by unfold z_L_supplierTakes_n; simp only [if_neg h1, if_neg h5, if_neg h6, if_neg h7, if_neg h8, if_neg h12, if_neg h16, if_pos h17, if_neg h18]]
                    refine W.widen (k := 2) (n := 1004) (Nat.le_of_ble_eq_true rfl) (Nat.le_of_ble_eq_true rfl) ?_
                    exact em_vret hx hb hr hlocks hV hS dL_supplierTakes_208 ⟨em_S.nil, rfl⟩
                  · refine lv_iconst (v := 1) hx hb dL_supplierTakes_156 (by decide) ?_
                    refine lv_goto (tgt := 161) hx hb dL_supplierTakes_157 rfl ?_
                    refine lv_iconst (v := 5) hx hb dL_supplierTakes_161 (by decide) ?_
                    refine er_callv (va_runV (As := [.int 1, .int 5]) (rest := []) ⟨hx, hb, hml, hown, hts⟩ (c_Deal_turn l D T X L tg _ A d dl hdl 1 5 e17_0) (cwV 2 hts gL_353 rfl rfl rfl (by decide +kernel) ⟨Nat.le_of_ble_eq_true rfl, Nat.le_of_ble_eq_true rfl⟩) (ec_preV hK hN hV hdl (cC_4 _ _ _ _) rfl) rfl rfl hl.1 rfl (lv_room (Nat.le_of_ble_eq_true rfl)) dL_supplierTakes_162 ⟨Nat.le_of_ble_eq_true rfl, Nat.le_of_ble_eq_true rfl⟩) hV hS hA (fun u20 H locs eu20 hV hS => ?_)
                    have eu20 : u20 = z_Deal_turn A d 1 5 := eu20
                    refine lv_goto (tgt := 208) hx hb dL_supplierTakes_165 rfl ?_
                    rw [eu20] at hV
                    rw [show z_L_supplierTakes_n A d t g n w = ([], (z_Deal_turn A d 1 5)) by unfold z_L_supplierTakes_n; simp only [if_neg h1, if_neg h5, if_neg h6, if_neg h7, if_neg h8, if_neg h12, if_neg h16, if_pos h17, if_pos h18]]
                    refine W.widen (k := 2) (n := 1004) (Nat.le_of_ble_eq_true rfl) (Nat.le_of_ble_eq_true rfl) ?_
                    exact em_vret hx hb hr hlocks hV hS dL_supplierTakes_208 ⟨em_S.nil, rfl⟩
                · by_cases h21 : A 6 t 1 = 9
                  · refine lv_tableIn (tgt := 168) hx hb dL_supplierTakes_12 (by rw [h21]; decide) (by rw [h21]; decide) (by rw [h21]; rfl) rfl ?_
                    refine lv_aload_n hx hb dL_supplierTakes_168 rfl (lv_at hl 2 rfl) ?_
                    refine lv_iload_n hx hb dL_supplierTakes_169 rfl (lv_at hl 0 rfl) ?_
                    refine lv_iconst (v := 5) hx hb dL_supplierTakes_170 (by decide) ?_
                    refine lv_icmp_ne (tgt := 178) hx hb dL_supplierTakes_171 rfl (fun h22 => ?_) (fun h22 => ?_)
                    · refine lv_iconst (v := 0) hx hb dL_supplierTakes_178 (by decide) ?_
                      refine lv_bipush (v := 6) hx hb dL_supplierTakes_179 (by decide) ?_
                      refine er_callv (va_runV (As := [.int 0, .int 6]) (rest := []) ⟨hx, hb, hml, hown, hts⟩ (c_Deal_turn l D T X L tg _ A d dl hdl 0 6 e17_0) (cwV 2 hts gL_353 rfl rfl rfl (by decide +kernel) ⟨Nat.le_of_ble_eq_true rfl, Nat.le_of_ble_eq_true rfl⟩) (ec_preV hK hN hV hdl (cC_4 _ _ _ _) rfl) rfl rfl hl.1 rfl (lv_room (Nat.le_of_ble_eq_true rfl)) dL_supplierTakes_181 ⟨Nat.le_of_ble_eq_true rfl, Nat.le_of_ble_eq_true rfl⟩) hV hS hA (fun u23 H locs eu23 hV hS => ?_)
                      have eu23 : u23 = z_Deal_turn A d 0 6 := eu23
                      refine lv_goto (tgt := 208) hx hb dL_supplierTakes_184 rfl ?_
                      rw [eu23] at hV
                      rw [show z_L_supplierTakes_n A d t g n w = ([], (z_Deal_turn A d 0 6)) by unfold z_L_supplierTakes_n; simp only [if_neg h1, if_neg h5, if_neg h6, if_neg h7, if_neg h8, if_neg h12, if_neg h16, if_neg h17, if_pos h21, if_neg h22]]
                      refine W.widen (k := 2) (n := 1004) (Nat.le_of_ble_eq_true rfl) (Nat.le_of_ble_eq_true rfl) ?_
                      exact em_vret hx hb hr hlocks hV hS dL_supplierTakes_208 ⟨em_S.nil, rfl⟩
                    · refine lv_iconst (v := 1) hx hb dL_supplierTakes_174 (by decide) ?_
                      refine lv_goto (tgt := 179) hx hb dL_supplierTakes_175 rfl ?_
                      refine lv_bipush (v := 6) hx hb dL_supplierTakes_179 (by decide) ?_
                      refine er_callv (va_runV (As := [.int 1, .int 6]) (rest := []) ⟨hx, hb, hml, hown, hts⟩ (c_Deal_turn l D T X L tg _ A d dl hdl 1 6 e17_0) (cwV 2 hts gL_353 rfl rfl rfl (by decide +kernel) ⟨Nat.le_of_ble_eq_true rfl, Nat.le_of_ble_eq_true rfl⟩) (ec_preV hK hN hV hdl (cC_4 _ _ _ _) rfl) rfl rfl hl.1 rfl (lv_room (Nat.le_of_ble_eq_true rfl)) dL_supplierTakes_181 ⟨Nat.le_of_ble_eq_true rfl, Nat.le_of_ble_eq_true rfl⟩) hV hS hA (fun u24 H locs eu24 hV hS => ?_)
                      have eu24 : u24 = z_Deal_turn A d 1 6 := eu24
                      refine lv_goto (tgt := 208) hx hb dL_supplierTakes_184 rfl ?_
                      rw [eu24] at hV
                      rw [show z_L_supplierTakes_n A d t g n w = ([], (z_Deal_turn A d 1 6)) by unfold z_L_supplierTakes_n; simp only [if_neg h1, if_neg h5, if_neg h6, if_neg h7, if_neg h8, if_neg h12, if_neg h16, if_neg h17, if_pos h21, if_pos h22]]
                      refine W.widen (k := 2) (n := 1004) (Nat.le_of_ble_eq_true rfl) (Nat.le_of_ble_eq_true rfl) ?_
                      exact em_vret hx hb hr hlocks hV hS dL_supplierTakes_208 ⟨em_S.nil, rfl⟩
                  · by_cases h25 : A 6 t 1 = 10
                    · refine lv_tableIn (tgt := 208) hx hb dL_supplierTakes_12 (by rw [h25]; decide) (by rw [h25]; decide) (by rw [h25]; rfl) rfl ?_
                      rw [show z_L_supplierTakes_n A d t g n w = ([], A) by unfold z_L_supplierTakes_n; simp only [if_neg h1, if_neg h5, if_neg h6, if_neg h7, if_neg h8, if_neg h12, if_neg h16, if_neg h17, if_neg h21, if_pos h25]]
                      refine W.widen (k := 2) (n := 1004) (Nat.le_of_ble_eq_true rfl) (Nat.le_of_ble_eq_true rfl) ?_
                      exact em_vret hx hb hr hlocks hV hS dL_supplierTakes_208 ⟨em_S.nil, rfl⟩
                    · by_cases h26 : A 6 t 1 = 11
                      · refine lv_tableIn (tgt := 208) hx hb dL_supplierTakes_12 (by rw [h26]; decide) (by rw [h26]; decide) (by rw [h26]; rfl) rfl ?_
                        rw [show z_L_supplierTakes_n A d t g n w = ([], A) by unfold z_L_supplierTakes_n; simp only [if_neg h1, if_neg h5, if_neg h6, if_neg h7, if_neg h8, if_neg h12, if_neg h16, if_neg h17, if_neg h21, if_neg h25, if_pos h26]]
                        refine W.widen (k := 2) (n := 1004) (Nat.le_of_ble_eq_true rfl) (Nat.le_of_ble_eq_true rfl) ?_
                        exact em_vret hx hb hr hlocks hV hS dL_supplierTakes_208 ⟨em_S.nil, rfl⟩
                      · by_cases h27 : A 6 t 1 = 12
                        · refine lv_tableIn (tgt := 187) hx hb dL_supplierTakes_12 (by rw [h27]; decide) (by rw [h27]; decide) (by rw [h27]; rfl) rfl ?_
                          refine lv_aload_n hx hb dL_supplierTakes_187 rfl (lv_at hl 2 rfl) ?_
                          refine lv_iload_n hx hb dL_supplierTakes_188 rfl (lv_at hl 0 rfl) ?_
                          refine er_calli (va_runS (As := [.int (A 17 d 0)]) (rest := [.ref dl]) ⟨hx, hb, hml, hown, hts⟩ (c_Lender_isOut l D T X L tg _ A (A 17 d 0)) ⟨callB_of 1 hts gL_361.1 rfl rfl rfl (hts _ gL_361.2.2.2) (hts _ gL_361.2.1) (by decide +kernel) ⟨Nat.le_of_ble_eq_true rfl, Nat.le_of_ble_eq_true rfl⟩, hts _ gL_361.2.2.1⟩ (ec_preS hK hN hV) rfl rfl hl.1 rfl (lv_room (Nat.le_of_ble_eq_true rfl)) dL_supplierTakes_189 ⟨Nat.le_of_ble_eq_true rfl, Nat.le_of_ble_eq_true rfl⟩) hV hS hA (fun r u H locs hp hV hS => ?_)
                          obtain ⟨rfl, eu9⟩ := hp
                          rw [eu9] at hV
                          refine lv_bipush (v := 8) hx hb dL_supplierTakes_192 (by decide) ?_
                          refine er_callv (va_runV (As := [.int (z_Lender_isOut (A 17 d 0)), .int 8]) (rest := []) ⟨hx, hb, hml, hown, hts⟩ (c_Deal_turn l D T X L tg _ A d dl hdl (z_Lender_isOut (A 17 d 0)) 8 e17_0) (cwV 2 hts gL_353 rfl rfl rfl (by decide +kernel) ⟨Nat.le_of_ble_eq_true rfl, Nat.le_of_ble_eq_true rfl⟩) (ec_preV hK hN hV hdl (cC_4 _ _ _ _) rfl) rfl rfl hl.1 rfl (lv_room (Nat.le_of_ble_eq_true rfl)) dL_supplierTakes_194 ⟨Nat.le_of_ble_eq_true rfl, Nat.le_of_ble_eq_true rfl⟩) hV hS hA (fun u28 H locs eu28 hV hS => ?_)
                          have eu28 : u28 = z_Deal_turn A d (z_Lender_isOut (A 17 d 0)) 8 := eu28
                          refine lv_goto (tgt := 208) hx hb dL_supplierTakes_197 rfl ?_
                          rw [eu28] at hV
                          rw [show z_L_supplierTakes_n A d t g n w = ([], (z_Deal_turn A d (z_Lender_isOut (A 17 d 0)) 8)) by unfold z_L_supplierTakes_n; simp only [if_neg h1, if_neg h5, if_neg h6, if_neg h7, if_neg h8, if_neg h12, if_neg h16, if_neg h17, if_neg h21, if_neg h25, if_neg h26, if_pos h27]]
                          refine W.widen (k := 2) (n := 1004) (Nat.le_of_ble_eq_true rfl) (Nat.le_of_ble_eq_true rfl) ?_
                          exact em_vret hx hb hr hlocks hV hS dL_supplierTakes_208 ⟨em_S.nil, rfl⟩
                        · by_cases h29 : A 6 t 1 = 13
                          · refine lv_tableIn (tgt := 208) hx hb dL_supplierTakes_12 (by rw [h29]; decide) (by rw [h29]; decide) (by rw [h29]; rfl) rfl ?_
                            rw [show z_L_supplierTakes_n A d t g n w = ([], A) by unfold z_L_supplierTakes_n; simp only [if_neg h1, if_neg h5, if_neg h6, if_neg h7, if_neg h8, if_neg h12, if_neg h16, if_neg h17, if_neg h21, if_neg h25, if_neg h26, if_neg h27, if_pos h29]]
                            refine W.widen (k := 2) (n := 1004) (Nat.le_of_ble_eq_true rfl) (Nat.le_of_ble_eq_true rfl) ?_
                            exact em_vret hx hb hr hlocks hV hS dL_supplierTakes_208 ⟨em_S.nil, rfl⟩
                          · by_cases h30 : A 6 t 1 = 14
                            · refine lv_tableIn (tgt := 200) hx hb dL_supplierTakes_12 (by rw [h30]; decide) (by rw [h30]; decide) (by rw [h30]; rfl) rfl ?_
                              refine lv_aload_n hx hb dL_supplierTakes_200 rfl (lv_at hl 1 rfl) ?_
                              refine lv_aload_n hx hb dL_supplierTakes_201 rfl (lv_at hl 2 rfl) ?_
                              refine er_callv (va_runV (As := [.ref dl]) (rest := []) ⟨hx, hb, hml, hown, hts⟩ (c_L_supplierHearsOfLoss_n l D T X L tg _ A d th hth dl hdl e17_0 hout) (cwV 1 hts gL_364 rfl rfl rfl (by decide +kernel) ⟨Nat.le_of_ble_eq_true rfl, Nat.le_of_ble_eq_true rfl⟩) (ec_preV hK hN hV hth (cC_0 _ _ _ _) rfl) rfl rfl hl.1 rfl (lv_room (Nat.le_of_ble_eq_true rfl)) dL_supplierTakes_202 ⟨Nat.le_of_ble_eq_true rfl, Nat.le_of_ble_eq_true rfl⟩) hV hS hA (fun u31 H locs eu31 hV hS => ?_)
                              have eu31 : u31 = z_L_supplierHearsOfLoss_n A d := eu31
                              refine lv_goto (tgt := 208) hx hb dL_supplierTakes_205 rfl ?_
                              rw [eu31] at hV
                              rw [show z_L_supplierTakes_n A d t g n w = ([], (z_L_supplierHearsOfLoss_n A d)) by unfold z_L_supplierTakes_n; simp only [if_neg h1, if_neg h5, if_neg h6, if_neg h7, if_neg h8, if_neg h12, if_neg h16, if_neg h17, if_neg h21, if_neg h25, if_neg h26, if_neg h27, if_neg h29, if_pos h30]]
                              refine W.widen (k := 2) (n := 1004) (Nat.le_of_ble_eq_true rfl) (Nat.le_of_ble_eq_true rfl) ?_
                              exact em_vret hx hb hr hlocks hV hS dL_supplierTakes_208 ⟨em_S.nil, rfl⟩
                            · by_cases h32 : A 6 t 1 = 15
                              · refine lv_tableIn (tgt := 142) hx hb dL_supplierTakes_12 (by rw [h32]; decide) (by rw [h32]; decide) (by rw [h32]; rfl) rfl ?_
                                refine lv_aload_n hx hb dL_supplierTakes_142 rfl (lv_at hl 1 rfl) ?_
                                refine lv_aload_n hx hb dL_supplierTakes_143 rfl (lv_at hl 2 rfl) ?_
                                refine em_callv (va_runV (As := [.ref dl]) (rest := []) ⟨hx, hb, hml, hown, hts⟩ (c_L_supplierIsCancelled_n l D T t0 X L tg _ A d th hth dl hdl g n w e17_0 e15_1 e16_2 e7_3 e12_4 hd hn hLS hw qw hcl hnl hnew q4) (cwV 1 hts gL_357 rfl rfl rfl (by decide +kernel) ⟨Nat.le_of_ble_eq_true rfl, Nat.le_of_ble_eq_true rfl⟩) (em_preV hK hN hV hZ hS hA hth (cC_0 _ _ _ _) rfl) rfl rfl hl.1 rfl (lv_room (Nat.le_of_ble_eq_true rfl)) dL_supplierTakes_144 ⟨Nat.le_of_ble_eq_true rfl, Nat.le_of_ble_eq_true rfl⟩) hV hS hA (fun X1 L1 tg1 u H locs hp hV hS => ?_)
                                obtain ⟨hS9, eA9⟩ := hp
                                refine lv_goto (tgt := 208) hx hb dL_supplierTakes_147 rfl ?_
                                rw [show z_L_supplierTakes_n A d t g n w = ((z_L_supplierIsCancelled_n A d g n w).1, (z_L_supplierIsCancelled_n A d g n w).2) by unfold z_L_supplierTakes_n; simp only [if_neg h1, if_neg h5, if_neg h6, if_neg h7, if_neg h8, if_neg h12, if_neg h16, if_neg h17, if_neg h21, if_neg h25, if_neg h26, if_neg h27, if_neg h29, if_neg h30, if_pos h32]]
                                exact em_vret hx hb hr hlocks hV hS dL_supplierTakes_208 ⟨hS9, eA9⟩
                              · refine lv_tableOut (tgt := 208) hx hb dL_supplierTakes_12 (by have a0 := lv_neT (a := 1) h1 (by decide); have a1 := lv_neT (a := 2) h5 (by decide); have a2 := lv_neT (a := 3) h6 (by decide); have a3 := lv_neT (a := 4) h7 (by decide); have a4 := lv_neT (a := 5) h8 (by decide); have a5 := lv_neT (a := 6) h12 (by decide); have a6 := lv_neT (a := 7) h16 (by decide); have a7 := lv_neT (a := 8) h17 (by decide); have a8 := lv_neT (a := 9) h21 (by decide); have a9 := lv_neT (a := 10) h25 (by decide); have a10 := lv_neT (a := 11) h26 (by decide); have a11 := lv_neT (a := 12) h27 (by decide); have a12 := lv_neT (a := 13) h29 (by decide); have a13 := lv_neT (a := 14) h30 (by decide); have a14 := lv_neT (a := 15) h32 (by decide); omega) rfl ?_
                                rw [show z_L_supplierTakes_n A d t g n w = ([], A) by unfold z_L_supplierTakes_n; simp only [if_neg h1, if_neg h5, if_neg h6, if_neg h7, if_neg h8, if_neg h12, if_neg h16, if_neg h17, if_neg h21, if_neg h25, if_neg h26, if_neg h27, if_neg h29, if_neg h30, if_neg h32]]
                                refine W.widen (k := 2) (n := 1004) (Nat.le_of_ble_eq_true rfl) (Nat.le_of_ble_eq_true rfl) ?_
                                exact em_vret hx hb hr hlocks hV hS dL_supplierTakes_208 ⟨em_S.nil, rfl⟩

def z_L_supplierTakes_c (A : ew_R) (d : Nat) (t : Nat) (g : Nat) (n : Nat) (w : Nat) (cp : Nat) (b : Nat) : List (Nat × Nat) × ew_R :=
  if A 6 t 1 = 1 then
    if A 17 d 0 = 0 then
      ([], (z_Deal_turn A d 1 1))
    else
      ([], (z_Deal_turn A d 0 1))
  else
    if A 6 t 1 = 2 then
      ([], A)
    else
      if A 6 t 1 = 3 then
        ([], A)
      else
        if A 6 t 1 = 4 then
          ([], A)
        else
          if A 6 t 1 = 5 then
            if A 17 d 0 = 2 then
              ([], (z_Deal_turn A d 1 1))
            else
              ([], (z_Deal_turn A d 0 1))
          else
            if A 6 t 1 = 6 then
              if A 17 d 0 = 2 then
                ([], (z_Deal_turn A d 1 10))
              else
                ([], (z_Deal_turn A d 0 10))
            else
              if A 6 t 1 = 7 then
                ([], A)
              else
                if A 6 t 1 = 8 then
                  if A 17 d 0 = 4 then
                    ([], (z_Deal_turn A d 1 5))
                  else
                    ([], (z_Deal_turn A d 0 5))
                else
                  if A 6 t 1 = 9 then
                    if A 17 d 0 = 5 then
                      ([], (z_Deal_turn A d 1 6))
                    else
                      ([], (z_Deal_turn A d 0 6))
                  else
                    if A 6 t 1 = 10 then
                      ([], A)
                    else
                      if A 6 t 1 = 11 then
                        ([], A)
                      else
                        if A 6 t 1 = 12 then
                          ([], (z_Deal_turn A d (z_Lender_isOut (A 17 d 0)) 8))
                        else
                          if A 6 t 1 = 13 then
                            ([], A)
                          else
                            if A 6 t 1 = 14 then
                              ([], (z_L_supplierHearsOfLoss_c A d cp b))
                            else
                              if A 6 t 1 = 15 then
                                ((z_L_supplierIsCancelled_c A d g n w cp).1, (z_L_supplierIsCancelled_c A d g n w cp).2)
                              else
                                ([], A)
set_option maxHeartbeats 4000000 in
set_option maxRecDepth 100000 in
theorem c_L_supplierTakes_c (l : Launch) (D : va_G) (T : Nat → ClassId) (t0 : Nat × Nat) (X : Nat → Nat → Nat) (L : List Nat) (tg : Nat → Nat × Nat) (sz : Nat) (A : ew_R) (d : Nat) (t : Nat) (th : Nat) (hth : ew_in X L tg 0 0 th) (dl : Nat) (hdl : ew_in X L tg 4 d dl) (lt : Nat) (hlt : ew_in X L tg 6 t lt) (g : Nat) (n : Nat) (w : Nat) (cp : Nat) (b : Nat) (e17_0 : ew_in X L tg 17 d (X 17 d)) (e15_1 : ew_in X L tg 15 d (X 15 d)) (e16_2 : ew_in X L tg 16 d (X 16 d)) (e7_3 : ew_in X L tg 7 0 (X 7 0)) (e12_4 : ew_in X L tg 12 0 (X 12 0)) (e1_5 : ew_in X L tg 1 cp (X 1 cp)) (e11_6 : ew_in X L tg 11 0 (X 11 0)) (hd : d < 192) (hn : n < 512) (hLS : lsC 16 20 t0 X L tg A d g n) (hw : w ≤ 64) (qw : A 7 0 1 = nI w) (hcl : clC X L tg A) (hnl : ∀ b ∈ L, (19, 512 * d + n) ≠ tg b) (hnew : ∀ b ∈ L, (20, 64 * d + g + 1) ≠ tg b) (hcp : cp < 32) (q4 : A 4 d 4 = nI cp) (hb6 : b < 6) (q0 : A 4 d 0 = nI b) : Met l yL_supplierTakes wsL_supplierTakes ({ frames := 11, cells := 2, slots := 1004, locals := 350 }) (em_Pc D vwCl (tysA T) (cfC T) t0 X L tg A sz [.ref th, .ref dl, .ref lt]) (em_Qv D vwCl (cfC T) L sz (fun u => em_S (z_L_supplierTakes_c A d t g n w cp b).1 X L tg u.1 u.2.1 u.2.2.1 ∧ u.2.2.2 = (z_L_supplierTakes_c A d t g n w cp b).2)) 2 1004 (ew_A L sz) := by
  refine em_met (by decide) rfl (Nat.le_of_ble_eq_true rfl) ?_
  intro p e s m below meth c ls hx hb hr hts hown hlocks hml hnm hV hK hN hZ hS hA hl hsz
  subst hsz
  have hl : lv_has ls 4 [(0, .ref th), (1, .ref dl), (2, .ref lt)] := hl
  refine lv_aload_n hx hb dL_supplierTakes_0 rfl (lv_at hl 1 rfl) ?_
  refine ew_get (v := .ref (X 17 d)) hx hb hts hown hK hV fL_128 hdl (cC_4 _ _ _ _) rfl dL_supplierTakes_1 ?_
  refine ew_get (v := .int (A 17 d 0)) hx hb hts hown hK hV fL_111 e17_0 (cC_17 _ _ _ _) rfl dL_supplierTakes_4 ?_
  refine lv_istore_n (lv' := [(3, .int (A 17 d 0)), (0, .ref th), (1, .ref dl), (2, .ref lt)]) hx hb dL_supplierTakes_7 rfl hl (by decide) rfl (fun ls hl => ?_)
  refine lv_aload_n hx hb dL_supplierTakes_8 rfl (lv_at hl 3 rfl) ?_
  refine ew_get (v := .int (A 6 t 1)) hx hb hts hown hK hV fL_350 hlt (cC_6 _ _ _ _) rfl dL_supplierTakes_9 ?_
  by_cases h1 : A 6 t 1 = 1
  · refine lv_tableIn (tgt := 88) hx hb dL_supplierTakes_12 (by rw [h1]; decide) (by rw [h1]; decide) (by rw [h1]; rfl) rfl ?_
    refine lv_aload_n hx hb dL_supplierTakes_88 rfl (lv_at hl 2 rfl) ?_
    refine lv_iload_n hx hb dL_supplierTakes_89 rfl (lv_at hl 0 rfl) ?_
    refine lv_if_ne (tgt := 97) hx hb dL_supplierTakes_90 rfl (fun h2 => ?_) (fun h2 => ?_)
    · refine lv_iconst (v := 0) hx hb dL_supplierTakes_97 (by decide) ?_
      refine lv_iconst (v := 1) hx hb dL_supplierTakes_98 (by decide) ?_
      refine er_callv (va_runV (As := [.int 0, .int 1]) (rest := []) ⟨hx, hb, hml, hown, hts⟩ (c_Deal_turn l D T X L tg _ A d dl hdl 0 1 e17_0) (cwV 2 hts gL_353 rfl rfl rfl (by decide +kernel) ⟨Nat.le_of_ble_eq_true rfl, Nat.le_of_ble_eq_true rfl⟩) (ec_preV hK hN hV hdl (cC_4 _ _ _ _) rfl) rfl rfl hl.1 rfl (lv_room (Nat.le_of_ble_eq_true rfl)) dL_supplierTakes_99 ⟨Nat.le_of_ble_eq_true rfl, Nat.le_of_ble_eq_true rfl⟩) hV hS hA (fun u3 H locs eu3 hV hS => ?_)
      have eu3 : u3 = z_Deal_turn A d 0 1 := eu3
      refine lv_goto (tgt := 208) hx hb dL_supplierTakes_102 rfl ?_
      rw [eu3] at hV
      rw [show z_L_supplierTakes_c A d t g n w cp b = ([], (z_Deal_turn A d 0 1)) by unfold z_L_supplierTakes_c; simp only [if_pos h1, if_neg h2]]
      refine W.widen (k := 2) (n := 1004) (Nat.le_of_ble_eq_true rfl) (Nat.le_of_ble_eq_true rfl) ?_
      exact em_vret hx hb hr hlocks hV hS dL_supplierTakes_208 ⟨em_S.nil, rfl⟩
    · refine lv_iconst (v := 1) hx hb dL_supplierTakes_93 (by decide) ?_
      refine lv_goto (tgt := 98) hx hb dL_supplierTakes_94 rfl ?_
      refine lv_iconst (v := 1) hx hb dL_supplierTakes_98 (by decide) ?_
      refine er_callv (va_runV (As := [.int 1, .int 1]) (rest := []) ⟨hx, hb, hml, hown, hts⟩ (c_Deal_turn l D T X L tg _ A d dl hdl 1 1 e17_0) (cwV 2 hts gL_353 rfl rfl rfl (by decide +kernel) ⟨Nat.le_of_ble_eq_true rfl, Nat.le_of_ble_eq_true rfl⟩) (ec_preV hK hN hV hdl (cC_4 _ _ _ _) rfl) rfl rfl hl.1 rfl (lv_room (Nat.le_of_ble_eq_true rfl)) dL_supplierTakes_99 ⟨Nat.le_of_ble_eq_true rfl, Nat.le_of_ble_eq_true rfl⟩) hV hS hA (fun u4 H locs eu4 hV hS => ?_)
      have eu4 : u4 = z_Deal_turn A d 1 1 := eu4
      refine lv_goto (tgt := 208) hx hb dL_supplierTakes_102 rfl ?_
      rw [eu4] at hV
      rw [show z_L_supplierTakes_c A d t g n w cp b = ([], (z_Deal_turn A d 1 1)) by unfold z_L_supplierTakes_c; simp only [if_pos h1, if_pos h2]]
      refine W.widen (k := 2) (n := 1004) (Nat.le_of_ble_eq_true rfl) (Nat.le_of_ble_eq_true rfl) ?_
      exact em_vret hx hb hr hlocks hV hS dL_supplierTakes_208 ⟨em_S.nil, rfl⟩
  · by_cases h5 : A 6 t 1 = 2
    · refine lv_tableIn (tgt := 208) hx hb dL_supplierTakes_12 (by rw [h5]; decide) (by rw [h5]; decide) (by rw [h5]; rfl) rfl ?_
      rw [show z_L_supplierTakes_c A d t g n w cp b = ([], A) by unfold z_L_supplierTakes_c; simp only [if_neg h1, if_pos h5]]
      refine W.widen (k := 2) (n := 1004) (Nat.le_of_ble_eq_true rfl) (Nat.le_of_ble_eq_true rfl) ?_
      exact em_vret hx hb hr hlocks hV hS dL_supplierTakes_208 ⟨em_S.nil, rfl⟩
    · by_cases h6 : A 6 t 1 = 3
      · refine lv_tableIn (tgt := 208) hx hb dL_supplierTakes_12 (by rw [h6]; decide) (by rw [h6]; decide) (by rw [h6]; rfl) rfl ?_
        rw [show z_L_supplierTakes_c A d t g n w cp b = ([], A) by unfold z_L_supplierTakes_c; simp only [if_neg h1, if_neg h5, if_pos h6]]
        refine W.widen (k := 2) (n := 1004) (Nat.le_of_ble_eq_true rfl) (Nat.le_of_ble_eq_true rfl) ?_
        exact em_vret hx hb hr hlocks hV hS dL_supplierTakes_208 ⟨em_S.nil, rfl⟩
      · by_cases h7 : A 6 t 1 = 4
        · refine lv_tableIn (tgt := 208) hx hb dL_supplierTakes_12 (by rw [h7]; decide) (by rw [h7]; decide) (by rw [h7]; rfl) rfl ?_
          rw [show z_L_supplierTakes_c A d t g n w cp b = ([], A) by unfold z_L_supplierTakes_c; simp only [if_neg h1, if_neg h5, if_neg h6, if_pos h7]]
          refine W.widen (k := 2) (n := 1004) (Nat.le_of_ble_eq_true rfl) (Nat.le_of_ble_eq_true rfl) ?_
          exact em_vret hx hb hr hlocks hV hS dL_supplierTakes_208 ⟨em_S.nil, rfl⟩
        · by_cases h8 : A 6 t 1 = 5
          · refine lv_tableIn (tgt := 105) hx hb dL_supplierTakes_12 (by rw [h8]; decide) (by rw [h8]; decide) (by rw [h8]; rfl) rfl ?_
            refine lv_aload_n hx hb dL_supplierTakes_105 rfl (lv_at hl 2 rfl) ?_
            refine lv_iload_n hx hb dL_supplierTakes_106 rfl (lv_at hl 0 rfl) ?_
            refine lv_iconst (v := 2) hx hb dL_supplierTakes_107 (by decide) ?_
            refine lv_icmp_ne (tgt := 115) hx hb dL_supplierTakes_108 rfl (fun h9 => ?_) (fun h9 => ?_)
            · refine lv_iconst (v := 0) hx hb dL_supplierTakes_115 (by decide) ?_
              refine lv_iconst (v := 1) hx hb dL_supplierTakes_116 (by decide) ?_
              refine er_callv (va_runV (As := [.int 0, .int 1]) (rest := []) ⟨hx, hb, hml, hown, hts⟩ (c_Deal_turn l D T X L tg _ A d dl hdl 0 1 e17_0) (cwV 2 hts gL_353 rfl rfl rfl (by decide +kernel) ⟨Nat.le_of_ble_eq_true rfl, Nat.le_of_ble_eq_true rfl⟩) (ec_preV hK hN hV hdl (cC_4 _ _ _ _) rfl) rfl rfl hl.1 rfl (lv_room (Nat.le_of_ble_eq_true rfl)) dL_supplierTakes_117 ⟨Nat.le_of_ble_eq_true rfl, Nat.le_of_ble_eq_true rfl⟩) hV hS hA (fun u10 H locs eu10 hV hS => ?_)
              have eu10 : u10 = z_Deal_turn A d 0 1 := eu10
              refine lv_goto (tgt := 208) hx hb dL_supplierTakes_120 rfl ?_
              rw [eu10] at hV
              rw [show z_L_supplierTakes_c A d t g n w cp b = ([], (z_Deal_turn A d 0 1)) by unfold z_L_supplierTakes_c; simp only [if_neg h1, if_neg h5, if_neg h6, if_neg h7, if_pos h8, if_neg h9]]
              refine W.widen (k := 2) (n := 1004) (Nat.le_of_ble_eq_true rfl) (Nat.le_of_ble_eq_true rfl) ?_
              exact em_vret hx hb hr hlocks hV hS dL_supplierTakes_208 ⟨em_S.nil, rfl⟩
            · refine lv_iconst (v := 1) hx hb dL_supplierTakes_111 (by decide) ?_
              refine lv_goto (tgt := 116) hx hb dL_supplierTakes_112 rfl ?_
              refine lv_iconst (v := 1) hx hb dL_supplierTakes_116 (by decide) ?_
              refine er_callv (va_runV (As := [.int 1, .int 1]) (rest := []) ⟨hx, hb, hml, hown, hts⟩ (c_Deal_turn l D T X L tg _ A d dl hdl 1 1 e17_0) (cwV 2 hts gL_353 rfl rfl rfl (by decide +kernel) ⟨Nat.le_of_ble_eq_true rfl, Nat.le_of_ble_eq_true rfl⟩) (ec_preV hK hN hV hdl (cC_4 _ _ _ _) rfl) rfl rfl hl.1 rfl (lv_room (Nat.le_of_ble_eq_true rfl)) dL_supplierTakes_117 ⟨Nat.le_of_ble_eq_true rfl, Nat.le_of_ble_eq_true rfl⟩) hV hS hA (fun u11 H locs eu11 hV hS => ?_)
              have eu11 : u11 = z_Deal_turn A d 1 1 := eu11
              refine lv_goto (tgt := 208) hx hb dL_supplierTakes_120 rfl ?_
              rw [eu11] at hV
              rw [show z_L_supplierTakes_c A d t g n w cp b = ([], (z_Deal_turn A d 1 1)) by unfold z_L_supplierTakes_c; simp only [if_neg h1, if_neg h5, if_neg h6, if_neg h7, if_pos h8, if_pos h9]]
              refine W.widen (k := 2) (n := 1004) (Nat.le_of_ble_eq_true rfl) (Nat.le_of_ble_eq_true rfl) ?_
              exact em_vret hx hb hr hlocks hV hS dL_supplierTakes_208 ⟨em_S.nil, rfl⟩
          · by_cases h12 : A 6 t 1 = 6
            · refine lv_tableIn (tgt := 123) hx hb dL_supplierTakes_12 (by rw [h12]; decide) (by rw [h12]; decide) (by rw [h12]; rfl) rfl ?_
              refine lv_aload_n hx hb dL_supplierTakes_123 rfl (lv_at hl 2 rfl) ?_
              refine lv_iload_n hx hb dL_supplierTakes_124 rfl (lv_at hl 0 rfl) ?_
              refine lv_iconst (v := 2) hx hb dL_supplierTakes_125 (by decide) ?_
              refine lv_icmp_ne (tgt := 133) hx hb dL_supplierTakes_126 rfl (fun h13 => ?_) (fun h13 => ?_)
              · refine lv_iconst (v := 0) hx hb dL_supplierTakes_133 (by decide) ?_
                refine lv_bipush (v := 10) hx hb dL_supplierTakes_134 (by decide) ?_
                refine er_callv (va_runV (As := [.int 0, .int 10]) (rest := []) ⟨hx, hb, hml, hown, hts⟩ (c_Deal_turn l D T X L tg _ A d dl hdl 0 10 e17_0) (cwV 2 hts gL_353 rfl rfl rfl (by decide +kernel) ⟨Nat.le_of_ble_eq_true rfl, Nat.le_of_ble_eq_true rfl⟩) (ec_preV hK hN hV hdl (cC_4 _ _ _ _) rfl) rfl rfl hl.1 rfl (lv_room (Nat.le_of_ble_eq_true rfl)) dL_supplierTakes_136 ⟨Nat.le_of_ble_eq_true rfl, Nat.le_of_ble_eq_true rfl⟩) hV hS hA (fun u14 H locs eu14 hV hS => ?_)
                have eu14 : u14 = z_Deal_turn A d 0 10 := eu14
                refine lv_goto (tgt := 208) hx hb dL_supplierTakes_139 rfl ?_
                rw [eu14] at hV
                rw [show z_L_supplierTakes_c A d t g n w cp b = ([], (z_Deal_turn A d 0 10)) by unfold z_L_supplierTakes_c; simp only [if_neg h1, if_neg h5, if_neg h6, if_neg h7, if_neg h8, if_pos h12, if_neg h13]]
                refine W.widen (k := 2) (n := 1004) (Nat.le_of_ble_eq_true rfl) (Nat.le_of_ble_eq_true rfl) ?_
                exact em_vret hx hb hr hlocks hV hS dL_supplierTakes_208 ⟨em_S.nil, rfl⟩
              · refine lv_iconst (v := 1) hx hb dL_supplierTakes_129 (by decide) ?_
                refine lv_goto (tgt := 134) hx hb dL_supplierTakes_130 rfl ?_
                refine lv_bipush (v := 10) hx hb dL_supplierTakes_134 (by decide) ?_
                refine er_callv (va_runV (As := [.int 1, .int 10]) (rest := []) ⟨hx, hb, hml, hown, hts⟩ (c_Deal_turn l D T X L tg _ A d dl hdl 1 10 e17_0) (cwV 2 hts gL_353 rfl rfl rfl (by decide +kernel) ⟨Nat.le_of_ble_eq_true rfl, Nat.le_of_ble_eq_true rfl⟩) (ec_preV hK hN hV hdl (cC_4 _ _ _ _) rfl) rfl rfl hl.1 rfl (lv_room (Nat.le_of_ble_eq_true rfl)) dL_supplierTakes_136 ⟨Nat.le_of_ble_eq_true rfl, Nat.le_of_ble_eq_true rfl⟩) hV hS hA (fun u15 H locs eu15 hV hS => ?_)
                have eu15 : u15 = z_Deal_turn A d 1 10 := eu15
                refine lv_goto (tgt := 208) hx hb dL_supplierTakes_139 rfl ?_
                rw [eu15] at hV
                rw [show z_L_supplierTakes_c A d t g n w cp b = ([], (z_Deal_turn A d 1 10)) by unfold z_L_supplierTakes_c; simp only [if_neg h1, if_neg h5, if_neg h6, if_neg h7, if_neg h8, if_pos h12, if_pos h13]]
                refine W.widen (k := 2) (n := 1004) (Nat.le_of_ble_eq_true rfl) (Nat.le_of_ble_eq_true rfl) ?_
                exact em_vret hx hb hr hlocks hV hS dL_supplierTakes_208 ⟨em_S.nil, rfl⟩
            · by_cases h16 : A 6 t 1 = 7
              · refine lv_tableIn (tgt := 208) hx hb dL_supplierTakes_12 (by rw [h16]; decide) (by rw [h16]; decide) (by rw [h16]; rfl) rfl ?_
                rw [show z_L_supplierTakes_c A d t g n w cp b = ([], A) by unfold z_L_supplierTakes_c; simp only [if_neg h1, if_neg h5, if_neg h6, if_neg h7, if_neg h8, if_neg h12, if_pos h16]]
                refine W.widen (k := 2) (n := 1004) (Nat.le_of_ble_eq_true rfl) (Nat.le_of_ble_eq_true rfl) ?_
                exact em_vret hx hb hr hlocks hV hS dL_supplierTakes_208 ⟨em_S.nil, rfl⟩
              · by_cases h17 : A 6 t 1 = 8
                · refine lv_tableIn (tgt := 150) hx hb dL_supplierTakes_12 (by rw [h17]; decide) (by rw [h17]; decide) (by rw [h17]; rfl) rfl ?_
                  refine lv_aload_n hx hb dL_supplierTakes_150 rfl (lv_at hl 2 rfl) ?_
                  refine lv_iload_n hx hb dL_supplierTakes_151 rfl (lv_at hl 0 rfl) ?_
                  refine lv_iconst (v := 4) hx hb dL_supplierTakes_152 (by decide) ?_
                  refine lv_icmp_ne (tgt := 160) hx hb dL_supplierTakes_153 rfl (fun h18 => ?_) (fun h18 => ?_)
                  · refine lv_iconst (v := 0) hx hb dL_supplierTakes_160 (by decide) ?_
                    refine lv_iconst (v := 5) hx hb dL_supplierTakes_161 (by decide) ?_
                    refine er_callv (va_runV (As := [.int 0, .int 5]) (rest := []) ⟨hx, hb, hml, hown, hts⟩ (c_Deal_turn l D T X L tg _ A d dl hdl 0 5 e17_0) (cwV 2 hts gL_353 rfl rfl rfl (by decide +kernel) ⟨Nat.le_of_ble_eq_true rfl, Nat.le_of_ble_eq_true rfl⟩) (ec_preV hK hN hV hdl (cC_4 _ _ _ _) rfl) rfl rfl hl.1 rfl (lv_room (Nat.le_of_ble_eq_true rfl)) dL_supplierTakes_162 ⟨Nat.le_of_ble_eq_true rfl, Nat.le_of_ble_eq_true rfl⟩) hV hS hA (fun u19 H locs eu19 hV hS => ?_)
                    have eu19 : u19 = z_Deal_turn A d 0 5 := eu19
                    refine lv_goto (tgt := 208) hx hb dL_supplierTakes_165 rfl ?_
                    rw [eu19] at hV
                    rw [show z_L_supplierTakes_c A d t g n w cp b = ([], (z_Deal_turn A d 0 5)) by unfold z_L_supplierTakes_c; simp only [if_neg h1, if_neg h5, if_neg h6, if_neg h7, if_neg h8, if_neg h12, if_neg h16, if_pos h17, if_neg h18]]
                    refine W.widen (k := 2) (n := 1004) (Nat.le_of_ble_eq_true rfl) (Nat.le_of_ble_eq_true rfl) ?_
                    exact em_vret hx hb hr hlocks hV hS dL_supplierTakes_208 ⟨em_S.nil, rfl⟩
                  · refine lv_iconst (v := 1) hx hb dL_supplierTakes_156 (by decide) ?_
                    refine lv_goto (tgt := 161) hx hb dL_supplierTakes_157 rfl ?_
                    refine lv_iconst (v := 5) hx hb dL_supplierTakes_161 (by decide) ?_
                    refine er_callv (va_runV (As := [.int 1, .int 5]) (rest := []) ⟨hx, hb, hml, hown, hts⟩ (c_Deal_turn l D T X L tg _ A d dl hdl 1 5 e17_0) (cwV 2 hts gL_353 rfl rfl rfl (by decide +kernel) ⟨Nat.le_of_ble_eq_true rfl, Nat.le_of_ble_eq_true rfl⟩) (ec_preV hK hN hV hdl (cC_4 _ _ _ _) rfl) rfl rfl hl.1 rfl (lv_room (Nat.le_of_ble_eq_true rfl)) dL_supplierTakes_162 ⟨Nat.le_of_ble_eq_true rfl, Nat.le_of_ble_eq_true rfl⟩) hV hS hA (fun u20 H locs eu20 hV hS => ?_)
                    have eu20 : u20 = z_Deal_turn A d 1 5 := eu20
                    refine lv_goto (tgt := 208) hx hb dL_supplierTakes_165 rfl ?_
                    rw [eu20] at hV
                    rw [show z_L_supplierTakes_c A d t g n w cp b = ([], (z_Deal_turn A d 1 5)) by unfold z_L_supplierTakes_c; simp only [if_neg h1, if_neg h5, if_neg h6, if_neg h7, if_neg h8, if_neg h12, if_neg h16, if_pos h17, if_pos h18]]
                    refine W.widen (k := 2) (n := 1004) (Nat.le_of_ble_eq_true rfl) (Nat.le_of_ble_eq_true rfl) ?_
                    exact em_vret hx hb hr hlocks hV hS dL_supplierTakes_208 ⟨em_S.nil, rfl⟩
                · by_cases h21 : A 6 t 1 = 9
                  · refine lv_tableIn (tgt := 168) hx hb dL_supplierTakes_12 (by rw [h21]; decide) (by rw [h21]; decide) (by rw [h21]; rfl) rfl ?_
                    refine lv_aload_n hx hb dL_supplierTakes_168 rfl (lv_at hl 2 rfl) ?_
                    refine lv_iload_n hx hb dL_supplierTakes_169 rfl (lv_at hl 0 rfl) ?_
                    refine lv_iconst (v := 5) hx hb dL_supplierTakes_170 (by decide) ?_
                    refine lv_icmp_ne (tgt := 178) hx hb dL_supplierTakes_171 rfl (fun h22 => ?_) (fun h22 => ?_)
                    · refine lv_iconst (v := 0) hx hb dL_supplierTakes_178 (by decide) ?_
                      refine lv_bipush (v := 6) hx hb dL_supplierTakes_179 (by decide) ?_
                      refine er_callv (va_runV (As := [.int 0, .int 6]) (rest := []) ⟨hx, hb, hml, hown, hts⟩ (c_Deal_turn l D T X L tg _ A d dl hdl 0 6 e17_0) (cwV 2 hts gL_353 rfl rfl rfl (by decide +kernel) ⟨Nat.le_of_ble_eq_true rfl, Nat.le_of_ble_eq_true rfl⟩) (ec_preV hK hN hV hdl (cC_4 _ _ _ _) rfl) rfl rfl hl.1 rfl (lv_room (Nat.le_of_ble_eq_true rfl)) dL_supplierTakes_181 ⟨Nat.le_of_ble_eq_true rfl, Nat.le_of_ble_eq_true rfl⟩) hV hS hA (fun u23 H locs eu23 hV hS => ?_)
                      have eu23 : u23 = z_Deal_turn A d 0 6 := eu23
                      refine lv_goto (tgt := 208) hx hb dL_supplierTakes_184 rfl ?_
                      rw [eu23] at hV
                      rw [show z_L_supplierTakes_c A d t g n w cp b = ([], (z_Deal_turn A d 0 6)) by unfold z_L_supplierTakes_c; simp only [if_neg h1, if_neg h5, if_neg h6, if_neg h7, if_neg h8, if_neg h12, if_neg h16, if_neg h17, if_pos h21, if_neg h22]]
                      refine W.widen (k := 2) (n := 1004) (Nat.le_of_ble_eq_true rfl) (Nat.le_of_ble_eq_true rfl) ?_
                      exact em_vret hx hb hr hlocks hV hS dL_supplierTakes_208 ⟨em_S.nil, rfl⟩
                    · refine lv_iconst (v := 1) hx hb dL_supplierTakes_174 (by decide) ?_
                      refine lv_goto (tgt := 179) hx hb dL_supplierTakes_175 rfl ?_
                      refine lv_bipush (v := 6) hx hb dL_supplierTakes_179 (by decide) ?_
                      refine er_callv (va_runV (As := [.int 1, .int 6]) (rest := []) ⟨hx, hb, hml, hown, hts⟩ (c_Deal_turn l D T X L tg _ A d dl hdl 1 6 e17_0) (cwV 2 hts gL_353 rfl rfl rfl (by decide +kernel) ⟨Nat.le_of_ble_eq_true rfl, Nat.le_of_ble_eq_true rfl⟩) (ec_preV hK hN hV hdl (cC_4 _ _ _ _) rfl) rfl rfl hl.1 rfl (lv_room (Nat.le_of_ble_eq_true rfl)) dL_supplierTakes_181 ⟨Nat.le_of_ble_eq_true rfl, Nat.le_of_ble_eq_true rfl⟩) hV hS hA (fun u24 H locs eu24 hV hS => ?_)
                      have eu24 : u24 = z_Deal_turn A d 1 6 := eu24
                      refine lv_goto (tgt := 208) hx hb dL_supplierTakes_184 rfl ?_
                      rw [eu24] at hV
                      rw [show z_L_supplierTakes_c A d t g n w cp b = ([], (z_Deal_turn A d 1 6)) by unfold z_L_supplierTakes_c; simp only [if_neg h1, if_neg h5, if_neg h6, if_neg h7, if_neg h8, if_neg h12, if_neg h16, if_neg h17, if_pos h21, if_pos h22]]
                      refine W.widen (k := 2) (n := 1004) (Nat.le_of_ble_eq_true rfl) (Nat.le_of_ble_eq_true rfl) ?_
                      exact em_vret hx hb hr hlocks hV hS dL_supplierTakes_208 ⟨em_S.nil, rfl⟩
                  · by_cases h25 : A 6 t 1 = 10
                    · refine lv_tableIn (tgt := 208) hx hb dL_supplierTakes_12 (by rw [h25]; decide) (by rw [h25]; decide) (by rw [h25]; rfl) rfl ?_
                      rw [show z_L_supplierTakes_c A d t g n w cp b = ([], A) by unfold z_L_supplierTakes_c; simp only [if_neg h1, if_neg h5, if_neg h6, if_neg h7, if_neg h8, if_neg h12, if_neg h16, if_neg h17, if_neg h21, if_pos h25]]
                      refine W.widen (k := 2) (n := 1004) (Nat.le_of_ble_eq_true rfl) (Nat.le_of_ble_eq_true rfl) ?_
                      exact em_vret hx hb hr hlocks hV hS dL_supplierTakes_208 ⟨em_S.nil, rfl⟩
                    · by_cases h26 : A 6 t 1 = 11
                      · refine lv_tableIn (tgt := 208) hx hb dL_supplierTakes_12 (by rw [h26]; decide) (by rw [h26]; decide) (by rw [h26]; rfl) rfl ?_
                        rw [show z_L_supplierTakes_c A d t g n w cp b = ([], A) by unfold z_L_supplierTakes_c; simp only [if_neg h1, if_neg h5, if_neg h6, if_neg h7, if_neg h8, if_neg h12, if_neg h16, if_neg h17, if_neg h21, if_neg h25, if_pos h26]]
                        refine W.widen (k := 2) (n := 1004) (Nat.le_of_ble_eq_true rfl) (Nat.le_of_ble_eq_true rfl) ?_
                        exact em_vret hx hb hr hlocks hV hS dL_supplierTakes_208 ⟨em_S.nil, rfl⟩
                      · by_cases h27 : A 6 t 1 = 12
                        · refine lv_tableIn (tgt := 187) hx hb dL_supplierTakes_12 (by rw [h27]; decide) (by rw [h27]; decide) (by rw [h27]; rfl) rfl ?_
                          refine lv_aload_n hx hb dL_supplierTakes_187 rfl (lv_at hl 2 rfl) ?_
                          refine lv_iload_n hx hb dL_supplierTakes_188 rfl (lv_at hl 0 rfl) ?_
                          refine er_calli (va_runS (As := [.int (A 17 d 0)]) (rest := [.ref dl]) ⟨hx, hb, hml, hown, hts⟩ (c_Lender_isOut l D T X L tg _ A (A 17 d 0)) ⟨callB_of 1 hts gL_361.1 rfl rfl rfl (hts _ gL_361.2.2.2) (hts _ gL_361.2.1) (by decide +kernel) ⟨Nat.le_of_ble_eq_true rfl, Nat.le_of_ble_eq_true rfl⟩, hts _ gL_361.2.2.1⟩ (ec_preS hK hN hV) rfl rfl hl.1 rfl (lv_room (Nat.le_of_ble_eq_true rfl)) dL_supplierTakes_189 ⟨Nat.le_of_ble_eq_true rfl, Nat.le_of_ble_eq_true rfl⟩) hV hS hA (fun r u H locs hp hV hS => ?_)
                          obtain ⟨rfl, eu9⟩ := hp
                          rw [eu9] at hV
                          refine lv_bipush (v := 8) hx hb dL_supplierTakes_192 (by decide) ?_
                          refine er_callv (va_runV (As := [.int (z_Lender_isOut (A 17 d 0)), .int 8]) (rest := []) ⟨hx, hb, hml, hown, hts⟩ (c_Deal_turn l D T X L tg _ A d dl hdl (z_Lender_isOut (A 17 d 0)) 8 e17_0) (cwV 2 hts gL_353 rfl rfl rfl (by decide +kernel) ⟨Nat.le_of_ble_eq_true rfl, Nat.le_of_ble_eq_true rfl⟩) (ec_preV hK hN hV hdl (cC_4 _ _ _ _) rfl) rfl rfl hl.1 rfl (lv_room (Nat.le_of_ble_eq_true rfl)) dL_supplierTakes_194 ⟨Nat.le_of_ble_eq_true rfl, Nat.le_of_ble_eq_true rfl⟩) hV hS hA (fun u28 H locs eu28 hV hS => ?_)
                          have eu28 : u28 = z_Deal_turn A d (z_Lender_isOut (A 17 d 0)) 8 := eu28
                          refine lv_goto (tgt := 208) hx hb dL_supplierTakes_197 rfl ?_
                          rw [eu28] at hV
                          rw [show z_L_supplierTakes_c A d t g n w cp b = ([], (z_Deal_turn A d (z_Lender_isOut (A 17 d 0)) 8)) by unfold z_L_supplierTakes_c; simp only [if_neg h1, if_neg h5, if_neg h6, if_neg h7, if_neg h8, if_neg h12, if_neg h16, if_neg h17, if_neg h21, if_neg h25, if_neg h26, if_pos h27]]
                          refine W.widen (k := 2) (n := 1004) (Nat.le_of_ble_eq_true rfl) (Nat.le_of_ble_eq_true rfl) ?_
                          exact em_vret hx hb hr hlocks hV hS dL_supplierTakes_208 ⟨em_S.nil, rfl⟩
                        · by_cases h29 : A 6 t 1 = 13
                          · refine lv_tableIn (tgt := 208) hx hb dL_supplierTakes_12 (by rw [h29]; decide) (by rw [h29]; decide) (by rw [h29]; rfl) rfl ?_
                            rw [show z_L_supplierTakes_c A d t g n w cp b = ([], A) by unfold z_L_supplierTakes_c; simp only [if_neg h1, if_neg h5, if_neg h6, if_neg h7, if_neg h8, if_neg h12, if_neg h16, if_neg h17, if_neg h21, if_neg h25, if_neg h26, if_neg h27, if_pos h29]]
                            refine W.widen (k := 2) (n := 1004) (Nat.le_of_ble_eq_true rfl) (Nat.le_of_ble_eq_true rfl) ?_
                            exact em_vret hx hb hr hlocks hV hS dL_supplierTakes_208 ⟨em_S.nil, rfl⟩
                          · by_cases h30 : A 6 t 1 = 14
                            · refine lv_tableIn (tgt := 200) hx hb dL_supplierTakes_12 (by rw [h30]; decide) (by rw [h30]; decide) (by rw [h30]; rfl) rfl ?_
                              refine lv_aload_n hx hb dL_supplierTakes_200 rfl (lv_at hl 1 rfl) ?_
                              refine lv_aload_n hx hb dL_supplierTakes_201 rfl (lv_at hl 2 rfl) ?_
                              refine er_callv (va_runV (As := [.ref dl]) (rest := []) ⟨hx, hb, hml, hown, hts⟩ (c_L_supplierHearsOfLoss_c l D T X L tg _ A d th hth dl hdl cp b e17_0 e1_5 e11_6 hcp q4 hb6 q0) (cwV 1 hts gL_364 rfl rfl rfl (by decide +kernel) ⟨Nat.le_of_ble_eq_true rfl, Nat.le_of_ble_eq_true rfl⟩) (ec_preV hK hN hV hth (cC_0 _ _ _ _) rfl) rfl rfl hl.1 rfl (lv_room (Nat.le_of_ble_eq_true rfl)) dL_supplierTakes_202 ⟨Nat.le_of_ble_eq_true rfl, Nat.le_of_ble_eq_true rfl⟩) hV hS hA (fun u31 H locs eu31 hV hS => ?_)
                              have eu31 : u31 = z_L_supplierHearsOfLoss_c A d cp b := eu31
                              refine lv_goto (tgt := 208) hx hb dL_supplierTakes_205 rfl ?_
                              rw [eu31] at hV
                              rw [show z_L_supplierTakes_c A d t g n w cp b = ([], (z_L_supplierHearsOfLoss_c A d cp b)) by unfold z_L_supplierTakes_c; simp only [if_neg h1, if_neg h5, if_neg h6, if_neg h7, if_neg h8, if_neg h12, if_neg h16, if_neg h17, if_neg h21, if_neg h25, if_neg h26, if_neg h27, if_neg h29, if_pos h30]]
                              refine W.widen (k := 2) (n := 1004) (Nat.le_of_ble_eq_true rfl) (Nat.le_of_ble_eq_true rfl) ?_
                              exact em_vret hx hb hr hlocks hV hS dL_supplierTakes_208 ⟨em_S.nil, rfl⟩
                            · by_cases h32 : A 6 t 1 = 15
                              · refine lv_tableIn (tgt := 142) hx hb dL_supplierTakes_12 (by rw [h32]; decide) (by rw [h32]; decide) (by rw [h32]; rfl) rfl ?_
                                refine lv_aload_n hx hb dL_supplierTakes_142 rfl (lv_at hl 1 rfl) ?_
                                refine lv_aload_n hx hb dL_supplierTakes_143 rfl (lv_at hl 2 rfl) ?_
                                refine em_callv (va_runV (As := [.ref dl]) (rest := []) ⟨hx, hb, hml, hown, hts⟩ (c_L_supplierIsCancelled_c l D T t0 X L tg _ A d th hth dl hdl g n w cp e17_0 e15_1 e16_2 e7_3 e12_4 e1_5 hd hn hLS hw qw hcl hnl hnew hcp q4) (cwV 1 hts gL_357 rfl rfl rfl (by decide +kernel) ⟨Nat.le_of_ble_eq_true rfl, Nat.le_of_ble_eq_true rfl⟩) (em_preV hK hN hV hZ hS hA hth (cC_0 _ _ _ _) rfl) rfl rfl hl.1 rfl (lv_room (Nat.le_of_ble_eq_true rfl)) dL_supplierTakes_144 ⟨Nat.le_of_ble_eq_true rfl, Nat.le_of_ble_eq_true rfl⟩) hV hS hA (fun X1 L1 tg1 u H locs hp hV hS => ?_)
                                obtain ⟨hS9, eA9⟩ := hp
                                refine lv_goto (tgt := 208) hx hb dL_supplierTakes_147 rfl ?_
                                rw [show z_L_supplierTakes_c A d t g n w cp b = ((z_L_supplierIsCancelled_c A d g n w cp).1, (z_L_supplierIsCancelled_c A d g n w cp).2) by unfold z_L_supplierTakes_c; simp only [if_neg h1, if_neg h5, if_neg h6, if_neg h7, if_neg h8, if_neg h12, if_neg h16, if_neg h17, if_neg h21, if_neg h25, if_neg h26, if_neg h27, if_neg h29, if_neg h30, if_pos h32]]
                                exact em_vret hx hb hr hlocks hV hS dL_supplierTakes_208 ⟨hS9, eA9⟩
                              · refine lv_tableOut (tgt := 208) hx hb dL_supplierTakes_12 (by have a0 := lv_neT (a := 1) h1 (by decide); have a1 := lv_neT (a := 2) h5 (by decide); have a2 := lv_neT (a := 3) h6 (by decide); have a3 := lv_neT (a := 4) h7 (by decide); have a4 := lv_neT (a := 5) h8 (by decide); have a5 := lv_neT (a := 6) h12 (by decide); have a6 := lv_neT (a := 7) h16 (by decide); have a7 := lv_neT (a := 8) h17 (by decide); have a8 := lv_neT (a := 9) h21 (by decide); have a9 := lv_neT (a := 10) h25 (by decide); have a10 := lv_neT (a := 11) h26 (by decide); have a11 := lv_neT (a := 12) h27 (by decide); have a12 := lv_neT (a := 13) h29 (by decide); have a13 := lv_neT (a := 14) h30 (by decide); have a14 := lv_neT (a := 15) h32 (by decide); omega) rfl ?_
                                rw [show z_L_supplierTakes_c A d t g n w cp b = ([], A) by unfold z_L_supplierTakes_c; simp only [if_neg h1, if_neg h5, if_neg h6, if_neg h7, if_neg h8, if_neg h12, if_neg h16, if_neg h17, if_neg h21, if_neg h25, if_neg h26, if_neg h27, if_neg h29, if_neg h30, if_neg h32]]
                                refine W.widen (k := 2) (n := 1004) (Nat.le_of_ble_eq_true rfl) (Nat.le_of_ble_eq_true rfl) ?_
                                exact em_vret hx hb hr hlocks hV hS dL_supplierTakes_208 ⟨em_S.nil, rfl⟩
