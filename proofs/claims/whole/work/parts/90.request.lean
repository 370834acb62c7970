theorem qC_9_1 {T : Nat → ClassId} {X : Nat → Nat → Nat} {id j v : Nat} {r : Nat → Int32} (hv : X 1 j = v) : cfC T X 9 id (va_up r j 1) = .inl (T 2, 32, .inr (.inr (.inr (.inr (va_up (fun j => if r j = 0 then none else some (X 1 j)) j (some v)))))) := by
  rw [cC_9]
  have : (fun j' => if va_up r j 1 j' = 0 then none else some (X 1 j')) = va_up (fun j => if r j = 0 then none else some (X 1 j)) j (some v) := by
    funext j'
    by_cases h : j' = j
    · subst h; rw [va_up_self, va_up_self, hv]; rfl
    · rw [va_up_ne _ _ h, va_up_ne _ _ h]
  rw [this]
theorem qC_10_1 {T : Nat → ClassId} {X : Nat → Nat → Nat} {id j v : Nat} {r : Nat → Int32} (hv : X 2 j = v) : cfC T X 10 id (va_up r j 1) = .inl (T 3, 32, .inr (.inr (.inr (.inr (va_up (fun j => if r j = 0 then none else some (X 2 j)) j (some v)))))) := by
  rw [cC_10]
  have : (fun j' => if va_up r j 1 j' = 0 then none else some (X 2 j')) = va_up (fun j => if r j = 0 then none else some (X 2 j)) j (some v) := by
    funext j'
    by_cases h : j' = j
    · subst h; rw [va_up_self, va_up_self, hv]; rfl
    · rw [va_up_ne _ _ h, va_up_ne _ _ h]
  rw [this]
def z_addCopy (A : ew_R) (nc b t : Nat) : ew_R := up3 (up3 (z_Copy_init_1 (upr A 1 nc (fun _ => 0)) nc (nI b) (nI t)) 9 0 nc 1) 0 0 5 (nI (nc + 1))
set_option maxHeartbeats 4000000 in
set_option maxRecDepth 100000 in
theorem c_L_addCopy_ok (l : Launch) (D : va_G) (T : Nat → ClassId) (t0 : Nat × Nat) (X : Nat → Nat → Nat) (L : List Nat) (tg : Nat → Nat × Nat) (sz : Nat) (A : ew_R) (th : Nat) (hth : ew_in X L tg 0 0 th) (b t nc : Nat) (e9 : ew_in X L tg 9 0 (X 9 0)) (hb6 : b < 6) (ht8 : t < 8) (hn : nc < 32) (qn : A 0 0 5 = nI nc) (hcl : clC X L tg A) (hnl : ∀ b ∈ L, (1, nc) ≠ tg b) : Met l yL_addCopy wsL_addCopy ({ frames := 2, cells := 1, slots := 4, locals := 40 }) (em_Pc D vwCl (tysA T) (cfC T) t0 X L tg A sz [.ref th, .int (nI b), .int (nI t)]) (em_Qi D vwCl (cfC T) L sz (fun r u => r = nI nc ∧ em_S [(1, nc)] X L tg u.1 u.2.1 u.2.2.1 ∧ u.2.2.2 = z_addCopy A nc b t)) 1 4 (ew_A L sz) := by
  refine em_met (by decide) rfl (Nat.le_of_ble_eq_true rfl) ?_
  intro p e s m below meth c ls hx hb hr hts hown hlocks hml hnm hV hK hN hZ hS hA hl hsz
  subst hsz
  have hl : lv_has ls 3 [(0, .ref th), (1, .int (nI b)), (2, .int (nI t))] := hl
  refine lv_iload_n hx hb dL_addCopy_0 rfl (lv_at hl 1 rfl) ?_
  refine er_calli (va_runS (As := [.int (nI b)]) (rest := []) ⟨hx, hb, hml, hown, hts⟩ (c_L_isLibrary l D T X L tg _ A (nI b)) (cwS 1 hts gL_43 rfl rfl rfl (by decide +kernel) ⟨Nat.le_of_ble_eq_true rfl, Nat.le_of_ble_eq_true rfl⟩) (ec_preS hK hN hV) rfl rfl hl.1 rfl (lv_room (Nat.le_of_ble_eq_true rfl)) dL_addCopy_1 ⟨Nat.le_of_ble_eq_true rfl, Nat.le_of_ble_eq_true rfl⟩) hV hS hA (fun r u H locs hp hV hS => ?_)
  obtain ⟨rfl, eu9⟩ := hp
  rw [eu9] at hV
  refine lv_toe (y := 1) (z_isLibrary_1 hb6) ?_
  refine lv_if_eq (tgt := 14) hx hb dL_addCopy_4 rfl (fun h9 => absurd h9 (by decide)) (fun _ => ?_)
  refine lv_iload_n hx hb dL_addCopy_7 rfl (lv_at hl 2 rfl) ?_
  refine er_calli (va_runS (As := [.int (nI t)]) (rest := []) ⟨hx, hb, hml, hown, hts⟩ (c_L_isTitle l D T X L tg _ A (nI t)) (cwS 1 hts gL_47 rfl rfl rfl (by decide +kernel) ⟨Nat.le_of_ble_eq_true rfl, Nat.le_of_ble_eq_true rfl⟩) (ec_preS hK hN hV) rfl rfl hl.1 rfl (lv_room (Nat.le_of_ble_eq_true rfl)) dL_addCopy_8 ⟨Nat.le_of_ble_eq_true rfl, Nat.le_of_ble_eq_true rfl⟩) hV hS hA (fun r u H locs hp hV hS => ?_)
  obtain ⟨rfl, eu9⟩ := hp
  rw [eu9] at hV
  refine lv_toe (y := 1) (z_isTitle_1 ht8) ?_
  refine lv_if_ne (tgt := 24) hx hb dL_addCopy_11 rfl (fun _ => ?_) (fun h9 => absurd h9 (by decide))
  refine lv_aload_n hx hb dL_addCopy_24 rfl (lv_at hl 0 rfl) ?_
  refine ew_get (v := .int (A 0 0 5)) hx hb hts hown hK hV fL_57 hth (cC_0 _ _ _ _) rfl dL_addCopy_25 ?_
  refine lv_toe (y := nI nc) qn ?_
  refine lv_bipush (v := 32) hx hb dL_addCopy_28 (by decide) ?_
  refine lv_icmp_lt (tgt := 43) hx hb dL_addCopy_30 rfl (fun _ => ?_) (fun h9 => absurd ((nI_ltI (a := nc) (b := 32) (by omega) (by omega)).mpr (show nc < 32 by omega)) h9)
  refine lv_aload_n hx hb dL_addCopy_43 rfl (lv_at hl 0 rfl) ?_
  refine ew_get (v := .ref (X 9 0)) hx hb hts hown hK hV fL_11 hth (cC_0 _ _ _ _) rfl dL_addCopy_44 ?_
  refine lv_aload_n hx hb dL_addCopy_47 rfl (lv_at hl 0 rfl) ?_
  refine ew_get (v := .int (A 0 0 5)) hx hb hts hown hK hV fL_57 hth (cC_0 _ _ _ _) rfl dL_addCopy_48 ?_
  refine lv_toe (y := nI nc) qn ?_
  refine em_newO (fs := [.int 0, .int 0, .int 0, .int 0]) (ci := 1) hx hb hts ulCopy tyCopy gCopy.1 hown (hts _ kw_34) (hts _ kw_558) (hts _ kw_10) hK hV hS hA rfl (by decide +kernel) (Nat.le_of_ble_eq_true rfl) (Nat.le_of_ble_eq_true rfl) 1 nc (upr A 1 nc (fun _ => 0)) (fun X' => by rw [upr_row]; rfl) (clC_keep hcl (fun z => by have := z.1; omega) hnl (fun c i h => upr_oth _ _ h)) hnl dL_addCopy_51 (fun X1 L1 tg1 H h1 hV hS => ?_)
  have hth := h1.2.1 0 0 th hth
  have e9 := h1.2.1 9 0 _ e9
  have e1 := h1.2.2.1
  refine lv_dup hx hb dL_addCopy_54 rfl ?_
  refine lv_iload_n hx hb dL_addCopy_55 rfl (lv_at hl 1 rfl) ?_
  refine lv_iload_n hx hb dL_addCopy_56 rfl (lv_at hl 2 rfl) ?_
  refine er_callv (va_runI (As := [.int (nI b), .int (nI t)]) (b := X1 1 nc) (rest := [.ref (X1 1 nc), .int (nI nc), .ref (X 9 0)]) ⟨hx, hb, hml, hown, hts⟩ (c_Copy_init_1 l D T X1 L1 tg1 _ (upr A 1 nc (fun _ => 0)) nc (X1 1 nc) e1 (nI b) (nI t)) ⟨callB_of 2 hts gL_66.1 rfl rfl rfl (hts _ gL_66.2.2.2) (hts _ gL_66.2.1) (by decide +kernel) ⟨Nat.le_of_ble_eq_true rfl, Nat.le_of_ble_eq_true rfl⟩, rfl, hts _ gL_66.2.2.1⟩ (ec_preS hK hN hV) rfl rfl hl.1 rfl (lv_room (Nat.le_of_ble_eq_true rfl)) dL_addCopy_57 ⟨Nat.le_of_ble_eq_true rfl, Nat.le_of_ble_eq_true rfl⟩) hV hS hA (fun u H locs eu hV hS => ?_)
  have eu : u = z_Copy_init_1 (upr A 1 nc (fun _ => 0)) nc (nI b) (nI t) := eu
  rw [eu] at hV
  refine ew_aasS (r := (RCopy, TCopy, 4)) hx hb hK hV hS e9 (cC_9 _ _ _ _) 2 rfl e1 (cC_1 _ _ _ _) rfl (vp_in_nI (by omega) (by decide)) nc 1 (by rw [nI_clamp (by omega)]; exact qC_9_1 rfl) dL_addCopy_60 (fun H locs hV hS => ?_)
  have r0 : (up3 (z_Copy_init_1 (upr A 1 nc (fun _ => 0)) nc (nI b) (nI t)) 9 0 nc 1) 0 0 5 = nI nc := by
    rw [p_kd_up _ _ _ _ (by decide)]
    unfold z_Copy_init_1
    rw [p_kd_up _ _ _ _ (by decide), p_kd_up _ _ _ _ (by decide), p_kd_up _ _ _ _ (by decide), p_kd_up _ _ _ _ (by decide), p_kd_upr _ _ _ (by decide)]; exact qn
  refine lv_aload_n hx hb dL_addCopy_61 rfl (lv_at hl 0 rfl) ?_
  refine lv_dup hx hb dL_addCopy_62 rfl ?_
  refine ew_get (v := .int (nI nc)) hx hb hts hown hK hV fL_57 hth (cC_0 _ _ _ _) (congrArg (fun z => some (Value.int z)) r0) dL_addCopy_63 ?_
  refine lv_iconst (v := 1) hx hb dL_addCopy_66 (by decide) ?_
  refine lv_iadd hx hb dL_addCopy_67 ?_
  refine lv_toe (y := nI (nc + 1)) (nI_add nc 1) ?_
  refine ew_put (ty := .int) hx hb hts hown hK hV hS fL_57 gL hth (cC_0 _ _ _ _) 5 _ (pC_0_5 _ _ _ _ _) rfl (by decide +kernel) rfl rfl (Nat.le_of_ble_eq_true rfl) dL_addCopy_68 (fun H locs hV hS => ?_)
  refine lv_aload_n hx hb dL_addCopy_71 rfl (lv_at hl 0 rfl) ?_
  refine ew_get (v := .int (nI (nc + 1))) hx hb hts hown hK hV fL_57 hth (cC_0 _ _ _ _) (congrArg (fun z => some (Value.int z)) (up3_self _ 0 0 5 (nI (nc + 1)))) dL_addCopy_72 ?_
  refine lv_iconst (v := 1) hx hb dL_addCopy_75 (by decide) ?_
  refine lv_isub hx hb dL_addCopy_76 ?_
  refine lv_toe (y := nI nc) (nI_pred nc) ?_
  exact em_iret hx hb hr hlocks hV hS dL_addCopy_77 ⟨rfl, h1.S, rfl⟩
def z_req_e (A : ew_R) (nl b t f n w : Nat) : ew_R := z_L_requesterWrites (up3 (up3 (z_Loan A nl ((f + 1) % 6) (nI b) (nI t) (nI f) (nI n)) 10 0 nl 1) 0 0 6 (nI (nl + 1))) nl (6 * nl + ((f + 1) % 6)) 0 0 w 0 1 (nI n)
set_option maxHeartbeats 4000000 in
set_option maxRecDepth 100000 in
theorem c_L_request_e (l : Launch) (D : va_G) (T : Nat → ClassId) (t0 : Nat × Nat) (X : Nat → Nat → Nat) (L : List Nat) (tg : Nat → Nat × Nat) (sz : Nat) (A : ew_R) (th : Nat) (hth : ew_in X L tg 0 0 th) (b t f n nl w : Nat) (e10 : ew_in X L tg 10 0 (X 10 0)) (e7 : ew_in X L tg 7 0 (X 7 0)) (e12 : ew_in X L tg 12 0 (X 12 0)) (hb6 : b < 6) (ht8 : t < 8) (hf6 : f < 6) (hn1 : 1 ≤ n) (hn9 : n ≤ 99) (hnl : nl < 32) (qn : A 0 0 6 = nI nl) (heq : f = b) (hw : w ≤ 64) (qw : A 7 0 1 = nI w) (h14 : X 14 (64 * (6 * nl + ((f + 1) % 6))) = t0.1) (h20 : X 20 (64 * (6 * nl + ((f + 1) % 6))) = t0.1) (hcl : clC X L tg A) (hnew : ∀ a ∈ L, ∀ t ∈ nw_2 nl ((f + 1) % 6), t ≠ tg a) (hnt : ∀ a ∈ L, (6, 512 * (6 * nl + ((f + 1) % 6))) ≠ tg a) (hna : ∀ a ∈ L, (14, 64 * (6 * nl + ((f + 1) % 6)) + 1) ≠ tg a) : Met l yL_request wsL_request ({ frames := 10, cells := 11, slots := 1050, locals := 330 }) (em_Pc D vwCl (tysA T) (cfC T) t0 X L tg A sz [.ref th, .int (nI b), .int (nI t), .int (nI f), .int (nI n)]) (em_Qi D vwCl (cfC T) L sz (fun r u => r = nI nl ∧ em_S (nw_2 nl ((f + 1) % 6) ++ nw_5 (6 * nl + ((f + 1) % 6)) 0 0) X L tg u.1 u.2.1 u.2.2.1 ∧ u.2.2.2 = z_req_e A nl b t f n w)) 11 1050 (ew_A L sz) := by
  refine em_met (by decide) rfl (Nat.le_of_ble_eq_true rfl) ?_
  intro p e s m below meth c ls hx hb hr hts hown hlocks hml hnm hV hK hN hZ hS hA hl hsz
  subst hsz
  have hl : lv_has ls 6 [(0, .ref th), (1, .int (nI b)), (2, .int (nI t)), (3, .int (nI f)), (4, .int (nI n))] := hl
  refine lv_iload_n hx hb dL_request_0 rfl (lv_at hl 1 rfl) ?_
  refine er_calli (va_runS (As := [.int (nI b)]) (rest := []) ⟨hx, hb, hml, hown, hts⟩ (c_L_isLibrary l D T X L tg _ A (nI b)) (cwS 1 hts gL_43 rfl rfl rfl (by decide +kernel) ⟨Nat.le_of_ble_eq_true rfl, Nat.le_of_ble_eq_true rfl⟩) (ec_preS hK hN hV) rfl rfl hl.1 rfl (lv_room (Nat.le_of_ble_eq_true rfl)) dL_request_1 ⟨Nat.le_of_ble_eq_true rfl, Nat.le_of_ble_eq_true rfl⟩) hV hS hA (fun r u H locs hp hV hS => ?_)
  obtain ⟨rfl, eu9⟩ := hp
  rw [eu9] at hV
  refine lv_toe (y := 1) (z_isLibrary_1 hb6) ?_
  refine lv_if_eq (tgt := 34) hx hb dL_request_4 rfl (fun h9 => absurd h9 (by decide)) (fun _ => ?_)
  refine lv_iload_n hx hb dL_request_7 rfl (lv_at hl 2 rfl) ?_
  refine er_calli (va_runS (As := [.int (nI t)]) (rest := []) ⟨hx, hb, hml, hown, hts⟩ (c_L_isTitle l D T X L tg _ A (nI t)) (cwS 1 hts gL_47 rfl rfl rfl (by decide +kernel) ⟨Nat.le_of_ble_eq_true rfl, Nat.le_of_ble_eq_true rfl⟩) (ec_preS hK hN hV) rfl rfl hl.1 rfl (lv_room (Nat.le_of_ble_eq_true rfl)) dL_request_8 ⟨Nat.le_of_ble_eq_true rfl, Nat.le_of_ble_eq_true rfl⟩) hV hS hA (fun r u H locs hp hV hS => ?_)
  obtain ⟨rfl, eu9⟩ := hp
  rw [eu9] at hV
  refine lv_toe (y := 1) (z_isTitle_1 ht8) ?_
  refine lv_if_eq (tgt := 34) hx hb dL_request_11 rfl (fun h9 => absurd h9 (by decide)) (fun _ => ?_)
  refine lv_iload_n hx hb dL_request_14 rfl (lv_at hl 3 rfl) ?_
  refine er_calli (va_runS (As := [.int (nI f)]) (rest := []) ⟨hx, hb, hml, hown, hts⟩ (c_L_isLibrary l D T X L tg _ A (nI f)) (cwS 1 hts gL_43 rfl rfl rfl (by decide +kernel) ⟨Nat.le_of_ble_eq_true rfl, Nat.le_of_ble_eq_true rfl⟩) (ec_preS hK hN hV) rfl rfl hl.1 rfl (lv_room (Nat.le_of_ble_eq_true rfl)) dL_request_15 ⟨Nat.le_of_ble_eq_true rfl, Nat.le_of_ble_eq_true rfl⟩) hV hS hA (fun r u H locs hp hV hS => ?_)
  obtain ⟨rfl, eu9⟩ := hp
  rw [eu9] at hV
  refine lv_toe (y := 1) (z_isLibrary_1 hf6) ?_
  refine lv_if_eq (tgt := 34) hx hb dL_request_18 rfl (fun h9 => absurd h9 (by decide)) (fun _ => ?_)
  refine lv_iload hx hb dL_request_21 (lv_at hl 4 rfl) ?_
  refine lv_iconst (v := 1) hx hb dL_request_23 (by decide) ?_
  refine lv_icmp_lt (tgt := 34) hx hb dL_request_24 rfl (fun h9 => absurd h9 (fun z9 => (show ¬ (n < 1) by omega) ((nI_ltI (a := n) (b := 1) (by omega) (by omega)).mp z9))) (fun _ => ?_)
  refine lv_iload hx hb dL_request_27 (lv_at hl 4 rfl) ?_
  refine lv_bipush (v := 99) hx hb dL_request_29 (by decide) ?_
  refine lv_icmp_le (tgt := 44) hx hb dL_request_31 rfl (fun _ => ?_) (fun h9 => absurd ((nI_leI (a := n) (b := 99) (by omega) (by omega)).mpr (show n ≤ 99 by omega)) h9)
  refine lv_aload_n hx hb dL_request_44 rfl (lv_at hl 0 rfl) ?_
  refine ew_get (v := .int (A 0 0 6)) hx hb hts hown hK hV fL_71 hth (cC_0 _ _ _ _) rfl dL_request_45 ?_
  refine lv_toe (y := nI nl) qn ?_
  refine lv_bipush (v := 32) hx hb dL_request_48 (by decide) ?_
  refine lv_icmp_lt (tgt := 63) hx hb dL_request_50 rfl (fun _ => ?_) (fun h9 => absurd ((nI_ltI (a := nl) (b := 32) (by omega) (by omega)).mpr (show nl < 32 by omega)) h9)
  refine va_new (fs := [.int 0, .int 0, .int 0, .int 0, .int 0, .null, .null, .null]) (ci := 2) hx hb hts ulLoan tyLoan gLoan.1 hown (hts _ kw_36) (hts _ kw_590) (hts _ kw_11) hK hV.1 hV.2.1 hS hA rfl (by decide +kernel) (Nat.le_of_ble_eq_true rfl) (Nat.le_of_ble_eq_true rfl) dL_request_63 (fun q H hP hD hS => ?_)
  have hV1 := em_exN hV.2.2 hP hD
  refine lv_dup hx hb dL_request_66 rfl ?_
  refine lv_aload_n hx hb dL_request_67 rfl (lv_at hl 0 rfl) ?_
  refine ew_get (v := .int (A 0 0 6)) hx hb hts hown hK hV1 fL_71 hth (cC_0 _ _ _ _) rfl dL_request_68 ?_
  refine lv_toe (y := nI nl) qn ?_
  refine lv_iload_n hx hb dL_request_71 rfl (lv_at hl 1 rfl) ?_
  refine lv_iload_n hx hb dL_request_72 rfl (lv_at hl 2 rfl) ?_
  refine lv_iload_n hx hb dL_request_73 rfl (lv_at hl 3 rfl) ?_
  refine lv_iload hx hb dL_request_74 (lv_at hl 4 rfl) ?_
  refine xl_callv (va_runI (As := [.int (nI nl), .int (nI b), .int (nI t), .int (nI f), .int (nI n)]) (b := q) (rest := [.ref q]) ⟨hx, hb, hml, hown, hts⟩ (c_Loan_init_e l D T t0 (ew_w (cfC T) X L tg A []) _ q (nI nl) (nI t) (nI n) b f hb6 hf6 heq) ⟨callB_of 5 hts gL_76.1 rfl rfl rfl (hts _ gL_76.2.2.2) (hts _ gL_76.2.1) (by decide +kernel) ⟨Nat.le_of_ble_eq_true rfl, Nat.le_of_ble_eq_true rfl⟩, rfl, hts _ gL_76.2.2.1⟩ (xl_preS hK hN hP hD hZ hS hA) rfl rfl hl.1 rfl (lv_room (Nat.le_of_ble_eq_true rfl)) dL_request_76 ⟨Nat.le_of_ble_eq_true rfl, Nat.le_of_ble_eq_true rfl⟩) hD hS hA (fun u H locs hp hP hD hS => ?_)
  obtain ⟨q13, q3, q4, q17, q5, q8, q15, q16, rfl⟩ := hp
  obtain ⟨X1, L1, tg1, hq, h1, hV⟩ := em_loan (ln := nl) (b := ((f + 1) % 6)) (by omega) (by omega) hV.2.2 hP hD h14 h20 hcl hnew
  have hth := h1.ad hth
  have lv : ∀ t ∈ nw_2 nl ((f + 1) % 6), ew_in X1 L1 tg1 t.1 t.2 (X1 t.1 t.2) := h1.2.2.1
  have f2 : ew_in X1 L1 tg1 2 nl q := by have := lv (2, nl) (by simp [nw_2]); rw [hq] at this; exact this
  have f10 := h1.ad e10
  have f3 := lv (3, nl) (by simp [nw_2])
  have f4 := lv (4, (6 * nl + ((f + 1) % 6))) (by simp [nw_2, nw_4])
  have f5 := lv (5, (6 * nl + ((f + 1) % 6))) (by simp [nw_2, nw_4])
  have f8 := lv (8, (6 * nl + ((f + 1) % 6))) (by simp [nw_2, nw_4])
  have hcl1 := clC_loan (rq := nI b) (t := nI t) (st := nI f) (n := nI n) (by omega) (by omega) hcl h1
  refine lv_astore (lv' := [(5, .ref q), (0, .ref th), (1, .int (nI b)), (2, .int (nI t)), (3, .int (nI f)), (4, .int (nI n))]) hx hb dL_request_79 hl (by decide) rfl (fun ls hl => ?_)
  refine lv_aload_n hx hb dL_request_81 rfl (lv_at hl 1 rfl) ?_
  refine ew_get (v := .ref (X 10 0)) hx hb hts hown hK hV fL_17 hth (cC_0 _ _ _ _) (by show some (Value.ref (X1 10 0)) = _; rw [f10.1]) dL_request_82 ?_
  refine lv_aload_n hx hb dL_request_85 rfl (lv_at hl 1 rfl) ?_
  have r6 : z_Loan A nl ((f + 1) % 6) (nI b) (nI t) (nI f) (nI n) 0 0 = A 0 0 := z_Loan_oth _ _ _ _ _ _ _ (by simp [nw_2, nw_4])
  refine ew_get (v := .int (nI nl)) hx hb hts hown hK hV fL_71 hth (cC_0 _ _ _ _) (by show some (Value.int (z_Loan A nl ((f + 1) % 6) (nI b) (nI t) (nI f) (nI n) 0 0 6)) = _; rw [r6, qn]) dL_request_86 ?_
  refine lv_aload hx hb dL_request_89 (lv_at hl 0 rfl) ?_
  refine ew_aasS (r := (RLoan, TLoan, 8)) hx hb hK hV hS f10 (cC_10 _ _ _ _) 3 rfl f2 (cC_2 _ _ _ _) rfl (vp_in_nI (by omega) (by decide)) nl 1 (by rw [nI_clamp (by omega)]; exact qC_10_1 hq) dL_request_91 (fun H locs hV hS => ?_)
  refine lv_aload_n hx hb dL_request_92 rfl (lv_at hl 1 rfl) ?_
  refine lv_dup hx hb dL_request_93 rfl ?_
  refine ew_get (v := .int (nI nl)) hx hb hts hown hK hV fL_71 hth (cC_0 _ _ _ _) (by show some (Value.int ((up3 (z_Loan A nl ((f + 1) % 6) (nI b) (nI t) (nI f) (nI n)) 10 0 nl 1) 0 0 6)) = _; rw [p_kd_up _ _ _ _ (by decide), r6, qn]) dL_request_94 ?_
  refine lv_iconst (v := 1) hx hb dL_request_97 (by decide) ?_
  refine lv_iadd hx hb dL_request_98 ?_
  refine lv_toe (y := nI (nl + 1)) (nI_add nl 1) ?_
  refine ew_put (ty := .int) hx hb hts hown hK hV hS fL_71 gL hth (cC_0 _ _ _ _) 6 _ (pC_0_6 _ _ _ _ _) rfl (by decide +kernel) rfl rfl (Nat.le_of_ble_eq_true rfl) dL_request_99 (fun H locs hV hS => ?_)
  refine lv_aload_n hx hb dL_request_102 rfl (lv_at hl 1 rfl) ?_
  refine lv_aload hx hb dL_request_103 (lv_at hl 0 rfl) ?_
  refine lv_iconst (v := 0) hx hb dL_request_105 (by decide) ?_
  refine lv_iconst (v := 1) hx hb dL_request_106 (by decide) ?_
  refine lv_iload hx hb dL_request_107 (lv_at hl 5 rfl) ?_
  have o1 : ∀ c i, c ≠ 0 → c ≠ 10 → (up3 (up3 (z_Loan A nl ((f + 1) % 6) (nI b) (nI t) (nI f) (nI n)) 10 0 nl 1) 0 0 6 (nI (nl + 1))) c i = z_Loan A nl ((f + 1) % 6) (nI b) (nI t) (nI f) (nI n) c i := fun c i h0 h10 => by rw [p_kd_up _ _ _ _ h0, p_kd_up _ _ _ _ h10]
  have r8 : z_Loan A nl ((f + 1) % 6) (nI b) (nI t) (nI f) (nI n) 8 (6 * nl + ((f + 1) % 6)) = p_r8 (6 * nl + ((f + 1) % 6)) := by rw [z_Loan_deal _ _ _ _ _ _ _ _ (by decide) (by decide) (by decide)]; simp [z_Deal, upr, va_up]
  have r2 : z_Loan A nl ((f + 1) % 6) (nI b) (nI t) (nI f) (nI n) 2 nl = p_r2 nl (nI b) (nI t) (nI f) (nI n) (6 * nl + ((f + 1) % 6)) := by unfold z_Loan; rw [upr_oth _ _ (by omega), upr_oth _ _ (by omega), upr_row]
  refine em_calli (va_runV (As := [.ref q, .int 0, .int 1, .int (nI n)]) (rest := []) ⟨hx, hb, hml, hown, hts⟩ (c_L_requesterWrites l D T t0 X1 L1 tg1 _ (up3 (up3 (z_Loan A nl ((f + 1) % 6) (nI b) (nI t) (nI f) (nI n)) 10 0 nl 1) 0 0 6 (nI (nl + 1))) nl (6 * nl + ((f + 1) % 6)) 0 0 w th q (X1 3 nl) (X1 4 (6 * nl + ((f + 1) % 6))) (X1 5 (6 * nl + ((f + 1) % 6))) (X1 8 (6 * nl + ((f + 1) % 6))) (X1 7 0) (X1 12 0) 0 1 (nI n) (by omega) (by omega) hth f5 f8 (h1.ad e7).self (h1.ad e12).self ⟨by omega, Nat.le_refl _, ?_, ?_, fun _ => ?_, fun h => by omega⟩ hw ?_ ?_ ?_ ?_ f2 f3 f4 ?_) (cwV 4 hts gL_81 rfl rfl rfl (by decide +kernel) ⟨Nat.le_of_ble_eq_true rfl, Nat.le_of_ble_eq_true rfl⟩) (em_preV hK hN hV hZ hS hA hth (cC_0 _ _ _ _) rfl) rfl rfl hl.1 rfl (lv_room (Nat.le_of_ble_eq_true rfl)) dL_request_109 ⟨Nat.le_of_ble_eq_true rfl, Nat.le_of_ble_eq_true rfl⟩) hV hS hA (fun r X2 L2 tg2 u2 H locs hp hV hS => ?_)
  · rw [o1 8 _ (by decide) (by decide), r8]; rfl
  · rw [o1 8 _ (by decide) (by decide), r8]; rfl
  · rw [h1.1 14 (64 * (6 * nl + ((f + 1) % 6))) (by simp [nw_2, nw_4])]; exact h14
  · rw [o1 7 _ (by decide) (by decide), z_Loan_oth _ _ _ _ _ _ _ (by simp [nw_2, nw_4])]; exact qw
  · refine clC_set (clC_set hcl1 (fun c i hr => ?_)) (fun c i hr => ?_)
    · obtain ⟨rfl, hr⟩ := hr
      by_cases hi : i = nl
      · subst hi; exact Or.inr (Or.inr f2.self)
      · rw [va_up_ne _ _ hi] at hr
        exact Or.inl ⟨rfl, hr⟩
    · have hr2 : (c = 9 ∨ c = 10 ∨ c = 11 ∨ c = 7 ∨ c = 18) ∧ i = 0 := hr
      exact Or.inl hr2
  · intro a ha z
    rcases h1.2.2.2 a ha with h | ⟨h, h2⟩
    · rw [← z] at h; simp [nw_2, nw_4] at h
    · exact hnt a h (by rw [← h2]; exact z)
  · intro a ha z
    rcases h1.2.2.2 a ha with h | ⟨h, h2⟩
    · rw [← z] at h; simp [nw_2, nw_4] at h
    · exact hna a h (by rw [← h2]; exact z)
  · rw [o1 2 _ (by decide) (by decide), r2]; rfl
  obtain ⟨rfl, h2, eA2⟩ := hp
  have h2 : em_S (nw_5 (6 * nl + ((f + 1) % 6)) 0 0) X1 L1 tg1 X2 L2 tg2 := h2
  have eA2 : u2 = z_L_requesterWrites (up3 (up3 (z_Loan A nl ((f + 1) % 6) (nI b) (nI t) (nI f) (nI n)) 10 0 nl 1) 0 0 6 (nI (nl + 1))) nl (6 * nl + ((f + 1) % 6)) 0 0 w 0 1 (nI n) := eA2
  rw [eA2] at hV
  refine lv_pop hx hb dL_request_112 rfl ?_
  refine lv_aload hx hb dL_request_113 (lv_at hl 0 rfl) ?_
  refine ew_get (v := .int (nI nl)) hx hb hts hown hK hV fL_85 (h2.ad f2) (cC_2 _ _ _ _) (by
    show some (Value.int (z_L_requesterWrites (up3 (up3 (z_Loan A nl ((f + 1) % 6) (nI b) (nI t) (nI f) (nI n)) 10 0 nl 1) 0 0 6 (nI (nl + 1))) nl (6 * nl + ((f + 1) % 6)) 0 0 w 0 1 (nI n) 2 nl 0)) = _
    unfold z_L_requesterWrites
    rw [p_send5_4 _ _ _ _ _ _ _ (by decide), p_kd_up _ _ _ _ (by decide), o1 2 _ (by decide) (by decide), r2]; rfl) dL_request_115 ?_
  exact em_iret hx hb hr hlocks hV hS dL_request_118 ⟨rfl, h1.trans h2, rfl⟩
def z_req_n (A : ew_R) (nl b t f n w : Nat) : ew_R := z_L_requesterWrites (up3 (up3 (z_Loan A nl (f) (nI b) (nI t) (nI f) (nI n)) 10 0 nl 1) 0 0 6 (nI (nl + 1))) nl (6 * nl + (f)) 0 0 w 0 1 (nI n)
set_option maxHeartbeats 4000000 in
set_option maxRecDepth 100000 in
theorem c_L_request_n (l : Launch) (D : va_G) (T : Nat → ClassId) (t0 : Nat × Nat) (X : Nat → Nat → Nat) (L : List Nat) (tg : Nat → Nat × Nat) (sz : Nat) (A : ew_R) (th : Nat) (hth : ew_in X L tg 0 0 th) (b t f n nl w : Nat) (e10 : ew_in X L tg 10 0 (X 10 0)) (e7 : ew_in X L tg 7 0 (X 7 0)) (e12 : ew_in X L tg 12 0 (X 12 0)) (hb6 : b < 6) (ht8 : t < 8) (hf6 : f < 6) (hn1 : 1 ≤ n) (hn9 : n ≤ 99) (hnl : nl < 32) (qn : A 0 0 6 = nI nl) (heq : ¬ f = b) (hw : w ≤ 64) (qw : A 7 0 1 = nI w) (h14 : X 14 (64 * (6 * nl + (f))) = t0.1) (h20 : X 20 (64 * (6 * nl + (f))) = t0.1) (hcl : clC X L tg A) (hnew : ∀ a ∈ L, ∀ t ∈ nw_2 nl (f), t ≠ tg a) (hnt : ∀ a ∈ L, (6, 512 * (6 * nl + (f))) ≠ tg a) (hna : ∀ a ∈ L, (14, 64 * (6 * nl + (f)) + 1) ≠ tg a) : Met l yL_request wsL_request ({ frames := 10, cells := 11, slots := 1050, locals := 330 }) (em_Pc D vwCl (tysA T) (cfC T) t0 X L tg A sz [.ref th, .int (nI b), .int (nI t), .int (nI f), .int (nI n)]) (em_Qi D vwCl (cfC T) L sz (fun r u => r = nI nl ∧ em_S (nw_2 nl (f) ++ nw_5 (6 * nl + (f)) 0 0) X L tg u.1 u.2.1 u.2.2.1 ∧ u.2.2.2 = z_req_n A nl b t f n w)) 11 1050 (ew_A L sz) := by
  refine em_met (by decide) rfl (Nat.le_of_ble_eq_true rfl) ?_
  intro p e s m below meth c ls hx hb hr hts hown hlocks hml hnm hV hK hN hZ hS hA hl hsz
  subst hsz
  have hl : lv_has ls 6 [(0, .ref th), (1, .int (nI b)), (2, .int (nI t)), (3, .int (nI f)), (4, .int (nI n))] := hl
  refine lv_iload_n hx hb dL_request_0 rfl (lv_at hl 1 rfl) ?_
  refine er_calli (va_runS (As := [.int (nI b)]) (rest := []) ⟨hx, hb, hml, hown, hts⟩ (c_L_isLibrary l D T X L tg _ A (nI b)) (cwS 1 hts gL_43 rfl rfl rfl (by decide +kernel) ⟨Nat.le_of_ble_eq_true rfl, Nat.le_of_ble_eq_true rfl⟩) (ec_preS hK hN hV) rfl rfl hl.1 rfl (lv_room (Nat.le_of_ble_eq_true rfl)) dL_request_1 ⟨Nat.le_of_ble_eq_true rfl, Nat.le_of_ble_eq_true rfl⟩) hV hS hA (fun r u H locs hp hV hS => ?_)
  obtain ⟨rfl, eu9⟩ := hp
  rw [eu9] at hV
  refine lv_toe (y := 1) (z_isLibrary_1 hb6) ?_
  refine lv_if_eq (tgt := 34) hx hb dL_request_4 rfl (fun h9 => absurd h9 (by decide)) (fun _ => ?_)
  refine lv_iload_n hx hb dL_request_7 rfl (lv_at hl 2 rfl) ?_
  refine er_calli (va_runS (As := [.int (nI t)]) (rest := []) ⟨hx, hb, hml, hown, hts⟩ (c_L_isTitle l D T X L tg _ A (nI t)) (cwS 1 hts gL_47 rfl rfl rfl (by decide +kernel) ⟨Nat.le_of_ble_eq_true rfl, Nat.le_of_ble_eq_true rfl⟩) (ec_preS hK hN hV) rfl rfl hl.1 rfl (lv_room (Nat.le_of_ble_eq_true rfl)) dL_request_8 ⟨Nat.le_of_ble_eq_true rfl, Nat.le_of_ble_eq_true rfl⟩) hV hS hA (fun r u H locs hp hV hS => ?_)
  obtain ⟨rfl, eu9⟩ := hp
  rw [eu9] at hV
  refine lv_toe (y := 1) (z_isTitle_1 ht8) ?_
  refine lv_if_eq (tgt := 34) hx hb dL_request_11 rfl (fun h9 => absurd h9 (by decide)) (fun _ => ?_)
  refine lv_iload_n hx hb dL_request_14 rfl (lv_at hl 3 rfl) ?_
  refine er_calli (va_runS (As := [.int (nI f)]) (rest := []) ⟨hx, hb, hml, hown, hts⟩ (c_L_isLibrary l D T X L tg _ A (nI f)) (cwS 1 hts gL_43 rfl rfl rfl (by decide +kernel) ⟨Nat.le_of_ble_eq_true rfl, Nat.le_of_ble_eq_true rfl⟩) (ec_preS hK hN hV) rfl rfl hl.1 rfl (lv_room (Nat.le_of_ble_eq_true rfl)) dL_request_15 ⟨Nat.le_of_ble_eq_true rfl, Nat.le_of_ble_eq_true rfl⟩) hV hS hA (fun r u H locs hp hV hS => ?_)
  obtain ⟨rfl, eu9⟩ := hp
  rw [eu9] at hV
  refine lv_toe (y := 1) (z_isLibrary_1 hf6) ?_
  refine lv_if_eq (tgt := 34) hx hb dL_request_18 rfl (fun h9 => absurd h9 (by decide)) (fun _ => ?_)
  refine lv_iload hx hb dL_request_21 (lv_at hl 4 rfl) ?_
  refine lv_iconst (v := 1) hx hb dL_request_23 (by decide) ?_
  refine lv_icmp_lt (tgt := 34) hx hb dL_request_24 rfl (fun h9 => absurd h9 (fun z9 => (show ¬ (n < 1) by omega) ((nI_ltI (a := n) (b := 1) (by omega) (by omega)).mp z9))) (fun _ => ?_)
  refine lv_iload hx hb dL_request_27 (lv_at hl 4 rfl) ?_
  refine lv_bipush (v := 99) hx hb dL_request_29 (by decide) ?_
  refine lv_icmp_le (tgt := 44) hx hb dL_request_31 rfl (fun _ => ?_) (fun h9 => absurd ((nI_leI (a := n) (b := 99) (by omega) (by omega)).mpr (show n ≤ 99 by omega)) h9)
  refine lv_aload_n hx hb dL_request_44 rfl (lv_at hl 0 rfl) ?_
  refine ew_get (v := .int (A 0 0 6)) hx hb hts hown hK hV fL_71 hth (cC_0 _ _ _ _) rfl dL_request_45 ?_
  refine lv_toe (y := nI nl) qn ?_
  refine lv_bipush (v := 32) hx hb dL_request_48 (by decide) ?_
  refine lv_icmp_lt (tgt := 63) hx hb dL_request_50 rfl (fun _ => ?_) (fun h9 => absurd ((nI_ltI (a := nl) (b := 32) (by omega) (by omega)).mpr (show nl < 32 by omega)) h9)
  refine va_new (fs := [.int 0, .int 0, .int 0, .int 0, .int 0, .null, .null, .null]) (ci := 2) hx hb hts ulLoan tyLoan gLoan.1 hown (hts _ kw_36) (hts _ kw_590) (hts _ kw_11) hK hV.1 hV.2.1 hS hA rfl (by decide +kernel) (Nat.le_of_ble_eq_true rfl) (Nat.le_of_ble_eq_true rfl) dL_request_63 (fun q H hP hD hS => ?_)
  have hV1 := em_exN hV.2.2 hP hD
  refine lv_dup hx hb dL_request_66 rfl ?_
  refine lv_aload_n hx hb dL_request_67 rfl (lv_at hl 0 rfl) ?_
  refine ew_get (v := .int (A 0 0 6)) hx hb hts hown hK hV1 fL_71 hth (cC_0 _ _ _ _) rfl dL_request_68 ?_
  refine lv_toe (y := nI nl) qn ?_
  refine lv_iload_n hx hb dL_request_71 rfl (lv_at hl 1 rfl) ?_
  refine lv_iload_n hx hb dL_request_72 rfl (lv_at hl 2 rfl) ?_
  refine lv_iload_n hx hb dL_request_73 rfl (lv_at hl 3 rfl) ?_
  refine lv_iload hx hb dL_request_74 (lv_at hl 4 rfl) ?_
  refine xl_callv (va_runI (As := [.int (nI nl), .int (nI b), .int (nI t), .int (nI f), .int (nI n)]) (b := q) (rest := [.ref q]) ⟨hx, hb, hml, hown, hts⟩ (c_Loan_init_n l D T t0 (ew_w (cfC T) X L tg A []) _ q (nI nl) (nI t) (nI n) b f hb6 hf6 heq) ⟨callB_of 5 hts gL_76.1 rfl rfl rfl (hts _ gL_76.2.2.2) (hts _ gL_76.2.1) (by decide +kernel) ⟨Nat.le_of_ble_eq_true rfl, Nat.le_of_ble_eq_true rfl⟩, rfl, hts _ gL_76.2.2.1⟩ (xl_preS hK hN hP hD hZ hS hA) rfl rfl hl.1 rfl (lv_room (Nat.le_of_ble_eq_true rfl)) dL_request_76 ⟨Nat.le_of_ble_eq_true rfl, Nat.le_of_ble_eq_true rfl⟩) hD hS hA (fun u H locs hp hP hD hS => ?_)
  obtain ⟨q13, q3, q4, q17, q5, q8, q15, q16, rfl⟩ := hp
  obtain ⟨X1, L1, tg1, hq, h1, hV⟩ := em_loan (ln := nl) (b := (f)) (by omega) (by omega) hV.2.2 hP hD h14 h20 hcl hnew
  have hth := h1.ad hth
  have lv : ∀ t ∈ nw_2 nl (f), ew_in X1 L1 tg1 t.1 t.2 (X1 t.1 t.2) := h1.2.2.1
  have f2 : ew_in X1 L1 tg1 2 nl q := by have := lv (2, nl) (by simp [nw_2]); rw [hq] at this; exact this
  have f10 := h1.ad e10
  have f3 := lv (3, nl) (by simp [nw_2])
  have f4 := lv (4, (6 * nl + (f))) (by simp [nw_2, nw_4])
  have f5 := lv (5, (6 * nl + (f))) (by simp [nw_2, nw_4])
  have f8 := lv (8, (6 * nl + (f))) (by simp [nw_2, nw_4])
  have hcl1 := clC_loan (rq := nI b) (t := nI t) (st := nI f) (n := nI n) (by omega) (by omega) hcl h1
  refine lv_astore (lv' := [(5, .ref q), (0, .ref th), (1, .int (nI b)), (2, .int (nI t)), (3, .int (nI f)), (4, .int (nI n))]) hx hb dL_request_79 hl (by decide) rfl (fun ls hl => ?_)
  refine lv_aload_n hx hb dL_request_81 rfl (lv_at hl 1 rfl) ?_
  refine ew_get (v := .ref (X 10 0)) hx hb hts hown hK hV fL_17 hth (cC_0 _ _ _ _) (by show some (Value.ref (X1 10 0)) = _; rw [f10.1]) dL_request_82 ?_
  refine lv_aload_n hx hb dL_request_85 rfl (lv_at hl 1 rfl) ?_
  have r6 : z_Loan A nl (f) (nI b) (nI t) (nI f) (nI n) 0 0 = A 0 0 := z_Loan_oth _ _ _ _ _ _ _ (by simp [nw_2, nw_4])
  refine ew_get (v := .int (nI nl)) hx hb hts hown hK hV fL_71 hth (cC_0 _ _ _ _) (by show some (Value.int (z_Loan A nl (f) (nI b) (nI t) (nI f) (nI n) 0 0 6)) = _; rw [r6, qn]) dL_request_86 ?_
  refine lv_aload hx hb dL_request_89 (lv_at hl 0 rfl) ?_
  refine ew_aasS (r := (RLoan, TLoan, 8)) hx hb hK hV hS f10 (cC_10 _ _ _ _) 3 rfl f2 (cC_2 _ _ _ _) rfl (vp_in_nI (by omega) (by decide)) nl 1 (by rw [nI_clamp (by omega)]; exact qC_10_1 hq) dL_request_91 (fun H locs hV hS => ?_)
  refine lv_aload_n hx hb dL_request_92 rfl (lv_at hl 1 rfl) ?_
  refine lv_dup hx hb dL_request_93 rfl ?_
  refine ew_get (v := .int (nI nl)) hx hb hts hown hK hV fL_71 hth (cC_0 _ _ _ _) (by show some (Value.int ((up3 (z_Loan A nl (f) (nI b) (nI t) (nI f) (nI n)) 10 0 nl 1) 0 0 6)) = _; rw [p_kd_up _ _ _ _ (by decide), r6, qn]) dL_request_94 ?_
  refine lv_iconst (v := 1) hx hb dL_request_97 (by decide) ?_
  refine lv_iadd hx hb dL_request_98 ?_
  refine lv_toe (y := nI (nl + 1)) (nI_add nl 1) ?_
  refine ew_put (ty := .int) hx hb hts hown hK hV hS fL_71 gL hth (cC_0 _ _ _ _) 6 _ (pC_0_6 _ _ _ _ _) rfl (by decide +kernel) rfl rfl (Nat.le_of_ble_eq_true rfl) dL_request_99 (fun H locs hV hS => ?_)
  refine lv_aload_n hx hb dL_request_102 rfl (lv_at hl 1 rfl) ?_
  refine lv_aload hx hb dL_request_103 (lv_at hl 0 rfl) ?_
  refine lv_iconst (v := 0) hx hb dL_request_105 (by decide) ?_
  refine lv_iconst (v := 1) hx hb dL_request_106 (by decide) ?_
  refine lv_iload hx hb dL_request_107 (lv_at hl 5 rfl) ?_
  have o1 : ∀ c i, c ≠ 0 → c ≠ 10 → (up3 (up3 (z_Loan A nl (f) (nI b) (nI t) (nI f) (nI n)) 10 0 nl 1) 0 0 6 (nI (nl + 1))) c i = z_Loan A nl (f) (nI b) (nI t) (nI f) (nI n) c i := fun c i h0 h10 => by rw [p_kd_up _ _ _ _ h0, p_kd_up _ _ _ _ h10]
  have r8 : z_Loan A nl (f) (nI b) (nI t) (nI f) (nI n) 8 (6 * nl + (f)) = p_r8 (6 * nl + (f)) := by rw [z_Loan_deal _ _ _ _ _ _ _ _ (by decide) (by decide) (by decide)]; simp [z_Deal, upr, va_up]
  have r2 : z_Loan A nl (f) (nI b) (nI t) (nI f) (nI n) 2 nl = p_r2 nl (nI b) (nI t) (nI f) (nI n) (6 * nl + (f)) := by unfold z_Loan; rw [upr_oth _ _ (by omega), upr_oth _ _ (by omega), upr_row]
  refine em_calli (va_runV (As := [.ref q, .int 0, .int 1, .int (nI n)]) (rest := []) ⟨hx, hb, hml, hown, hts⟩ (c_L_requesterWrites l D T t0 X1 L1 tg1 _ (up3 (up3 (z_Loan A nl (f) (nI b) (nI t) (nI f) (nI n)) 10 0 nl 1) 0 0 6 (nI (nl + 1))) nl (6 * nl + (f)) 0 0 w th q (X1 3 nl) (X1 4 (6 * nl + (f))) (X1 5 (6 * nl + (f))) (X1 8 (6 * nl + (f))) (X1 7 0) (X1 12 0) 0 1 (nI n) (by omega) (by omega) hth f5 f8 (h1.ad e7).self (h1.ad e12).self ⟨by omega, Nat.le_refl _, ?_, ?_, fun _ => ?_, fun h => by omega⟩ hw ?_ ?_ ?_ ?_ f2 f3 f4 ?_) (cwV 4 hts gL_81 rfl rfl rfl (by decide +kernel) ⟨Nat.le_of_ble_eq_true rfl, Nat.le_of_ble_eq_true rfl⟩) (em_preV hK hN hV hZ hS hA hth (cC_0 _ _ _ _) rfl) rfl rfl hl.1 rfl (lv_room (Nat.le_of_ble_eq_true rfl)) dL_request_109 ⟨Nat.le_of_ble_eq_true rfl, Nat.le_of_ble_eq_true rfl⟩) hV hS hA (fun r X2 L2 tg2 u2 H locs hp hV hS => ?_)
  · rw [o1 8 _ (by decide) (by decide), r8]; rfl
  · rw [o1 8 _ (by decide) (by decide), r8]; rfl
  · rw [h1.1 14 (64 * (6 * nl + (f))) (by simp [nw_2, nw_4])]; exact h14
  · rw [o1 7 _ (by decide) (by decide), z_Loan_oth _ _ _ _ _ _ _ (by simp [nw_2, nw_4])]; exact qw
  · refine clC_set (clC_set hcl1 (fun c i hr => ?_)) (fun c i hr => ?_)
    · obtain ⟨rfl, hr⟩ := hr
      by_cases hi : i = nl
      · subst hi; exact Or.inr (Or.inr f2.self)
      · rw [va_up_ne _ _ hi] at hr
        exact Or.inl ⟨rfl, hr⟩
    · have hr2 : (c = 9 ∨ c = 10 ∨ c = 11 ∨ c = 7 ∨ c = 18) ∧ i = 0 := hr
      exact Or.inl hr2
  · intro a ha z
    rcases h1.2.2.2 a ha with h | ⟨h, h2⟩
    · rw [← z] at h; simp [nw_2, nw_4] at h
    · exact hnt a h (by rw [← h2]; exact z)
  · intro a ha z
    rcases h1.2.2.2 a ha with h | ⟨h, h2⟩
    · rw [← z] at h; simp [nw_2, nw_4] at h
    · exact hna a h (by rw [← h2]; exact z)
  · rw [o1 2 _ (by decide) (by decide), r2]; rfl
  obtain ⟨rfl, h2, eA2⟩ := hp
  have h2 : em_S (nw_5 (6 * nl + (f)) 0 0) X1 L1 tg1 X2 L2 tg2 := h2
  have eA2 : u2 = z_L_requesterWrites (up3 (up3 (z_Loan A nl (f) (nI b) (nI t) (nI f) (nI n)) 10 0 nl 1) 0 0 6 (nI (nl + 1))) nl (6 * nl + (f)) 0 0 w 0 1 (nI n) := eA2
  rw [eA2] at hV
  refine lv_pop hx hb dL_request_112 rfl ?_
  refine lv_aload hx hb dL_request_113 (lv_at hl 0 rfl) ?_
  refine ew_get (v := .int (nI nl)) hx hb hts hown hK hV fL_85 (h2.ad f2) (cC_2 _ _ _ _) (by
    show some (Value.int (z_L_requesterWrites (up3 (up3 (z_Loan A nl (f) (nI b) (nI t) (nI f) (nI n)) 10 0 nl 1) 0 0 6 (nI (nl + 1))) nl (6 * nl + (f)) 0 0 w 0 1 (nI n) 2 nl 0)) = _
    unfold z_L_requesterWrites
    rw [p_send5_4 _ _ _ _ _ _ _ (by decide), p_kd_up _ _ _ _ (by decide), o1 2 _ (by decide) (by decide), r2]; rfl) dL_request_115 ?_
  exact em_iret hx hb hr hlocks hV hS dL_request_118 ⟨rfl, h1.trans h2, rfl⟩
