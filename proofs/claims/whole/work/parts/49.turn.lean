/-- an entity stored into an array of its own class -/
theorem ew_aasS {p : Program} {l : Launch} {e : Env} {R : Room} {s : State} {m : MethodId} {args : Array Value} {below : List Frame} {meth : Method} {c : Code} {H : Heap} {locs : List Loc} {cells slots : Nat} {Q : State → Prop} {cc : ByteArray} {pc : Nat} {ls : Array Slot} {rest : List Value} {D : va_G} {cl : List vw_C} {cf : ew_C} {A0 : Nat → Prop} {tys : List (ClassId × FieldType)} {X : Nat → Nat → Nat} {L : List Nat} {tg : Nat → Nat × Nat} {A : ew_R} {ex : va_W} {H0 : Heap} (hexec : p.tables.exec = Jvm.exec) (hb : c.code = cc) (hK : va_K D cl tys s) (hV : ew_V D cl cf A0 X L tg A ex H) (hS : va_S A0 H0 H locs) {kd id a : Nat} (hi : ew_in X L tg kd id a) {cA : ClassId} {n : Nat} {f : Nat → Option Nat} (he : cf X kd id (A kd id) = .inl (cA, n, .inr (.inr (.inr (.inr f))))) (t0 : Nat) {kd2 id2 v ci : Nat} {r : vw_C} (ht : tys[t0]? = some (cA, .object r.1)) (hi2 : ew_in X L tg kd2 id2 v) {vs : List Value} (he2 : cf X kd2 id2 (A kd2 id2) = .inr (ci, vs)) (hc : cl[ci]? = some r) {i : Int32} (hin : vp_in i n) (j : Nat) (x : Int32) (he' : cf X kd id (va_up (A kd id) j x) = .inl (cA, n, .inr (.inr (.inr (.inr (va_up f i.toNatClampNeg (some v))))))) (hdg : decode cc pc = .ok (.aastore, 1))
    (kk : ∀ (H1 : Heap) (locs1 : List Loc), ew_V D cl cf A0 X L tg (up3 A kd id j x) ex H1 → va_S A0 H0 H1 locs1 → W p l e R s m args below meth c H1 locs1 cells slots Q (F0 m (pc + 1) ls rest)) : W p l e R s m args below meth c H locs cells slots Q (F0 m pc ls (.ref v :: .int i :: .ref a :: rest)) := by
  obtain ⟨q0, hq⟩ := ew_at (cf := cf) (A := A) (ex := ex) hi
  obtain ⟨q1, hq1⟩ := ew_at (cf := cf) (A := A) (ex := ex) hi2
  have hq2 := hq
  rw [he] at hq
  rw [he2] at hq1
  exact va_astq hexec hb hK hV.1 hV.2.1 hS q0 t0 q1 ci hq ht hq1 hc hin hdg (fun H1 locs1 hP hD hS1 => kk H1 locs1 (hV.put hi hq2 he' hP hD) hS1)
theorem qC_13_1 {T : Nat → ClassId} {X : Nat → Nat → Nat} {id j v : Nat} {r : Nat → Int32} (hv : X 4 (6 * id + j) = v) : cfC T X 13 id (va_up r j 1) = .inl (T 4, 6, .inr (.inr (.inr (.inr (va_up (fun j => if r j = 0 then none else some (X 4 (6 * id + j))) j (some v)))))) := by
  rw [cC_13]
  have : (fun j' => if va_up r j 1 j' = 0 then none else some (X 4 (6 * id + j'))) = va_up (fun j => if r j = 0 then none else some (X 4 (6 * id + j))) j (some v) := by
    funext j'
    by_cases h : j' = j
    · subst h; rw [va_up_self, va_up_self, hv]; rfl
    · rw [va_up_ne _ _ h, va_up_ne _ _ h]
  rw [this]
/-- the ints after the next one's turn -/
def z_turn (A : ew_R) (ln b d : Nat) (rq : Int32) : ew_R := up3 (up3 (z_Deal A d (A 2 ln 0) rq (nI b)) 2 ln 7 (nI d)) 13 ln b 1

set_option maxHeartbeats 4000000 in
set_option maxRecDepth 100000 in
theorem c_Loan_turnToNext_go (l : Launch) (D : va_G) (T : Nat → ClassId) (t0 : Nat × Nat) (X : Nat → Nat → Nat) (L : List Nat) (tg : Nat → Nat × Nat) (sz : Nat) (A : ew_R) (ln th st rq : Nat) (hth : ew_in X L tg 2 ln th) (e13_0 : ew_in X L tg 13 ln (X 13 ln)) (e4x : ∀ b, b < 6 → ¬ A 13 ln b = 0 → ew_in X L tg 4 (6 * ln + b) (X 4 (6 * ln + b))) (hln : ln < 32) (hst : st < 6) (hrq : rq < 6) (q3 : A 2 ln 3 = nI st) (q1 : A 2 ln 1 = nI rq) (x : Nat) (hx1 : 1 ≤ x) (hx5 : x < 6) (hsk : ∀ k, 1 ≤ k → k < x → (st + k) % 6 = rq ∨ ¬ A 13 ln ((st + k) % 6) = 0) (hne : ¬ (st + x) % 6 = rq) (hz : A 13 ln ((st + x) % 6) = 0) (h14 : X 14 (64 * (6 * ln + (st + x) % 6)) = t0.1) (h20 : X 20 (64 * (6 * ln + (st + x) % 6)) = t0.1) (hcl : clC X L tg A) (hnew : ∀ b ∈ L, ∀ t ∈ nw_4 (6 * ln + (st + x) % 6), t ≠ tg b) : Met l yLoan_turnToNext wsLoan_turnToNext ({ frames := 6, cells := 6, slots := 28, locals := 118 }) (em_Pc D vwCl (tysA T) (cfC T) t0 X L tg A sz [.ref th]) (em_Qi D vwCl (cfC T) L sz (fun r u => r = 1 ∧ em_S (nw_4 (6 * ln + (st + x) % 6)) X L tg u.1 u.2.1 u.2.2.1 ∧ u.2.2.2 = z_turn A ln ((st + x) % 6) (6 * ln + (st + x) % 6) (nI rq))) 6 28 (ew_A L sz) := by
  refine em_met (by decide) rfl (Nat.le_of_ble_eq_true rfl) ?_
  intro p e s m below meth c ls hx hb hr hts hown hlocks hml hnm hV hK hN hZ hS hA hl hsz
  subst hsz
  have hl : lv_has ls 3 [(0, .ref th)] := hl
  refine lv_iconst (v := 1) hx hb dLoan_turnToNext_0 (by decide) ?_
  refine lv_istore_n (lv' := [(1, .int 1), (0, .ref th)]) hx hb dLoan_turnToNext_1 rfl hl (by decide) rfl (fun ls hl => ?_)
  have loop : ∀ (j k : Nat), k + j = x → 1 ≤ k → ∀ (ls : Array Slot), lv_has ls 3 [(1, .int (nI k)), (0, .ref th)] → W p l e ({ frames := 6, cells := 6, slots := 28, locals := 118 }) s m ([.ref th] : List Value).toArray below meth c s.heap [] 0 0 (MQ below (em_Qi D vwCl (cfC T) L s.heap.size (fun r u => r = 1 ∧ em_S (nw_4 (6 * ln + (st + x) % 6)) X L tg u.1 u.2.1 u.2.2.1 ∧ u.2.2.2 = z_turn A ln ((st + x) % 6) (6 * ln + (st + x) % 6) (nI rq))) ([.ref th] : List Value).toArray s 6 28 (ew_A L s.heap.size)) (F0 m 2 ls []) := by
    intro j
    induction j with
    | zero =>
      intro k hkj hk1 ls hl
      have hk6 : k < 6 := by omega
      have hkx : k = x := by omega
      subst hkx
      refine lv_iload_n hx hb dLoan_turnToNext_2 rfl (lv_at hl 0 rfl) ?_
      refine lv_bipush (v := 6) hx hb dLoan_turnToNext_3 (by decide) ?_
      refine lv_icmp_ge (tgt := 73) hx hb dLoan_turnToNext_5 rfl (fun h9 => absurd h9 (fun z9 => (show ¬ (6 ≤ k) by omega) ((nI_leI (a := 6) (b := k) (by omega) (by omega)).mp z9))) (fun _ => ?_)
      refine lv_aload_n hx hb dLoan_turnToNext_8 rfl (lv_at hl 1 rfl) ?_
      refine ew_get (v := .int (A 2 ln 3)) hx hb hts hown hK hV fLoan_34 hth (cC_2 _ _ _ _) rfl dLoan_turnToNext_9 ?_
      refine lv_toe (y := nI st) q3 ?_
      refine lv_iload_n hx hb dLoan_turnToNext_12 rfl (lv_at hl 0 rfl) ?_
      refine lv_iadd hx hb dLoan_turnToNext_13 ?_
      refine lv_toe (y := nI (st + k)) (nI_add st k) ?_
      refine lv_bipush (v := 6) hx hb dLoan_turnToNext_14 (by decide) ?_
      refine lv_irem hx hb dLoan_turnToNext_16 (by decide) ?_
      refine lv_toe (y := nI ((st + k) % 6)) (pk_rem (a := (st + k)) (d := 6) (by omega) (by decide) (by decide)) ?_
      refine lv_istore_n (lv' := [(2, .int (nI ((st + k) % 6))), (1, .int (nI k)), (0, .ref th)]) hx hb dLoan_turnToNext_17 rfl hl (by decide) rfl (fun ls hl => ?_)
      refine lv_iload_n hx hb dLoan_turnToNext_18 rfl (lv_at hl 0 rfl) ?_
      refine lv_aload_n hx hb dLoan_turnToNext_19 rfl (lv_at hl 2 rfl) ?_
      refine ew_get (v := .int (A 2 ln 1)) hx hb hts hown hK hV fLoan_28 hth (cC_2 _ _ _ _) rfl dLoan_turnToNext_20 ?_
      refine lv_toe (y := nI rq) q1 ?_
      refine lv_icmp_eq (tgt := 67) hx hb dLoan_turnToNext_23 rfl (fun h9 => absurd h9 (fun z9 => hne ((nI_eq (a := (st + k) % 6) (b := rq) (by omega) (by omega)).mp z9))) (fun _ => ?_)
      refine lv_aload_n hx hb dLoan_turnToNext_26 rfl (lv_at hl 2 rfl) ?_
      refine ew_get (v := .ref (X 13 ln)) hx hb hts hown hK hV fLoan_11 hth (cC_2 _ _ _ _) rfl dLoan_turnToNext_27 ?_
      refine lv_iload_n hx hb dLoan_turnToNext_30 rfl (lv_at hl 0 rfl) ?_
      refine ew_aald (v := .null) hx hb hK hV e13_0 (cC_13 _ _ _ _) 4 rfl (vp_in_nI (by omega) (by decide)) (by rw [nI_clamp (by omega)]; exact ec_nu hz) dLoan_turnToNext_31 ?_
      refine lv_ifnonnullN hx hb dLoan_turnToNext_32 ?_
      refine lv_aload_n hx hb dLoan_turnToNext_35 rfl (lv_at hl 2 rfl) ?_
      refine va_new (fs := [.int 0, .null, .null, .null, .null, .int 0]) (ci := 4) hx hb hts ulDeal tyDeal gDeal.1 hown (hts _ kw_178) (hts _ kw_179) (hts _ kw_13) hK hV.1 hV.2.1 hS hA rfl (by decide +kernel) (Nat.le_of_ble_eq_true rfl) (Nat.le_of_ble_eq_true rfl) dLoan_turnToNext_36 (fun q H hP hD hS => ?_)
      have hV1 := em_exN hV.2.2 hP hD
      refine lv_dup hx hb dLoan_turnToNext_39 rfl ?_
      refine lv_aload_n hx hb dLoan_turnToNext_40 rfl (lv_at hl 2 rfl) ?_
      refine ew_get (v := .int (A 2 ln 0)) hx hb hts hown hK hV1 fLoan_24 hth (cC_2 _ _ _ _) rfl dLoan_turnToNext_41 ?_
      refine lv_aload_n hx hb dLoan_turnToNext_44 rfl (lv_at hl 2 rfl) ?_
      refine ew_get (v := .int (A 2 ln 1)) hx hb hts hown hK hV1 fLoan_28 hth (cC_2 _ _ _ _) rfl dLoan_turnToNext_45 ?_
      refine lv_toe (y := nI rq) q1 ?_
      refine lv_iload_n hx hb dLoan_turnToNext_48 rfl (lv_at hl 0 rfl) ?_
      refine xl_callv (va_runI (As := [.int (A 2 ln 0), .int (nI rq), .int (nI ((st + k) % 6))]) (b := q) (rest := [.ref q, .ref th]) ⟨hx, hb, hml, hown, hts⟩ (c_Deal_init l D T t0 (ew_w (cfC T) X L tg A []) _ q (A 2 ln 0) (nI rq) (nI ((st + k) % 6))) ⟨callB_of 3 hts gLoan_40.1 rfl rfl rfl (hts _ gLoan_40.2.2.2) (hts _ gLoan_40.2.1) (by decide +kernel) ⟨Nat.le_of_ble_eq_true rfl, Nat.le_of_ble_eq_true rfl⟩, rfl, hts _ gLoan_40.2.2.1⟩ (xl_preS hK hN hP hD hZ hS hA) rfl rfl hl.1 rfl (lv_room (Nat.le_of_ble_eq_true rfl)) dLoan_turnToNext_49 ⟨Nat.le_of_ble_eq_true rfl, Nat.le_of_ble_eq_true rfl⟩) hD hS hA (fun u H locs hp hP hD hS => ?_)
      obtain ⟨q17, q5, q8, q15, q16, rfl⟩ := hp
      obtain ⟨X1, L1, tg1, hq, h1, hV⟩ := em_deal (d := (6 * ln + ((st + k) % 6))) (by omega) hV.2.2 hP hD h14 h20 hcl hnew
      have hth := h1.ad hth
      have e13 := (h1.ad e13_0)
      have e4 : ew_in X1 L1 tg1 4 (6 * ln + ((st + k) % 6)) q := by have := h1.2.2.1 (4, (6 * ln + ((st + k) % 6))) (by simp [nw_4]); rw [hq] at this; exact this
      have r2 : z_Deal A (6 * ln + ((st + k) % 6)) (A 2 ln 0) (nI rq) (nI ((st + k) % 6)) 2 ln = A 2 ln := z_Deal_oth _ _ _ _ _ (by simp [nw_4])
      refine ew_put (ty := .object "LoanLetters$Deal") (v := .ref q) hx hb hts hown hK hV hS fLoan_43 gLoan hth (cC_2 _ _ _ _) 7 (nI (6 * ln + ((st + k) % 6))) ((pC_2_7 _ _ _ _ _).trans (by rw [nI_clamp (by omega), hq])) rfl (by decide +kernel) rfl rfl (Nat.le_of_ble_eq_true rfl) dLoan_turnToNext_52 (fun H locs hV hS => ?_)
      refine lv_aload_n hx hb dLoan_turnToNext_55 rfl (lv_at hl 2 rfl) ?_
      refine ew_get (v := .ref (X1 13 ln)) hx hb hts hown hK hV fLoan_11 hth (cC_2 _ _ _ _) rfl dLoan_turnToNext_56 ?_
      refine lv_iload_n hx hb dLoan_turnToNext_59 rfl (lv_at hl 0 rfl) ?_
      refine lv_aload_n hx hb dLoan_turnToNext_60 rfl (lv_at hl 2 rfl) ?_
      refine ew_get (v := .ref q) hx hb hts hown hK hV fLoan_43 hth (cC_2 _ _ _ _) (by show some (Value.ref (X1 4 _)) = _; rw [up3_self, nI_clamp (by omega), hq]) dLoan_turnToNext_61 ?_
      refine ew_aasS (r := (RDeal, TDeal, 6)) hx hb hK hV hS e13.self (cC_13 _ _ _ _) 4 rfl e4 (cC_4 _ _ _ _) rfl (vp_in_nI (by omega) (by decide)) ((st + k) % 6) 1 (by rw [nI_clamp (by omega)]; exact qC_13_1 hq) dLoan_turnToNext_64 (fun H locs hV hS => ?_)
      refine lv_iconst (v := 1) hx hb dLoan_turnToNext_65 (by decide) ?_
      exact em_zret hx hb hr hlocks hV hS dLoan_turnToNext_66 (by decide) ⟨rfl, h1, rfl⟩
    | succ j ih =>
      intro k hkj hk1 ls hl
      have hk6 : k < 6 := by omega
      have hs9 : ¬ (st + k) % 6 = rq → ¬ A 13 ln ((st + k) % 6) = 0 := fun h => (hsk k hk1 (by omega)).resolve_left h
      refine lv_iload_n hx hb dLoan_turnToNext_2 rfl (lv_at hl 0 rfl) ?_
      refine lv_bipush (v := 6) hx hb dLoan_turnToNext_3 (by decide) ?_
      refine lv_icmp_ge (tgt := 73) hx hb dLoan_turnToNext_5 rfl (fun h9 => absurd h9 (fun z9 => (show ¬ (6 ≤ k) by omega) ((nI_leI (a := 6) (b := k) (by omega) (by omega)).mp z9))) (fun _ => ?_)
      refine lv_aload_n hx hb dLoan_turnToNext_8 rfl (lv_at hl 1 rfl) ?_
      refine ew_get (v := .int (A 2 ln 3)) hx hb hts hown hK hV fLoan_34 hth (cC_2 _ _ _ _) rfl dLoan_turnToNext_9 ?_
      refine lv_toe (y := nI st) q3 ?_
      refine lv_iload_n hx hb dLoan_turnToNext_12 rfl (lv_at hl 0 rfl) ?_
      refine lv_iadd hx hb dLoan_turnToNext_13 ?_
      refine lv_toe (y := nI (st + k)) (nI_add st k) ?_
      refine lv_bipush (v := 6) hx hb dLoan_turnToNext_14 (by decide) ?_
      refine lv_irem hx hb dLoan_turnToNext_16 (by decide) ?_
      refine lv_toe (y := nI ((st + k) % 6)) (pk_rem (a := (st + k)) (d := 6) (by omega) (by decide) (by decide)) ?_
      refine lv_istore_n (lv' := [(2, .int (nI ((st + k) % 6))), (1, .int (nI k)), (0, .ref th)]) hx hb dLoan_turnToNext_17 rfl hl (by decide) rfl (fun ls hl => ?_)
      refine lv_iload_n hx hb dLoan_turnToNext_18 rfl (lv_at hl 0 rfl) ?_
      refine lv_aload_n hx hb dLoan_turnToNext_19 rfl (lv_at hl 2 rfl) ?_
      refine ew_get (v := .int (A 2 ln 1)) hx hb hts hown hK hV fLoan_28 hth (cC_2 _ _ _ _) rfl dLoan_turnToNext_20 ?_
      refine lv_toe (y := nI rq) q1 ?_
      refine lv_icmp_eq (tgt := 67) hx hb dLoan_turnToNext_23 rfl (fun h1 => ?_) (fun h1 => ?_)
      · replace h1 := (nI_eq (a := (st + k) % 6) (b := rq) (by omega) (by omega)).mp h1
        refine lv_iinc (k := 1) (v := nI (k + 1)) (lv' := [(1, .int (nI (k + 1))), (2, .int (nI ((st + k) % 6))), (0, .ref th)]) hx hb dLoan_turnToNext_67 hl rfl (nI_add k 1) (by decide) rfl (fun ls hl => ?_)
        refine lv_goto (tgt := 2) hx hb dLoan_turnToNext_70 rfl ?_
        exact ih (k + 1) (by omega) (by omega) ls (lv_sub hl [0, 2] rfl)
      · replace h1 : ¬ ((st + k) % 6 = rq) := fun z9 => h1 ((nI_eq (a := (st + k) % 6) (b := rq) (by omega) (by omega)).mpr z9)
        refine lv_aload_n hx hb dLoan_turnToNext_26 rfl (lv_at hl 2 rfl) ?_
        refine ew_get (v := .ref (X 13 ln)) hx hb hts hown hK hV fLoan_11 hth (cC_2 _ _ _ _) rfl dLoan_turnToNext_27 ?_
        refine lv_iload_n hx hb dLoan_turnToNext_30 rfl (lv_at hl 0 rfl) ?_
        refine ew_aald (v := .ref (X 4 (6 * ln + ((st + k) % 6)))) hx hb hK hV e13_0 (cC_13 _ _ _ _) 4 rfl (vp_in_nI (by omega) (by decide)) (by rw [nI_clamp (by omega)]; exact ec_nn (hs9 h1)) dLoan_turnToNext_31 ?_
        refine lv_ifnonnull (tgt := 67) hx hb dLoan_turnToNext_32 rfl ?_
        refine lv_iinc (k := 1) (v := nI (k + 1)) (lv' := [(1, .int (nI (k + 1))), (2, .int (nI ((st + k) % 6))), (0, .ref th)]) hx hb dLoan_turnToNext_67 hl rfl (nI_add k 1) (by decide) rfl (fun ls hl => ?_)
        refine lv_goto (tgt := 2) hx hb dLoan_turnToNext_70 rfl ?_
        exact ih (k + 1) (by omega) (by omega) ls (lv_sub hl [0, 2] rfl)
  exact loop (x - 1) 1 (by omega) (by omega) ls hl
set_option maxHeartbeats 4000000 in
set_option maxRecDepth 100000 in
theorem c_Loan_turnToNext_end (l : Launch) (D : va_G) (T : Nat → ClassId) (t0 : Nat × Nat) (X : Nat → Nat → Nat) (L : List Nat) (tg : Nat → Nat × Nat) (sz : Nat) (A : ew_R) (ln th st rq : Nat) (hth : ew_in X L tg 2 ln th) (e13_0 : ew_in X L tg 13 ln (X 13 ln)) (e4x : ∀ b, b < 6 → ¬ A 13 ln b = 0 → ew_in X L tg 4 (6 * ln + b) (X 4 (6 * ln + b))) (hln : ln < 32) (hst : st < 6) (hrq : rq < 6) (q3 : A 2 ln 3 = nI st) (q1 : A 2 ln 1 = nI rq) (hsk : ∀ k, 1 ≤ k → k < 6 → (st + k) % 6 = rq ∨ ¬ A 13 ln ((st + k) % 6) = 0) : Met l yLoan_turnToNext wsLoan_turnToNext ({ frames := 6, cells := 6, slots := 28, locals := 118 }) (em_Pc D vwCl (tysA T) (cfC T) t0 X L tg A sz [.ref th]) (em_Qi D vwCl (cfC T) L sz (fun r u => r = 0 ∧ em_S [] X L tg u.1 u.2.1 u.2.2.1 ∧ u.2.2.2 = A)) 6 28 (ew_A L sz) := by
  refine em_met (by decide) rfl (Nat.le_of_ble_eq_true rfl) ?_
  intro p e s m below meth c ls hx hb hr hts hown hlocks hml hnm hV hK hN hZ hS hA hl hsz
  subst hsz
  have hl : lv_has ls 3 [(0, .ref th)] := hl
  refine lv_iconst (v := 1) hx hb dLoan_turnToNext_0 (by decide) ?_
  refine lv_istore_n (lv' := [(1, .int 1), (0, .ref th)]) hx hb dLoan_turnToNext_1 rfl hl (by decide) rfl (fun ls hl => ?_)
  have loop : ∀ (j k : Nat), k + j = 6 → 1 ≤ k → ∀ (ls : Array Slot), lv_has ls 3 [(1, .int (nI k)), (0, .ref th)] → W p l e ({ frames := 6, cells := 6, slots := 28, locals := 118 }) s m ([.ref th] : List Value).toArray below meth c s.heap [] 0 0 (MQ below (em_Qi D vwCl (cfC T) L s.heap.size (fun r u => r = 0 ∧ em_S [] X L tg u.1 u.2.1 u.2.2.1 ∧ u.2.2.2 = A)) ([.ref th] : List Value).toArray s 6 28 (ew_A L s.heap.size)) (F0 m 2 ls []) := by
    intro j
    induction j with
    | zero =>
      intro k hkj hk1 ls hl
      have hk6 : k = 6 := by omega
      subst hk6
      refine lv_iload_n hx hb dLoan_turnToNext_2 rfl (lv_at hl 0 rfl) ?_
      refine lv_bipush (v := 6) hx hb dLoan_turnToNext_3 (by decide) ?_
      refine lv_icmp_ge (tgt := 73) hx hb dLoan_turnToNext_5 rfl (fun _ => ?_) (fun h9 => absurd (show (6 : Int32) ≤ nI 6 by decide) h9)
      refine lv_iconst (v := 0) hx hb dLoan_turnToNext_73 (by decide) ?_
      refine W.widen (k := 6) (n := 28) (Nat.le_of_ble_eq_true rfl) (Nat.le_of_ble_eq_true rfl) ?_
      exact em_zret hx hb hr hlocks hV hS dLoan_turnToNext_74 (by decide) ⟨rfl, em_S.nil, rfl⟩
    | succ j ih =>
      intro k hkj hk1 ls hl
      have hk6 : k < 6 := by omega
      have hs9 : ¬ (st + k) % 6 = rq → ¬ A 13 ln ((st + k) % 6) = 0 := fun h => (hsk k hk1 (by omega)).resolve_left h
      refine lv_iload_n hx hb dLoan_turnToNext_2 rfl (lv_at hl 0 rfl) ?_
      refine lv_bipush (v := 6) hx hb dLoan_turnToNext_3 (by decide) ?_
      refine lv_icmp_ge (tgt := 73) hx hb dLoan_turnToNext_5 rfl (fun h9 => absurd h9 (fun z9 => (show ¬ (6 ≤ k) by omega) ((nI_leI (a := 6) (b := k) (by omega) (by omega)).mp z9))) (fun _ => ?_)
      refine lv_aload_n hx hb dLoan_turnToNext_8 rfl (lv_at hl 1 rfl) ?_
      refine ew_get (v := .int (A 2 ln 3)) hx hb hts hown hK hV fLoan_34 hth (cC_2 _ _ _ _) rfl dLoan_turnToNext_9 ?_
      refine lv_toe (y := nI st) q3 ?_
      refine lv_iload_n hx hb dLoan_turnToNext_12 rfl (lv_at hl 0 rfl) ?_
      refine lv_iadd hx hb dLoan_turnToNext_13 ?_
      refine lv_toe (y := nI (st + k)) (nI_add st k) ?_
      refine lv_bipush (v := 6) hx hb dLoan_turnToNext_14 (by decide) ?_
      refine lv_irem hx hb dLoan_turnToNext_16 (by decide) ?_
      refine lv_toe (y := nI ((st + k) % 6)) (pk_rem (a := (st + k)) (d := 6) (by omega) (by decide) (by decide)) ?_
      refine lv_istore_n (lv' := [(2, .int (nI ((st + k) % 6))), (1, .int (nI k)), (0, .ref th)]) hx hb dLoan_turnToNext_17 rfl hl (by decide) rfl (fun ls hl => ?_)
      refine lv_iload_n hx hb dLoan_turnToNext_18 rfl (lv_at hl 0 rfl) ?_
      refine lv_aload_n hx hb dLoan_turnToNext_19 rfl (lv_at hl 2 rfl) ?_
      refine ew_get (v := .int (A 2 ln 1)) hx hb hts hown hK hV fLoan_28 hth (cC_2 _ _ _ _) rfl dLoan_turnToNext_20 ?_
      refine lv_toe (y := nI rq) q1 ?_
      refine lv_icmp_eq (tgt := 67) hx hb dLoan_turnToNext_23 rfl (fun h1 => ?_) (fun h1 => ?_)
      · replace h1 := (nI_eq (a := (st + k) % 6) (b := rq) (by omega) (by omega)).mp h1
        refine lv_iinc (k := 1) (v := nI (k + 1)) (lv' := [(1, .int (nI (k + 1))), (2, .int (nI ((st + k) % 6))), (0, .ref th)]) hx hb dLoan_turnToNext_67 hl rfl (nI_add k 1) (by decide) rfl (fun ls hl => ?_)
        refine lv_goto (tgt := 2) hx hb dLoan_turnToNext_70 rfl ?_
        exact ih (k + 1) (by omega) (by omega) ls (lv_sub hl [0, 2] rfl)
      · replace h1 : ¬ ((st + k) % 6 = rq) := fun z9 => h1 ((nI_eq (a := (st + k) % 6) (b := rq) (by omega) (by omega)).mpr z9)
        refine lv_aload_n hx hb dLoan_turnToNext_26 rfl (lv_at hl 2 rfl) ?_
        refine ew_get (v := .ref (X 13 ln)) hx hb hts hown hK hV fLoan_11 hth (cC_2 _ _ _ _) rfl dLoan_turnToNext_27 ?_
        refine lv_iload_n hx hb dLoan_turnToNext_30 rfl (lv_at hl 0 rfl) ?_
        refine ew_aald (v := .ref (X 4 (6 * ln + ((st + k) % 6)))) hx hb hK hV e13_0 (cC_13 _ _ _ _) 4 rfl (vp_in_nI (by omega) (by decide)) (by rw [nI_clamp (by omega)]; exact ec_nn (hs9 h1)) dLoan_turnToNext_31 ?_
        refine lv_ifnonnull (tgt := 67) hx hb dLoan_turnToNext_32 rfl ?_
        refine lv_iinc (k := 1) (v := nI (k + 1)) (lv' := [(1, .int (nI (k + 1))), (2, .int (nI ((st + k) % 6))), (0, .ref th)]) hx hb dLoan_turnToNext_67 hl rfl (nI_add k 1) (by decide) rfl (fun ls hl => ?_)
        refine lv_goto (tgt := 2) hx hb dLoan_turnToNext_70 rfl ?_
        exact ih (k + 1) (by omega) (by omega) ls (lv_sub hl [0, 2] rfl)
  exact loop (6 - 1) 1 (by omega) (by omega) ls hl
