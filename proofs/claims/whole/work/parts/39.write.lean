/-- a side's letter number n + 1 -/
def z_wl_6 (A : ew_R) (d n : Nat) (kn tl : Int32) : ew_R := z_Letter_init_6 (upr A 6 (512 * d + n) (fun _ => 0)) (512 * d + n) (nI (n + 1)) kn tl
theorem z_wl_6_oth (A : ew_R) (d n : Nat) (kn tl : Int32) (c i : Nat) (h : ¬ (c = 6 ∧ i = 512 * d + n)) : z_wl_6 A d n kn tl c i = A c i := by
  unfold z_wl_6 z_Letter_init_6
  rw [up3_oth _ _ _ h, up3_oth _ _ _ h, up3_oth _ _ _ h, upr_oth _ _ h]
/-- a side's letter number n + 1 -/
def z_wl_19 (A : ew_R) (d n : Nat) (kn tl : Int32) : ew_R := z_Letter_init_19 (upr A 19 (512 * d + n) (fun _ => 0)) (512 * d + n) (nI (n + 1)) kn tl
theorem z_wl_19_oth (A : ew_R) (d n : Nat) (kn tl : Int32) (c i : Nat) (h : ¬ (c = 19 ∧ i = 512 * d + n)) : z_wl_19 A d n kn tl c i = A c i := by
  unfold z_wl_19 z_Letter_init_19
  rw [up3_oth _ _ _ h, up3_oth _ _ _ h, up3_oth _ _ _ h, upr_oth _ _ h]
def z_Side_write_5n (A : ew_R) (d o n cap : Nat) (kn tl : Int32) : ew_R := (z_AL_add_8 (z_wl_6 A d n kn tl) d n o cap).2
set_option maxHeartbeats 4000000 in
set_option maxRecDepth 100000 in
theorem c_Side_write_5n (l : Launch) (D : va_G) (T : Nat → ClassId) (t0 : Nat × Nat) (X : Nat → Nat → Nat) (L : List Nat) (tg : Nat → Nat × Nat) (sz : Nat) (A : ew_R) (d o n cap th ll a0 : Nat) (kn tl : Int32) (hth : ew_in X L tg 5 d th) (hll : ew_in X L tg 8 d ll) (h0 : ew_in X L tg 14 o a0) (q1 : A 8 d 1 = nI o) (ho : o / 64 = d) (ho2 : o < 2 ^ 20) (qs : A 8 d 2 = nI n) (qc : A 14 o 1000 = nI cap) (qf : A 14 o 1001 = nI n) (hnc : n < cap) (hcap : cap ≤ 1000) (hcl : clC X L tg A) (hnl : ∀ b ∈ L, (6, 512 * d + n) ≠ tg b) : Met l ySide_write wsSide_write ({ frames := 7, cells := 2, slots := 1004, locals := 230 }) (em_Pc D vwCl (tysA T) (cfC T) t0 X L tg A sz [.ref th, .int kn, .int tl]) (em_Qq D vwCl (cfC T) L sz (fun r u => r = some (u.1 6 (512 * d + n)) ∧ em_S [(6, 512 * d + n)] X L tg u.1 u.2.1 u.2.2.1 ∧ u.2.2.2 = z_Side_write_5n A d o n cap kn tl)) 2 1004 (ew_A L sz) := by
  refine em_met (by decide) rfl (Nat.le_of_ble_eq_true rfl) ?_
  intro p e s m below meth c ls hx hb hr hts hown hlocks hml hnm hV hK hN hZ hS hA hl hsz
  subst hsz
  have hl : lv_has ls 4 [(0, .ref th), (1, .int kn), (2, .int tl)] := hl
  refine em_newO (fs := [.int 0, .int 0, .int 0, .int 0]) (ci := 6) hx hb hts ulLetter tyLetter gLetter.1 hown (hts _ kl_Side_30) (hts _ kw_54) (hts _ kw_3) hK hV hS hA rfl (by decide +kernel) (Nat.le_of_ble_eq_true rfl) (Nat.le_of_ble_eq_true rfl) 6 (512 * d + n) (upr A 6 (512 * d + n) (fun _ => 0)) (fun X' => by rw [upr_row]; rfl) (clC_keep hcl (fun z => by have := z.1; omega) hnl (fun c i h => upr_oth _ _ h)) hnl dSide_write_0 (fun X1 L1 tg1 H h1 hV hS => ?_)
  have hth1 := h1.2.1 _ _ _ hth
  have hll1 := h1.2.1 _ _ _ hll
  refine lv_dup hx hb dSide_write_3 rfl ?_
  refine lv_aload_n hx hb dSide_write_4 rfl (lv_at hl 0 rfl) ?_
  refine ew_get (v := .ref ll) hx hb hts hown hK hV fSide_10 hth1 (cC_5 _ _ _ _) (congrArg (fun z => some (Value.ref z)) hll1.1) dSide_write_5 ?_
  refine er_calli (va_runV (As := []) (rest := [.ref (X1 6 (512 * d + n)), .ref (X1 6 (512 * d + n))]) ⟨hx, hb, hml, hown, hts⟩ (c_AL_size_8 l D T X1 L1 tg1 _ (upr A 6 (512 * d + n) (fun _ => 0)) d ll hll1) (cwV 0 hts gSide_26 rfl rfl rfl (by decide +kernel) ⟨Nat.le_of_ble_eq_true rfl, Nat.le_of_ble_eq_true rfl⟩) (ec_preV hK hN hV hll1 (cC_8 _ _ _ _) rfl) rfl rfl hl.1 rfl (lv_room (Nat.le_of_ble_eq_true rfl)) dSide_write_8 ⟨Nat.le_of_ble_eq_true rfl, Nat.le_of_ble_eq_true rfl⟩) hV hS hA (fun r u H locs hp hV hS => ?_)
  obtain ⟨rfl, eu9⟩ := hp
  rw [eu9] at hV
  refine lv_toe (y := nI n) (by show (upr A 6 (512 * d + n) (fun _ => 0)) 8 d 2 = _; rw [upr_oth _ _ (by omega)]; exact qs) ?_
  refine lv_iconst (v := 1) hx hb dSide_write_11 (by decide) ?_
  refine lv_iadd hx hb dSide_write_12 ?_
  refine lv_toe (y := nI (n + 1)) (nI_add n 1) ?_
  refine lv_iload_n hx hb dSide_write_13 rfl (lv_at hl 1 rfl) ?_
  refine lv_iload_n hx hb dSide_write_14 rfl (lv_at hl 2 rfl) ?_
  refine er_callv (va_runI (As := [.int (nI (n + 1)), .int kn, .int tl]) (b := X1 6 (512 * d + n)) (rest := [.ref (X1 6 (512 * d + n))]) ⟨hx, hb, hml, hown, hts⟩ (c_Letter_init_6 l D T X1 L1 tg1 _ (upr A 6 (512 * d + n) (fun _ => 0)) (512 * d + n) (X1 6 (512 * d + n)) h1.2.2.1 (nI (n + 1)) kn tl) ⟨callB_of 3 hts gSide_32.1 rfl rfl rfl (hts _ gSide_32.2.2.2) (hts _ gSide_32.2.1) (by decide +kernel) ⟨Nat.le_of_ble_eq_true rfl, Nat.le_of_ble_eq_true rfl⟩, rfl, hts _ gSide_32.2.2.1⟩ (ec_preS hK hN hV) rfl rfl hl.1 rfl (lv_room (Nat.le_of_ble_eq_true rfl)) dSide_write_15 ⟨Nat.le_of_ble_eq_true rfl, Nat.le_of_ble_eq_true rfl⟩) hV hS hA (fun u H locs eu hV hS => ?_)
  have eu : u = (z_wl_6 A d n kn tl) := eu
  subst eu
  have oth := z_wl_6_oth A d n kn tl
  refine lv_astore_n (lv' := [(3, .ref (X1 6 (512 * d + n))), (0, .ref th), (1, .int kn), (2, .int tl)]) hx hb dSide_write_18 rfl hl (by decide) rfl (fun ls hl => ?_)
  refine lv_aload_n hx hb dSide_write_19 rfl (lv_at hl 1 rfl) ?_
  refine ew_get (v := .ref ll) hx hb hts hown hK hV fSide_10 hth1 (cC_5 _ _ _ _) (congrArg (fun z => some (Value.ref z)) hll1.1) dSide_write_20 ?_
  refine lv_aload_n hx hb dSide_write_23 rfl (lv_at hl 0 rfl) ?_
  refine er_calli (va_runV (As := [.ref (X1 6 (512 * d + n))]) (rest := []) ⟨hx, hb, hml, hown, hts⟩ (c_AL_add_8 l D T X1 L1 tg1 _ (z_wl_6 A d n kn tl) d n ll hll1 (X1 6 (512 * d + n)) h1.2.2.1 o cap (h1.2.1 _ _ _ h0).self (by rw [oth 8 d (by omega)]; exact q1) ho ho2 (by rw [oth 8 d (by omega)]; exact qs) (by rw [oth 14 o (by omega)]; exact qc) (by rw [oth 14 o (by omega)]; exact qf) hnc hcap) (cwV 1 hts gSide_35 rfl rfl rfl (by decide +kernel) ⟨Nat.le_of_ble_eq_true rfl, Nat.le_of_ble_eq_true rfl⟩) (ec_preV hK hN hV hll1 (cC_8 _ _ _ _) rfl) rfl rfl hl.1 rfl (lv_room (Nat.le_of_ble_eq_true rfl)) dSide_write_24 ⟨Nat.le_of_ble_eq_true rfl, Nat.le_of_ble_eq_true rfl⟩) hV hS hA (fun r u H locs hp hV hS => ?_)
  obtain ⟨-, eu⟩ := hp
  have eu : u = (z_AL_add_8 (z_wl_6 A d n kn tl) d n o cap).2 := eu
  subst eu
  refine lv_pop hx hb dSide_write_27 rfl ?_
  refine lv_aload_n hx hb dSide_write_28 rfl (lv_at hl 0 rfl) ?_
  refine W.widen (k := 2) (n := 1004) (Nat.le_of_ble_eq_true rfl) (Nat.le_of_ble_eq_true rfl) ?_
  exact em_aret (r := some (X1 6 (512 * d + n))) hx hb hr (Or.inl ⟨_, rfl⟩) hlocks hV hS dSide_write_29 rfl ⟨rfl, h1.S, rfl⟩
def z_Side_write_5f (A : ew_R) (d o n : Nat) (kn tl : Int32) : ew_R := z_AL_add_8f (z_wl_6 A d n kn tl) d o n
set_option maxHeartbeats 4000000 in
set_option maxRecDepth 100000 in
theorem c_Side_write_5f (l : Launch) (D : va_G) (T : Nat → ClassId) (t0 : Nat × Nat) (X : Nat → Nat → Nat) (L : List Nat) (tg : Nat → Nat × Nat) (sz : Nat) (A : ew_R) (d o n th ll a0 : Nat) (kn tl : Int32) (hth : ew_in X L tg 5 d th) (hll : ew_in X L tg 8 d ll) (h0 : ew_in X L tg 14 o a0) (h4 : 4 ≤ n) (hn : n ≤ 600) (q1 : A 8 d 1 = nI o) (qs : A 8 d 2 = nI n) (ho : o / 64 = d) (ho1 : (o + 1) / 64 = d) (ho2 : o + 1 < 2 ^ 20) (qc : A 14 o 1000 = nI n) (qf : A 14 o 1001 = nI n) (hcl : clC X L tg A) (hnl : ∀ b ∈ L, (6, 512 * d + n) ≠ tg b) (hnew : ∀ b ∈ L, (14, o + 1) ≠ tg b) : Met l ySide_write wsSide_write ({ frames := 7, cells := 2, slots := 1004, locals := 230 }) (em_Pc D vwCl (tysA T) (cfC T) t0 X L tg A sz [.ref th, .int kn, .int tl]) (em_Qq D vwCl (cfC T) L sz (fun r u => r = some (u.1 6 (512 * d + n)) ∧ em_S [(6, 512 * d + n), (14, o + 1)] X L tg u.1 u.2.1 u.2.2.1 ∧ u.2.2.2 = z_Side_write_5f A d o n kn tl)) 2 1004 (ew_A L sz) := by
  refine em_met (by decide) rfl (Nat.le_of_ble_eq_true rfl) ?_
  intro p e s m below meth c ls hx hb hr hts hown hlocks hml hnm hV hK hN hZ hS hA hl hsz
  subst hsz
  have hl : lv_has ls 4 [(0, .ref th), (1, .int kn), (2, .int tl)] := hl
  refine em_newO (fs := [.int 0, .int 0, .int 0, .int 0]) (ci := 6) hx hb hts ulLetter tyLetter gLetter.1 hown (hts _ kl_Side_30) (hts _ kw_54) (hts _ kw_3) hK hV hS hA rfl (by decide +kernel) (Nat.le_of_ble_eq_true rfl) (Nat.le_of_ble_eq_true rfl) 6 (512 * d + n) (upr A 6 (512 * d + n) (fun _ => 0)) (fun X' => by rw [upr_row]; rfl) (clC_keep hcl (fun z => by have := z.1; omega) hnl (fun c i h => upr_oth _ _ h)) hnl dSide_write_0 (fun X1 L1 tg1 H h1 hV hS => ?_)
  have hth1 := h1.2.1 _ _ _ hth
  have hll1 := h1.2.1 _ _ _ hll
  refine lv_dup hx hb dSide_write_3 rfl ?_
  refine lv_aload_n hx hb dSide_write_4 rfl (lv_at hl 0 rfl) ?_
  refine ew_get (v := .ref ll) hx hb hts hown hK hV fSide_10 hth1 (cC_5 _ _ _ _) (congrArg (fun z => some (Value.ref z)) hll1.1) dSide_write_5 ?_
  refine er_calli (va_runV (As := []) (rest := [.ref (X1 6 (512 * d + n)), .ref (X1 6 (512 * d + n))]) ⟨hx, hb, hml, hown, hts⟩ (c_AL_size_8 l D T X1 L1 tg1 _ (upr A 6 (512 * d + n) (fun _ => 0)) d ll hll1) (cwV 0 hts gSide_26 rfl rfl rfl (by decide +kernel) ⟨Nat.le_of_ble_eq_true rfl, Nat.le_of_ble_eq_true rfl⟩) (ec_preV hK hN hV hll1 (cC_8 _ _ _ _) rfl) rfl rfl hl.1 rfl (lv_room (Nat.le_of_ble_eq_true rfl)) dSide_write_8 ⟨Nat.le_of_ble_eq_true rfl, Nat.le_of_ble_eq_true rfl⟩) hV hS hA (fun r u H locs hp hV hS => ?_)
  obtain ⟨rfl, eu9⟩ := hp
  rw [eu9] at hV
  refine lv_toe (y := nI n) (by show (upr A 6 (512 * d + n) (fun _ => 0)) 8 d 2 = _; rw [upr_oth _ _ (by omega)]; exact qs) ?_
  refine lv_iconst (v := 1) hx hb dSide_write_11 (by decide) ?_
  refine lv_iadd hx hb dSide_write_12 ?_
  refine lv_toe (y := nI (n + 1)) (nI_add n 1) ?_
  refine lv_iload_n hx hb dSide_write_13 rfl (lv_at hl 1 rfl) ?_
  refine lv_iload_n hx hb dSide_write_14 rfl (lv_at hl 2 rfl) ?_
  refine er_callv (va_runI (As := [.int (nI (n + 1)), .int kn, .int tl]) (b := X1 6 (512 * d + n)) (rest := [.ref (X1 6 (512 * d + n))]) ⟨hx, hb, hml, hown, hts⟩ (c_Letter_init_6 l D T X1 L1 tg1 _ (upr A 6 (512 * d + n) (fun _ => 0)) (512 * d + n) (X1 6 (512 * d + n)) h1.2.2.1 (nI (n + 1)) kn tl) ⟨callB_of 3 hts gSide_32.1 rfl rfl rfl (hts _ gSide_32.2.2.2) (hts _ gSide_32.2.1) (by decide +kernel) ⟨Nat.le_of_ble_eq_true rfl, Nat.le_of_ble_eq_true rfl⟩, rfl, hts _ gSide_32.2.2.1⟩ (ec_preS hK hN hV) rfl rfl hl.1 rfl (lv_room (Nat.le_of_ble_eq_true rfl)) dSide_write_15 ⟨Nat.le_of_ble_eq_true rfl, Nat.le_of_ble_eq_true rfl⟩) hV hS hA (fun u H locs eu hV hS => ?_)
  have eu : u = (z_wl_6 A d n kn tl) := eu
  subst eu
  have oth := z_wl_6_oth A d n kn tl
  refine lv_astore_n (lv' := [(3, .ref (X1 6 (512 * d + n))), (0, .ref th), (1, .int kn), (2, .int tl)]) hx hb dSide_write_18 rfl hl (by decide) rfl (fun ls hl => ?_)
  refine lv_aload_n hx hb dSide_write_19 rfl (lv_at hl 1 rfl) ?_
  refine ew_get (v := .ref ll) hx hb hts hown hK hV fSide_10 hth1 (cC_5 _ _ _ _) (congrArg (fun z => some (Value.ref z)) hll1.1) dSide_write_20 ?_
  refine lv_aload_n hx hb dSide_write_23 rfl (lv_at hl 0 rfl) ?_
  have hcl1 : clC X1 L1 tg1 (z_wl_6 A d n kn tl) := clC_one hcl h1 oth hnl (fun _ _ h => False.elim h)
  have hnew1 : ∀ b ∈ L1, (14, o + 1) ≠ tg1 b := fun b hb' => by
    rcases h1.2.2.2 b hb' with q | q
    · rw [q]
      intro z
      have := congrArg Prod.fst z
      simp at this
    · rw [q.2]
      exact hnew b q.1
  refine em_calli (va_runV (As := [.ref (X1 6 (512 * d + n))]) (rest := []) ⟨hx, hb, hml, hown, hts⟩ (c_AL_add_8f l D T t0 X1 L1 tg1 _ (z_wl_6 A d n kn tl) d o n ll (X1 6 (512 * d + n)) a0 hll1 h1.2.2.1 (h1.2.1 _ _ _ h0) h4 hn (by rw [oth 8 d (by omega)]; exact q1) (by rw [oth 8 d (by omega)]; exact qs) ho ho1 ho2 (by rw [oth 14 o (by omega)]; exact qc) (by rw [oth 14 o (by omega)]; exact qf) hcl1 hnew1) (cwV 1 hts gSide_35 rfl rfl rfl (by decide +kernel) ⟨Nat.le_of_ble_eq_true rfl, Nat.le_of_ble_eq_true rfl⟩) (em_preV hK hN hV hZ hS hA hll1 (cC_8 _ _ _ _) rfl) rfl rfl hl.1 rfl (lv_room (Nat.le_of_ble_eq_true rfl)) dSide_write_24 ⟨Nat.le_of_ble_eq_true rfl, Nat.le_of_ble_eq_true rfl⟩) hV hS hA (fun r X2 L2 tg2 u H locs hp hV hS => ?_)
  obtain ⟨-, h2, eu⟩ := hp
  refine lv_pop hx hb dSide_write_27 rfl ?_
  refine lv_aload_n hx hb dSide_write_28 rfl (lv_at hl 0 rfl) ?_
  refine W.widen (k := 2) (n := 1004) (Nat.le_of_ble_eq_true rfl) (Nat.le_of_ble_eq_true rfl) ?_
  exact em_aret (r := some (X1 6 (512 * d + n))) hx hb hr (Or.inl ⟨_, rfl⟩) hlocks hV hS dSide_write_29 rfl ⟨congrArg some (h2.2.1 _ _ _ h1.2.2.1).1.symm, h1.S.trans h2.S, eu⟩
def z_Side_write_5s (A : ew_R) (d o : Nat) (kn tl : Int32) : ew_R := z_AL_add_8s (z_wl_6 A d 0 kn tl) d o
set_option maxHeartbeats 4000000 in
set_option maxRecDepth 100000 in
theorem c_Side_write_5s (l : Launch) (D : va_G) (T : Nat → ClassId) (t0 : Nat × Nat) (X : Nat → Nat → Nat) (L : List Nat) (tg : Nat → Nat × Nat) (sz : Nat) (A : ew_R) (d o th ll : Nat) (kn tl : Int32) (hth : ew_in X L tg 5 d th) (hll : ew_in X L tg 8 d ll) (hx0 : X 14 o = t0.1) (q1 : A 8 d 1 = nI o) (qs : A 8 d 2 = nI 0) (ho : o / 64 = d) (ho1 : (o + 1) / 64 = d) (ho2 : o + 1 < 2 ^ 20) (hcl : clC X L tg A) (hnl : ∀ b ∈ L, (6, 512 * d + 0) ≠ tg b) (hnew : ∀ b ∈ L, (14, o + 1) ≠ tg b) : Met l ySide_write wsSide_write ({ frames := 7, cells := 2, slots := 1004, locals := 230 }) (em_Pc D vwCl (tysA T) (cfC T) t0 X L tg A sz [.ref th, .int kn, .int tl]) (em_Qq D vwCl (cfC T) L sz (fun r u => r = some (u.1 6 (512 * d + 0)) ∧ em_S [(6, 512 * d + 0), (14, o + 1)] X L tg u.1 u.2.1 u.2.2.1 ∧ u.2.2.2 = z_Side_write_5s A d o kn tl)) 2 1004 (ew_A L sz) := by
  refine em_met (by decide) rfl (Nat.le_of_ble_eq_true rfl) ?_
  intro p e s m below meth c ls hx hb hr hts hown hlocks hml hnm hV hK hN hZ hS hA hl hsz
  subst hsz
  have hl : lv_has ls 4 [(0, .ref th), (1, .int kn), (2, .int tl)] := hl
  refine em_newO (fs := [.int 0, .int 0, .int 0, .int 0]) (ci := 6) hx hb hts ulLetter tyLetter gLetter.1 hown (hts _ kl_Side_30) (hts _ kw_54) (hts _ kw_3) hK hV hS hA rfl (by decide +kernel) (Nat.le_of_ble_eq_true rfl) (Nat.le_of_ble_eq_true rfl) 6 (512 * d + 0) (upr A 6 (512 * d + 0) (fun _ => 0)) (fun X' => by rw [upr_row]; rfl) (clC_keep hcl (fun z => by have := z.1; omega) hnl (fun c i h => upr_oth _ _ h)) hnl dSide_write_0 (fun X1 L1 tg1 H h1 hV hS => ?_)
  have hth1 := h1.2.1 _ _ _ hth
  have hll1 := h1.2.1 _ _ _ hll
  refine lv_dup hx hb dSide_write_3 rfl ?_
  refine lv_aload_n hx hb dSide_write_4 rfl (lv_at hl 0 rfl) ?_
  refine ew_get (v := .ref ll) hx hb hts hown hK hV fSide_10 hth1 (cC_5 _ _ _ _) (congrArg (fun z => some (Value.ref z)) hll1.1) dSide_write_5 ?_
  refine er_calli (va_runV (As := []) (rest := [.ref (X1 6 (512 * d + 0)), .ref (X1 6 (512 * d + 0))]) ⟨hx, hb, hml, hown, hts⟩ (c_AL_size_8 l D T X1 L1 tg1 _ (upr A 6 (512 * d + 0) (fun _ => 0)) d ll hll1) (cwV 0 hts gSide_26 rfl rfl rfl (by decide +kernel) ⟨Nat.le_of_ble_eq_true rfl, Nat.le_of_ble_eq_true rfl⟩) (ec_preV hK hN hV hll1 (cC_8 _ _ _ _) rfl) rfl rfl hl.1 rfl (lv_room (Nat.le_of_ble_eq_true rfl)) dSide_write_8 ⟨Nat.le_of_ble_eq_true rfl, Nat.le_of_ble_eq_true rfl⟩) hV hS hA (fun r u H locs hp hV hS => ?_)
  obtain ⟨rfl, eu9⟩ := hp
  rw [eu9] at hV
  refine lv_toe (y := nI 0) (by show (upr A 6 (512 * d + 0) (fun _ => 0)) 8 d 2 = _; rw [upr_oth _ _ (by omega)]; exact qs) ?_
  refine lv_iconst (v := 1) hx hb dSide_write_11 (by decide) ?_
  refine lv_iadd hx hb dSide_write_12 ?_
  refine lv_toe (y := nI (0 + 1)) (nI_add 0 1) ?_
  refine lv_iload_n hx hb dSide_write_13 rfl (lv_at hl 1 rfl) ?_
  refine lv_iload_n hx hb dSide_write_14 rfl (lv_at hl 2 rfl) ?_
  refine er_callv (va_runI (As := [.int (nI (0 + 1)), .int kn, .int tl]) (b := X1 6 (512 * d + 0)) (rest := [.ref (X1 6 (512 * d + 0))]) ⟨hx, hb, hml, hown, hts⟩ (c_Letter_init_6 l D T X1 L1 tg1 _ (upr A 6 (512 * d + 0) (fun _ => 0)) (512 * d + 0) (X1 6 (512 * d + 0)) h1.2.2.1 (nI (0 + 1)) kn tl) ⟨callB_of 3 hts gSide_32.1 rfl rfl rfl (hts _ gSide_32.2.2.2) (hts _ gSide_32.2.1) (by decide +kernel) ⟨Nat.le_of_ble_eq_true rfl, Nat.le_of_ble_eq_true rfl⟩, rfl, hts _ gSide_32.2.2.1⟩ (ec_preS hK hN hV) rfl rfl hl.1 rfl (lv_room (Nat.le_of_ble_eq_true rfl)) dSide_write_15 ⟨Nat.le_of_ble_eq_true rfl, Nat.le_of_ble_eq_true rfl⟩) hV hS hA (fun u H locs eu hV hS => ?_)
  have eu : u = (z_wl_6 A d 0 kn tl) := eu
  subst eu
  have oth := z_wl_6_oth A d 0 kn tl
  refine lv_astore_n (lv' := [(3, .ref (X1 6 (512 * d + 0))), (0, .ref th), (1, .int kn), (2, .int tl)]) hx hb dSide_write_18 rfl hl (by decide) rfl (fun ls hl => ?_)
  refine lv_aload_n hx hb dSide_write_19 rfl (lv_at hl 1 rfl) ?_
  refine ew_get (v := .ref ll) hx hb hts hown hK hV fSide_10 hth1 (cC_5 _ _ _ _) (congrArg (fun z => some (Value.ref z)) hll1.1) dSide_write_20 ?_
  refine lv_aload_n hx hb dSide_write_23 rfl (lv_at hl 0 rfl) ?_
  have hcl1 : clC X1 L1 tg1 (z_wl_6 A d 0 kn tl) := clC_one hcl h1 oth hnl (fun _ _ h => False.elim h)
  have hnew1 : ∀ b ∈ L1, (14, o + 1) ≠ tg1 b := fun b hb' => by
    rcases h1.2.2.2 b hb' with q | q
    · rw [q]
      intro z
      have := congrArg Prod.fst z
      simp at this
    · rw [q.2]
      exact hnew b q.1
  refine em_calli (va_runV (As := [.ref (X1 6 (512 * d + 0))]) (rest := []) ⟨hx, hb, hml, hown, hts⟩ (c_AL_add_8s l D T t0 X1 L1 tg1 _ (z_wl_6 A d 0 kn tl) d o ll (X1 6 (512 * d + 0)) hll1 h1.2.2.1 ((h1.1 14 o (by omega)).trans hx0) (by rw [oth 8 d (by omega)]; exact q1) (by rw [oth 8 d (by omega)]; exact qs) ho ho1 ho2 hcl1 hnew1) (cwV 1 hts gSide_35 rfl rfl rfl (by decide +kernel) ⟨Nat.le_of_ble_eq_true rfl, Nat.le_of_ble_eq_true rfl⟩) (em_preV hK hN hV hZ hS hA hll1 (cC_8 _ _ _ _) rfl) rfl rfl hl.1 rfl (lv_room (Nat.le_of_ble_eq_true rfl)) dSide_write_24 ⟨Nat.le_of_ble_eq_true rfl, Nat.le_of_ble_eq_true rfl⟩) hV hS hA (fun r X2 L2 tg2 u H locs hp hV hS => ?_)
  obtain ⟨-, h2, eu⟩ := hp
  refine lv_pop hx hb dSide_write_27 rfl ?_
  refine lv_aload_n hx hb dSide_write_28 rfl (lv_at hl 0 rfl) ?_
  refine W.widen (k := 2) (n := 1004) (Nat.le_of_ble_eq_true rfl) (Nat.le_of_ble_eq_true rfl) ?_
  exact em_aret (r := some (X1 6 (512 * d + 0))) hx hb hr (Or.inl ⟨_, rfl⟩) hlocks hV hS dSide_write_29 rfl ⟨congrArg some (h2.2.1 _ _ _ h1.2.2.1).1.symm, h1.S.trans h2.S, eu⟩
def z_Side_write_15n (A : ew_R) (d o n cap : Nat) (kn tl : Int32) : ew_R := (z_AL_add_16 (z_wl_19 A d n kn tl) d n o cap).2
set_option maxHeartbeats 4000000 in
set_option maxRecDepth 100000 in
theorem c_Side_write_15n (l : Launch) (D : va_G) (T : Nat → ClassId) (t0 : Nat × Nat) (X : Nat → Nat → Nat) (L : List Nat) (tg : Nat → Nat × Nat) (sz : Nat) (A : ew_R) (d o n cap th ll a0 : Nat) (kn tl : Int32) (hth : ew_in X L tg 15 d th) (hll : ew_in X L tg 16 d ll) (h0 : ew_in X L tg 20 o a0) (q1 : A 16 d 1 = nI o) (ho : o / 64 = d) (ho2 : o < 2 ^ 20) (qs : A 16 d 2 = nI n) (qc : A 20 o 1000 = nI cap) (qf : A 20 o 1001 = nI n) (hnc : n < cap) (hcap : cap ≤ 1000) (hcl : clC X L tg A) (hnl : ∀ b ∈ L, (19, 512 * d + n) ≠ tg b) : Met l ySide_write wsSide_write ({ frames := 7, cells := 2, slots := 1004, locals := 230 }) (em_Pc D vwCl (tysA T) (cfC T) t0 X L tg A sz [.ref th, .int kn, .int tl]) (em_Qq D vwCl (cfC T) L sz (fun r u => r = some (u.1 19 (512 * d + n)) ∧ em_S [(19, 512 * d + n)] X L tg u.1 u.2.1 u.2.2.1 ∧ u.2.2.2 = z_Side_write_15n A d o n cap kn tl)) 2 1004 (ew_A L sz) := by
  refine em_met (by decide) rfl (Nat.le_of_ble_eq_true rfl) ?_
  intro p e s m below meth c ls hx hb hr hts hown hlocks hml hnm hV hK hN hZ hS hA hl hsz
  subst hsz
  have hl : lv_has ls 4 [(0, .ref th), (1, .int kn), (2, .int tl)] := hl
  refine em_newO (fs := [.int 0, .int 0, .int 0, .int 0]) (ci := 6) hx hb hts ulLetter tyLetter gLetter.1 hown (hts _ kl_Side_30) (hts _ kw_54) (hts _ kw_3) hK hV hS hA rfl (by decide +kernel) (Nat.le_of_ble_eq_true rfl) (Nat.le_of_ble_eq_true rfl) 19 (512 * d + n) (upr A 19 (512 * d + n) (fun _ => 0)) (fun X' => by rw [upr_row]; rfl) (clC_keep hcl (fun z => by have := z.1; omega) hnl (fun c i h => upr_oth _ _ h)) hnl dSide_write_0 (fun X1 L1 tg1 H h1 hV hS => ?_)
  have hth1 := h1.2.1 _ _ _ hth
  have hll1 := h1.2.1 _ _ _ hll
  refine lv_dup hx hb dSide_write_3 rfl ?_
  refine lv_aload_n hx hb dSide_write_4 rfl (lv_at hl 0 rfl) ?_
  refine ew_get (v := .ref ll) hx hb hts hown hK hV fSide_10 hth1 (cC_15 _ _ _ _) (congrArg (fun z => some (Value.ref z)) hll1.1) dSide_write_5 ?_
  refine er_calli (va_runV (As := []) (rest := [.ref (X1 19 (512 * d + n)), .ref (X1 19 (512 * d + n))]) ⟨hx, hb, hml, hown, hts⟩ (c_AL_size_16 l D T X1 L1 tg1 _ (upr A 19 (512 * d + n) (fun _ => 0)) d ll hll1) (cwV 0 hts gSide_26 rfl rfl rfl (by decide +kernel) ⟨Nat.le_of_ble_eq_true rfl, Nat.le_of_ble_eq_true rfl⟩) (ec_preV hK hN hV hll1 (cC_16 _ _ _ _) rfl) rfl rfl hl.1 rfl (lv_room (Nat.le_of_ble_eq_true rfl)) dSide_write_8 ⟨Nat.le_of_ble_eq_true rfl, Nat.le_of_ble_eq_true rfl⟩) hV hS hA (fun r u H locs hp hV hS => ?_)
  obtain ⟨rfl, eu9⟩ := hp
  rw [eu9] at hV
  refine lv_toe (y := nI n) (by show (upr A 19 (512 * d + n) (fun _ => 0)) 16 d 2 = _; rw [upr_oth _ _ (by omega)]; exact qs) ?_
  refine lv_iconst (v := 1) hx hb dSide_write_11 (by decide) ?_
  refine lv_iadd hx hb dSide_write_12 ?_
  refine lv_toe (y := nI (n + 1)) (nI_add n 1) ?_
  refine lv_iload_n hx hb dSide_write_13 rfl (lv_at hl 1 rfl) ?_
  refine lv_iload_n hx hb dSide_write_14 rfl (lv_at hl 2 rfl) ?_
  refine er_callv (va_runI (As := [.int (nI (n + 1)), .int kn, .int tl]) (b := X1 19 (512 * d + n)) (rest := [.ref (X1 19 (512 * d + n))]) ⟨hx, hb, hml, hown, hts⟩ (c_Letter_init_19 l D T X1 L1 tg1 _ (upr A 19 (512 * d + n) (fun _ => 0)) (512 * d + n) (X1 19 (512 * d + n)) h1.2.2.1 (nI (n + 1)) kn tl) ⟨callB_of 3 hts gSide_32.1 rfl rfl rfl (hts _ gSide_32.2.2.2) (hts _ gSide_32.2.1) (by decide +kernel) ⟨Nat.le_of_ble_eq_true rfl, Nat.le_of_ble_eq_true rfl⟩, rfl, hts _ gSide_32.2.2.1⟩ (ec_preS hK hN hV) rfl rfl hl.1 rfl (lv_room (Nat.le_of_ble_eq_true rfl)) dSide_write_15 ⟨Nat.le_of_ble_eq_true rfl, Nat.le_of_ble_eq_true rfl⟩) hV hS hA (fun u H locs eu hV hS => ?_)
  have eu : u = (z_wl_19 A d n kn tl) := eu
  subst eu
  have oth := z_wl_19_oth A d n kn tl
  refine lv_astore_n (lv' := [(3, .ref (X1 19 (512 * d + n))), (0, .ref th), (1, .int kn), (2, .int tl)]) hx hb dSide_write_18 rfl hl (by decide) rfl (fun ls hl => ?_)
  refine lv_aload_n hx hb dSide_write_19 rfl (lv_at hl 1 rfl) ?_
  refine ew_get (v := .ref ll) hx hb hts hown hK hV fSide_10 hth1 (cC_15 _ _ _ _) (congrArg (fun z => some (Value.ref z)) hll1.1) dSide_write_20 ?_
  refine lv_aload_n hx hb dSide_write_23 rfl (lv_at hl 0 rfl) ?_
  refine er_calli (va_runV (As := [.ref (X1 19 (512 * d + n))]) (rest := []) ⟨hx, hb, hml, hown, hts⟩ (c_AL_add_16 l D T X1 L1 tg1 _ (z_wl_19 A d n kn tl) d n ll hll1 (X1 19 (512 * d + n)) h1.2.2.1 o cap (h1.2.1 _ _ _ h0).self (by rw [oth 16 d (by omega)]; exact q1) ho ho2 (by rw [oth 16 d (by omega)]; exact qs) (by rw [oth 20 o (by omega)]; exact qc) (by rw [oth 20 o (by omega)]; exact qf) hnc hcap) (cwV 1 hts gSide_35 rfl rfl rfl (by decide +kernel) ⟨Nat.le_of_ble_eq_true rfl, Nat.le_of_ble_eq_true rfl⟩) (ec_preV hK hN hV hll1 (cC_16 _ _ _ _) rfl) rfl rfl hl.1 rfl (lv_room (Nat.le_of_ble_eq_true rfl)) dSide_write_24 ⟨Nat.le_of_ble_eq_true rfl, Nat.le_of_ble_eq_true rfl⟩) hV hS hA (fun r u H locs hp hV hS => ?_)
  obtain ⟨-, eu⟩ := hp
  have eu : u = (z_AL_add_16 (z_wl_19 A d n kn tl) d n o cap).2 := eu
  subst eu
  refine lv_pop hx hb dSide_write_27 rfl ?_
  refine lv_aload_n hx hb dSide_write_28 rfl (lv_at hl 0 rfl) ?_
  refine W.widen (k := 2) (n := 1004) (Nat.le_of_ble_eq_true rfl) (Nat.le_of_ble_eq_true rfl) ?_
  exact em_aret (r := some (X1 19 (512 * d + n))) hx hb hr (Or.inl ⟨_, rfl⟩) hlocks hV hS dSide_write_29 rfl ⟨rfl, h1.S, rfl⟩
def z_Side_write_15f (A : ew_R) (d o n : Nat) (kn tl : Int32) : ew_R := z_AL_add_16f (z_wl_19 A d n kn tl) d o n
set_option maxHeartbeats 4000000 in
set_option maxRecDepth 100000 in
theorem c_Side_write_15f (l : Launch) (D : va_G) (T : Nat → ClassId) (t0 : Nat × Nat) (X : Nat → Nat → Nat) (L : List Nat) (tg : Nat → Nat × Nat) (sz : Nat) (A : ew_R) (d o n th ll a0 : Nat) (kn tl : Int32) (hth : ew_in X L tg 15 d th) (hll : ew_in X L tg 16 d ll) (h0 : ew_in X L tg 20 o a0) (h4 : 4 ≤ n) (hn : n ≤ 600) (q1 : A 16 d 1 = nI o) (qs : A 16 d 2 = nI n) (ho : o / 64 = d) (ho1 : (o + 1) / 64 = d) (ho2 : o + 1 < 2 ^ 20) (qc : A 20 o 1000 = nI n) (qf : A 20 o 1001 = nI n) (hcl : clC X L tg A) (hnl : ∀ b ∈ L, (19, 512 * d + n) ≠ tg b) (hnew : ∀ b ∈ L, (20, o + 1) ≠ tg b) : Met l ySide_write wsSide_write ({ frames := 7, cells := 2, slots := 1004, locals := 230 }) (em_Pc D vwCl (tysA T) (cfC T) t0 X L tg A sz [.ref th, .int kn, .int tl]) (em_Qq D vwCl (cfC T) L sz (fun r u => r = some (u.1 19 (512 * d + n)) ∧ em_S [(19, 512 * d + n), (20, o + 1)] X L tg u.1 u.2.1 u.2.2.1 ∧ u.2.2.2 = z_Side_write_15f A d o n kn tl)) 2 1004 (ew_A L sz) := by
  refine em_met (by decide) rfl (Nat.le_of_ble_eq_true rfl) ?_
  intro p e s m below meth c ls hx hb hr hts hown hlocks hml hnm hV hK hN hZ hS hA hl hsz
  subst hsz
  have hl : lv_has ls 4 [(0, .ref th), (1, .int kn), (2, .int tl)] := hl
  refine em_newO (fs := [.int 0, .int 0, .int 0, .int 0]) (ci := 6) hx hb hts ulLetter tyLetter gLetter.1 hown (hts _ kl_Side_30) (hts _ kw_54) (hts _ kw_3) hK hV hS hA rfl (by decide +kernel) (Nat.le_of_ble_eq_true rfl) (Nat.le_of_ble_eq_true rfl) 19 (512 * d + n) (upr A 19 (512 * d + n) (fun _ => 0)) (fun X' => by rw [upr_row]; rfl) (clC_keep hcl (fun z => by have := z.1; omega) hnl (fun c i h => upr_oth _ _ h)) hnl dSide_write_0 (fun X1 L1 tg1 H h1 hV hS => ?_)
  have hth1 := h1.2.1 _ _ _ hth
  have hll1 := h1.2.1 _ _ _ hll
  refine lv_dup hx hb dSide_write_3 rfl ?_
  refine lv_aload_n hx hb dSide_write_4 rfl (lv_at hl 0 rfl) ?_
  refine ew_get (v := .ref ll) hx hb hts hown hK hV fSide_10 hth1 (cC_15 _ _ _ _) (congrArg (fun z => some (Value.ref z)) hll1.1) dSide_write_5 ?_
  refine er_calli (va_runV (As := []) (rest := [.ref (X1 19 (512 * d + n)), .ref (X1 19 (512 * d + n))]) ⟨hx, hb, hml, hown, hts⟩ (c_AL_size_16 l D T X1 L1 tg1 _ (upr A 19 (512 * d + n) (fun _ => 0)) d ll hll1) (cwV 0 hts gSide_26 rfl rfl rfl (by decide +kernel) ⟨Nat.le_of_ble_eq_true rfl, Nat.le_of_ble_eq_true rfl⟩) (ec_preV hK hN hV hll1 (cC_16 _ _ _ _) rfl) rfl rfl hl.1 rfl (lv_room (Nat.le_of_ble_eq_true rfl)) dSide_write_8 ⟨Nat.le_of_ble_eq_true rfl, Nat.le_of_ble_eq_true rfl⟩) hV hS hA (fun r u H locs hp hV hS => ?_)
  obtain ⟨rfl, eu9⟩ := hp
  rw [eu9] at hV
  refine lv_toe (y := nI n) (by show (upr A 19 (512 * d + n) (fun _ => 0)) 16 d 2 = _; rw [upr_oth _ _ (by omega)]; exact qs) ?_
  refine lv_iconst (v := 1) hx hb dSide_write_11 (by decide) ?_
  refine lv_iadd hx hb dSide_write_12 ?_
  refine lv_toe (y := nI (n + 1)) (nI_add n 1) ?_
  refine lv_iload_n hx hb dSide_write_13 rfl (lv_at hl 1 rfl) ?_
  refine lv_iload_n hx hb dSide_write_14 rfl (lv_at hl 2 rfl) ?_
  refine er_callv (va_runI (As := [.int (nI (n + 1)), .int kn, .int tl]) (b := X1 19 (512 * d + n)) (rest := [.ref (X1 19 (512 * d + n))]) ⟨hx, hb, hml, hown, hts⟩ (c_Letter_init_19 l D T X1 L1 tg1 _ (upr A 19 (512 * d + n) (fun _ => 0)) (512 * d + n) (X1 19 (512 * d + n)) h1.2.2.1 (nI (n + 1)) kn tl) ⟨callB_of 3 hts gSide_32.1 rfl rfl rfl (hts _ gSide_32.2.2.2) (hts _ gSide_32.2.1) (by decide +kernel) ⟨Nat.le_of_ble_eq_true rfl, Nat.le_of_ble_eq_true rfl⟩, rfl, hts _ gSide_32.2.2.1⟩ (ec_preS hK hN hV) rfl rfl hl.1 rfl (lv_room (Nat.le_of_ble_eq_true rfl)) dSide_write_15 ⟨Nat.le_of_ble_eq_true rfl, Nat.le_of_ble_eq_true rfl⟩) hV hS hA (fun u H locs eu hV hS => ?_)
  have eu : u = (z_wl_19 A d n kn tl) := eu
  subst eu
  have oth := z_wl_19_oth A d n kn tl
  refine lv_astore_n (lv' := [(3, .ref (X1 19 (512 * d + n))), (0, .ref th), (1, .int kn), (2, .int tl)]) hx hb dSide_write_18 rfl hl (by decide) rfl (fun ls hl => ?_)
  refine lv_aload_n hx hb dSide_write_19 rfl (lv_at hl 1 rfl) ?_
  refine ew_get (v := .ref ll) hx hb hts hown hK hV fSide_10 hth1 (cC_15 _ _ _ _) (congrArg (fun z => some (Value.ref z)) hll1.1) dSide_write_20 ?_
  refine lv_aload_n hx hb dSide_write_23 rfl (lv_at hl 0 rfl) ?_
  have hcl1 : clC X1 L1 tg1 (z_wl_19 A d n kn tl) := clC_one hcl h1 oth hnl (fun _ _ h => False.elim h)
  have hnew1 : ∀ b ∈ L1, (20, o + 1) ≠ tg1 b := fun b hb' => by
    rcases h1.2.2.2 b hb' with q | q
    · rw [q]
      intro z
      have := congrArg Prod.fst z
      simp at this
    · rw [q.2]
      exact hnew b q.1
  refine em_calli (va_runV (As := [.ref (X1 19 (512 * d + n))]) (rest := []) ⟨hx, hb, hml, hown, hts⟩ (c_AL_add_16f l D T t0 X1 L1 tg1 _ (z_wl_19 A d n kn tl) d o n ll (X1 19 (512 * d + n)) a0 hll1 h1.2.2.1 (h1.2.1 _ _ _ h0) h4 hn (by rw [oth 16 d (by omega)]; exact q1) (by rw [oth 16 d (by omega)]; exact qs) ho ho1 ho2 (by rw [oth 20 o (by omega)]; exact qc) (by rw [oth 20 o (by omega)]; exact qf) hcl1 hnew1) (cwV 1 hts gSide_35 rfl rfl rfl (by decide +kernel) ⟨Nat.le_of_ble_eq_true rfl, Nat.le_of_ble_eq_true rfl⟩) (em_preV hK hN hV hZ hS hA hll1 (cC_16 _ _ _ _) rfl) rfl rfl hl.1 rfl (lv_room (Nat.le_of_ble_eq_true rfl)) dSide_write_24 ⟨Nat.le_of_ble_eq_true rfl, Nat.le_of_ble_eq_true rfl⟩) hV hS hA (fun r X2 L2 tg2 u H locs hp hV hS => ?_)
  obtain ⟨-, h2, eu⟩ := hp
  refine lv_pop hx hb dSide_write_27 rfl ?_
  refine lv_aload_n hx hb dSide_write_28 rfl (lv_at hl 0 rfl) ?_
  refine W.widen (k := 2) (n := 1004) (Nat.le_of_ble_eq_true rfl) (Nat.le_of_ble_eq_true rfl) ?_
  exact em_aret (r := some (X1 19 (512 * d + n))) hx hb hr (Or.inl ⟨_, rfl⟩) hlocks hV hS dSide_write_29 rfl ⟨congrArg some (h2.2.1 _ _ _ h1.2.2.1).1.symm, h1.S.trans h2.S, eu⟩
def z_Side_write_15s (A : ew_R) (d o : Nat) (kn tl : Int32) : ew_R := z_AL_add_16s (z_wl_19 A d 0 kn tl) d o
set_option maxHeartbeats 4000000 in
set_option maxRecDepth 100000 in
theorem c_Side_write_15s (l : Launch) (D : va_G) (T : Nat → ClassId) (t0 : Nat × Nat) (X : Nat → Nat → Nat) (L : List Nat) (tg : Nat → Nat × Nat) (sz : Nat) (A : ew_R) (d o th ll : Nat) (kn tl : Int32) (hth : ew_in X L tg 15 d th) (hll : ew_in X L tg 16 d ll) (hx0 : X 20 o = t0.1) (q1 : A 16 d 1 = nI o) (qs : A 16 d 2 = nI 0) (ho : o / 64 = d) (ho1 : (o + 1) / 64 = d) (ho2 : o + 1 < 2 ^ 20) (hcl : clC X L tg A) (hnl : ∀ b ∈ L, (19, 512 * d + 0) ≠ tg b) (hnew : ∀ b ∈ L, (20, o + 1) ≠ tg b) : Met l ySide_write wsSide_write ({ frames := 7, cells := 2, slots := 1004, locals := 230 }) (em_Pc D vwCl (tysA T) (cfC T) t0 X L tg A sz [.ref th, .int kn, .int tl]) (em_Qq D vwCl (cfC T) L sz (fun r u => r = some (u.1 19 (512 * d + 0)) ∧ em_S [(19, 512 * d + 0), (20, o + 1)] X L tg u.1 u.2.1 u.2.2.1 ∧ u.2.2.2 = z_Side_write_15s A d o kn tl)) 2 1004 (ew_A L sz) := by
  refine em_met (by decide) rfl (Nat.le_of_ble_eq_true rfl) ?_
  intro p e s m below meth c ls hx hb hr hts hown hlocks hml hnm hV hK hN hZ hS hA hl hsz
  subst hsz
  have hl : lv_has ls 4 [(0, .ref th), (1, .int kn), (2, .int tl)] := hl
  refine em_newO (fs := [.int 0, .int 0, .int 0, .int 0]) (ci := 6) hx hb hts ulLetter tyLetter gLetter.1 hown (hts _ kl_Side_30) (hts _ kw_54) (hts _ kw_3) hK hV hS hA rfl (by decide +kernel) (Nat.le_of_ble_eq_true rfl) (Nat.le_of_ble_eq_true rfl) 19 (512 * d + 0) (upr A 19 (512 * d + 0) (fun _ => 0)) (fun X' => by rw [upr_row]; rfl) (clC_keep hcl (fun z => by have := z.1; omega) hnl (fun c i h => upr_oth _ _ h)) hnl dSide_write_0 (fun X1 L1 tg1 H h1 hV hS => ?_)
  have hth1 := h1.2.1 _ _ _ hth
  have hll1 := h1.2.1 _ _ _ hll
  refine lv_dup hx hb dSide_write_3 rfl ?_
  refine lv_aload_n hx hb dSide_write_4 rfl (lv_at hl 0 rfl) ?_
  refine ew_get (v := .ref ll) hx hb hts hown hK hV fSide_10 hth1 (cC_15 _ _ _ _) (congrArg (fun z => some (Value.ref z)) hll1.1) dSide_write_5 ?_
  refine er_calli (va_runV (As := []) (rest := [.ref (X1 19 (512 * d + 0)), .ref (X1 19 (512 * d + 0))]) ⟨hx, hb, hml, hown, hts⟩ (c_AL_size_16 l D T X1 L1 tg1 _ (upr A 19 (512 * d + 0) (fun _ => 0)) d ll hll1) (cwV 0 hts gSide_26 rfl rfl rfl (by decide +kernel) ⟨Nat.le_of_ble_eq_true rfl, Nat.le_of_ble_eq_true rfl⟩) (ec_preV hK hN hV hll1 (cC_16 _ _ _ _) rfl) rfl rfl hl.1 rfl (lv_room (Nat.le_of_ble_eq_true rfl)) dSide_write_8 ⟨Nat.le_of_ble_eq_true rfl, Nat.le_of_ble_eq_true rfl⟩) hV hS hA (fun r u H locs hp hV hS => ?_)
  obtain ⟨rfl, eu9⟩ := hp
  rw [eu9] at hV
  refine lv_toe (y := nI 0) (by show (upr A 19 (512 * d + 0) (fun _ => 0)) 16 d 2 = _; rw [upr_oth _ _ (by omega)]; exact qs) ?_
  refine lv_iconst (v := 1) hx hb dSide_write_11 (by decide) ?_
  refine lv_iadd hx hb dSide_write_12 ?_
  refine lv_toe (y := nI (0 + 1)) (nI_add 0 1) ?_
  refine lv_iload_n hx hb dSide_write_13 rfl (lv_at hl 1 rfl) ?_
  refine lv_iload_n hx hb dSide_write_14 rfl (lv_at hl 2 rfl) ?_
  refine er_callv (va_runI (As := [.int (nI (0 + 1)), .int kn, .int tl]) (b := X1 19 (512 * d + 0)) (rest := [.ref (X1 19 (512 * d + 0))]) ⟨hx, hb, hml, hown, hts⟩ (c_Letter_init_19 l D T X1 L1 tg1 _ (upr A 19 (512 * d + 0) (fun _ => 0)) (512 * d + 0) (X1 19 (512 * d + 0)) h1.2.2.1 (nI (0 + 1)) kn tl) ⟨callB_of 3 hts gSide_32.1 rfl rfl rfl (hts _ gSide_32.2.2.2) (hts _ gSide_32.2.1) (by decide +kernel) ⟨Nat.le_of_ble_eq_true rfl, Nat.le_of_ble_eq_true rfl⟩, rfl, hts _ gSide_32.2.2.1⟩ (ec_preS hK hN hV) rfl rfl hl.1 rfl (lv_room (Nat.le_of_ble_eq_true rfl)) dSide_write_15 ⟨Nat.le_of_ble_eq_true rfl, Nat.le_of_ble_eq_true rfl⟩) hV hS hA (fun u H locs eu hV hS => ?_)
  have eu : u = (z_wl_19 A d 0 kn tl) := eu
  subst eu
  have oth := z_wl_19_oth A d 0 kn tl
  refine lv_astore_n (lv' := [(3, .ref (X1 19 (512 * d + 0))), (0, .ref th), (1, .int kn), (2, .int tl)]) hx hb dSide_write_18 rfl hl (by decide) rfl (fun ls hl => ?_)
  refine lv_aload_n hx hb dSide_write_19 rfl (lv_at hl 1 rfl) ?_
  refine ew_get (v := .ref ll) hx hb hts hown hK hV fSide_10 hth1 (cC_15 _ _ _ _) (congrArg (fun z => some (Value.ref z)) hll1.1) dSide_write_20 ?_
  refine lv_aload_n hx hb dSide_write_23 rfl (lv_at hl 0 rfl) ?_
  have hcl1 : clC X1 L1 tg1 (z_wl_19 A d 0 kn tl) := clC_one hcl h1 oth hnl (fun _ _ h => False.elim h)
  have hnew1 : ∀ b ∈ L1, (20, o + 1) ≠ tg1 b := fun b hb' => by
    rcases h1.2.2.2 b hb' with q | q
    · rw [q]
      intro z
      have := congrArg Prod.fst z
      simp at this
    · rw [q.2]
      exact hnew b q.1
  refine em_calli (va_runV (As := [.ref (X1 19 (512 * d + 0))]) (rest := []) ⟨hx, hb, hml, hown, hts⟩ (c_AL_add_16s l D T t0 X1 L1 tg1 _ (z_wl_19 A d 0 kn tl) d o ll (X1 19 (512 * d + 0)) hll1 h1.2.2.1 ((h1.1 20 o (by omega)).trans hx0) (by rw [oth 16 d (by omega)]; exact q1) (by rw [oth 16 d (by omega)]; exact qs) ho ho1 ho2 hcl1 hnew1) (cwV 1 hts gSide_35 rfl rfl rfl (by decide +kernel) ⟨Nat.le_of_ble_eq_true rfl, Nat.le_of_ble_eq_true rfl⟩) (em_preV hK hN hV hZ hS hA hll1 (cC_16 _ _ _ _) rfl) rfl rfl hl.1 rfl (lv_room (Nat.le_of_ble_eq_true rfl)) dSide_write_24 ⟨Nat.le_of_ble_eq_true rfl, Nat.le_of_ble_eq_true rfl⟩) hV hS hA (fun r X2 L2 tg2 u H locs hp hV hS => ?_)
  obtain ⟨-, h2, eu⟩ := hp
  refine lv_pop hx hb dSide_write_27 rfl ?_
  refine lv_aload_n hx hb dSide_write_28 rfl (lv_at hl 0 rfl) ?_
  refine W.widen (k := 2) (n := 1004) (Nat.le_of_ble_eq_true rfl) (Nat.le_of_ble_eq_true rfl) ?_
  exact em_aret (r := some (X1 19 (512 * d + 0))) hx hb hr (Or.inl ⟨_, rfl⟩) hlocks hV hS dSide_write_29 rfl ⟨congrArg some (h2.2.1 _ _ _ h1.2.2.1).1.symm, h1.S.trans h2.S, eu⟩
