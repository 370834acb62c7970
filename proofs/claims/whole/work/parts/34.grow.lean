theorem km_194 : Cond.methodLink "jdk/internal/util/ArraysSupport" 194 Lib.Math.max.name ∈ WS := kw_321
theorem km_79 : Cond.methodLink "java/util/ArrayList" 79 Lib.Math.max.name ∈ WS := kw_357
theorem km_304 : Cond.methodLink "java/util/Arrays" 304 Lib.Math.min.name ∈ WS := kw_351
/-- a list's array of another length, with what it held -/
def z_gr (k : Nat) (A : ew_R) (o n cap : Nat) : ew_R := up3 (up3 (up3 A k (o + 1) 1000 (nI cap)) k (o + 1) 1001 0) k (o + 1) 1001 (nI n)
/-- what it is while it's empty -/
def z_ga (k : Nat) (A : ew_R) (o cap : Nat) : ew_R := up3 (up3 A k (o + 1) 1000 (nI cap)) k (o + 1) 1001 0
theorem z_ga_oth (k : Nat) (A : ew_R) (o cap c i : Nat) (h : ¬ (c = k ∧ i = o + 1)) : z_ga k A o cap c i = A c i := by
  unfold z_ga
  rw [up3_oth _ _ _ h, up3_oth _ _ _ h]
theorem z_ga_row (k : Nat) (A : ew_R) (o cap : Nat) : z_ga k A o cap k (o + 1) = va_up (va_up (A k (o + 1)) 1000 (nI cap)) 1001 0 := by
  unfold z_ga
  rw [up3_row, up3_row]

theorem cG_new_14 {T : Nat → ClassId} {X : Nat → Nat → Nat} {i cap : Nat} (r : Nat → Int32) (h : cap < 2 ^ 31) : cfC T X 14 i (va_up (va_up r 1000 (nI cap)) 1001 0) = .inl (T 5, cap, .inr (.inr (.inr (.inr (fun _ => none))))) := by
  show Sum.inl (T 5, (nI cap).toNatClampNeg, Sum.inr (Sum.inr (Sum.inr (Sum.inr (fun j => if j < (0 : Int32).toNatClampNeg then some (X 6 (512 * (i / 64) + j)) else none))))) = _
  rw [nI_clamp h]
  congr 7
theorem cG_full_14 {T : Nat → ClassId} {X : Nat → Nat → Nat} {o d n m : Nat} {r : Nat → Int32} (qc : r 1000 = nI m) (qf : r 1001 = nI n) (ho : o / 64 = d) (h : n < 2 ^ 31) (h2 : m < 2 ^ 31) : cfC T X 14 o r = .inl (T 5, m, .inr (.inr (.inr (.inr (fun j => if j < n then some (X 6 (512 * d + j)) else none))))) := by
  rw [cC_14, qc, qf, nI_clamp h, nI_clamp h2, ho]
theorem cG_cpy_14 {T : Nat → ClassId} {X : Nat → Nat → Nat} {o d n cap : Nat} (r : Nat → Int32) (ho : o / 64 = d) (h : n < 2 ^ 31) (h2 : cap < 2 ^ 31) : cfC T X 14 o (va_up (va_up (va_up r 1000 (nI cap)) 1001 0) 1001 (nI n)) = .inl (T 5, cap, .inr (.inr (.inr (.inr (va_cpy (fun j => if j < n then some (X 6 (512 * d + j)) else none) (fun _ => none) 0 0 n))))) := by
  rw [cG_full_14 (m := cap) (n := n) rfl rfl ho h h2]
  congr 7
  funext j
  unfold va_cpy
  by_cases q : j < n
  · rw [if_pos q, if_pos ⟨Nat.zero_le _, by omega⟩]
    show _ = if 0 + (j - 0) < n then some (X 6 (512 * d + (0 + (j - 0)))) else none
    rw [if_pos (by omega), Nat.sub_zero, Nat.zero_add]
  · rw [if_neg q, if_neg (by omega)]

set_option maxHeartbeats 4000000 in
set_option maxRecDepth 100000 in
theorem c_Ar_copyOf3_14 (l : Launch) (D : va_G) (T : Nat → ClassId) (t0 : Nat × Nat) (X : Nat → Nat → Nat) (L : List Nat) (tg : Nat → Nat × Nat) (sz : Nat) (A : ew_R) (d o n cap a0 : Nat) (h0 : ew_in X L tg 14 o a0) (ho : o / 64 = d) (ho1 : (o + 1) / 64 = d) (ho2 : o + 1 < 2 ^ 20) (qc : A 14 o 1000 = nI n) (qf : A 14 o 1001 = nI n) (hn : n ≤ cap) (hcap : cap ≤ 1000) (hcl : clC X L tg A) (hnew : ∀ b ∈ L, (14, o + 1) ≠ tg b) : Met l yAr_copyOf3 wsAr_copyOf3 ({ frames := 1, cells := 1, slots := 1000, locals := 30 }) (em_Pc D vwCl (tysA T) (cfC T) t0 X L tg A sz [.ref a0, .int (nI cap), .ref t0.2]) (em_Qq D vwCl (cfC T) L sz (fun r u => r = some (u.1 14 (o + 1)) ∧ em_one 14 (o + 1) X L tg u.1 u.2.1 u.2.2.1 ∧ u.2.2.2 = z_gr 14 A o n cap)) 1 1000 (ew_A L sz) := by
  refine em_met (by decide) rfl (Nat.le_of_ble_eq_true rfl) ?_
  intro p e s m below meth c ls hx hb hr hts hown hlocks hml hnm hV hK hN hZ hS hA hl hsz
  subst hsz
  have hl : lv_has ls 4 [(0, .ref a0), (1, .int (nI cap)), (2, .ref t0.2)] := hl
  refine lv_aload_n hx hb dAr_copyOf3_0 rfl (lv_at hl 2 rfl) ?_
  refine va_ldcM hx hb hown (hts _ kw_348) hZ.2.1 dAr_copyOf3_1 ?_
  refine lv_acmp_ne (rx := some t0.2) (ry := some t0.2) (tgt := 13) hx hb dAr_copyOf3_3 rfl (fun h9 => absurd rfl h9) (fun _ => ?_)
  refine lv_iload_n hx hb dAr_copyOf3_6 rfl (lv_at hl 1 rfl) ?_
  refine em_newq (cA := T 5) (N' := cap) hx hb hown (hts _ kw_350) hZ.2.2.2.1 hK 5 rfl hV hS hA (nI_pos (by omega)) (nI_clamp (by omega)) (by omega) (Nat.le_of_ble_eq_true rfl) (by show 0 + cap ≤ 1000; omega) 14 (o + 1) (z_ga 14 A o cap) (fun X' => by rw [z_ga_row]; exact cG_new_14 _ (by omega)) (clC_keep hcl (fun z => by have := z.2; omega) hnew (z_ga_oth 14 A o cap)) hnew dAr_copyOf3_7 (fun X1 L1 tg1 H h1 hV hS => ?_)
  refine lv_goto (tgt := 24) hx hb dAr_copyOf3_10 rfl ?_
  refine lv_astore_n (lv' := [(3, .ref (X1 14 (o + 1))), (0, .ref a0), (1, .int (nI cap)), (2, .ref t0.2)]) hx hb dAr_copyOf3_24 rfl hl (by decide) rfl (fun ls hl => ?_)
  refine lv_aload_n hx hb dAr_copyOf3_25 rfl (lv_at hl 1 rfl) ?_
  refine lv_iconst (v := 0) hx hb dAr_copyOf3_26 (by decide) ?_
  refine lv_aload_n hx hb dAr_copyOf3_27 rfl (lv_at hl 0 rfl) ?_
  refine lv_iconst (v := 0) hx hb dAr_copyOf3_28 (by decide) ?_
  refine lv_aload_n hx hb dAr_copyOf3_29 rfl (lv_at hl 1 rfl) ?_
  have hoo : z_ga 14 A o cap 14 o = A 14 o := z_ga_oth 14 A o cap 14 o (by omega)
  have e0 : cfC T X1 14 o (z_ga 14 A o cap 14 o) = .inl (T 5, n, .inr (.inr (.inr (.inr (fun j => if j < n then some (X1 6 (512 * d + j)) else none))))) := by
    rw [hoo]
    exact cG_full_14 qc qf ho (by omega) (by omega)
  refine ew_alen (v := nI n) hx hb hK hV (h1.2.1 _ _ _ h0) e0 5 rfl rfl dAr_copyOf3_30 ?_
  refine lv_iload_n hx hb dAr_copyOf3_31 rfl (lv_at hl 2 rfl) ?_
  refine va_mmin hx hb (hml.trans hl.1.symm) hown (hts _ km_304) (hts _ km_mmin_s) (hts _ km_ini) (hts _ km_mmin_c) (Nat.le_of_ble_eq_true rfl) (Nat.le_of_ble_eq_true rfl) (Nat.le_of_ble_eq_true rfl) (by show 0 + cap ≤ 1000; omega) dAr_copyOf3_32 ?_
  refine lv_toe (y := nI n) (if_neg (nI_nlt (by omega) (by omega))) ?_
  refine ew_copyL (T0 := 5) (T1 := 5) (nn := n) (ci := 6) (r := (RLetter, TLetter, 4)) hx hb (hml.trans hl.1.symm) hown (hts _ kw_354) hts hK hV hS (h1.2.1 _ _ _ h0) h1.2.2.1 e0 (by rw [z_ga_row]; exact cG_new_14 _ (by omega)) rfl rfl rfl (Nat.le_refl n) hn (by omega) rfl (fun i hi y hy => ?_) (hN.at 5 rfl) (Nat.le_of_ble_eq_true rfl) (Nat.le_of_ble_eq_true rfl) 1001 (nI n) (by rw [z_ga_row]; exact cG_cpy_14 _ ho1 (by omega) (by omega)) dAr_copyOf3_35 (fun H locs hV hS => ?_)
  · rw [if_pos hi] at hy
    have hy := Option.some.inj hy
    rcases hcl a0 h0.2.1 6 (512 * d + i) (by rw [h0.2.2]; exact ⟨rfl, i, by show i < (A 14 o 1001).toNatClampNeg; rw [qf, nI_clamp (by omega)]; exact hi, by show _ = 512 * (o / 64) + i; rw [ho]⟩) with h9 | h9
    · exact absurd h9.1 (by omega)
    · have h8 := h1.2.1 _ _ _ h9
      exact ⟨6, 512 * d + i, _, by rw [← hy]; exact h8.self, cC_6 _ _ _ _⟩
  refine lv_aload_n hx hb dAr_copyOf3_38 rfl (lv_at hl 0 rfl) ?_
  refine W.widen (k := 1) (n := 1000) (Nat.le_of_ble_eq_true rfl) (by omega) ?_
  exact em_aret (r := some (X1 14 (o + 1))) hx hb hr (Or.inr ⟨_, rfl⟩) hlocks hV hS dAr_copyOf3_39 rfl ⟨rfl, h1, rfl⟩
set_option maxHeartbeats 4000000 in
set_option maxRecDepth 100000 in
theorem c_Ar_copyOf_14 (l : Launch) (D : va_G) (T : Nat → ClassId) (t0 : Nat × Nat) (X : Nat → Nat → Nat) (L : List Nat) (tg : Nat → Nat × Nat) (sz : Nat) (A : ew_R) (d o n cap a0 : Nat) (h0 : ew_in X L tg 14 o a0) (ho : o / 64 = d) (ho1 : (o + 1) / 64 = d) (ho2 : o + 1 < 2 ^ 20) (qc : A 14 o 1000 = nI n) (qf : A 14 o 1001 = nI n) (hn : n ≤ cap) (hcap : cap ≤ 1000) (hcl : clC X L tg A) (hnew : ∀ b ∈ L, (14, o + 1) ≠ tg b) : Met l yAr_copyOf wsAr_copyOf ({ frames := 2, cells := 1, slots := 1000, locals := 60 }) (em_Pc D vwCl (tysA T) (cfC T) t0 X L tg A sz [.ref a0, .int (nI cap)]) (em_Qq D vwCl (cfC T) L sz (fun r u => r = some (u.1 14 (o + 1)) ∧ em_one 14 (o + 1) X L tg u.1 u.2.1 u.2.2.1 ∧ u.2.2.2 = z_gr 14 A o n cap)) 1 1000 (ew_A L sz) := by
  refine em_met (by decide) rfl (Nat.le_of_ble_eq_true rfl) ?_
  intro p e s m below meth c ls hx hb hr hts hown hlocks hml hnm hV hK hN hZ hS hA hl hsz
  subst hsz
  have hl : lv_has ls 2 [(0, .ref a0), (1, .int (nI cap))] := hl
  refine lv_aload_n hx hb dAr_copyOf_0 rfl (lv_at hl 0 rfl) ?_
  refine lv_iload_n hx hb dAr_copyOf_1 rfl (lv_at hl 1 rfl) ?_
  refine lv_aload_n hx hb dAr_copyOf_2 rfl (lv_at hl 0 rfl) ?_
  refine va_getC hx hb (hml.trans hl.1.symm) hown (hts _ kw_329) (va_Dc.use hZ.2.2.1) (hts _ kw_1008) (hts _ kw_330) (hts _ kw_344) hZ.2.1 ?_ (Nat.le_of_ble_eq_true rfl) (Nat.le_of_ble_eq_true rfl) dAr_copyOf_3 ?_
  · obtain ⟨q0, hq⟩ := ew_at (cf := cfC T) (A := A) (ex := []) h0
    rw [cC_14] at hq
    exact ⟨_, hV.1 q0 _ hq, rfl, va_nmO (hK.2 5 (T 5, .object "java/lang/Object") rfl).2 (by decide)⟩
  refine em_callq (va_runS (As := [.ref a0, .int (nI cap), .ref t0.2]) (rest := []) ⟨hx, hb, hml, hown, hts⟩ (c_Ar_copyOf3_14 l D T t0 X L tg _ A d o n cap a0 h0 ho ho1 ho2 qc qf hn hcap hcl hnew) ⟨callB_of 3 hts gAr_300.1 rfl rfl rfl (hts _ gAr_300.2.2.2) (hts _ gAr_300.2.1) (by decide +kernel) ⟨Nat.le_of_ble_eq_true rfl, Nat.le_of_ble_eq_true rfl⟩, hts _ gAr_300.2.2.1⟩ (em_preS hK hN hV hZ hS hA) rfl rfl hl.1 rfl (lv_room (Nat.le_of_ble_eq_true rfl)) dAr_copyOf_6 ⟨Nat.le_of_ble_eq_true rfl, Nat.le_of_ble_eq_true rfl⟩) hV hS hA (fun r X1 L1 tg1 u H locs hp hV hS => ?_)
  exact em_aret (r := r) hx hb hr (Or.inr ⟨_, rfl⟩) hlocks hV hS dAr_copyOf_9 rfl hp
theorem cG_new_20 {T : Nat → ClassId} {X : Nat → Nat → Nat} {i cap : Nat} (r : Nat → Int32) (h : cap < 2 ^ 31) : cfC T X 20 i (va_up (va_up r 1000 (nI cap)) 1001 0) = .inl (T 5, cap, .inr (.inr (.inr (.inr (fun _ => none))))) := by
  show Sum.inl (T 5, (nI cap).toNatClampNeg, Sum.inr (Sum.inr (Sum.inr (Sum.inr (fun j => if j < (0 : Int32).toNatClampNeg then some (X 19 (512 * (i / 64) + j)) else none))))) = _
  rw [nI_clamp h]
  congr 7
theorem cG_full_20 {T : Nat → ClassId} {X : Nat → Nat → Nat} {o d n m : Nat} {r : Nat → Int32} (qc : r 1000 = nI m) (qf : r 1001 = nI n) (ho : o / 64 = d) (h : n < 2 ^ 31) (h2 : m < 2 ^ 31) : cfC T X 20 o r = .inl (T 5, m, .inr (.inr (.inr (.inr (fun j => if j < n then some (X 19 (512 * d + j)) else none))))) := by
  rw [cC_20, qc, qf, nI_clamp h, nI_clamp h2, ho]
theorem cG_cpy_20 {T : Nat → ClassId} {X : Nat → Nat → Nat} {o d n cap : Nat} (r : Nat → Int32) (ho : o / 64 = d) (h : n < 2 ^ 31) (h2 : cap < 2 ^ 31) : cfC T X 20 o (va_up (va_up (va_up r 1000 (nI cap)) 1001 0) 1001 (nI n)) = .inl (T 5, cap, .inr (.inr (.inr (.inr (va_cpy (fun j => if j < n then some (X 19 (512 * d + j)) else none) (fun _ => none) 0 0 n))))) := by
  rw [cG_full_20 (m := cap) (n := n) rfl rfl ho h h2]
  congr 7
  funext j
  unfold va_cpy
  by_cases q : j < n
  · rw [if_pos q, if_pos ⟨Nat.zero_le _, by omega⟩]
    show _ = if 0 + (j - 0) < n then some (X 19 (512 * d + (0 + (j - 0)))) else none
    rw [if_pos (by omega), Nat.sub_zero, Nat.zero_add]
  · rw [if_neg q, if_neg (by omega)]

set_option maxHeartbeats 4000000 in
set_option maxRecDepth 100000 in
theorem c_Ar_copyOf3_20 (l : Launch) (D : va_G) (T : Nat → ClassId) (t0 : Nat × Nat) (X : Nat → Nat → Nat) (L : List Nat) (tg : Nat → Nat × Nat) (sz : Nat) (A : ew_R) (d o n cap a0 : Nat) (h0 : ew_in X L tg 20 o a0) (ho : o / 64 = d) (ho1 : (o + 1) / 64 = d) (ho2 : o + 1 < 2 ^ 20) (qc : A 20 o 1000 = nI n) (qf : A 20 o 1001 = nI n) (hn : n ≤ cap) (hcap : cap ≤ 1000) (hcl : clC X L tg A) (hnew : ∀ b ∈ L, (20, o + 1) ≠ tg b) : Met l yAr_copyOf3 wsAr_copyOf3 ({ frames := 1, cells := 1, slots := 1000, locals := 30 }) (em_Pc D vwCl (tysA T) (cfC T) t0 X L tg A sz [.ref a0, .int (nI cap), .ref t0.2]) (em_Qq D vwCl (cfC T) L sz (fun r u => r = some (u.1 20 (o + 1)) ∧ em_one 20 (o + 1) X L tg u.1 u.2.1 u.2.2.1 ∧ u.2.2.2 = z_gr 20 A o n cap)) 1 1000 (ew_A L sz) := by
  refine em_met (by decide) rfl (Nat.le_of_ble_eq_true rfl) ?_
  intro p e s m below meth c ls hx hb hr hts hown hlocks hml hnm hV hK hN hZ hS hA hl hsz
  subst hsz
  have hl : lv_has ls 4 [(0, .ref a0), (1, .int (nI cap)), (2, .ref t0.2)] := hl
  refine lv_aload_n hx hb dAr_copyOf3_0 rfl (lv_at hl 2 rfl) ?_
  refine va_ldcM hx hb hown (hts _ kw_348) hZ.2.1 dAr_copyOf3_1 ?_
  refine lv_acmp_ne (rx := some t0.2) (ry := some t0.2) (tgt := 13) hx hb dAr_copyOf3_3 rfl (fun h9 => absurd rfl h9) (fun _ => ?_)
  refine lv_iload_n hx hb dAr_copyOf3_6 rfl (lv_at hl 1 rfl) ?_
  refine em_newq (cA := T 5) (N' := cap) hx hb hown (hts _ kw_350) hZ.2.2.2.1 hK 5 rfl hV hS hA (nI_pos (by omega)) (nI_clamp (by omega)) (by omega) (Nat.le_of_ble_eq_true rfl) (by show 0 + cap ≤ 1000; omega) 20 (o + 1) (z_ga 20 A o cap) (fun X' => by rw [z_ga_row]; exact cG_new_20 _ (by omega)) (clC_keep hcl (fun z => by have := z.2; omega) hnew (z_ga_oth 20 A o cap)) hnew dAr_copyOf3_7 (fun X1 L1 tg1 H h1 hV hS => ?_)
  refine lv_goto (tgt := 24) hx hb dAr_copyOf3_10 rfl ?_
  refine lv_astore_n (lv' := [(3, .ref (X1 20 (o + 1))), (0, .ref a0), (1, .int (nI cap)), (2, .ref t0.2)]) hx hb dAr_copyOf3_24 rfl hl (by decide) rfl (fun ls hl => ?_)
  refine lv_aload_n hx hb dAr_copyOf3_25 rfl (lv_at hl 1 rfl) ?_
  refine lv_iconst (v := 0) hx hb dAr_copyOf3_26 (by decide) ?_
  refine lv_aload_n hx hb dAr_copyOf3_27 rfl (lv_at hl 0 rfl) ?_
  refine lv_iconst (v := 0) hx hb dAr_copyOf3_28 (by decide) ?_
  refine lv_aload_n hx hb dAr_copyOf3_29 rfl (lv_at hl 1 rfl) ?_
  have hoo : z_ga 20 A o cap 20 o = A 20 o := z_ga_oth 20 A o cap 20 o (by omega)
  have e0 : cfC T X1 20 o (z_ga 20 A o cap 20 o) = .inl (T 5, n, .inr (.inr (.inr (.inr (fun j => if j < n then some (X1 19 (512 * d + j)) else none))))) := by
    rw [hoo]
    exact cG_full_20 qc qf ho (by omega) (by omega)
  refine ew_alen (v := nI n) hx hb hK hV (h1.2.1 _ _ _ h0) e0 5 rfl rfl dAr_copyOf3_30 ?_
  refine lv_iload_n hx hb dAr_copyOf3_31 rfl (lv_at hl 2 rfl) ?_
  refine va_mmin hx hb (hml.trans hl.1.symm) hown (hts _ km_304) (hts _ km_mmin_s) (hts _ km_ini) (hts _ km_mmin_c) (Nat.le_of_ble_eq_true rfl) (Nat.le_of_ble_eq_true rfl) (Nat.le_of_ble_eq_true rfl) (by show 0 + cap ≤ 1000; omega) dAr_copyOf3_32 ?_
  refine lv_toe (y := nI n) (if_neg (nI_nlt (by omega) (by omega))) ?_
  refine ew_copyL (T0 := 5) (T1 := 5) (nn := n) (ci := 6) (r := (RLetter, TLetter, 4)) hx hb (hml.trans hl.1.symm) hown (hts _ kw_354) hts hK hV hS (h1.2.1 _ _ _ h0) h1.2.2.1 e0 (by rw [z_ga_row]; exact cG_new_20 _ (by omega)) rfl rfl rfl (Nat.le_refl n) hn (by omega) rfl (fun i hi y hy => ?_) (hN.at 5 rfl) (Nat.le_of_ble_eq_true rfl) (Nat.le_of_ble_eq_true rfl) 1001 (nI n) (by rw [z_ga_row]; exact cG_cpy_20 _ ho1 (by omega) (by omega)) dAr_copyOf3_35 (fun H locs hV hS => ?_)
  · rw [if_pos hi] at hy
    have hy := Option.some.inj hy
    rcases hcl a0 h0.2.1 19 (512 * d + i) (by rw [h0.2.2]; exact ⟨rfl, i, by show i < (A 20 o 1001).toNatClampNeg; rw [qf, nI_clamp (by omega)]; exact hi, by show _ = 512 * (o / 64) + i; rw [ho]⟩) with h9 | h9
    · exact absurd h9.1 (by omega)
    · have h8 := h1.2.1 _ _ _ h9
      exact ⟨19, 512 * d + i, _, by rw [← hy]; exact h8.self, cC_19 _ _ _ _⟩
  refine lv_aload_n hx hb dAr_copyOf3_38 rfl (lv_at hl 0 rfl) ?_
  refine W.widen (k := 1) (n := 1000) (Nat.le_of_ble_eq_true rfl) (by omega) ?_
  exact em_aret (r := some (X1 20 (o + 1))) hx hb hr (Or.inr ⟨_, rfl⟩) hlocks hV hS dAr_copyOf3_39 rfl ⟨rfl, h1, rfl⟩
set_option maxHeartbeats 4000000 in
set_option maxRecDepth 100000 in
theorem c_Ar_copyOf_20 (l : Launch) (D : va_G) (T : Nat → ClassId) (t0 : Nat × Nat) (X : Nat → Nat → Nat) (L : List Nat) (tg : Nat → Nat × Nat) (sz : Nat) (A : ew_R) (d o n cap a0 : Nat) (h0 : ew_in X L tg 20 o a0) (ho : o / 64 = d) (ho1 : (o + 1) / 64 = d) (ho2 : o + 1 < 2 ^ 20) (qc : A 20 o 1000 = nI n) (qf : A 20 o 1001 = nI n) (hn : n ≤ cap) (hcap : cap ≤ 1000) (hcl : clC X L tg A) (hnew : ∀ b ∈ L, (20, o + 1) ≠ tg b) : Met l yAr_copyOf wsAr_copyOf ({ frames := 2, cells := 1, slots := 1000, locals := 60 }) (em_Pc D vwCl (tysA T) (cfC T) t0 X L tg A sz [.ref a0, .int (nI cap)]) (em_Qq D vwCl (cfC T) L sz (fun r u => r = some (u.1 20 (o + 1)) ∧ em_one 20 (o + 1) X L tg u.1 u.2.1 u.2.2.1 ∧ u.2.2.2 = z_gr 20 A o n cap)) 1 1000 (ew_A L sz) := by
  refine em_met (by decide) rfl (Nat.le_of_ble_eq_true rfl) ?_
  intro p e s m below meth c ls hx hb hr hts hown hlocks hml hnm hV hK hN hZ hS hA hl hsz
  subst hsz
  have hl : lv_has ls 2 [(0, .ref a0), (1, .int (nI cap))] := hl
  refine lv_aload_n hx hb dAr_copyOf_0 rfl (lv_at hl 0 rfl) ?_
  refine lv_iload_n hx hb dAr_copyOf_1 rfl (lv_at hl 1 rfl) ?_
  refine lv_aload_n hx hb dAr_copyOf_2 rfl (lv_at hl 0 rfl) ?_
  refine va_getC hx hb (hml.trans hl.1.symm) hown (hts _ kw_329) (va_Dc.use hZ.2.2.1) (hts _ kw_1008) (hts _ kw_330) (hts _ kw_344) hZ.2.1 ?_ (Nat.le_of_ble_eq_true rfl) (Nat.le_of_ble_eq_true rfl) dAr_copyOf_3 ?_
  · obtain ⟨q0, hq⟩ := ew_at (cf := cfC T) (A := A) (ex := []) h0
    rw [cC_20] at hq
    exact ⟨_, hV.1 q0 _ hq, rfl, va_nmO (hK.2 5 (T 5, .object "java/lang/Object") rfl).2 (by decide)⟩
  refine em_callq (va_runS (As := [.ref a0, .int (nI cap), .ref t0.2]) (rest := []) ⟨hx, hb, hml, hown, hts⟩ (c_Ar_copyOf3_20 l D T t0 X L tg _ A d o n cap a0 h0 ho ho1 ho2 qc qf hn hcap hcl hnew) ⟨callB_of 3 hts gAr_300.1 rfl rfl rfl (hts _ gAr_300.2.2.2) (hts _ gAr_300.2.1) (by decide +kernel) ⟨Nat.le_of_ble_eq_true rfl, Nat.le_of_ble_eq_true rfl⟩, hts _ gAr_300.2.2.1⟩ (em_preS hK hN hV hZ hS hA) rfl rfl hl.1 rfl (lv_room (Nat.le_of_ble_eq_true rfl)) dAr_copyOf_6 ⟨Nat.le_of_ble_eq_true rfl, Nat.le_of_ble_eq_true rfl⟩) hV hS hA (fun r X1 L1 tg1 u H locs hp hV hS => ?_)
  exact em_aret (r := r) hx hb hr (Or.inr ⟨_, rfl⟩) hlocks hV hS dAr_copyOf_9 rfl hp
