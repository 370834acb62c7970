theorem ec_oin {r : Nat → Int32} {cap j : Nat} (hc : r 1000 = nI cap) (hj : j < cap) (hcap : cap < 2 ^ 31) : vp_in (nI j) (r 1000).toNatClampNeg := by
  rw [hc, nI_clamp hcap]
  exact vp_in_nI hj hcap
theorem ec_oget {X : Nat → Nat} {r : Nat → Int32} {id d fl j : Nat} (hf : r 1001 = nI fl) (hj : j < fl) (hd : id / 64 = d) (hfl : fl < 2 ^ 31) : va_rf ((fun j => if j < (r 1001).toNatClampNeg then some (X (512 * (id / 64) + j)) else none) (nI j).toNatClampNeg) = Value.ref (X (512 * d + j)) := by
  show va_rf (if (nI j).toNatClampNeg < (r 1001).toNatClampNeg then some (X (512 * (id / 64) + (nI j).toNatClampNeg)) else none) = _
  rw [hf, nI_clamp hfl, nI_clamp (by omega), if_pos hj, hd]
  rfl
theorem ec_recv {s : State} {H : Heap} {D : va_G} {cl : List vw_C} {cf : ew_C} {A0 : Nat → Prop} {X : Nat → Nat → Nat} {L : List Nat} {tg : Nat → Nat × Nat} {A : ew_R} {tys : List (ClassId × FieldType)} {kd id a ci : Nat} {fs : List Value} {C : String} {T : u_T} {N : Nat} (hK : va_K D cl tys s) (hV : ew_V D cl cf A0 X L tg A [] H) (hi : ew_in X L tg kd id a) (he : cf X kd id (A kd id) = .inr (ci, fs)) (hc : cl[ci]? = some (C, T, N)) : ∃ cell : Cell, H[a]? = some cell ∧ cell.vm.isStatics = false ∧ s.vm.findClass C = some cell.cls := by
  obtain ⟨q0, hq⟩ := ew_at (cf := cf) (A := A) (ex := []) hi
  rw [he] at hq
  exact va_recv hK hV.1 hc hq

set_option maxHeartbeats 4000000 in
set_option maxRecDepth 100000 in
theorem c_Pr_checkIndex (l : Launch) (D : va_G) (T : Nat → ClassId) (X : Nat → Nat → Nat) (L : List Nat) (tg : Nat → Nat × Nat) (sz : Nat) (A : ew_R) (i : Nat) (n : Nat) (hi : i < n) (hn : n < 2 ^ 31) : Met l yPr_checkIndex wsPr_checkIndex ({ frames := 0, cells := 0, slots := 0, locals := 0 }) (ec_Pc D vwCl (tysA T) (cfC T) X L tg A sz [.int (nI i), .int (nI n), .null]) (er_Qi D vwCl (cfC T) X L tg sz (fun r u => r = nI i ∧ u = A)) 0 0 (ew_A L sz) := by
  refine ec_met (by decide) rfl (Nat.le_of_ble_eq_true rfl) ?_
  intro p e s m below meth c ls hx hb hr hts hown hlocks hml hV hK hN hS hA hl hsz
  subst hsz
  have hl : lv_has ls 3 [(0, .int (nI i)), (1, .int (nI n)), (2, .null)] := hl
  refine lv_iload_n hx hb dPr_checkIndex_0 rfl (lv_at hl 0 rfl) ?_
  refine lv_if_lt (tgt := 9) hx hb dPr_checkIndex_1 rfl (fun h9 => absurd h9 (fun z9 => (show ¬ (i < 0) by omega) ((nI_ltI (a := i) (b := 0) (by omega) (by omega)).mp z9))) (fun _ => ?_)
  refine lv_iload_n hx hb dPr_checkIndex_4 rfl (lv_at hl 0 rfl) ?_
  refine lv_iload_n hx hb dPr_checkIndex_5 rfl (lv_at hl 1 rfl) ?_
  refine lv_icmp_lt (tgt := 16) hx hb dPr_checkIndex_6 rfl (fun _ => ?_) (fun h9 => absurd ((nI_ltI (a := i) (b := n) (by omega) (by omega)).mpr (show i < n by omega)) h9)
  refine lv_iload_n hx hb dPr_checkIndex_16 rfl (lv_at hl 0 rfl) ?_
  exact er_iret hx hb hr hlocks hV hS dPr_checkIndex_17 ⟨rfl, rfl⟩

set_option maxHeartbeats 4000000 in
set_option maxRecDepth 100000 in
theorem c_Ob_checkIndex (l : Launch) (D : va_G) (T : Nat → ClassId) (X : Nat → Nat → Nat) (L : List Nat) (tg : Nat → Nat × Nat) (sz : Nat) (A : ew_R) (i : Nat) (n : Nat) (hi : i < n) (hn : n < 2 ^ 31) : Met l yOb_checkIndex wsOb_checkIndex ({ frames := 1, cells := 0, slots := 0, locals := 22 }) (ec_Pc D vwCl (tysA T) (cfC T) X L tg A sz [.int (nI i), .int (nI n)]) (er_Qi D vwCl (cfC T) X L tg sz (fun r u => r = nI i ∧ u = A)) 0 0 (ew_A L sz) := by
  refine ec_met (by decide) rfl (Nat.le_of_ble_eq_true rfl) ?_
  intro p e s m below meth c ls hx hb hr hts hown hlocks hml hV hK hN hS hA hl hsz
  subst hsz
  have hl : lv_has ls 2 [(0, .int (nI i)), (1, .int (nI n))] := hl
  refine lv_iload_n hx hb dOb_checkIndex_0 rfl (lv_at hl 0 rfl) ?_
  refine lv_iload_n hx hb dOb_checkIndex_1 rfl (lv_at hl 1 rfl) ?_
  refine lv_null hx hb dOb_checkIndex_2 ?_
  refine er_calli (va_runS (As := [.int (nI i), .int (nI n), .null]) (rest := []) ⟨hx, hb, hml, hown, hts⟩ (c_Pr_checkIndex l D T X L tg _ A i n hi hn) ⟨callB_of 3 hts gOb_105.1 rfl rfl rfl (hts _ gOb_105.2.2.2) (hts _ gOb_105.2.1) (by decide +kernel) ⟨Nat.le_of_ble_eq_true rfl, Nat.le_of_ble_eq_true rfl⟩, hts _ gOb_105.2.2.1⟩ (ec_preS hK hN hV) rfl rfl hl.1 rfl (lv_room (Nat.le_of_ble_eq_true rfl)) dOb_checkIndex_3 ⟨Nat.le_of_ble_eq_true rfl, Nat.le_of_ble_eq_true rfl⟩) hV hS hA (fun r u H locs hp hV hS => ?_)
  obtain ⟨rfl, eu9⟩ := hp
  rw [eu9] at hV
  exact er_iret hx hb hr hlocks hV hS dOb_checkIndex_6 ⟨rfl, rfl⟩

def z_AL_size_8 (A : ew_R) (d : Nat) : Int32 :=
  A 8 d 2
set_option maxHeartbeats 4000000 in
set_option maxRecDepth 100000 in
theorem c_AL_size_8 (l : Launch) (D : va_G) (T : Nat → ClassId) (X : Nat → Nat → Nat) (L : List Nat) (tg : Nat → Nat × Nat) (sz : Nat) (A : ew_R) (d : Nat) (th : Nat) (hth : ew_in X L tg 8 d th) : Met l yAL_size wsAL_size ({ frames := 0, cells := 0, slots := 0, locals := 0 }) (ec_Pc D vwCl (tysA T) (cfC T) X L tg A sz [.ref th]) (er_Qi D vwCl (cfC T) X L tg sz (fun r u => r = z_AL_size_8 A d ∧ u = A)) 0 0 (ew_A L sz) := by
  refine ec_met (by decide) rfl (Nat.le_of_ble_eq_true rfl) ?_
  intro p e s m below meth c ls hx hb hr hts hown hlocks hml hV hK hN hS hA hl hsz
  subst hsz
  have hl : lv_has ls 1 [(0, .ref th)] := hl
  refine lv_aload_n hx hb dAL_size_0 rfl (lv_at hl 0 rfl) ?_
  refine ew_get (v := .int (A 8 d 2)) hx hb hts hown hK hV fAL_48 hth (cC_8 _ _ _ _) rfl dAL_size_1 ?_
  exact er_iret hx hb hr hlocks hV hS dAL_size_4 ⟨Eq.symm (by unfold z_AL_size_8; rfl), rfl⟩

set_option maxHeartbeats 4000000 in
set_option maxRecDepth 100000 in
theorem c_AL_elementData_8 (l : Launch) (D : va_G) (T : Nat → ClassId) (X : Nat → Nat → Nat) (L : List Nat) (tg : Nat → Nat × Nat) (sz : Nat) (A : ew_R) (d : Nat) (th : Nat) (hth : ew_in X L tg 8 d th) (j : Nat) (o : Nat) (cap : Nat) (n : Nat) (e14_0 : ew_in X L tg 14 o (X 14 o)) (e6_1 : ew_in X L tg 6 (512 * d + j) (X 6 (512 * d + j))) (q1 : A 8 d 1 = nI o) (ho : o / 64 = d) (ho2 : o < 2 ^ 20) (qs : A 8 d 2 = nI n) (qc : A 14 o 1000 = nI cap) (qf : A 14 o 1001 = nI n) (hnc : n ≤ cap) (hcap : cap ≤ 1000) (hj : j < n) : Met l yAL_elementData wsAL_elementData ({ frames := 0, cells := 0, slots := 0, locals := 0 }) (ec_Pc D vwCl (tysA T) (cfC T) X L tg A sz [.ref th, .int (nI j)]) (er_Qq D vwCl (cfC T) X L tg sz (fun r u => r = some (X 6 (512 * d + j)) ∧ u = A)) 0 0 (ew_A L sz) := by
  refine ec_met (by decide) rfl (Nat.le_of_ble_eq_true rfl) ?_
  intro p e s m below meth c ls hx hb hr hts hown hlocks hml hV hK hN hS hA hl hsz
  subst hsz
  have hl : lv_has ls 2 [(0, .ref th), (1, .int (nI j))] := hl
  refine lv_aload_n hx hb dAL_elementData_0 rfl (lv_at hl 0 rfl) ?_
  refine ew_get (v := .ref (X 14 o)) hx hb hts hown hK hV fAL_9 hth (cC_8 _ _ _ _) (ec_rd q1 (by omega)) dAL_elementData_1 ?_
  refine lv_iload_n hx hb dAL_elementData_4 rfl (lv_at hl 1 rfl) ?_
  refine ew_aald (v := .ref (X 6 (512 * d + j))) hx hb hK hV e14_0 (cC_14 _ _ _ _) 5 rfl (ec_oin qc (by omega) (by omega)) (ec_oget qf (by omega) ho (by omega)) dAL_elementData_5 ?_
  exact er_aret (r := some (X 6 (512 * d + j))) hx hb hr hlocks hV hS dAL_elementData_6 rfl ⟨rfl, rfl⟩

set_option maxHeartbeats 4000000 in
set_option maxRecDepth 100000 in
theorem c_AL_get_8 (l : Launch) (D : va_G) (T : Nat → ClassId) (X : Nat → Nat → Nat) (L : List Nat) (tg : Nat → Nat × Nat) (sz : Nat) (A : ew_R) (d : Nat) (th : Nat) (hth : ew_in X L tg 8 d th) (j : Nat) (o : Nat) (cap : Nat) (n : Nat) (e14_0 : ew_in X L tg 14 o (X 14 o)) (e6_1 : ew_in X L tg 6 (512 * d + j) (X 6 (512 * d + j))) (q1 : A 8 d 1 = nI o) (ho : o / 64 = d) (ho2 : o < 2 ^ 20) (qs : A 8 d 2 = nI n) (qc : A 14 o 1000 = nI cap) (qf : A 14 o 1001 = nI n) (hnc : n ≤ cap) (hcap : cap ≤ 1000) (hj : j < n) : Met l yAL_get wsAL_get ({ frames := 2, cells := 0, slots := 0, locals := 43 }) (ec_Pc D vwCl (tysA T) (cfC T) X L tg A sz [.ref th, .int (nI j)]) (er_Qq D vwCl (cfC T) X L tg sz (fun r u => r = some (X 6 (512 * d + j)) ∧ u = A)) 0 0 (ew_A L sz) := by
  refine ec_met (by decide) rfl (Nat.le_of_ble_eq_true rfl) ?_
  intro p e s m below meth c ls hx hb hr hts hown hlocks hml hV hK hN hS hA hl hsz
  subst hsz
  have hl : lv_has ls 2 [(0, .ref th), (1, .int (nI j))] := hl
  refine lv_iload_n hx hb dAL_get_0 rfl (lv_at hl 1 rfl) ?_
  refine lv_aload_n hx hb dAL_get_1 rfl (lv_at hl 0 rfl) ?_
  refine ew_get (v := .int (A 8 d 2)) hx hb hts hown hK hV fAL_48 hth (cC_8 _ _ _ _) rfl dAL_get_2 ?_
  refine lv_toe (y := nI n) qs ?_
  refine er_calli (va_runS (As := [.int (nI j), .int (nI n)]) (rest := []) ⟨hx, hb, hml, hown, hts⟩ (c_Ob_checkIndex l D T X L tg _ A j n hj (by omega)) ⟨callB_of 2 hts gAL_118.1 rfl rfl rfl (hts _ gAL_118.2.2.2) (hts _ gAL_118.2.1) (by decide +kernel) ⟨Nat.le_of_ble_eq_true rfl, Nat.le_of_ble_eq_true rfl⟩, hts _ gAL_118.2.2.1⟩ (ec_preS hK hN hV) rfl rfl hl.1 rfl (lv_room (Nat.le_of_ble_eq_true rfl)) dAL_get_5 ⟨Nat.le_of_ble_eq_true rfl, Nat.le_of_ble_eq_true rfl⟩) hV hS hA (fun r u H locs hp hV hS => ?_)
  obtain ⟨rfl, eu9⟩ := hp
  rw [eu9] at hV
  refine lv_pop hx hb dAL_get_8 rfl ?_
  refine lv_aload_n hx hb dAL_get_9 rfl (lv_at hl 0 rfl) ?_
  refine lv_iload_n hx hb dAL_get_10 rfl (lv_at hl 1 rfl) ?_
  refine er_callq (va_runV (As := [.int (nI j)]) (rest := []) ⟨hx, hb, hml, hown, hts⟩ (c_AL_elementData_8 l D T X L tg _ A d th hth j o cap n e14_0 e6_1 q1 ho ho2 qs qc qf hnc hcap hj) (cwV 1 hts gAL_123 rfl rfl rfl (by decide +kernel) ⟨Nat.le_of_ble_eq_true rfl, Nat.le_of_ble_eq_true rfl⟩) (ec_preV hK hN hV hth (cC_8 _ _ _ _) rfl) rfl rfl hl.1 rfl (lv_room (Nat.le_of_ble_eq_true rfl)) dAL_get_11 ⟨Nat.le_of_ble_eq_true rfl, Nat.le_of_ble_eq_true rfl⟩) hV hS hA (fun r u H locs hp hV hS => ?_)
  obtain ⟨rfl, eu9⟩ := hp
  rw [eu9] at hV
  exact er_aret (r := some (X 6 (512 * d + j))) hx hb hr hlocks hV hS dAL_get_14 rfl ⟨rfl, rfl⟩

def z_AL_size_16 (A : ew_R) (d : Nat) : Int32 :=
  A 16 d 2
set_option maxHeartbeats 4000000 in
set_option maxRecDepth 100000 in
theorem c_AL_size_16 (l : Launch) (D : va_G) (T : Nat → ClassId) (X : Nat → Nat → Nat) (L : List Nat) (tg : Nat → Nat × Nat) (sz : Nat) (A : ew_R) (d : Nat) (th : Nat) (hth : ew_in X L tg 16 d th) : Met l yAL_size wsAL_size ({ frames := 0, cells := 0, slots := 0, locals := 0 }) (ec_Pc D vwCl (tysA T) (cfC T) X L tg A sz [.ref th]) (er_Qi D vwCl (cfC T) X L tg sz (fun r u => r = z_AL_size_16 A d ∧ u = A)) 0 0 (ew_A L sz) := by
  refine ec_met (by decide) rfl (Nat.le_of_ble_eq_true rfl) ?_
  intro p e s m below meth c ls hx hb hr hts hown hlocks hml hV hK hN hS hA hl hsz
  subst hsz
  have hl : lv_has ls 1 [(0, .ref th)] := hl
  refine lv_aload_n hx hb dAL_size_0 rfl (lv_at hl 0 rfl) ?_
  refine ew_get (v := .int (A 16 d 2)) hx hb hts hown hK hV fAL_48 hth (cC_16 _ _ _ _) rfl dAL_size_1 ?_
  exact er_iret hx hb hr hlocks hV hS dAL_size_4 ⟨Eq.symm (by unfold z_AL_size_16; rfl), rfl⟩

set_option maxHeartbeats 4000000 in
set_option maxRecDepth 100000 in
theorem c_AL_elementData_16 (l : Launch) (D : va_G) (T : Nat → ClassId) (X : Nat → Nat → Nat) (L : List Nat) (tg : Nat → Nat × Nat) (sz : Nat) (A : ew_R) (d : Nat) (th : Nat) (hth : ew_in X L tg 16 d th) (j : Nat) (o : Nat) (cap : Nat) (n : Nat) (e20_0 : ew_in X L tg 20 o (X 20 o)) (e19_1 : ew_in X L tg 19 (512 * d + j) (X 19 (512 * d + j))) (q1 : A 16 d 1 = nI o) (ho : o / 64 = d) (ho2 : o < 2 ^ 20) (qs : A 16 d 2 = nI n) (qc : A 20 o 1000 = nI cap) (qf : A 20 o 1001 = nI n) (hnc : n ≤ cap) (hcap : cap ≤ 1000) (hj : j < n) : Met l yAL_elementData wsAL_elementData ({ frames := 0, cells := 0, slots := 0, locals := 0 }) (ec_Pc D vwCl (tysA T) (cfC T) X L tg A sz [.ref th, .int (nI j)]) (er_Qq D vwCl (cfC T) X L tg sz (fun r u => r = some (X 19 (512 * d + j)) ∧ u = A)) 0 0 (ew_A L sz) := by
  refine ec_met (by decide) rfl (Nat.le_of_ble_eq_true rfl) ?_
  intro p e s m below meth c ls hx hb hr hts hown hlocks hml hV hK hN hS hA hl hsz
  subst hsz
  have hl : lv_has ls 2 [(0, .ref th), (1, .int (nI j))] := hl
  refine lv_aload_n hx hb dAL_elementData_0 rfl (lv_at hl 0 rfl) ?_
  refine ew_get (v := .ref (X 20 o)) hx hb hts hown hK hV fAL_9 hth (cC_16 _ _ _ _) (ec_rd q1 (by omega)) dAL_elementData_1 ?_
  refine lv_iload_n hx hb dAL_elementData_4 rfl (lv_at hl 1 rfl) ?_
  refine ew_aald (v := .ref (X 19 (512 * d + j))) hx hb hK hV e20_0 (cC_20 _ _ _ _) 5 rfl (ec_oin qc (by omega) (by omega)) (ec_oget qf (by omega) ho (by omega)) dAL_elementData_5 ?_
  exact er_aret (r := some (X 19 (512 * d + j))) hx hb hr hlocks hV hS dAL_elementData_6 rfl ⟨rfl, rfl⟩

set_option maxHeartbeats 4000000 in
set_option maxRecDepth 100000 in
theorem c_AL_get_16 (l : Launch) (D : va_G) (T : Nat → ClassId) (X : Nat → Nat → Nat) (L : List Nat) (tg : Nat → Nat × Nat) (sz : Nat) (A : ew_R) (d : Nat) (th : Nat) (hth : ew_in X L tg 16 d th) (j : Nat) (o : Nat) (cap : Nat) (n : Nat) (e20_0 : ew_in X L tg 20 o (X 20 o)) (e19_1 : ew_in X L tg 19 (512 * d + j) (X 19 (512 * d + j))) (q1 : A 16 d 1 = nI o) (ho : o / 64 = d) (ho2 : o < 2 ^ 20) (qs : A 16 d 2 = nI n) (qc : A 20 o 1000 = nI cap) (qf : A 20 o 1001 = nI n) (hnc : n ≤ cap) (hcap : cap ≤ 1000) (hj : j < n) : Met l yAL_get wsAL_get ({ frames := 2, cells := 0, slots := 0, locals := 43 }) (ec_Pc D vwCl (tysA T) (cfC T) X L tg A sz [.ref th, .int (nI j)]) (er_Qq D vwCl (cfC T) X L tg sz (fun r u => r = some (X 19 (512 * d + j)) ∧ u = A)) 0 0 (ew_A L sz) := by
  refine ec_met (by decide) rfl (Nat.le_of_ble_eq_true rfl) ?_
  intro p e s m below meth c ls hx hb hr hts hown hlocks hml hV hK hN hS hA hl hsz
  subst hsz
  have hl : lv_has ls 2 [(0, .ref th), (1, .int (nI j))] := hl
  refine lv_iload_n hx hb dAL_get_0 rfl (lv_at hl 1 rfl) ?_
  refine lv_aload_n hx hb dAL_get_1 rfl (lv_at hl 0 rfl) ?_
  refine ew_get (v := .int (A 16 d 2)) hx hb hts hown hK hV fAL_48 hth (cC_16 _ _ _ _) rfl dAL_get_2 ?_
  refine lv_toe (y := nI n) qs ?_
  refine er_calli (va_runS (As := [.int (nI j), .int (nI n)]) (rest := []) ⟨hx, hb, hml, hown, hts⟩ (c_Ob_checkIndex l D T X L tg _ A j n hj (by omega)) ⟨callB_of 2 hts gAL_118.1 rfl rfl rfl (hts _ gAL_118.2.2.2) (hts _ gAL_118.2.1) (by decide +kernel) ⟨Nat.le_of_ble_eq_true rfl, Nat.le_of_ble_eq_true rfl⟩, hts _ gAL_118.2.2.1⟩ (ec_preS hK hN hV) rfl rfl hl.1 rfl (lv_room (Nat.le_of_ble_eq_true rfl)) dAL_get_5 ⟨Nat.le_of_ble_eq_true rfl, Nat.le_of_ble_eq_true rfl⟩) hV hS hA (fun r u H locs hp hV hS => ?_)
  obtain ⟨rfl, eu9⟩ := hp
  rw [eu9] at hV
  refine lv_pop hx hb dAL_get_8 rfl ?_
  refine lv_aload_n hx hb dAL_get_9 rfl (lv_at hl 0 rfl) ?_
  refine lv_iload_n hx hb dAL_get_10 rfl (lv_at hl 1 rfl) ?_
  refine er_callq (va_runV (As := [.int (nI j)]) (rest := []) ⟨hx, hb, hml, hown, hts⟩ (c_AL_elementData_16 l D T X L tg _ A d th hth j o cap n e20_0 e19_1 q1 ho ho2 qs qc qf hnc hcap hj) (cwV 1 hts gAL_123 rfl rfl rfl (by decide +kernel) ⟨Nat.le_of_ble_eq_true rfl, Nat.le_of_ble_eq_true rfl⟩) (ec_preV hK hN hV hth (cC_16 _ _ _ _) rfl) rfl rfl hl.1 rfl (lv_room (Nat.le_of_ble_eq_true rfl)) dAL_get_11 ⟨Nat.le_of_ble_eq_true rfl, Nat.le_of_ble_eq_true rfl⟩) hV hS hA (fun r u H locs hp hV hS => ?_)
  obtain ⟨rfl, eu9⟩ := hp
  rw [eu9] at hV
  exact er_aret (r := some (X 19 (512 * d + j))) hx hb hr hlocks hV hS dAL_get_14 rfl ⟨rfl, rfl⟩

set_option maxHeartbeats 4000000 in
set_option maxRecDepth 100000 in
theorem c_Side_isFull_5 (l : Launch) (D : va_G) (T : Nat → ClassId) (X : Nat → Nat → Nat) (L : List Nat) (tg : Nat → Nat × Nat) (sz : Nat) (A : ew_R) (d : Nat) (th : Nat) (hth : ew_in X L tg 5 d th) (n : Nat) (e8_0 : ew_in X L tg 8 d (X 8 d)) (hn : n < 512) (qs : A 8 d 2 = nI n) : Met l ySide_isFull wsSide_isFull ({ frames := 1, cells := 0, slots := 0, locals := 20 }) (ec_Pc D vwCl (tysA T) (cfC T) X L tg A sz [.ref th]) (er_Qi D vwCl (cfC T) X L tg sz (fun r u => r = 0 ∧ u = A)) 0 0 (ew_A L sz) := by
  refine ec_met (by decide) rfl (Nat.le_of_ble_eq_true rfl) ?_
  intro p e s m below meth c ls hx hb hr hts hown hlocks hml hV hK hN hS hA hl hsz
  subst hsz
  have hl : lv_has ls 1 [(0, .ref th)] := hl
  refine lv_aload_n hx hb dSide_isFull_0 rfl (lv_at hl 0 rfl) ?_
  refine ew_get (v := .ref (X 8 d)) hx hb hts hown hK hV fSide_10 hth (cC_5 _ _ _ _) rfl dSide_isFull_1 ?_
  refine er_calli (va_runV (As := []) (rest := []) ⟨hx, hb, hml, hown, hts⟩ (c_AL_size_8 l D T X L tg _ A d (X 8 d) e8_0) (cwV 0 hts gSide_26 rfl rfl rfl (by decide +kernel) ⟨Nat.le_of_ble_eq_true rfl, Nat.le_of_ble_eq_true rfl⟩) (ec_preV hK hN hV e8_0 (cC_8 _ _ _ _) rfl) rfl rfl hl.1 rfl (lv_room (Nat.le_of_ble_eq_true rfl)) dSide_isFull_4 ⟨Nat.le_of_ble_eq_true rfl, Nat.le_of_ble_eq_true rfl⟩) hV hS hA (fun r u H locs hp hV hS => ?_)
  obtain ⟨rfl, eu9⟩ := hp
  rw [eu9] at hV
  refine lv_toe (y := nI n) qs ?_
  refine lv_sipush (v := 512) hx hb dSide_isFull_7 (by decide) ?_
  refine lv_icmp_lt (tgt := 17) hx hb dSide_isFull_10 rfl (fun _ => ?_) (fun h9 => absurd ((nI_ltI (a := n) (b := 512) (by omega) (by omega)).mpr (show n < 512 by omega)) h9)
  refine lv_iconst (v := 0) hx hb dSide_isFull_17 (by decide) ?_
  exact er_zret hx hb hr hlocks hV hS dSide_isFull_18 (by decide) ⟨rfl, rfl⟩

def z_Side_holdAtGoal_5z (A : ew_R) (d : Nat) : ew_R :=
  A
set_option maxHeartbeats 4000000 in
set_option maxRecDepth 100000 in
theorem c_Side_holdAtGoal_5z (l : Launch) (D : va_G) (T : Nat → ClassId) (X : Nat → Nat → Nat) (L : List Nat) (tg : Nat → Nat × Nat) (sz : Nat) (A : ew_R) (d : Nat) (th : Nat) (hth : ew_in X L tg 5 d th) : Met l ySide_holdAtGoal wsSide_holdAtGoal ({ frames := 3, cells := 0, slots := 0, locals := 64 }) (ec_Pc D vwCl (tysA T) (cfC T) X L tg A sz [.ref th, .int 0]) (er_Qv D vwCl (cfC T) X L tg sz (fun u => u = z_Side_holdAtGoal_5z A d)) 0 0 (ew_A L sz) := by
  refine ec_met (by decide) rfl (Nat.le_of_ble_eq_true rfl) ?_
  intro p e s m below meth c ls hx hb hr hts hown hlocks hml hV hK hN hS hA hl hsz
  subst hsz
  have hl : lv_has ls 2 [(0, .ref th), (1, .int 0)] := hl
  refine lv_iload_n hx hb dSide_holdAtGoal_0 rfl (lv_at hl 1 rfl) ?_
  refine lv_iconst (v := 1) hx hb dSide_holdAtGoal_1 (by decide) ?_
  refine lv_icmp_lt (tgt := 33) hx hb dSide_holdAtGoal_2 rfl (fun _ => ?_) (fun h9 => absurd (by decide) h9)
  exact er_vret hx hb hr hlocks hV hS dSide_holdAtGoal_33 (Eq.symm (by unfold z_Side_holdAtGoal_5z; rfl))

def z_Side_holdAtGoal_5 (A : ew_R) (d : Nat) (nu : Nat) (o : Nat) (cap : Nat) (n : Nat) : ew_R :=
  up3 A 6 (512 * d + (nu - 1)) 3 1
set_option maxHeartbeats 4000000 in
set_option maxRecDepth 100000 in
theorem c_Side_holdAtGoal_5 (l : Launch) (D : va_G) (T : Nat → ClassId) (X : Nat → Nat → Nat) (L : List Nat) (tg : Nat → Nat × Nat) (sz : Nat) (A : ew_R) (d : Nat) (th : Nat) (hth : ew_in X L tg 5 d th) (nu : Nat) (o : Nat) (cap : Nat) (n : Nat) (e8_0 : ew_in X L tg 8 d (X 8 d)) (e14_1 : ew_in X L tg 14 o (X 14 o)) (e6_2 : ew_in X L tg 6 (512 * d + (nu - 1)) (X 6 (512 * d + (nu - 1)))) (q1 : A 8 d 1 = nI o) (ho : o / 64 = d) (ho2 : o < 2 ^ 20) (qs : A 8 d 2 = nI n) (qc : A 14 o 1000 = nI cap) (qf : A 14 o 1001 = nI n) (hnc : n ≤ cap) (hcap : cap ≤ 1000) (hnu : 1 ≤ nu) (hnu2 : nu ≤ n) : Met l ySide_holdAtGoal wsSide_holdAtGoal ({ frames := 3, cells := 0, slots := 0, locals := 64 }) (ec_Pc D vwCl (tysA T) (cfC T) X L tg A sz [.ref th, .int (nI nu)]) (er_Qv D vwCl (cfC T) X L tg sz (fun u => u = z_Side_holdAtGoal_5 A d nu o cap n)) 0 0 (ew_A L sz) := by
  refine ec_met (by decide) rfl (Nat.le_of_ble_eq_true rfl) ?_
  intro p e s m below meth c ls hx hb hr hts hown hlocks hml hV hK hN hS hA hl hsz
  subst hsz
  have hl : lv_has ls 2 [(0, .ref th), (1, .int (nI nu))] := hl
  refine lv_iload_n hx hb dSide_holdAtGoal_0 rfl (lv_at hl 1 rfl) ?_
  refine lv_iconst (v := 1) hx hb dSide_holdAtGoal_1 (by decide) ?_
  refine lv_icmp_lt (tgt := 33) hx hb dSide_holdAtGoal_2 rfl (fun h9 => absurd h9 (fun z9 => (show ¬ (nu < 1) by omega) ((nI_ltI (a := nu) (b := 1) (by omega) (by omega)).mp z9))) (fun _ => ?_)
  refine lv_iload_n hx hb dSide_holdAtGoal_5 rfl (lv_at hl 1 rfl) ?_
  refine lv_aload_n hx hb dSide_holdAtGoal_6 rfl (lv_at hl 0 rfl) ?_
  refine ew_get (v := .ref (X 8 d)) hx hb hts hown hK hV fSide_10 hth (cC_5 _ _ _ _) rfl dSide_holdAtGoal_7 ?_
  refine er_calli (va_runV (As := []) (rest := [.int (nI nu)]) ⟨hx, hb, hml, hown, hts⟩ (c_AL_size_8 l D T X L tg _ A d (X 8 d) e8_0) (cwV 0 hts gSide_26 rfl rfl rfl (by decide +kernel) ⟨Nat.le_of_ble_eq_true rfl, Nat.le_of_ble_eq_true rfl⟩) (ec_preV hK hN hV e8_0 (cC_8 _ _ _ _) rfl) rfl rfl hl.1 rfl (lv_room (Nat.le_of_ble_eq_true rfl)) dSide_holdAtGoal_10 ⟨Nat.le_of_ble_eq_true rfl, Nat.le_of_ble_eq_true rfl⟩) hV hS hA (fun r u H locs hp hV hS => ?_)
  obtain ⟨rfl, eu9⟩ := hp
  rw [eu9] at hV
  refine lv_toe (y := nI n) qs ?_
  refine lv_icmp_gt (tgt := 33) hx hb dSide_holdAtGoal_13 rfl (fun h9 => absurd h9 (fun z9 => (show ¬ (n < nu) by omega) ((nI_ltI (a := n) (b := nu) (by omega) (by omega)).mp z9))) (fun _ => ?_)
  refine lv_aload_n hx hb dSide_holdAtGoal_16 rfl (lv_at hl 0 rfl) ?_
  refine ew_get (v := .ref (X 8 d)) hx hb hts hown hK hV fSide_10 hth (cC_5 _ _ _ _) rfl dSide_holdAtGoal_17 ?_
  refine lv_iload_n hx hb dSide_holdAtGoal_20 rfl (lv_at hl 1 rfl) ?_
  refine lv_iconst (v := 1) hx hb dSide_holdAtGoal_21 (by decide) ?_
  refine lv_isub hx hb dSide_holdAtGoal_22 ?_
  refine lv_toe (y := nI (nu - 1)) (pk_sub (a := nu) (b := 1) (by omega)) ?_
  refine er_callq (va_runV (As := [.int (nI (nu - 1))]) (rest := []) ⟨hx, hb, hml, hown, hts⟩ (c_AL_get_8 l D T X L tg _ A d (X 8 d) e8_0 (nu - 1) o cap n e14_1 e6_2 q1 ho ho2 qs qc qf hnc hcap (by omega)) (cwV 1 hts gSide_39 rfl rfl rfl (by decide +kernel) ⟨Nat.le_of_ble_eq_true rfl, Nat.le_of_ble_eq_true rfl⟩) (ec_preV hK hN hV e8_0 (cC_8 _ _ _ _) rfl) rfl rfl hl.1 rfl (lv_room (Nat.le_of_ble_eq_true rfl)) dSide_holdAtGoal_23 ⟨Nat.le_of_ble_eq_true rfl, Nat.le_of_ble_eq_true rfl⟩) hV hS hA (fun r u H locs hp hV hS => ?_)
  obtain ⟨rfl, eu9⟩ := hp
  rw [eu9] at hV
  refine va_castY hx hb hown (hts _ kl_Side_30) (hN.at 4 rfl) (ec_recv hK hV e6_2 (cC_6 _ _ _ _) rfl) dSide_holdAtGoal_26 ?_
  refine lv_iconst (v := 1) hx hb dSide_holdAtGoal_29 (by decide) ?_
  refine ew_put (ty := .boolean) hx hb hts hown hK hV hS fSide_43 gLetter e6_2 (cC_6 _ _ _ _) 3 _ (pC_6_3 _ _ _ _ _) rfl (by decide +kernel) rfl rfl (Nat.le_of_ble_eq_true rfl) dSide_holdAtGoal_30 (fun H locs hV hS => ?_)
  exact er_vret hx hb hr hlocks hV hS dSide_holdAtGoal_33 (Eq.symm (by unfold z_Side_holdAtGoal_5; rfl))

def z_Side_allTakenAndKnown_5 (A : ew_R) (d : Nat) : Int32 :=
  if A 15 d 4 = z_AL_size_8 A d then
    if A 5 d 5 = z_AL_size_8 A d then
      1
    else
      0
  else
    0
set_option maxHeartbeats 4000000 in
set_option maxRecDepth 100000 in
theorem c_Side_allTakenAndKnown_5 (l : Launch) (D : va_G) (T : Nat → ClassId) (X : Nat → Nat → Nat) (L : List Nat) (tg : Nat → Nat × Nat) (sz : Nat) (A : ew_R) (d : Nat) (th : Nat) (hth : ew_in X L tg 5 d th) (ot : Nat) (hot : ew_in X L tg 15 d ot) (e8_0 : ew_in X L tg 8 d (X 8 d)) : Met l ySide_allTakenAndKnown wsSide_allTakenAndKnown ({ frames := 1, cells := 0, slots := 0, locals := 20 }) (ec_Pc D vwCl (tysA T) (cfC T) X L tg A sz [.ref th, .ref ot]) (er_Qi D vwCl (cfC T) X L tg sz (fun r u => r = z_Side_allTakenAndKnown_5 A d ∧ u = A)) 0 0 (ew_A L sz) := by
  refine ec_met (by decide) rfl (Nat.le_of_ble_eq_true rfl) ?_
  intro p e s m below meth c ls hx hb hr hts hown hlocks hml hV hK hN hS hA hl hsz
  subst hsz
  have hl : lv_has ls 2 [(0, .ref th), (1, .ref ot)] := hl
  refine lv_aload_n hx hb dSide_allTakenAndKnown_0 rfl (lv_at hl 1 rfl) ?_
  refine ew_get (v := .int (A 15 d 4)) hx hb hts hown hK hV fSide_47 hot (cC_15 _ _ _ _) rfl dSide_allTakenAndKnown_1 ?_
  refine lv_aload_n hx hb dSide_allTakenAndKnown_4 rfl (lv_at hl 0 rfl) ?_
  refine ew_get (v := .ref (X 8 d)) hx hb hts hown hK hV fSide_10 hth (cC_5 _ _ _ _) rfl dSide_allTakenAndKnown_5 ?_
  refine er_calli (va_runV (As := []) (rest := [.int (A 15 d 4)]) ⟨hx, hb, hml, hown, hts⟩ (c_AL_size_8 l D T X L tg _ A d (X 8 d) e8_0) (cwV 0 hts gSide_26 rfl rfl rfl (by decide +kernel) ⟨Nat.le_of_ble_eq_true rfl, Nat.le_of_ble_eq_true rfl⟩) (ec_preV hK hN hV e8_0 (cC_8 _ _ _ _) rfl) rfl rfl hl.1 rfl (lv_room (Nat.le_of_ble_eq_true rfl)) dSide_allTakenAndKnown_8 ⟨Nat.le_of_ble_eq_true rfl, Nat.le_of_ble_eq_true rfl⟩) hV hS hA (fun r u H locs hp hV hS => ?_)
  obtain ⟨rfl, eu9⟩ := hp
  rw [eu9] at hV
  refine lv_icmp_ne (tgt := 32) hx hb dSide_allTakenAndKnown_11 rfl (fun h1 => ?_) (fun h1 => ?_)
  · refine lv_iconst (v := 0) hx hb dSide_allTakenAndKnown_32 (by decide) ?_
    exact er_zret hx hb hr hlocks hV hS dSide_allTakenAndKnown_33 (by decide) ⟨Eq.symm (by unfold z_Side_allTakenAndKnown_5; simp only [if_neg h1]), rfl⟩
  · refine lv_aload_n hx hb dSide_allTakenAndKnown_14 rfl (lv_at hl 0 rfl) ?_
    refine ew_get (v := .int (A 5 d 5)) hx hb hts hown hK hV fSide_50 hth (cC_5 _ _ _ _) rfl dSide_allTakenAndKnown_15 ?_
    refine lv_aload_n hx hb dSide_allTakenAndKnown_18 rfl (lv_at hl 0 rfl) ?_
    refine ew_get (v := .ref (X 8 d)) hx hb hts hown hK hV fSide_10 hth (cC_5 _ _ _ _) rfl dSide_allTakenAndKnown_19 ?_
    refine er_calli (va_runV (As := []) (rest := [.int (A 5 d 5)]) ⟨hx, hb, hml, hown, hts⟩ (c_AL_size_8 l D T X L tg _ A d (X 8 d) e8_0) (cwV 0 hts gSide_26 rfl rfl rfl (by decide +kernel) ⟨Nat.le_of_ble_eq_true rfl, Nat.le_of_ble_eq_true rfl⟩) (ec_preV hK hN hV e8_0 (cC_8 _ _ _ _) rfl) rfl rfl hl.1 rfl (lv_room (Nat.le_of_ble_eq_true rfl)) dSide_allTakenAndKnown_22 ⟨Nat.le_of_ble_eq_true rfl, Nat.le_of_ble_eq_true rfl⟩) hV hS hA (fun r u H locs hp hV hS => ?_)
    obtain ⟨rfl, eu9⟩ := hp
    rw [eu9] at hV
    refine lv_icmp_ne (tgt := 32) hx hb dSide_allTakenAndKnown_25 rfl (fun h2 => ?_) (fun h2 => ?_)
    · refine lv_iconst (v := 0) hx hb dSide_allTakenAndKnown_32 (by decide) ?_
      exact er_zret hx hb hr hlocks hV hS dSide_allTakenAndKnown_33 (by decide) ⟨Eq.symm (by unfold z_Side_allTakenAndKnown_5; simp only [if_pos h1, if_neg h2]), rfl⟩
    · refine lv_iconst (v := 1) hx hb dSide_allTakenAndKnown_28 (by decide) ?_
      refine lv_goto (tgt := 33) hx hb dSide_allTakenAndKnown_29 rfl ?_
      exact er_zret hx hb hr hlocks hV hS dSide_allTakenAndKnown_33 (by decide) ⟨Eq.symm (by unfold z_Side_allTakenAndKnown_5; simp only [if_pos h1, if_pos h2]), rfl⟩

def z_L_entry_5 (A : ew_R) (k : Nat) (d : Nat) (hc : Int32) (wh : Int32) : Int32 :=
  if wh = 0 then
    A 3 k 0
  else
    if wh = 1 then
      A 3 k 1
    else
      if wh = 2 then
        A 3 k 2
      else
        if wh = 3 then
          A 3 k 3
        else
          if wh = 4 then
            z_AL_size_8 A d
          else
            if wh = 5 then
              A 5 d 4
            else
              if wh = 6 then
                A 5 d 5
              else
                if wh = 7 then
                  if hc = 0 then
                    0
                  else
                    1
                else
                  (-1)
set_option maxHeartbeats 4000000 in
set_option maxRecDepth 100000 in
theorem c_L_entry_5 (l : Launch) (D : va_G) (T : Nat → ClassId) (X : Nat → Nat → Nat) (L : List Nat) (tg : Nat → Nat × Nat) (sz : Nat) (A : ew_R) (k : Nat) (d : Nat) (pg : Nat) (hpg : ew_in X L tg 3 k pg) (sd : Nat) (hsd : ew_in X L tg 5 d sd) (hc : Int32) (wh : Int32) (e8_0 : ew_in X L tg 8 d (X 8 d)) : Met l yL_entry wsL_entry ({ frames := 1, cells := 0, slots := 0, locals := 20 }) (ec_Pc D vwCl (tysA T) (cfC T) X L tg A sz [.ref pg, .ref sd, .int hc, .int wh]) (er_Qi D vwCl (cfC T) X L tg sz (fun r u => r = z_L_entry_5 A k d hc wh ∧ u = A)) 0 0 (ew_A L sz) := by
  refine ec_met (by decide) rfl (Nat.le_of_ble_eq_true rfl) ?_
  intro p e s m below meth c ls hx hb hr hts hown hlocks hml hV hK hN hS hA hl hsz
  subst hsz
  have hl : lv_has ls 4 [(0, .ref pg), (1, .ref sd), (2, .int hc), (3, .int wh)] := hl
  refine lv_iload_n hx hb dL_entry_0 rfl (lv_at hl 3 rfl) ?_
  by_cases h1 : wh = 0
  · refine lv_tableIn (tgt := 48) hx hb dL_entry_1 (by rw [h1]; decide) (by rw [h1]; decide) (by rw [h1]; rfl) rfl ?_
    refine lv_aload_n hx hb dL_entry_48 rfl (lv_at hl 0 rfl) ?_
    refine ew_get (v := .int (A 3 k 0)) hx hb hts hown hK hV fL_111 hpg (cC_3 _ _ _ _) rfl dL_entry_49 ?_
    exact er_iret hx hb hr hlocks hV hS dL_entry_52 ⟨Eq.symm (by unfold z_L_entry_5; simp only [if_pos h1]), rfl⟩
  · by_cases h2 : wh = 1
    · refine lv_tableIn (tgt := 53) hx hb dL_entry_1 (by rw [h2]; decide) (by rw [h2]; decide) (by rw [h2]; rfl) rfl ?_
      refine lv_aload_n hx hb dL_entry_53 rfl (lv_at hl 0 rfl) ?_
      refine ew_get (v := .int (A 3 k 1)) hx hb hts hown hK hV fL_240 hpg (cC_3 _ _ _ _) rfl dL_entry_54 ?_
      exact er_iret hx hb hr hlocks hV hS dL_entry_57 ⟨Eq.symm (by unfold z_L_entry_5; simp only [if_neg h1, if_pos h2]), rfl⟩
    · by_cases h3 : wh = 2
      · refine lv_tableIn (tgt := 58) hx hb dL_entry_1 (by rw [h3]; decide) (by rw [h3]; decide) (by rw [h3]; rfl) rfl ?_
        refine lv_aload_n hx hb dL_entry_58 rfl (lv_at hl 0 rfl) ?_
        refine ew_get (v := .int (A 3 k 2)) hx hb hts hown hK hV fL_243 hpg (cC_3 _ _ _ _) rfl dL_entry_59 ?_
        exact er_iret hx hb hr hlocks hV hS dL_entry_62 ⟨Eq.symm (by unfold z_L_entry_5; simp only [if_neg h1, if_neg h2, if_pos h3]), rfl⟩
      · by_cases h4 : wh = 3
        · refine lv_tableIn (tgt := 63) hx hb dL_entry_1 (by rw [h4]; decide) (by rw [h4]; decide) (by rw [h4]; rfl) rfl ?_
          refine lv_aload_n hx hb dL_entry_63 rfl (lv_at hl 0 rfl) ?_
          refine ew_get (v := .int (A 3 k 3)) hx hb hts hown hK hV fL_246 hpg (cC_3 _ _ _ _) rfl dL_entry_64 ?_
          exact er_iret hx hb hr hlocks hV hS dL_entry_67 ⟨Eq.symm (by unfold z_L_entry_5; simp only [if_neg h1, if_neg h2, if_neg h3, if_pos h4]), rfl⟩
        · by_cases h5 : wh = 4
          · refine lv_tableIn (tgt := 68) hx hb dL_entry_1 (by rw [h5]; decide) (by rw [h5]; decide) (by rw [h5]; rfl) rfl ?_
            refine lv_aload_n hx hb dL_entry_68 rfl (lv_at hl 1 rfl) ?_
            refine ew_get (v := .ref (X 8 d)) hx hb hts hown hK hV fL_145 hsd (cC_5 _ _ _ _) rfl dL_entry_69 ?_
            refine er_calli (va_runV (As := []) (rest := []) ⟨hx, hb, hml, hown, hts⟩ (c_AL_size_8 l D T X L tg _ A d (X 8 d) e8_0) (cwV 0 hts gL_149 rfl rfl rfl (by decide +kernel) ⟨Nat.le_of_ble_eq_true rfl, Nat.le_of_ble_eq_true rfl⟩) (ec_preV hK hN hV e8_0 (cC_8 _ _ _ _) rfl) rfl rfl hl.1 rfl (lv_room (Nat.le_of_ble_eq_true rfl)) dL_entry_72 ⟨Nat.le_of_ble_eq_true rfl, Nat.le_of_ble_eq_true rfl⟩) hV hS hA (fun r u H locs hp hV hS => ?_)
            obtain ⟨rfl, eu9⟩ := hp
            rw [eu9] at hV
            exact er_iret hx hb hr hlocks hV hS dL_entry_75 ⟨Eq.symm (by unfold z_L_entry_5; simp only [if_neg h1, if_neg h2, if_neg h3, if_neg h4, if_pos h5]), rfl⟩
          · by_cases h6 : wh = 5
            · refine lv_tableIn (tgt := 76) hx hb dL_entry_1 (by rw [h6]; decide) (by rw [h6]; decide) (by rw [h6]; rfl) rfl ?_
              refine lv_aload_n hx hb dL_entry_76 rfl (lv_at hl 1 rfl) ?_
              refine ew_get (v := .int (A 5 d 4)) hx hb hts hown hK hV fL_185 hsd (cC_5 _ _ _ _) rfl dL_entry_77 ?_
              exact er_iret hx hb hr hlocks hV hS dL_entry_80 ⟨Eq.symm (by unfold z_L_entry_5; simp only [if_neg h1, if_neg h2, if_neg h3, if_neg h4, if_neg h5, if_pos h6]), rfl⟩
            · by_cases h7 : wh = 6
              · refine lv_tableIn (tgt := 81) hx hb dL_entry_1 (by rw [h7]; decide) (by rw [h7]; decide) (by rw [h7]; rfl) rfl ?_
                refine lv_aload_n hx hb dL_entry_81 rfl (lv_at hl 1 rfl) ?_
                refine ew_get (v := .int (A 5 d 5)) hx hb hts hown hK hV fL_140 hsd (cC_5 _ _ _ _) rfl dL_entry_82 ?_
                exact er_iret hx hb hr hlocks hV hS dL_entry_85 ⟨Eq.symm (by unfold z_L_entry_5; simp only [if_neg h1, if_neg h2, if_neg h3, if_neg h4, if_neg h5, if_neg h6, if_pos h7]), rfl⟩
              · by_cases h8 : wh = 7
                · refine lv_tableIn (tgt := 86) hx hb dL_entry_1 (by rw [h8]; decide) (by rw [h8]; decide) (by rw [h8]; rfl) rfl ?_
                  refine lv_iload_n hx hb dL_entry_86 rfl (lv_at hl 2 rfl) ?_
                  refine lv_if_eq (tgt := 94) hx hb dL_entry_87 rfl (fun h9 => ?_) (fun h9 => ?_)
                  · refine lv_iconst (v := 0) hx hb dL_entry_94 (by decide) ?_
                    exact er_iret hx hb hr hlocks hV hS dL_entry_95 ⟨Eq.symm (by unfold z_L_entry_5; simp only [if_neg h1, if_neg h2, if_neg h3, if_neg h4, if_neg h5, if_neg h6, if_neg h7, if_pos h8, if_pos h9]), rfl⟩
                  · refine lv_iconst (v := 1) hx hb dL_entry_90 (by decide) ?_
                    refine lv_goto (tgt := 95) hx hb dL_entry_91 rfl ?_
                    exact er_iret hx hb hr hlocks hV hS dL_entry_95 ⟨Eq.symm (by unfold z_L_entry_5; simp only [if_neg h1, if_neg h2, if_neg h3, if_neg h4, if_neg h5, if_neg h6, if_neg h7, if_pos h8, if_neg h9]), rfl⟩
                · refine lv_tableOut (tgt := 96) hx hb dL_entry_1 (by have a0 := lv_neT (a := 0) h1 (by decide); have a1 := lv_neT (a := 1) h2 (by decide); have a2 := lv_neT (a := 2) h3 (by decide); have a3 := lv_neT (a := 3) h4 (by decide); have a4 := lv_neT (a := 4) h5 (by decide); have a5 := lv_neT (a := 5) h6 (by decide); have a6 := lv_neT (a := 6) h7 (by decide); have a7 := lv_neT (a := 7) h8 (by decide); omega) rfl ?_
                  refine lv_iconst (v := (-1)) hx hb dL_entry_96 (by decide) ?_
                  exact er_iret hx hb hr hlocks hV hS dL_entry_97 ⟨Eq.symm (by unfold z_L_entry_5; simp only [if_neg h1, if_neg h2, if_neg h3, if_neg h4, if_neg h5, if_neg h6, if_neg h7, if_neg h8]), rfl⟩

set_option maxHeartbeats 4000000 in
set_option maxRecDepth 100000 in
theorem c_Side_isFull_15 (l : Launch) (D : va_G) (T : Nat → ClassId) (X : Nat → Nat → Nat) (L : List Nat) (tg : Nat → Nat × Nat) (sz : Nat) (A : ew_R) (d : Nat) (th : Nat) (hth : ew_in X L tg 15 d th) (n : Nat) (e16_0 : ew_in X L tg 16 d (X 16 d)) (hn : n < 512) (qs : A 16 d 2 = nI n) : Met l ySide_isFull wsSide_isFull ({ frames := 1, cells := 0, slots := 0, locals := 20 }) (ec_Pc D vwCl (tysA T) (cfC T) X L tg A sz [.ref th]) (er_Qi D vwCl (cfC T) X L tg sz (fun r u => r = 0 ∧ u = A)) 0 0 (ew_A L sz) := by
  refine ec_met (by decide) rfl (Nat.le_of_ble_eq_true rfl) ?_
  intro p e s m below meth c ls hx hb hr hts hown hlocks hml hV hK hN hS hA hl hsz
  subst hsz
  have hl : lv_has ls 1 [(0, .ref th)] := hl
  refine lv_aload_n hx hb dSide_isFull_0 rfl (lv_at hl 0 rfl) ?_
  refine ew_get (v := .ref (X 16 d)) hx hb hts hown hK hV fSide_10 hth (cC_15 _ _ _ _) rfl dSide_isFull_1 ?_
  refine er_calli (va_runV (As := []) (rest := []) ⟨hx, hb, hml, hown, hts⟩ (c_AL_size_16 l D T X L tg _ A d (X 16 d) e16_0) (cwV 0 hts gSide_26 rfl rfl rfl (by decide +kernel) ⟨Nat.le_of_ble_eq_true rfl, Nat.le_of_ble_eq_true rfl⟩) (ec_preV hK hN hV e16_0 (cC_16 _ _ _ _) rfl) rfl rfl hl.1 rfl (lv_room (Nat.le_of_ble_eq_true rfl)) dSide_isFull_4 ⟨Nat.le_of_ble_eq_true rfl, Nat.le_of_ble_eq_true rfl⟩) hV hS hA (fun r u H locs hp hV hS => ?_)
  obtain ⟨rfl, eu9⟩ := hp
  rw [eu9] at hV
  refine lv_toe (y := nI n) qs ?_
  refine lv_sipush (v := 512) hx hb dSide_isFull_7 (by decide) ?_
  refine lv_icmp_lt (tgt := 17) hx hb dSide_isFull_10 rfl (fun _ => ?_) (fun h9 => absurd ((nI_ltI (a := n) (b := 512) (by omega) (by omega)).mpr (show n < 512 by omega)) h9)
  refine lv_iconst (v := 0) hx hb dSide_isFull_17 (by decide) ?_
  exact er_zret hx hb hr hlocks hV hS dSide_isFull_18 (by decide) ⟨rfl, rfl⟩

def z_Side_holdAtGoal_15z (A : ew_R) (d : Nat) : ew_R :=
  A
set_option maxHeartbeats 4000000 in
set_option maxRecDepth 100000 in
theorem c_Side_holdAtGoal_15z (l : Launch) (D : va_G) (T : Nat → ClassId) (X : Nat → Nat → Nat) (L : List Nat) (tg : Nat → Nat × Nat) (sz : Nat) (A : ew_R) (d : Nat) (th : Nat) (hth : ew_in X L tg 15 d th) : Met l ySide_holdAtGoal wsSide_holdAtGoal ({ frames := 3, cells := 0, slots := 0, locals := 64 }) (ec_Pc D vwCl (tysA T) (cfC T) X L tg A sz [.ref th, .int 0]) (er_Qv D vwCl (cfC T) X L tg sz (fun u => u = z_Side_holdAtGoal_15z A d)) 0 0 (ew_A L sz) := by
  refine ec_met (by decide) rfl (Nat.le_of_ble_eq_true rfl) ?_
  intro p e s m below meth c ls hx hb hr hts hown hlocks hml hV hK hN hS hA hl hsz
  subst hsz
  have hl : lv_has ls 2 [(0, .ref th), (1, .int 0)] := hl
  refine lv_iload_n hx hb dSide_holdAtGoal_0 rfl (lv_at hl 1 rfl) ?_
  refine lv_iconst (v := 1) hx hb dSide_holdAtGoal_1 (by decide) ?_
  refine lv_icmp_lt (tgt := 33) hx hb dSide_holdAtGoal_2 rfl (fun _ => ?_) (fun h9 => absurd (by decide) h9)
  exact er_vret hx hb hr hlocks hV hS dSide_holdAtGoal_33 (Eq.symm (by unfold z_Side_holdAtGoal_15z; rfl))

def z_Side_holdAtGoal_15 (A : ew_R) (d : Nat) (nu : Nat) (o : Nat) (cap : Nat) (n : Nat) : ew_R :=
  up3 A 19 (512 * d + (nu - 1)) 3 1
set_option maxHeartbeats 4000000 in
set_option maxRecDepth 100000 in
theorem c_Side_holdAtGoal_15 (l : Launch) (D : va_G) (T : Nat → ClassId) (X : Nat → Nat → Nat) (L : List Nat) (tg : Nat → Nat × Nat) (sz : Nat) (A : ew_R) (d : Nat) (th : Nat) (hth : ew_in X L tg 15 d th) (nu : Nat) (o : Nat) (cap : Nat) (n : Nat) (e16_0 : ew_in X L tg 16 d (X 16 d)) (e20_1 : ew_in X L tg 20 o (X 20 o)) (e19_2 : ew_in X L tg 19 (512 * d + (nu - 1)) (X 19 (512 * d + (nu - 1)))) (q1 : A 16 d 1 = nI o) (ho : o / 64 = d) (ho2 : o < 2 ^ 20) (qs : A 16 d 2 = nI n) (qc : A 20 o 1000 = nI cap) (qf : A 20 o 1001 = nI n) (hnc : n ≤ cap) (hcap : cap ≤ 1000) (hnu : 1 ≤ nu) (hnu2 : nu ≤ n) : Met l ySide_holdAtGoal wsSide_holdAtGoal ({ frames := 3, cells := 0, slots := 0, locals := 64 }) (ec_Pc D vwCl (tysA T) (cfC T) X L tg A sz [.ref th, .int (nI nu)]) (er_Qv D vwCl (cfC T) X L tg sz (fun u => u = z_Side_holdAtGoal_15 A d nu o cap n)) 0 0 (ew_A L sz) := by
  refine ec_met (by decide) rfl (Nat.le_of_ble_eq_true rfl) ?_
  intro p e s m below meth c ls hx hb hr hts hown hlocks hml hV hK hN hS hA hl hsz
  subst hsz
  have hl : lv_has ls 2 [(0, .ref th), (1, .int (nI nu))] := hl
  refine lv_iload_n hx hb dSide_holdAtGoal_0 rfl (lv_at hl 1 rfl) ?_
  refine lv_iconst (v := 1) hx hb dSide_holdAtGoal_1 (by decide) ?_
  refine lv_icmp_lt (tgt := 33) hx hb dSide_holdAtGoal_2 rfl (fun h9 => absurd h9 (fun z9 => (show ¬ (nu < 1) by omega) ((nI_ltI (a := nu) (b := 1) (by omega) (by omega)).mp z9))) (fun _ => ?_)
  refine lv_iload_n hx hb dSide_holdAtGoal_5 rfl (lv_at hl 1 rfl) ?_
  refine lv_aload_n hx hb dSide_holdAtGoal_6 rfl (lv_at hl 0 rfl) ?_
  refine ew_get (v := .ref (X 16 d)) hx hb hts hown hK hV fSide_10 hth (cC_15 _ _ _ _) rfl dSide_holdAtGoal_7 ?_
  refine er_calli (va_runV (As := []) (rest := [.int (nI nu)]) ⟨hx, hb, hml, hown, hts⟩ (c_AL_size_16 l D T X L tg _ A d (X 16 d) e16_0) (cwV 0 hts gSide_26 rfl rfl rfl (by decide +kernel) ⟨Nat.le_of_ble_eq_true rfl, Nat.le_of_ble_eq_true rfl⟩) (ec_preV hK hN hV e16_0 (cC_16 _ _ _ _) rfl) rfl rfl hl.1 rfl (lv_room (Nat.le_of_ble_eq_true rfl)) dSide_holdAtGoal_10 ⟨Nat.le_of_ble_eq_true rfl, Nat.le_of_ble_eq_true rfl⟩) hV hS hA (fun r u H locs hp hV hS => ?_)
  obtain ⟨rfl, eu9⟩ := hp
  rw [eu9] at hV
  refine lv_toe (y := nI n) qs ?_
  refine lv_icmp_gt (tgt := 33) hx hb dSide_holdAtGoal_13 rfl (fun h9 => absurd h9 (fun z9 => (show ¬ (n < nu) by omega) ((nI_ltI (a := n) (b := nu) (by omega) (by omega)).mp z9))) (fun _ => ?_)
  refine lv_aload_n hx hb dSide_holdAtGoal_16 rfl (lv_at hl 0 rfl) ?_
  refine ew_get (v := .ref (X 16 d)) hx hb hts hown hK hV fSide_10 hth (cC_15 _ _ _ _) rfl dSide_holdAtGoal_17 ?_
  refine lv_iload_n hx hb dSide_holdAtGoal_20 rfl (lv_at hl 1 rfl) ?_
  refine lv_iconst (v := 1) hx hb dSide_holdAtGoal_21 (by decide) ?_
  refine lv_isub hx hb dSide_holdAtGoal_22 ?_
  refine lv_toe (y := nI (nu - 1)) (pk_sub (a := nu) (b := 1) (by omega)) ?_
  refine er_callq (va_runV (As := [.int (nI (nu - 1))]) (rest := []) ⟨hx, hb, hml, hown, hts⟩ (c_AL_get_16 l D T X L tg _ A d (X 16 d) e16_0 (nu - 1) o cap n e20_1 e19_2 q1 ho ho2 qs qc qf hnc hcap (by omega)) (cwV 1 hts gSide_39 rfl rfl rfl (by decide +kernel) ⟨Nat.le_of_ble_eq_true rfl, Nat.le_of_ble_eq_true rfl⟩) (ec_preV hK hN hV e16_0 (cC_16 _ _ _ _) rfl) rfl rfl hl.1 rfl (lv_room (Nat.le_of_ble_eq_true rfl)) dSide_holdAtGoal_23 ⟨Nat.le_of_ble_eq_true rfl, Nat.le_of_ble_eq_true rfl⟩) hV hS hA (fun r u H locs hp hV hS => ?_)
  obtain ⟨rfl, eu9⟩ := hp
  rw [eu9] at hV
  refine va_castY hx hb hown (hts _ kl_Side_30) (hN.at 4 rfl) (ec_recv hK hV e19_2 (cC_19 _ _ _ _) rfl) dSide_holdAtGoal_26 ?_
  refine lv_iconst (v := 1) hx hb dSide_holdAtGoal_29 (by decide) ?_
  refine ew_put (ty := .boolean) hx hb hts hown hK hV hS fSide_43 gLetter e19_2 (cC_19 _ _ _ _) 3 _ (pC_19_3 _ _ _ _ _) rfl (by decide +kernel) rfl rfl (Nat.le_of_ble_eq_true rfl) dSide_holdAtGoal_30 (fun H locs hV hS => ?_)
  exact er_vret hx hb hr hlocks hV hS dSide_holdAtGoal_33 (Eq.symm (by unfold z_Side_holdAtGoal_15; rfl))

def z_Side_allTakenAndKnown_15 (A : ew_R) (d : Nat) : Int32 :=
  if A 5 d 4 = z_AL_size_16 A d then
    if A 15 d 5 = z_AL_size_16 A d then
      1
    else
      0
  else
    0
set_option maxHeartbeats 4000000 in
set_option maxRecDepth 100000 in
theorem c_Side_allTakenAndKnown_15 (l : Launch) (D : va_G) (T : Nat → ClassId) (X : Nat → Nat → Nat) (L : List Nat) (tg : Nat → Nat × Nat) (sz : Nat) (A : ew_R) (d : Nat) (th : Nat) (hth : ew_in X L tg 15 d th) (ot : Nat) (hot : ew_in X L tg 5 d ot) (e16_0 : ew_in X L tg 16 d (X 16 d)) : Met l ySide_allTakenAndKnown wsSide_allTakenAndKnown ({ frames := 1, cells := 0, slots := 0, locals := 20 }) (ec_Pc D vwCl (tysA T) (cfC T) X L tg A sz [.ref th, .ref ot]) (er_Qi D vwCl (cfC T) X L tg sz (fun r u => r = z_Side_allTakenAndKnown_15 A d ∧ u = A)) 0 0 (ew_A L sz) := by
  refine ec_met (by decide) rfl (Nat.le_of_ble_eq_true rfl) ?_
  intro p e s m below meth c ls hx hb hr hts hown hlocks hml hV hK hN hS hA hl hsz
  subst hsz
  have hl : lv_has ls 2 [(0, .ref th), (1, .ref ot)] := hl
  refine lv_aload_n hx hb dSide_allTakenAndKnown_0 rfl (lv_at hl 1 rfl) ?_
  refine ew_get (v := .int (A 5 d 4)) hx hb hts hown hK hV fSide_47 hot (cC_5 _ _ _ _) rfl dSide_allTakenAndKnown_1 ?_
  refine lv_aload_n hx hb dSide_allTakenAndKnown_4 rfl (lv_at hl 0 rfl) ?_
  refine ew_get (v := .ref (X 16 d)) hx hb hts hown hK hV fSide_10 hth (cC_15 _ _ _ _) rfl dSide_allTakenAndKnown_5 ?_
  refine er_calli (va_runV (As := []) (rest := [.int (A 5 d 4)]) ⟨hx, hb, hml, hown, hts⟩ (c_AL_size_16 l D T X L tg _ A d (X 16 d) e16_0) (cwV 0 hts gSide_26 rfl rfl rfl (by decide +kernel) ⟨Nat.le_of_ble_eq_true rfl, Nat.le_of_ble_eq_true rfl⟩) (ec_preV hK hN hV e16_0 (cC_16 _ _ _ _) rfl) rfl rfl hl.1 rfl (lv_room (Nat.le_of_ble_eq_true rfl)) dSide_allTakenAndKnown_8 ⟨Nat.le_of_ble_eq_true rfl, Nat.le_of_ble_eq_true rfl⟩) hV hS hA (fun r u H locs hp hV hS => ?_)
  obtain ⟨rfl, eu9⟩ := hp
  rw [eu9] at hV
  refine lv_icmp_ne (tgt := 32) hx hb dSide_allTakenAndKnown_11 rfl (fun h1 => ?_) (fun h1 => ?_)
  · refine lv_iconst (v := 0) hx hb dSide_allTakenAndKnown_32 (by decide) ?_
    exact er_zret hx hb hr hlocks hV hS dSide_allTakenAndKnown_33 (by decide) ⟨Eq.symm (by unfold z_Side_allTakenAndKnown_15; simp only [if_neg h1]), rfl⟩
  · refine lv_aload_n hx hb dSide_allTakenAndKnown_14 rfl (lv_at hl 0 rfl) ?_
    refine ew_get (v := .int (A 15 d 5)) hx hb hts hown hK hV fSide_50 hth (cC_15 _ _ _ _) rfl dSide_allTakenAndKnown_15 ?_
    refine lv_aload_n hx hb dSide_allTakenAndKnown_18 rfl (lv_at hl 0 rfl) ?_
    refine ew_get (v := .ref (X 16 d)) hx hb hts hown hK hV fSide_10 hth (cC_15 _ _ _ _) rfl dSide_allTakenAndKnown_19 ?_
    refine er_calli (va_runV (As := []) (rest := [.int (A 15 d 5)]) ⟨hx, hb, hml, hown, hts⟩ (c_AL_size_16 l D T X L tg _ A d (X 16 d) e16_0) (cwV 0 hts gSide_26 rfl rfl rfl (by decide +kernel) ⟨Nat.le_of_ble_eq_true rfl, Nat.le_of_ble_eq_true rfl⟩) (ec_preV hK hN hV e16_0 (cC_16 _ _ _ _) rfl) rfl rfl hl.1 rfl (lv_room (Nat.le_of_ble_eq_true rfl)) dSide_allTakenAndKnown_22 ⟨Nat.le_of_ble_eq_true rfl, Nat.le_of_ble_eq_true rfl⟩) hV hS hA (fun r u H locs hp hV hS => ?_)
    obtain ⟨rfl, eu9⟩ := hp
    rw [eu9] at hV
    refine lv_icmp_ne (tgt := 32) hx hb dSide_allTakenAndKnown_25 rfl (fun h2 => ?_) (fun h2 => ?_)
    · refine lv_iconst (v := 0) hx hb dSide_allTakenAndKnown_32 (by decide) ?_
      exact er_zret hx hb hr hlocks hV hS dSide_allTakenAndKnown_33 (by decide) ⟨Eq.symm (by unfold z_Side_allTakenAndKnown_15; simp only [if_pos h1, if_neg h2]), rfl⟩
    · refine lv_iconst (v := 1) hx hb dSide_allTakenAndKnown_28 (by decide) ?_
      refine lv_goto (tgt := 33) hx hb dSide_allTakenAndKnown_29 rfl ?_
      exact er_zret hx hb hr hlocks hV hS dSide_allTakenAndKnown_33 (by decide) ⟨Eq.symm (by unfold z_Side_allTakenAndKnown_15; simp only [if_pos h1, if_pos h2]), rfl⟩

def z_L_entry_15 (A : ew_R) (k : Nat) (d : Nat) (hc : Int32) (wh : Int32) : Int32 :=
  if wh = 0 then
    A 17 k 0
  else
    if wh = 1 then
      A 17 k 1
    else
      if wh = 2 then
        A 17 k 2
      else
        if wh = 3 then
          A 17 k 3
        else
          if wh = 4 then
            z_AL_size_16 A d
          else
            if wh = 5 then
              A 15 d 4
            else
              if wh = 6 then
                A 15 d 5
              else
                if wh = 7 then
                  if hc = 0 then
                    0
                  else
                    1
                else
                  (-1)
set_option maxHeartbeats 4000000 in
set_option maxRecDepth 100000 in
theorem c_L_entry_15 (l : Launch) (D : va_G) (T : Nat → ClassId) (X : Nat → Nat → Nat) (L : List Nat) (tg : Nat → Nat × Nat) (sz : Nat) (A : ew_R) (k : Nat) (d : Nat) (pg : Nat) (hpg : ew_in X L tg 17 k pg) (sd : Nat) (hsd : ew_in X L tg 15 d sd) (hc : Int32) (wh : Int32) (e16_0 : ew_in X L tg 16 d (X 16 d)) : Met l yL_entry wsL_entry ({ frames := 1, cells := 0, slots := 0, locals := 20 }) (ec_Pc D vwCl (tysA T) (cfC T) X L tg A sz [.ref pg, .ref sd, .int hc, .int wh]) (er_Qi D vwCl (cfC T) X L tg sz (fun r u => r = z_L_entry_15 A k d hc wh ∧ u = A)) 0 0 (ew_A L sz) := by
  refine ec_met (by decide) rfl (Nat.le_of_ble_eq_true rfl) ?_
  intro p e s m below meth c ls hx hb hr hts hown hlocks hml hV hK hN hS hA hl hsz
  subst hsz
  have hl : lv_has ls 4 [(0, .ref pg), (1, .ref sd), (2, .int hc), (3, .int wh)] := hl
  refine lv_iload_n hx hb dL_entry_0 rfl (lv_at hl 3 rfl) ?_
  by_cases h1 : wh = 0
  · refine lv_tableIn (tgt := 48) hx hb dL_entry_1 (by rw [h1]; decide) (by rw [h1]; decide) (by rw [h1]; rfl) rfl ?_
    refine lv_aload_n hx hb dL_entry_48 rfl (lv_at hl 0 rfl) ?_
    refine ew_get (v := .int (A 17 k 0)) hx hb hts hown hK hV fL_111 hpg (cC_17 _ _ _ _) rfl dL_entry_49 ?_
    exact er_iret hx hb hr hlocks hV hS dL_entry_52 ⟨Eq.symm (by unfold z_L_entry_15; simp only [if_pos h1]), rfl⟩
  · by_cases h2 : wh = 1
    · refine lv_tableIn (tgt := 53) hx hb dL_entry_1 (by rw [h2]; decide) (by rw [h2]; decide) (by rw [h2]; rfl) rfl ?_
      refine lv_aload_n hx hb dL_entry_53 rfl (lv_at hl 0 rfl) ?_
      refine ew_get (v := .int (A 17 k 1)) hx hb hts hown hK hV fL_240 hpg (cC_17 _ _ _ _) rfl dL_entry_54 ?_
      exact er_iret hx hb hr hlocks hV hS dL_entry_57 ⟨Eq.symm (by unfold z_L_entry_15; simp only [if_neg h1, if_pos h2]), rfl⟩
    · by_cases h3 : wh = 2
      · refine lv_tableIn (tgt := 58) hx hb dL_entry_1 (by rw [h3]; decide) (by rw [h3]; decide) (by rw [h3]; rfl) rfl ?_
        refine lv_aload_n hx hb dL_entry_58 rfl (lv_at hl 0 rfl) ?_
        refine ew_get (v := .int (A 17 k 2)) hx hb hts hown hK hV fL_243 hpg (cC_17 _ _ _ _) rfl dL_entry_59 ?_
        exact er_iret hx hb hr hlocks hV hS dL_entry_62 ⟨Eq.symm (by unfold z_L_entry_15; simp only [if_neg h1, if_neg h2, if_pos h3]), rfl⟩
      · by_cases h4 : wh = 3
        · refine lv_tableIn (tgt := 63) hx hb dL_entry_1 (by rw [h4]; decide) (by rw [h4]; decide) (by rw [h4]; rfl) rfl ?_
          refine lv_aload_n hx hb dL_entry_63 rfl (lv_at hl 0 rfl) ?_
          refine ew_get (v := .int (A 17 k 3)) hx hb hts hown hK hV fL_246 hpg (cC_17 _ _ _ _) rfl dL_entry_64 ?_
          exact er_iret hx hb hr hlocks hV hS dL_entry_67 ⟨Eq.symm (by unfold z_L_entry_15; simp only [if_neg h1, if_neg h2, if_neg h3, if_pos h4]), rfl⟩
        · by_cases h5 : wh = 4
          · refine lv_tableIn (tgt := 68) hx hb dL_entry_1 (by rw [h5]; decide) (by rw [h5]; decide) (by rw [h5]; rfl) rfl ?_
            refine lv_aload_n hx hb dL_entry_68 rfl (lv_at hl 1 rfl) ?_
            refine ew_get (v := .ref (X 16 d)) hx hb hts hown hK hV fL_145 hsd (cC_15 _ _ _ _) rfl dL_entry_69 ?_
            refine er_calli (va_runV (As := []) (rest := []) ⟨hx, hb, hml, hown, hts⟩ (c_AL_size_16 l D T X L tg _ A d (X 16 d) e16_0) (cwV 0 hts gL_149 rfl rfl rfl (by decide +kernel) ⟨Nat.le_of_ble_eq_true rfl, Nat.le_of_ble_eq_true rfl⟩) (ec_preV hK hN hV e16_0 (cC_16 _ _ _ _) rfl) rfl rfl hl.1 rfl (lv_room (Nat.le_of_ble_eq_true rfl)) dL_entry_72 ⟨Nat.le_of_ble_eq_true rfl, Nat.le_of_ble_eq_true rfl⟩) hV hS hA (fun r u H locs hp hV hS => ?_)
            obtain ⟨rfl, eu9⟩ := hp
            rw [eu9] at hV
            exact er_iret hx hb hr hlocks hV hS dL_entry_75 ⟨Eq.symm (by unfold z_L_entry_15; simp only [if_neg h1, if_neg h2, if_neg h3, if_neg h4, if_pos h5]), rfl⟩
          · by_cases h6 : wh = 5
            · refine lv_tableIn (tgt := 76) hx hb dL_entry_1 (by rw [h6]; decide) (by rw [h6]; decide) (by rw [h6]; rfl) rfl ?_
              refine lv_aload_n hx hb dL_entry_76 rfl (lv_at hl 1 rfl) ?_
              refine ew_get (v := .int (A 15 d 4)) hx hb hts hown hK hV fL_185 hsd (cC_15 _ _ _ _) rfl dL_entry_77 ?_
              exact er_iret hx hb hr hlocks hV hS dL_entry_80 ⟨Eq.symm (by unfold z_L_entry_15; simp only [if_neg h1, if_neg h2, if_neg h3, if_neg h4, if_neg h5, if_pos h6]), rfl⟩
            · by_cases h7 : wh = 6
              · refine lv_tableIn (tgt := 81) hx hb dL_entry_1 (by rw [h7]; decide) (by rw [h7]; decide) (by rw [h7]; rfl) rfl ?_
                refine lv_aload_n hx hb dL_entry_81 rfl (lv_at hl 1 rfl) ?_
                refine ew_get (v := .int (A 15 d 5)) hx hb hts hown hK hV fL_140 hsd (cC_15 _ _ _ _) rfl dL_entry_82 ?_
                exact er_iret hx hb hr hlocks hV hS dL_entry_85 ⟨Eq.symm (by unfold z_L_entry_15; simp only [if_neg h1, if_neg h2, if_neg h3, if_neg h4, if_neg h5, if_neg h6, if_pos h7]), rfl⟩
              · by_cases h8 : wh = 7
                · refine lv_tableIn (tgt := 86) hx hb dL_entry_1 (by rw [h8]; decide) (by rw [h8]; decide) (by rw [h8]; rfl) rfl ?_
                  refine lv_iload_n hx hb dL_entry_86 rfl (lv_at hl 2 rfl) ?_
                  refine lv_if_eq (tgt := 94) hx hb dL_entry_87 rfl (fun h9 => ?_) (fun h9 => ?_)
                  · refine lv_iconst (v := 0) hx hb dL_entry_94 (by decide) ?_
                    exact er_iret hx hb hr hlocks hV hS dL_entry_95 ⟨Eq.symm (by unfold z_L_entry_15; simp only [if_neg h1, if_neg h2, if_neg h3, if_neg h4, if_neg h5, if_neg h6, if_neg h7, if_pos h8, if_pos h9]), rfl⟩
                  · refine lv_iconst (v := 1) hx hb dL_entry_90 (by decide) ?_
                    refine lv_goto (tgt := 95) hx hb dL_entry_91 rfl ?_
                    exact er_iret hx hb hr hlocks hV hS dL_entry_95 ⟨Eq.symm (by unfold z_L_entry_15; simp only [if_neg h1, if_neg h2, if_neg h3, if_neg h4, if_neg h5, if_neg h6, if_neg h7, if_pos h8, if_neg h9]), rfl⟩
                · refine lv_tableOut (tgt := 96) hx hb dL_entry_1 (by have a0 := lv_neT (a := 0) h1 (by decide); have a1 := lv_neT (a := 1) h2 (by decide); have a2 := lv_neT (a := 2) h3 (by decide); have a3 := lv_neT (a := 3) h4 (by decide); have a4 := lv_neT (a := 4) h5 (by decide); have a5 := lv_neT (a := 5) h6 (by decide); have a6 := lv_neT (a := 6) h7 (by decide); have a7 := lv_neT (a := 7) h8 (by decide); omega) rfl ?_
                  refine lv_iconst (v := (-1)) hx hb dL_entry_96 (by decide) ?_
                  exact er_iret hx hb hr hlocks hV hS dL_entry_97 ⟨Eq.symm (by unfold z_L_entry_15; simp only [if_neg h1, if_neg h2, if_neg h3, if_neg h4, if_neg h5, if_neg h6, if_neg h7, if_neg h8]), rfl⟩
