theorem z_add_lt_5_6 (A : ew_R) (d t w : Nat) {c : Nat} (h : c ≠ 7) (h2 : c ≠ 12) (a k : Nat) : z_Row_add_5_6 A d t w c a k = A c a k := by
  unfold z_Row_add_5_6
  split
  · rw [up3_ne _ _ (by omega), up3_ne _ _ (by omega), up3_ne _ _ (by omega), up3_ne _ _ (by omega), up3_ne _ _ (by omega), up3_ne _ _ (by omega), up3_ne _ _ (by omega), up3_ne _ _ (by omega)]
  · rw [up3_ne _ _ (by omega), up3_ne _ _ (by omega), up3_ne _ _ (by omega), up3_ne _ _ (by omega), up3_ne _ _ (by omega), up3_ne _ _ (by omega), up3_ne _ _ (by omega), up3_ne _ _ (by omega), upr_oth _ _ (by omega), up3_ne _ _ (by omega)]
theorem z_add_w_5_6 (A : ew_R) (d t w : Nat) (hw : w ≤ 64) : z_Row_add_5_6 A d t w 7 0 1 = nI (min 64 (w + 1)) := by
  unfold z_Row_add_5_6
  split
  · rw [up3_self, Nat.min_eq_right (by omega)]
  · rw [up3_self, Nat.min_eq_left (by omega)]
    rfl
def z_rs_5 (A : ew_R) (d w ac : Nat) : Nat → ew_R
  | 0 => A
  | i + 1 => z_Row_add_5_6 (z_rs_5 A d w ac i) d (512 * d + (ac + i)) (min 64 (w + i))
theorem z_rs_lt_5 (A : ew_R) (d w ac : Nat) {c : Nat} (h : c ≠ 7) (h2 : c ≠ 12) (a k : Nat) : ∀ i, z_rs_5 A d w ac i c a k = A c a k
  | 0 => rfl
  | i + 1 => by
    unfold z_rs_5
    rw [z_add_lt_5_6 _ _ _ _ h h2]
    exact z_rs_lt_5 A d w ac h h2 a k i
theorem z_rs_w_5 (A : ew_R) (d w ac : Nat) (hq : A 7 0 1 = nI w) (hw : w ≤ 64) : ∀ i, z_rs_5 A d w ac i 7 0 1 = nI (min 64 (w + i))
  | 0 => by
    show A 7 0 1 = _
    rw [hq, Nat.min_eq_right (by omega)]
    rfl
  | i + 1 => by
    unfold z_rs_5
    rw [z_add_w_5_6 _ _ _ _ (Nat.min_le_left _ _)]
    congr 1
    omega
def z_L_resend_q (A : ew_R) (rq ln nl pd o cap n ac w : Nat) : Int32 × ew_R := (nI (n - ac + 1), z_Row_add_5_18 (z_rs_5 A pd w ac (n - ac)) pd 0 (min 64 (w + (n - ac))))
set_option maxHeartbeats 4000000 in
set_option maxRecDepth 100000 in
theorem c_L_resend_q (l : Launch) (D : va_G) (T : Nat → ClassId) (X : Nat → Nat → Nat) (L : List Nat) (tg : Nat → Nat × Nat) (sz : Nat) (A : ew_R) (th : Nat) (hth : ew_in X L tg 0 0 th) (rq : Nat) (ln : Nat) (nl : Nat) (pd : Nat) (o : Nat) (cap : Nat) (n : Nat) (ac : Nat) (w : Nat) (e10_0 : ew_in X L tg 10 0 (X 10 0)) (e2_1 : ew_in X L tg 2 ln (X 2 ln)) (e4_2 : ew_in X L tg 4 pd (X 4 pd)) (e5_3 : ew_in X L tg 5 pd (X 5 pd)) (e8_4 : ew_in X L tg 8 pd (X 8 pd)) (e14_5 : ew_in X L tg 14 o (X 14 o)) (e7_6 : ew_in X L tg 7 0 (X 7 0)) (e12_7 : ew_in X L tg 12 0 (X 12 0)) (e18_8 : ew_in X L tg 18 0 (X 18 0)) (hn : nl ≤ 32) (qn : A 0 0 6 = nI nl) (hl1 : ln < nl) (qf : ¬ A 10 0 ln = 0) (hrq : rq < 6) (q1 : A 2 ln 1 = nI rq) (hp : pd < 192) (q7 : A 2 ln 7 = nI pd) (s1 : A 8 pd 1 = nI o) (ho : o / 64 = pd) (ho2 : o < 2 ^ 20) (ss : A 8 pd 2 = nI n) (sc : A 14 o 1000 = nI cap) (sf : A 14 o 1001 = nI n) (hnc : n ≤ cap) (hcap : cap ≤ 1000) (qa : A 5 pd 5 = nI ac) (hac : ac ≤ n) (hw : w ≤ 64) (qw : A 7 0 1 = nI w) (eLt : ∀ j, j < n → ew_in X L tg 6 (512 * pd + j) (X 6 (512 * pd + j))) : Met l yL_resend wsL_resend ({ frames := 3, cells := 0, slots := 0, locals := 64 }) (ec_Pc D vwCl (tysA T) (cfC T) X L tg A sz [.ref th, .int (nI rq), .int (nI ln)]) (er_Qi D vwCl (cfC T) X L tg sz (fun r u => r = (z_L_resend_q A rq ln nl pd o cap n ac w).1 ∧ u = (z_L_resend_q A rq ln nl pd o cap n ac w).2)) 0 0 (ew_A L sz) := by
  refine ec_met (by decide) rfl (Nat.le_of_ble_eq_true rfl) ?_
  intro p e s m below meth c ls hx hb hr hts hown hlocks hml hV hK hN hS hA hl hsz
  subst hsz
  have hl : lv_has ls 7 [(0, .ref th), (1, .int (nI rq)), (2, .int (nI ln))] := hl
  refine lv_aload_n hx hb dL_resend_0 rfl (lv_at hl 0 rfl) ?_
  refine lv_iload_n hx hb dL_resend_1 rfl (lv_at hl 2 rfl) ?_
  refine er_callq (va_runV (As := [.int (nI ln)]) (rest := []) ⟨hx, hb, hml, hown, hts⟩ (c_L_loanAt_ok l D T X L tg _ A th hth ln nl e10_0 e2_1 hn qn hl1 qf) (cwV 1 hts gL_88 rfl rfl rfl (by decide +kernel) ⟨Nat.le_of_ble_eq_true rfl, Nat.le_of_ble_eq_true rfl⟩) (ec_preV hK hN hV hth (cC_0 _ _ _ _) rfl) rfl rfl hl.1 rfl (lv_room (Nat.le_of_ble_eq_true rfl)) dL_resend_2 ⟨Nat.le_of_ble_eq_true rfl, Nat.le_of_ble_eq_true rfl⟩) hV hS hA (fun r u H locs hp hV hS => ?_)
  obtain ⟨rfl, eu9⟩ := hp
  rw [eu9] at hV
  refine lv_iload_n hx hb dL_resend_5 rfl (lv_at hl 1 rfl) ?_
  refine er_callq (va_runS (As := [.ref (X 2 ln), .int (nI rq)]) (rest := []) ⟨hx, hb, hml, hown, hts⟩ (c_L_sideOf_q l D T X L tg _ A ln (X 2 ln) e2_1 rq pd e4_2 e5_3 hrq q1 hp q7) (cwS 2 hts gL_134 rfl rfl rfl (by decide +kernel) ⟨Nat.le_of_ble_eq_true rfl, Nat.le_of_ble_eq_true rfl⟩) (ec_preS hK hN hV) rfl rfl hl.1 rfl (lv_room (Nat.le_of_ble_eq_true rfl)) dL_resend_6 ⟨Nat.le_of_ble_eq_true rfl, Nat.le_of_ble_eq_true rfl⟩) hV hS hA (fun r u H locs hp hV hS => ?_)
  obtain ⟨rfl, eu9⟩ := hp
  rw [eu9] at hV
  refine lv_astore_n (lv' := [(3, .ref (X 5 pd)), (0, .ref th), (1, .int (nI rq)), (2, .int (nI ln))]) hx hb dL_resend_9 rfl hl (by decide) rfl (fun ls hl => ?_)
  refine lv_aload_n hx hb dL_resend_10 rfl (lv_at hl 0 rfl) ?_
  refine lv_ifnonnull (tgt := 24) hx hb dL_resend_11 rfl ?_
  refine lv_aload_n hx hb dL_resend_24 rfl (lv_at hl 0 rfl) ?_
  refine ew_get (v := .int (A 5 pd 5)) hx hb hts hown hK hV fL_140 e5_3 (cC_5 _ _ _ _) rfl dL_resend_25 ?_
  refine lv_toe (y := nI ac) qa ?_
  refine lv_istore (lv' := [(4, .int (nI ac)), (3, .ref (X 5 pd)), (0, .ref th), (1, .int (nI rq)), (2, .int (nI ln))]) hx hb dL_resend_28 hl (by decide) rfl (fun ls hl => ?_)
  refine lv_aload_n hx hb dL_resend_30 rfl (lv_at hl 1 rfl) ?_
  refine ew_get (v := .ref (X 8 pd)) hx hb hts hown hK hV fL_145 e5_3 (cC_5 _ _ _ _) rfl dL_resend_31 ?_
  refine er_calli (va_runV (As := []) (rest := []) ⟨hx, hb, hml, hown, hts⟩ (c_AL_size_8 l D T X L tg _ A pd (X 8 pd) e8_4) (cwV 0 hts gL_149 rfl rfl rfl (by decide +kernel) ⟨Nat.le_of_ble_eq_true rfl, Nat.le_of_ble_eq_true rfl⟩) (ec_preV hK hN hV e8_4 (cC_8 _ _ _ _) rfl) rfl rfl hl.1 rfl (lv_room (Nat.le_of_ble_eq_true rfl)) dL_resend_34 ⟨Nat.le_of_ble_eq_true rfl, Nat.le_of_ble_eq_true rfl⟩) hV hS hA (fun r u H locs hp hV hS => ?_)
  obtain ⟨rfl, eu9⟩ := hp
  rw [eu9] at hV
  refine lv_toe (y := nI n) ss ?_
  refine lv_istore (lv' := [(5, .int (nI n)), (4, .int (nI ac)), (3, .ref (X 5 pd)), (0, .ref th), (1, .int (nI rq)), (2, .int (nI ln))]) hx hb dL_resend_37 hl (by decide) rfl (fun ls hl => ?_)
  refine lv_iload hx hb dL_resend_39 (lv_at hl 1 rfl) ?_
  refine lv_istore (lv' := [(6, .int (nI ac)), (5, .int (nI n)), (4, .int (nI ac)), (3, .ref (X 5 pd)), (0, .ref th), (1, .int (nI rq)), (2, .int (nI ln))]) hx hb dL_resend_41 hl (by decide) rfl (fun ls hl => ?_)
  have loop : ∀ (r i : Nat), i + r = n - ac → ∀ (H : Heap) (locs : List Loc) (ls : Array Slot), ew_V D vwCl (cfC T) (ew_A L s.heap.size) X L tg (z_rs_5 A pd w ac i) [] H → va_S (ew_A L s.heap.size) s.heap H locs → lv_has ls 7 [(6, .int (nI (ac + i))), (5, .int (nI n)), (4, .int (nI ac)), (3, .ref (X 5 pd)), (0, .ref th), (1, .int (nI rq)), (2, .int (nI ln))] → W p l e ({ frames := 3, cells := 0, slots := 0, locals := 64 }) s m ([.ref th, .int (nI rq), .int (nI ln)] : List Value).toArray below meth c H locs 0 0 (MQ below (er_Qi D vwCl (cfC T) X L tg s.heap.size (fun r u => r = (z_L_resend_q A rq ln nl pd o cap n ac w).1 ∧ u = (z_L_resend_q A rq ln nl pd o cap n ac w).2)) ([.ref th, .int (nI rq), .int (nI ln)] : List Value).toArray s 0 0 (ew_A L s.heap.size)) (F0 m 43 ls []) := by
    intro r
    induction r with
    | zero =>
      intro i hn H locs ls hV hS hl
      refine lv_iload hx hb dL_resend_43 (lv_at hl 0 rfl) ?_
      refine lv_iload hx hb dL_resend_45 (lv_at hl 1 rfl) ?_
      refine lv_icmp_ge (tgt := 76) hx hb dL_resend_47 rfl (fun _ => ?_) (fun h9 => absurd ((nI_leI (a := n) (b := ac + i) (by omega) (by omega)).mpr (show n ≤ ac + i by omega)) h9)
      refine lv_aload_n hx hb dL_resend_76 rfl (lv_at hl 4 rfl) ?_
      refine ew_get (v := .ref (X 7 0)) hx hb hts hown hK hV fL_28 hth (cC_0 _ _ _ _) rfl dL_resend_77 ?_
      refine lv_aload_n hx hb dL_resend_80 rfl (lv_at hl 3 rfl) ?_
      refine lv_aload_n hx hb dL_resend_81 rfl (lv_at hl 4 rfl) ?_
      refine ew_get (v := .ref (X 18 0)) hx hb hts hown hK hV fL_39 hth (cC_0 _ _ _ _) rfl dL_resend_82 ?_
      refine er_callv (va_runV (As := [.ref (X 5 pd), .ref (X 18 0)]) (rest := []) ⟨hx, hb, hml, hown, hts⟩ (c_Row_add_5_18 l D T X L tg _ (z_rs_5 A pd w ac i) pd 0 (X 7 0) e7_6 (X 5 pd) e5_3 (X 18 0) e18_8 (min 64 (w + i)) e12_7 (Nat.min_le_left _ _) (z_rs_w_5 _ _ _ _ qw hw i)) (cwV 2 hts gL_159 rfl rfl rfl (by decide +kernel) ⟨Nat.le_of_ble_eq_true rfl, Nat.le_of_ble_eq_true rfl⟩) (ec_preV hK hN hV e7_6 (cC_7 _ _ _ _) rfl) rfl rfl hl.1 rfl (lv_room (Nat.le_of_ble_eq_true rfl)) dL_resend_85 ⟨Nat.le_of_ble_eq_true rfl, Nat.le_of_ble_eq_true rfl⟩) hV hS hA (fun u1 H locs eu1 hV hS => ?_)
      have eu1 : u1 = z_Row_add_5_18 (z_rs_5 A pd w ac i) pd 0 (min 64 (w + i)) := eu1
      refine lv_iload hx hb dL_resend_88 (lv_at hl 1 rfl) ?_
      refine lv_iload hx hb dL_resend_90 (lv_at hl 2 rfl) ?_
      refine lv_isub hx hb dL_resend_92 ?_
      refine lv_toe (y := nI (n - ac)) (pk_sub (a := n) (b := ac) (by omega)) ?_
      refine lv_iconst (v := 1) hx hb dL_resend_93 (by decide) ?_
      refine lv_iadd hx hb dL_resend_94 ?_
      refine lv_toe (y := nI ((n - ac) + 1)) (nI_add (n - ac) 1) ?_
      subst eu1
      exact er_iret hx hb hr hlocks hV hS dL_resend_95 ⟨Eq.symm (by unfold z_L_resend_q; rw [show n - ac = i by omega]), Eq.symm (by unfold z_L_resend_q; rw [show n - ac = i by omega])⟩
    | succ r ih =>
      intro i hn H locs ls hV hS hl
      refine lv_iload hx hb dL_resend_43 (lv_at hl 0 rfl) ?_
      refine lv_iload hx hb dL_resend_45 (lv_at hl 1 rfl) ?_
      refine lv_icmp_ge (tgt := 76) hx hb dL_resend_47 rfl (fun h9 => absurd h9 (fun z9 => (show ¬ (n ≤ ac + i) by omega) ((nI_leI (a := n) (b := ac + i) (by omega) (by omega)).mp z9))) (fun _ => ?_)
      refine lv_aload_n hx hb dL_resend_50 rfl (lv_at hl 4 rfl) ?_
      refine ew_get (v := .ref (X 7 0)) hx hb hts hown hK hV fL_28 hth (cC_0 _ _ _ _) rfl dL_resend_51 ?_
      refine lv_aload_n hx hb dL_resend_54 rfl (lv_at hl 3 rfl) ?_
      refine lv_aload_n hx hb dL_resend_55 rfl (lv_at hl 3 rfl) ?_
      refine ew_get (v := .ref (X 8 pd)) hx hb hts hown hK hV fL_145 e5_3 (cC_5 _ _ _ _) rfl dL_resend_56 ?_
      refine lv_iload hx hb dL_resend_59 (lv_at hl 0 rfl) ?_
      refine er_callq (va_runV (As := [.int (nI (ac + i))]) (rest := [.ref (X 5 pd), .ref (X 7 0)]) ⟨hx, hb, hml, hown, hts⟩ (c_AL_get_8 l D T X L tg _ (z_rs_5 A pd w ac i) pd (X 8 pd) e8_4 (ac + i) o cap n e14_5 (eLt _ (by omega)) ((z_rs_lt_5 _ _ _ _ (by decide) (by decide) _ _ _).trans s1) ho ho2 ((z_rs_lt_5 _ _ _ _ (by decide) (by decide) _ _ _).trans ss) ((z_rs_lt_5 _ _ _ _ (by decide) (by decide) _ _ _).trans sc) ((z_rs_lt_5 _ _ _ _ (by decide) (by decide) _ _ _).trans sf) hnc hcap (by omega)) (cwV 1 hts gL_155 rfl rfl rfl (by decide +kernel) ⟨Nat.le_of_ble_eq_true rfl, Nat.le_of_ble_eq_true rfl⟩) (ec_preV hK hN hV e8_4 (cC_8 _ _ _ _) rfl) rfl rfl hl.1 rfl (lv_room (Nat.le_of_ble_eq_true rfl)) dL_resend_61 ⟨Nat.le_of_ble_eq_true rfl, Nat.le_of_ble_eq_true rfl⟩) hV hS hA (fun r u H locs hp hV hS => ?_)
      obtain ⟨rfl, eu9⟩ := hp
      rw [eu9] at hV
      refine va_castY hx hb hown (hts _ kl_L_32) (hN.at 4 rfl) (ec_recv hK hV (eLt _ (by omega)) (cC_6 _ _ _ _) rfl) dL_resend_64 ?_
      refine er_callv (va_runV (As := [.ref (X 5 pd), .ref (X 6 (512 * pd + (ac + i)))]) (rest := []) ⟨hx, hb, hml, hown, hts⟩ (c_Row_add_5_6 l D T X L tg _ (z_rs_5 A pd w ac i) pd (512 * pd + (ac + i)) (X 7 0) e7_6 (X 5 pd) e5_3 (X 6 (512 * pd + (ac + i))) (eLt _ (by omega)) (min 64 (w + i)) e12_7 (Nat.min_le_left _ _) (z_rs_w_5 _ _ _ _ qw hw i)) (cwV 2 hts gL_159 rfl rfl rfl (by decide +kernel) ⟨Nat.le_of_ble_eq_true rfl, Nat.le_of_ble_eq_true rfl⟩) (ec_preV hK hN hV e7_6 (cC_7 _ _ _ _) rfl) rfl rfl hl.1 rfl (lv_room (Nat.le_of_ble_eq_true rfl)) dL_resend_67 ⟨Nat.le_of_ble_eq_true rfl, Nat.le_of_ble_eq_true rfl⟩) hV hS hA (fun u2 H locs eu2 hV hS => ?_)
      have eu2 : u2 = z_Row_add_5_6 (z_rs_5 A pd w ac i) pd (512 * pd + (ac + i)) (min 64 (w + i)) := eu2
      refine lv_iinc (k := 0) (v := nI ((ac + i) + 1)) (lv' := [(6, .int (nI ((ac + i) + 1))), (5, .int (nI n)), (4, .int (nI ac)), (3, .ref (X 5 pd)), (0, .ref th), (1, .int (nI rq)), (2, .int (nI ln))]) hx hb dL_resend_70 hl rfl (nI_add (ac + i) 1) (by decide) rfl (fun ls hl => ?_)
      refine lv_goto (tgt := 43) hx hb dL_resend_73 rfl ?_
      subst eu2
      exact ih (i + 1) (by omega) H locs ls hV hS hl
  exact loop (n - ac) 0 (by omega) _ _ ls hV hS hl

theorem z_add_lt_15_19 (A : ew_R) (d t w : Nat) {c : Nat} (h : c ≠ 7) (h2 : c ≠ 12) (a k : Nat) : z_Row_add_15_19 A d t w c a k = A c a k := by
  unfold z_Row_add_15_19
  split
  · rw [up3_ne _ _ (by omega), up3_ne _ _ (by omega), up3_ne _ _ (by omega), up3_ne _ _ (by omega), up3_ne _ _ (by omega), up3_ne _ _ (by omega), up3_ne _ _ (by omega), up3_ne _ _ (by omega)]
  · rw [up3_ne _ _ (by omega), up3_ne _ _ (by omega), up3_ne _ _ (by omega), up3_ne _ _ (by omega), up3_ne _ _ (by omega), up3_ne _ _ (by omega), up3_ne _ _ (by omega), up3_ne _ _ (by omega), upr_oth _ _ (by omega), up3_ne _ _ (by omega)]
theorem z_add_w_15_19 (A : ew_R) (d t w : Nat) (hw : w ≤ 64) : z_Row_add_15_19 A d t w 7 0 1 = nI (min 64 (w + 1)) := by
  unfold z_Row_add_15_19
  split
  · rw [up3_self, Nat.min_eq_right (by omega)]
  · rw [up3_self, Nat.min_eq_left (by omega)]
    rfl
def z_rs_15 (A : ew_R) (d w ac : Nat) : Nat → ew_R
  | 0 => A
  | i + 1 => z_Row_add_15_19 (z_rs_15 A d w ac i) d (512 * d + (ac + i)) (min 64 (w + i))
theorem z_rs_lt_15 (A : ew_R) (d w ac : Nat) {c : Nat} (h : c ≠ 7) (h2 : c ≠ 12) (a k : Nat) : ∀ i, z_rs_15 A d w ac i c a k = A c a k
  | 0 => rfl
  | i + 1 => by
    unfold z_rs_15
    rw [z_add_lt_15_19 _ _ _ _ h h2]
    exact z_rs_lt_15 A d w ac h h2 a k i
theorem z_rs_w_15 (A : ew_R) (d w ac : Nat) (hq : A 7 0 1 = nI w) (hw : w ≤ 64) : ∀ i, z_rs_15 A d w ac i 7 0 1 = nI (min 64 (w + i))
  | 0 => by
    show A 7 0 1 = _
    rw [hq, Nat.min_eq_right (by omega)]
    rfl
  | i + 1 => by
    unfold z_rs_15
    rw [z_add_w_15_19 _ _ _ _ (Nat.min_le_left _ _)]
    congr 1
    omega
def z_L_resend_s (A : ew_R) (b ln nl rq o cap n ac w : Nat) : Int32 × ew_R := (nI (n - ac + 1), z_Row_add_15_18 (z_rs_15 A (6 * ln + b) w ac (n - ac)) (6 * ln + b) 0 (min 64 (w + (n - ac))))
set_option maxHeartbeats 4000000 in
set_option maxRecDepth 100000 in
theorem c_L_resend_s (l : Launch) (D : va_G) (T : Nat → ClassId) (X : Nat → Nat → Nat) (L : List Nat) (tg : Nat → Nat × Nat) (sz : Nat) (A : ew_R) (th : Nat) (hth : ew_in X L tg 0 0 th) (b : Nat) (ln : Nat) (nl : Nat) (rq : Nat) (o : Nat) (cap : Nat) (n : Nat) (ac : Nat) (w : Nat) (e10_0 : ew_in X L tg 10 0 (X 10 0)) (e2_1 : ew_in X L tg 2 ln (X 2 ln)) (e13_2 : ew_in X L tg 13 ln (X 13 ln)) (e4_3 : ew_in X L tg 4 (6 * ln + b) (X 4 (6 * ln + b))) (e15_4 : ew_in X L tg 15 (6 * ln + b) (X 15 (6 * ln + b))) (e16_5 : ew_in X L tg 16 (6 * ln + b) (X 16 (6 * ln + b))) (e20_6 : ew_in X L tg 20 o (X 20 o)) (e7_7 : ew_in X L tg 7 0 (X 7 0)) (e12_8 : ew_in X L tg 12 0 (X 12 0)) (e18_9 : ew_in X L tg 18 0 (X 18 0)) (hn : nl ≤ 32) (qn : A 0 0 6 = nI nl) (hl1 : ln < nl) (qf : ¬ A 10 0 ln = 0) (hrq : rq < 6) (q1 : A 2 ln 1 = nI rq) (hb6 : b < 6) (hbr : ¬ b = rq) (qd : ¬ A 13 ln b = 0) (s1 : A 16 (6 * ln + b) 1 = nI o) (ho : o / 64 = 6 * ln + b) (ho2 : o < 2 ^ 20) (ss : A 16 (6 * ln + b) 2 = nI n) (sc : A 20 o 1000 = nI cap) (sf : A 20 o 1001 = nI n) (hnc : n ≤ cap) (hcap : cap ≤ 1000) (qa : A 15 (6 * ln + b) 5 = nI ac) (hac : ac ≤ n) (hw : w ≤ 64) (qw : A 7 0 1 = nI w) (eLt : ∀ j, j < n → ew_in X L tg 19 (512 * (6 * ln + b) + j) (X 19 (512 * (6 * ln + b) + j))) : Met l yL_resend wsL_resend ({ frames := 3, cells := 0, slots := 0, locals := 64 }) (ec_Pc D vwCl (tysA T) (cfC T) X L tg A sz [.ref th, .int (nI b), .int (nI ln)]) (er_Qi D vwCl (cfC T) X L tg sz (fun r u => r = (z_L_resend_s A b ln nl rq o cap n ac w).1 ∧ u = (z_L_resend_s A b ln nl rq o cap n ac w).2)) 0 0 (ew_A L sz) := by
  refine ec_met (by decide) rfl (Nat.le_of_ble_eq_true rfl) ?_
  intro p e s m below meth c ls hx hb hr hts hown hlocks hml hV hK hN hS hA hl hsz
  subst hsz
  have hl : lv_has ls 7 [(0, .ref th), (1, .int (nI b)), (2, .int (nI ln))] := hl
  refine lv_aload_n hx hb dL_resend_0 rfl (lv_at hl 0 rfl) ?_
  refine lv_iload_n hx hb dL_resend_1 rfl (lv_at hl 2 rfl) ?_
  refine er_callq (va_runV (As := [.int (nI ln)]) (rest := []) ⟨hx, hb, hml, hown, hts⟩ (c_L_loanAt_ok l D T X L tg _ A th hth ln nl e10_0 e2_1 hn qn hl1 qf) (cwV 1 hts gL_88 rfl rfl rfl (by decide +kernel) ⟨Nat.le_of_ble_eq_true rfl, Nat.le_of_ble_eq_true rfl⟩) (ec_preV hK hN hV hth (cC_0 _ _ _ _) rfl) rfl rfl hl.1 rfl (lv_room (Nat.le_of_ble_eq_true rfl)) dL_resend_2 ⟨Nat.le_of_ble_eq_true rfl, Nat.le_of_ble_eq_true rfl⟩) hV hS hA (fun r u H locs hp hV hS => ?_)
  obtain ⟨rfl, eu9⟩ := hp
  rw [eu9] at hV
  refine lv_iload_n hx hb dL_resend_5 rfl (lv_at hl 1 rfl) ?_
  refine er_callq (va_runS (As := [.ref (X 2 ln), .int (nI b)]) (rest := []) ⟨hx, hb, hml, hown, hts⟩ (c_L_sideOf_s l D T X L tg _ A ln (X 2 ln) e2_1 b rq e13_2 e4_3 e15_4 hrq q1 hb6 hbr qd) (cwS 2 hts gL_134 rfl rfl rfl (by decide +kernel) ⟨Nat.le_of_ble_eq_true rfl, Nat.le_of_ble_eq_true rfl⟩) (ec_preS hK hN hV) rfl rfl hl.1 rfl (lv_room (Nat.le_of_ble_eq_true rfl)) dL_resend_6 ⟨Nat.le_of_ble_eq_true rfl, Nat.le_of_ble_eq_true rfl⟩) hV hS hA (fun r u H locs hp hV hS => ?_)
  obtain ⟨rfl, eu9⟩ := hp
  rw [eu9] at hV
  refine lv_astore_n (lv' := [(3, .ref (X 15 (6 * ln + b))), (0, .ref th), (1, .int (nI b)), (2, .int (nI ln))]) hx hb dL_resend_9 rfl hl (by decide) rfl (fun ls hl => ?_)
  refine lv_aload_n hx hb dL_resend_10 rfl (lv_at hl 0 rfl) ?_
  refine lv_ifnonnull (tgt := 24) hx hb dL_resend_11 rfl ?_
  refine lv_aload_n hx hb dL_resend_24 rfl (lv_at hl 0 rfl) ?_
  refine ew_get (v := .int (A 15 (6 * ln + b) 5)) hx hb hts hown hK hV fL_140 e15_4 (cC_15 _ _ _ _) rfl dL_resend_25 ?_
  refine lv_toe (y := nI ac) qa ?_
  refine lv_istore (lv' := [(4, .int (nI ac)), (3, .ref (X 15 (6 * ln + b))), (0, .ref th), (1, .int (nI b)), (2, .int (nI ln))]) hx hb dL_resend_28 hl (by decide) rfl (fun ls hl => ?_)
  refine lv_aload_n hx hb dL_resend_30 rfl (lv_at hl 1 rfl) ?_
  refine ew_get (v := .ref (X 16 (6 * ln + b))) hx hb hts hown hK hV fL_145 e15_4 (cC_15 _ _ _ _) rfl dL_resend_31 ?_
  refine er_calli (va_runV (As := []) (rest := []) ⟨hx, hb, hml, hown, hts⟩ (c_AL_size_16 l D T X L tg _ A (6 * ln + b) (X 16 (6 * ln + b)) e16_5) (cwV 0 hts gL_149 rfl rfl rfl (by decide +kernel) ⟨Nat.le_of_ble_eq_true rfl, Nat.le_of_ble_eq_true rfl⟩) (ec_preV hK hN hV e16_5 (cC_16 _ _ _ _) rfl) rfl rfl hl.1 rfl (lv_room (Nat.le_of_ble_eq_true rfl)) dL_resend_34 ⟨Nat.le_of_ble_eq_true rfl, Nat.le_of_ble_eq_true rfl⟩) hV hS hA (fun r u H locs hp hV hS => ?_)
  obtain ⟨rfl, eu9⟩ := hp
  rw [eu9] at hV
  refine lv_toe (y := nI n) ss ?_
  refine lv_istore (lv' := [(5, .int (nI n)), (4, .int (nI ac)), (3, .ref (X 15 (6 * ln + b))), (0, .ref th), (1, .int (nI b)), (2, .int (nI ln))]) hx hb dL_resend_37 hl (by decide) rfl (fun ls hl => ?_)
  refine lv_iload hx hb dL_resend_39 (lv_at hl 1 rfl) ?_
  refine lv_istore (lv' := [(6, .int (nI ac)), (5, .int (nI n)), (4, .int (nI ac)), (3, .ref (X 15 (6 * ln + b))), (0, .ref th), (1, .int (nI b)), (2, .int (nI ln))]) hx hb dL_resend_41 hl (by decide) rfl (fun ls hl => ?_)
  have loop : ∀ (r i : Nat), i + r = n - ac → ∀ (H : Heap) (locs : List Loc) (ls : Array Slot), ew_V D vwCl (cfC T) (ew_A L s.heap.size) X L tg (z_rs_15 A (6 * ln + b) w ac i) [] H → va_S (ew_A L s.heap.size) s.heap H locs → lv_has ls 7 [(6, .int (nI (ac + i))), (5, .int (nI n)), (4, .int (nI ac)), (3, .ref (X 15 (6 * ln + b))), (0, .ref th), (1, .int (nI b)), (2, .int (nI ln))] → W p l e ({ frames := 3, cells := 0, slots := 0, locals := 64 }) s m ([.ref th, .int (nI b), .int (nI ln)] : List Value).toArray below meth c H locs 0 0 (MQ below (er_Qi D vwCl (cfC T) X L tg s.heap.size (fun r u => r = (z_L_resend_s A b ln nl rq o cap n ac w).1 ∧ u = (z_L_resend_s A b ln nl rq o cap n ac w).2)) ([.ref th, .int (nI b), .int (nI ln)] : List Value).toArray s 0 0 (ew_A L s.heap.size)) (F0 m 43 ls []) := by
    intro r
    induction r with
    | zero =>
      intro i hn H locs ls hV hS hl
      refine lv_iload hx hb dL_resend_43 (lv_at hl 0 rfl) ?_
      refine lv_iload hx hb dL_resend_45 (lv_at hl 1 rfl) ?_
      refine lv_icmp_ge (tgt := 76) hx hb dL_resend_47 rfl (fun _ => ?_) (fun h9 => absurd ((nI_leI (a := n) (b := ac + i) (by omega) (by omega)).mpr (show n ≤ ac + i by omega)) h9)
      refine lv_aload_n hx hb dL_resend_76 rfl (lv_at hl 4 rfl) ?_
      refine ew_get (v := .ref (X 7 0)) hx hb hts hown hK hV fL_28 hth (cC_0 _ _ _ _) rfl dL_resend_77 ?_
      refine lv_aload_n hx hb dL_resend_80 rfl (lv_at hl 3 rfl) ?_
      refine lv_aload_n hx hb dL_resend_81 rfl (lv_at hl 4 rfl) ?_
      refine ew_get (v := .ref (X 18 0)) hx hb hts hown hK hV fL_39 hth (cC_0 _ _ _ _) rfl dL_resend_82 ?_
      refine er_callv (va_runV (As := [.ref (X 15 (6 * ln + b)), .ref (X 18 0)]) (rest := []) ⟨hx, hb, hml, hown, hts⟩ (c_Row_add_15_18 l D T X L tg _ (z_rs_15 A (6 * ln + b) w ac i) (6 * ln + b) 0 (X 7 0) e7_7 (X 15 (6 * ln + b)) e15_4 (X 18 0) e18_9 (min 64 (w + i)) e12_8 (Nat.min_le_left _ _) (z_rs_w_15 _ _ _ _ qw hw i)) (cwV 2 hts gL_159 rfl rfl rfl (by decide +kernel) ⟨Nat.le_of_ble_eq_true rfl, Nat.le_of_ble_eq_true rfl⟩) (ec_preV hK hN hV e7_7 (cC_7 _ _ _ _) rfl) rfl rfl hl.1 rfl (lv_room (Nat.le_of_ble_eq_true rfl)) dL_resend_85 ⟨Nat.le_of_ble_eq_true rfl, Nat.le_of_ble_eq_true rfl⟩) hV hS hA (fun u1 H locs eu1 hV hS => ?_)
      have eu1 : u1 = z_Row_add_15_18 (z_rs_15 A (6 * ln + b) w ac i) (6 * ln + b) 0 (min 64 (w + i)) := eu1
      refine lv_iload hx hb dL_resend_88 (lv_at hl 1 rfl) ?_
      refine lv_iload hx hb dL_resend_90 (lv_at hl 2 rfl) ?_
      refine lv_isub hx hb dL_resend_92 ?_
      refine lv_toe (y := nI (n - ac)) (pk_sub (a := n) (b := ac) (by omega)) ?_
      refine lv_iconst (v := 1) hx hb dL_resend_93 (by decide) ?_
      refine lv_iadd hx hb dL_resend_94 ?_
      refine lv_toe (y := nI ((n - ac) + 1)) (nI_add (n - ac) 1) ?_
      subst eu1
      exact er_iret hx hb hr hlocks hV hS dL_resend_95 ⟨Eq.symm (by unfold z_L_resend_s; rw [show n - ac = i by omega]), Eq.symm (by unfold z_L_resend_s; rw [show n - ac = i by omega])⟩
    | succ r ih =>
      intro i hn H locs ls hV hS hl
      refine lv_iload hx hb dL_resend_43 (lv_at hl 0 rfl) ?_
      refine lv_iload hx hb dL_resend_45 (lv_at hl 1 rfl) ?_
      refine lv_icmp_ge (tgt := 76) hx hb dL_resend_47 rfl (fun h9 => absurd h9 (fun z9 => (show ¬ (n ≤ ac + i) by omega) ((nI_leI (a := n) (b := ac + i) (by omega) (by omega)).mp z9))) (fun _ => ?_)
      refine lv_aload_n hx hb dL_resend_50 rfl (lv_at hl 4 rfl) ?_
      refine ew_get (v := .ref (X 7 0)) hx hb hts hown hK hV fL_28 hth (cC_0 _ _ _ _) rfl dL_resend_51 ?_
      refine lv_aload_n hx hb dL_resend_54 rfl (lv_at hl 3 rfl) ?_
      refine lv_aload_n hx hb dL_resend_55 rfl (lv_at hl 3 rfl) ?_
      refine ew_get (v := .ref (X 16 (6 * ln + b))) hx hb hts hown hK hV fL_145 e15_4 (cC_15 _ _ _ _) rfl dL_resend_56 ?_
      refine lv_iload hx hb dL_resend_59 (lv_at hl 0 rfl) ?_
      refine er_callq (va_runV (As := [.int (nI (ac + i))]) (rest := [.ref (X 15 (6 * ln + b)), .ref (X 7 0)]) ⟨hx, hb, hml, hown, hts⟩ (c_AL_get_16 l D T X L tg _ (z_rs_15 A (6 * ln + b) w ac i) (6 * ln + b) (X 16 (6 * ln + b)) e16_5 (ac + i) o cap n e20_6 (eLt _ (by omega)) ((z_rs_lt_15 _ _ _ _ (by decide) (by decide) _ _ _).trans s1) ho ho2 ((z_rs_lt_15 _ _ _ _ (by decide) (by decide) _ _ _).trans ss) ((z_rs_lt_15 _ _ _ _ (by decide) (by decide) _ _ _).trans sc) ((z_rs_lt_15 _ _ _ _ (by decide) (by decide) _ _ _).trans sf) hnc hcap (by omega)) (cwV 1 hts gL_155 rfl rfl rfl (by decide +kernel) ⟨Nat.le_of_ble_eq_true rfl, Nat.le_of_ble_eq_true rfl⟩) (ec_preV hK hN hV e16_5 (cC_16 _ _ _ _) rfl) rfl rfl hl.1 rfl (lv_room (Nat.le_of_ble_eq_true rfl)) dL_resend_61 ⟨Nat.le_of_ble_eq_true rfl, Nat.le_of_ble_eq_true rfl⟩) hV hS hA (fun r u H locs hp hV hS => ?_)
      obtain ⟨rfl, eu9⟩ := hp
      rw [eu9] at hV
      refine va_castY hx hb hown (hts _ kl_L_32) (hN.at 4 rfl) (ec_recv hK hV (eLt _ (by omega)) (cC_19 _ _ _ _) rfl) dL_resend_64 ?_
      refine er_callv (va_runV (As := [.ref (X 15 (6 * ln + b)), .ref (X 19 (512 * (6 * ln + b) + (ac + i)))]) (rest := []) ⟨hx, hb, hml, hown, hts⟩ (c_Row_add_15_19 l D T X L tg _ (z_rs_15 A (6 * ln + b) w ac i) (6 * ln + b) (512 * (6 * ln + b) + (ac + i)) (X 7 0) e7_7 (X 15 (6 * ln + b)) e15_4 (X 19 (512 * (6 * ln + b) + (ac + i))) (eLt _ (by omega)) (min 64 (w + i)) e12_8 (Nat.min_le_left _ _) (z_rs_w_15 _ _ _ _ qw hw i)) (cwV 2 hts gL_159 rfl rfl rfl (by decide +kernel) ⟨Nat.le_of_ble_eq_true rfl, Nat.le_of_ble_eq_true rfl⟩) (ec_preV hK hN hV e7_7 (cC_7 _ _ _ _) rfl) rfl rfl hl.1 rfl (lv_room (Nat.le_of_ble_eq_true rfl)) dL_resend_67 ⟨Nat.le_of_ble_eq_true rfl, Nat.le_of_ble_eq_true rfl⟩) hV hS hA (fun u2 H locs eu2 hV hS => ?_)
      have eu2 : u2 = z_Row_add_15_19 (z_rs_15 A (6 * ln + b) w ac i) (6 * ln + b) (512 * (6 * ln + b) + (ac + i)) (min 64 (w + i)) := eu2
      refine lv_iinc (k := 0) (v := nI ((ac + i) + 1)) (lv' := [(6, .int (nI ((ac + i) + 1))), (5, .int (nI n)), (4, .int (nI ac)), (3, .ref (X 15 (6 * ln + b))), (0, .ref th), (1, .int (nI b)), (2, .int (nI ln))]) hx hb dL_resend_70 hl rfl (nI_add (ac + i) 1) (by decide) rfl (fun ls hl => ?_)
      refine lv_goto (tgt := 43) hx hb dL_resend_73 rfl ?_
      subst eu2
      exact ih (i + 1) (by omega) H locs ls hV hS hl
  exact loop (n - ac) 0 (by omega) _ _ ls hV hS hl

theorem z_isTitle_1 {b : Nat} (h : b < 8) : z_L_isTitle (nI b) = 1 := by
  unfold z_L_isTitle
  rw [if_neg (nI_pos (by omega)), if_neg (show ¬ (8 : Int32) ≤ nI b from nI_ge (b := 8) h (by decide))]
def z_qu (A : ew_R) (b t : Nat) : Nat → Int32
  | 0 => 0
  | i + 1 => if A 2 i 2 = nI t then (if A 13 i b = 0 then z_qu A b t i else if z_L_waitsAt_d A i b t = 0 then z_qu A b t i else z_qu A b t i + 1) else z_qu A b t i
def z_L_queue_ok (A : ew_R) (b t nl : Nat) : Int32 := z_qu A b t nl
set_option maxHeartbeats 4000000 in
set_option maxRecDepth 100000 in
theorem c_L_queue_ok (l : Launch) (D : va_G) (T : Nat → ClassId) (X : Nat → Nat → Nat) (L : List Nat) (tg : Nat → Nat × Nat) (sz : Nat) (A : ew_R) (th : Nat) (hth : ew_in X L tg 0 0 th) (b : Nat) (t : Nat) (nl : Nat) (e10_0 : ew_in X L tg 10 0 (X 10 0)) (hb6 : b < 6) (ht8 : t < 8) (hn : nl ≤ 32) (qn : A 0 0 6 = nI nl) (qfl : ∀ i, i < nl → ¬ A 10 0 i = 0) (eLo : ∀ i, i < nl → ew_in X L tg 2 i (X 2 i)) (eDs : ∀ i, i < nl → ew_in X L tg 13 i (X 13 i)) (eDl : ∀ i, i < nl → ¬ A 13 i b = 0 → ew_in X L tg 4 (6 * i + b) (X 4 (6 * i + b)) ∧ ew_in X L tg 17 (6 * i + b) (X 17 (6 * i + b))) : Met l yL_queue wsL_queue ({ frames := 3, cells := 0, slots := 0, locals := 64 }) (ec_Pc D vwCl (tysA T) (cfC T) X L tg A sz [.ref th, .int (nI b), .int (nI t)]) (er_Qi D vwCl (cfC T) X L tg sz (fun r u => r = z_L_queue_ok A b t nl ∧ u = A)) 0 0 (ew_A L sz) := by
  refine ec_met (by decide) rfl (Nat.le_of_ble_eq_true rfl) ?_
  intro p e s m below meth c ls hx hb hr hts hown hlocks hml hV hK hN hS hA hl hsz
  subst hsz
  have hl : lv_has ls 5 [(0, .ref th), (1, .int (nI b)), (2, .int (nI t))] := hl
  refine lv_iload_n hx hb dL_queue_0 rfl (lv_at hl 1 rfl) ?_
  refine er_calli (va_runS (As := [.int (nI b)]) (rest := []) ⟨hx, hb, hml, hown, hts⟩ (c_L_isLibrary l D T X L tg _ A (nI b)) (cwS 1 hts gL_43 rfl rfl rfl (by decide +kernel) ⟨Nat.le_of_ble_eq_true rfl, Nat.le_of_ble_eq_true rfl⟩) (ec_preS hK hN hV) rfl rfl hl.1 rfl (lv_room (Nat.le_of_ble_eq_true rfl)) dL_queue_1 ⟨Nat.le_of_ble_eq_true rfl, Nat.le_of_ble_eq_true rfl⟩) hV hS hA (fun r u H locs hp hV hS => ?_)
  obtain ⟨rfl, eu9⟩ := hp
  rw [eu9] at hV
  refine lv_toe (y := 1) (z_isLibrary_1 hb6) ?_
  refine lv_if_eq (tgt := 14) hx hb dL_queue_4 rfl (fun h9 => absurd h9 (by decide)) (fun _ => ?_)
  refine lv_iload_n hx hb dL_queue_7 rfl (lv_at hl 2 rfl) ?_
  refine er_calli (va_runS (As := [.int (nI t)]) (rest := []) ⟨hx, hb, hml, hown, hts⟩ (c_L_isTitle l D T X L tg _ A (nI t)) (cwS 1 hts gL_47 rfl rfl rfl (by decide +kernel) ⟨Nat.le_of_ble_eq_true rfl, Nat.le_of_ble_eq_true rfl⟩) (ec_preS hK hN hV) rfl rfl hl.1 rfl (lv_room (Nat.le_of_ble_eq_true rfl)) dL_queue_8 ⟨Nat.le_of_ble_eq_true rfl, Nat.le_of_ble_eq_true rfl⟩) hV hS hA (fun r u H locs hp hV hS => ?_)
  obtain ⟨rfl, eu9⟩ := hp
  rw [eu9] at hV
  refine lv_toe (y := 1) (z_isTitle_1 ht8) ?_
  refine lv_if_ne (tgt := 16) hx hb dL_queue_11 rfl (fun _ => ?_) (fun h9 => absurd h9 (by decide))
  refine lv_iconst (v := 0) hx hb dL_queue_16 (by decide) ?_
  refine lv_istore_n (lv' := [(3, .int 0), (0, .ref th), (1, .int (nI b)), (2, .int (nI t))]) hx hb dL_queue_17 rfl hl (by decide) rfl (fun ls hl => ?_)
  refine lv_iconst (v := 0) hx hb dL_queue_18 (by decide) ?_
  refine lv_istore (lv' := [(4, .int 0), (3, .int 0), (0, .ref th), (1, .int (nI b)), (2, .int (nI t))]) hx hb dL_queue_19 hl (by decide) rfl (fun ls hl => ?_)
  have loop : ∀ (r i : Nat), i + r = nl → ∀ (H : Heap) (locs : List Loc) (ls : Array Slot), ew_V D vwCl (cfC T) (ew_A L s.heap.size) X L tg A [] H → va_S (ew_A L s.heap.size) s.heap H locs → lv_has ls 5 [(4, .int (nI i)), (3, .int (z_qu A b t i)), (0, .ref th), (1, .int (nI b)), (2, .int (nI t))] → W p l e ({ frames := 3, cells := 0, slots := 0, locals := 64 }) s m ([.ref th, .int (nI b), .int (nI t)] : List Value).toArray below meth c H locs 0 0 (MQ below (er_Qi D vwCl (cfC T) X L tg s.heap.size (fun r u => r = z_L_queue_ok A b t nl ∧ u = A)) ([.ref th, .int (nI b), .int (nI t)] : List Value).toArray s 0 0 (ew_A L s.heap.size)) (F0 m 21 ls []) := by
    intro r
    induction r with
    | zero =>
      intro i hni H locs ls hV hS hl
      refine lv_iload hx hb dL_queue_21 (lv_at hl 0 rfl) ?_
      refine lv_aload_n hx hb dL_queue_23 rfl (lv_at hl 2 rfl) ?_
      refine ew_get (v := .int (A 0 0 6)) hx hb hts hown hK hV fL_71 hth (cC_0 _ _ _ _) rfl dL_queue_24 ?_
      refine lv_toe (y := nI nl) qn ?_
      refine lv_icmp_ge (tgt := 53) hx hb dL_queue_27 rfl (fun _ => ?_) (fun h9 => absurd ((nI_leI (a := nl) (b := i) (by omega) (by omega)).mpr (show nl ≤ i by omega)) h9)
      refine lv_iload_n hx hb dL_queue_53 rfl (lv_at hl 1 rfl) ?_
      exact er_iret hx hb hr hlocks hV hS dL_queue_54 ⟨Eq.symm (by unfold z_L_queue_ok; rw [show nl = i by omega]), rfl⟩
    | succ r ih =>
      intro i hni H locs ls hV hS hl
      refine lv_iload hx hb dL_queue_21 (lv_at hl 0 rfl) ?_
      refine lv_aload_n hx hb dL_queue_23 rfl (lv_at hl 2 rfl) ?_
      refine ew_get (v := .int (A 0 0 6)) hx hb hts hown hK hV fL_71 hth (cC_0 _ _ _ _) rfl dL_queue_24 ?_
      refine lv_toe (y := nI nl) qn ?_
      refine lv_icmp_ge (tgt := 53) hx hb dL_queue_27 rfl (fun h9 => absurd h9 (fun z9 => (show ¬ (nl ≤ i) by omega) ((nI_leI (a := nl) (b := i) (by omega) (by omega)).mp z9))) (fun _ => ?_)
      refine lv_iload_n hx hb dL_queue_30 rfl (lv_at hl 3 rfl) ?_
      refine lv_iload_n hx hb dL_queue_31 rfl (lv_at hl 4 rfl) ?_
      refine lv_aload_n hx hb dL_queue_32 rfl (lv_at hl 2 rfl) ?_
      refine lv_iload hx hb dL_queue_33 (lv_at hl 0 rfl) ?_
      refine er_callq (va_runV (As := [.int (nI i)]) (rest := [.int (nI t), .int (nI b)]) ⟨hx, hb, hml, hown, hts⟩ (c_L_loanAt_ok l D T X L tg _ A th hth i nl e10_0 (eLo i (by omega)) hn qn (by omega) (qfl i (by omega))) (cwV 1 hts gL_88 rfl rfl rfl (by decide +kernel) ⟨Nat.le_of_ble_eq_true rfl, Nat.le_of_ble_eq_true rfl⟩) (ec_preV hK hN hV hth (cC_0 _ _ _ _) rfl) rfl rfl hl.1 rfl (lv_room (Nat.le_of_ble_eq_true rfl)) dL_queue_35 ⟨Nat.le_of_ble_eq_true rfl, Nat.le_of_ble_eq_true rfl⟩) hV hS hA (fun r u H locs hp hV hS => ?_)
      obtain ⟨rfl, eu9⟩ := hp
      rw [eu9] at hV
      by_cases h1 : A 2 i 2 = nI t
      · by_cases h2 : A 13 i b = 0
        · refine er_calli (va_runS (As := [.int (nI b), .int (nI t), .ref (X 2 i)]) (rest := []) ⟨hx, hb, hml, hown, hts⟩ (c_L_waitsAt_n l D T X L tg _ A i b t (X 2 i) (eLo i (by omega)) (eDs i (by omega)) h1 hb6 h2) (cwS 3 hts gL_229 rfl rfl rfl (by decide +kernel) ⟨Nat.le_of_ble_eq_true rfl, Nat.le_of_ble_eq_true rfl⟩) (ec_preS hK hN hV) rfl rfl hl.1 rfl (lv_room (Nat.le_of_ble_eq_true rfl)) dL_queue_38 ⟨Nat.le_of_ble_eq_true rfl, Nat.le_of_ble_eq_true rfl⟩) hV hS hA (fun r u H locs hp hV hS => ?_)
          obtain ⟨rfl, eu9⟩ := hp
          rw [eu9] at hV
          refine lv_if_eq (tgt := 47) hx hb dL_queue_41 rfl (fun _ => ?_) (fun h9 => absurd (by decide) h9)
          refine lv_iinc (k := 0) (v := nI (i + 1)) (lv' := [(4, .int (nI (i + 1))), (3, .int (z_qu A b t i)), (0, .ref th), (1, .int (nI b)), (2, .int (nI t))]) hx hb dL_queue_47 hl rfl (nI_add i 1) (by decide) rfl (fun ls hl => ?_)
          refine lv_goto (tgt := 21) hx hb dL_queue_50 rfl ?_
          have eq9 : z_qu A b t i = z_qu A b t (i + 1) := Eq.symm (by show (if A 2 i 2 = nI t then _ else _) = _; rw [if_pos h1, if_pos h2])
          rw [eq9] at hl
          exact ih (i + 1) (by omega) _ _ ls hV hS (lv_sub hl [0, 1, 2, 3, 4] rfl)
        · refine er_calli (va_runS (As := [.int (nI b), .int (nI t), .ref (X 2 i)]) (rest := []) ⟨hx, hb, hml, hown, hts⟩ (c_L_waitsAt_d l D T X L tg _ A i b t (X 2 i) (eLo i (by omega)) (eDs i (by omega)) (eDl i (by omega) (by assumption)).1 (eDl i (by omega) (by assumption)).2 h1 hb6 h2) (cwS 3 hts gL_229 rfl rfl rfl (by decide +kernel) ⟨Nat.le_of_ble_eq_true rfl, Nat.le_of_ble_eq_true rfl⟩) (ec_preS hK hN hV) rfl rfl hl.1 rfl (lv_room (Nat.le_of_ble_eq_true rfl)) dL_queue_38 ⟨Nat.le_of_ble_eq_true rfl, Nat.le_of_ble_eq_true rfl⟩) hV hS hA (fun r u H locs hp hV hS => ?_)
          obtain ⟨rfl, eu9⟩ := hp
          rw [eu9] at hV
          refine lv_if_eq (tgt := 47) hx hb dL_queue_41 rfl (fun h3 => ?_) (fun h3 => ?_)
          · refine lv_iinc (k := 0) (v := nI (i + 1)) (lv' := [(4, .int (nI (i + 1))), (3, .int (z_qu A b t i)), (0, .ref th), (1, .int (nI b)), (2, .int (nI t))]) hx hb dL_queue_47 hl rfl (nI_add i 1) (by decide) rfl (fun ls hl => ?_)
            refine lv_goto (tgt := 21) hx hb dL_queue_50 rfl ?_
            have eq9 : z_qu A b t i = z_qu A b t (i + 1) := Eq.symm (by show (if A 2 i 2 = nI t then _ else _) = _; rw [if_pos h1, if_neg h2, if_pos h3])
            rw [eq9] at hl
            exact ih (i + 1) (by omega) _ _ ls hV hS (lv_sub hl [0, 1, 2, 3, 4] rfl)
          · refine lv_iinc (k := 1) (v := (z_qu A b t i) + 1) (lv' := [(3, .int ((z_qu A b t i) + 1)), (4, .int (nI i)), (0, .ref th), (1, .int (nI b)), (2, .int (nI t))]) hx hb dL_queue_44 hl rfl rfl (by decide) rfl (fun ls hl => ?_)
            refine lv_iinc (k := 1) (v := nI (i + 1)) (lv' := [(4, .int (nI (i + 1))), (3, .int ((z_qu A b t i) + 1)), (0, .ref th), (1, .int (nI b)), (2, .int (nI t))]) hx hb dL_queue_47 hl rfl (nI_add i 1) (by decide) rfl (fun ls hl => ?_)
            refine lv_goto (tgt := 21) hx hb dL_queue_50 rfl ?_
            have eq9 : (z_qu A b t i) + 1 = z_qu A b t (i + 1) := Eq.symm (by show (if A 2 i 2 = nI t then _ else _) = _; rw [if_pos h1, if_neg h2, if_neg h3])
            rw [eq9] at hl
            exact ih (i + 1) (by omega) _ _ ls hV hS (lv_sub hl [0, 1, 2, 3, 4] rfl)
      · refine er_calli (va_runS (As := [.int (nI b), .int (nI t), .ref (X 2 i)]) (rest := []) ⟨hx, hb, hml, hown, hts⟩ (c_L_waitsAt_t l D T X L tg _ A i b t (X 2 i) (eLo i (by omega)) h1) (cwS 3 hts gL_229 rfl rfl rfl (by decide +kernel) ⟨Nat.le_of_ble_eq_true rfl, Nat.le_of_ble_eq_true rfl⟩) (ec_preS hK hN hV) rfl rfl hl.1 rfl (lv_room (Nat.le_of_ble_eq_true rfl)) dL_queue_38 ⟨Nat.le_of_ble_eq_true rfl, Nat.le_of_ble_eq_true rfl⟩) hV hS hA (fun r u H locs hp hV hS => ?_)
        obtain ⟨rfl, eu9⟩ := hp
        rw [eu9] at hV
        refine lv_if_eq (tgt := 47) hx hb dL_queue_41 rfl (fun _ => ?_) (fun h9 => absurd (by decide) h9)
        refine lv_iinc (k := 0) (v := nI (i + 1)) (lv' := [(4, .int (nI (i + 1))), (3, .int (z_qu A b t i)), (0, .ref th), (1, .int (nI b)), (2, .int (nI t))]) hx hb dL_queue_47 hl rfl (nI_add i 1) (by decide) rfl (fun ls hl => ?_)
        refine lv_goto (tgt := 21) hx hb dL_queue_50 rfl ?_
        have eq9 : z_qu A b t i = z_qu A b t (i + 1) := Eq.symm (by show (if A 2 i 2 = nI t then _ else _) = _; rw [if_neg h1])
        rw [eq9] at hl
        exact ih (i + 1) (by omega) _ _ ls hV hS (lv_sub hl [0, 1, 2, 3, 4] rfl)
  exact loop nl 0 (by omega) _ _ ls hV hS hl

set_option maxHeartbeats 4000000 in
set_option maxRecDepth 100000 in
theorem c_L_queue_bl (l : Launch) (D : va_G) (T : Nat → ClassId) (X : Nat → Nat → Nat) (L : List Nat) (tg : Nat → Nat × Nat) (sz : Nat) (A : ew_R) (th : Nat) (hth : ew_in X L tg 0 0 th) (b : Int32) (t : Int32) (hnb : z_L_isLibrary b = 0) : Met l yL_queue wsL_queue ({ frames := 3, cells := 0, slots := 0, locals := 64 }) (ec_Pc D vwCl (tysA T) (cfC T) X L tg A sz [.ref th, .int b, .int t]) (er_Qi D vwCl (cfC T) X L tg sz (fun r u => r = (-1) ∧ u = A)) 0 0 (ew_A L sz) := by
  refine ec_met (by decide) rfl (Nat.le_of_ble_eq_true rfl) ?_
  intro p e s m below meth c ls hx hb hr hts hown hlocks hml hV hK hN hS hA hl hsz
  subst hsz
  have hl : lv_has ls 5 [(0, .ref th), (1, .int b), (2, .int t)] := hl
  refine lv_iload_n hx hb dL_queue_0 rfl (lv_at hl 1 rfl) ?_
  refine er_calli (va_runS (As := [.int b]) (rest := []) ⟨hx, hb, hml, hown, hts⟩ (c_L_isLibrary l D T X L tg _ A b) (cwS 1 hts gL_43 rfl rfl rfl (by decide +kernel) ⟨Nat.le_of_ble_eq_true rfl, Nat.le_of_ble_eq_true rfl⟩) (ec_preS hK hN hV) rfl rfl hl.1 rfl (lv_room (Nat.le_of_ble_eq_true rfl)) dL_queue_1 ⟨Nat.le_of_ble_eq_true rfl, Nat.le_of_ble_eq_true rfl⟩) hV hS hA (fun r u H locs hp hV hS => ?_)
  obtain ⟨rfl, eu9⟩ := hp
  rw [eu9] at hV
  refine lv_toe (y := 0) hnb ?_
  refine lv_if_eq (tgt := 14) hx hb dL_queue_4 rfl (fun _ => ?_) (fun h9 => absurd (by decide) h9)
  refine lv_iconst (v := (-1)) hx hb dL_queue_14 (by decide) ?_
  exact er_iret hx hb hr hlocks hV hS dL_queue_15 ⟨rfl, rfl⟩

set_option maxHeartbeats 4000000 in
set_option maxRecDepth 100000 in
theorem c_L_queue_bt (l : Launch) (D : va_G) (T : Nat → ClassId) (X : Nat → Nat → Nat) (L : List Nat) (tg : Nat → Nat × Nat) (sz : Nat) (A : ew_R) (th : Nat) (hth : ew_in X L tg 0 0 th) (b : Nat) (t : Int32) (hb6 : b < 6) (hnt : z_L_isTitle t = 0) : Met l yL_queue wsL_queue ({ frames := 3, cells := 0, slots := 0, locals := 64 }) (ec_Pc D vwCl (tysA T) (cfC T) X L tg A sz [.ref th, .int (nI b), .int t]) (er_Qi D vwCl (cfC T) X L tg sz (fun r u => r = (-1) ∧ u = A)) 0 0 (ew_A L sz) := by
  refine ec_met (by decide) rfl (Nat.le_of_ble_eq_true rfl) ?_
  intro p e s m below meth c ls hx hb hr hts hown hlocks hml hV hK hN hS hA hl hsz
  subst hsz
  have hl : lv_has ls 5 [(0, .ref th), (1, .int (nI b)), (2, .int t)] := hl
  refine lv_iload_n hx hb dL_queue_0 rfl (lv_at hl 1 rfl) ?_
  refine er_calli (va_runS (As := [.int (nI b)]) (rest := []) ⟨hx, hb, hml, hown, hts⟩ (c_L_isLibrary l D T X L tg _ A (nI b)) (cwS 1 hts gL_43 rfl rfl rfl (by decide +kernel) ⟨Nat.le_of_ble_eq_true rfl, Nat.le_of_ble_eq_true rfl⟩) (ec_preS hK hN hV) rfl rfl hl.1 rfl (lv_room (Nat.le_of_ble_eq_true rfl)) dL_queue_1 ⟨Nat.le_of_ble_eq_true rfl, Nat.le_of_ble_eq_true rfl⟩) hV hS hA (fun r u H locs hp hV hS => ?_)
  obtain ⟨rfl, eu9⟩ := hp
  rw [eu9] at hV
  refine lv_toe (y := 1) (z_isLibrary_1 hb6) ?_
  refine lv_if_eq (tgt := 14) hx hb dL_queue_4 rfl (fun h9 => absurd h9 (by decide)) (fun _ => ?_)
  refine lv_iload_n hx hb dL_queue_7 rfl (lv_at hl 2 rfl) ?_
  refine er_calli (va_runS (As := [.int t]) (rest := []) ⟨hx, hb, hml, hown, hts⟩ (c_L_isTitle l D T X L tg _ A t) (cwS 1 hts gL_47 rfl rfl rfl (by decide +kernel) ⟨Nat.le_of_ble_eq_true rfl, Nat.le_of_ble_eq_true rfl⟩) (ec_preS hK hN hV) rfl rfl hl.1 rfl (lv_room (Nat.le_of_ble_eq_true rfl)) dL_queue_8 ⟨Nat.le_of_ble_eq_true rfl, Nat.le_of_ble_eq_true rfl⟩) hV hS hA (fun r u H locs hp hV hS => ?_)
  obtain ⟨rfl, eu9⟩ := hp
  rw [eu9] at hV
  refine lv_toe (y := 0) hnt ?_
  refine lv_if_ne (tgt := 16) hx hb dL_queue_11 rfl (fun h9 => absurd (by decide) h9) (fun _ => ?_)
  refine lv_iconst (v := (-1)) hx hb dL_queue_14 (by decide) ?_
  exact er_iret hx hb hr hlocks hV hS dL_queue_15 ⟨rfl, rfl⟩
