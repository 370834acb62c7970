theorem Sim.get5 {A B : ew_R} {q d k : Nat} {t0 : Nat × Nat} {X : Nat → Nat → Nat} {L : List Nat} {tg : Nat → Nat × Nat} (S : Sim A B q) (W : WI t0 X L tg A) (hd : ¬ B 22 0 d = 0) (hk : k < p_n B (2 * d)) : ∃ o cap, ew_in X L tg 14 o (X 14 o) ∧ ew_in X L tg 6 (512 * d + k) (X 6 (512 * d + k)) ∧ A 8 d 1 = nI o ∧ o / 64 = d ∧ o < 2 ^ 20 ∧ A 8 d 2 = nI (p_n B (2 * d)) ∧ A 14 o 1000 = nI cap ∧ A 14 o 1001 = nI (p_n B (2 * d)) ∧ p_n B (2 * d) ≤ cap ∧ cap ≤ 1000 := by
  obtain ⟨g, hg⟩ := S.R.G.1 d hd
  have h192 := S.d192 hd
  have hn := S.n8 d
  obtain ⟨g11, ncap, q1, q2, -, qg⟩ := W.ls5 (S.th.mpr hd) h192 hn hg
  have g1 : 1 ≤ g := by
    rcases Nat.eq_zero_or_pos g with h | h
    · rw [h] at ncap; simp [capG] at ncap; omega
    · exact h
  obtain ⟨c1, c2, c3⟩ := qg g1
  have hb := capG_bd g g11 g1
  exact ⟨64 * d + g, capG g, c3, W.inn (S.lv6 hd hk), q1, by omega, by omega, hn, c1, c2, ncap, by omega⟩
theorem Sim.get15 {A B : ew_R} {q d k : Nat} {t0 : Nat × Nat} {X : Nat → Nat → Nat} {L : List Nat} {tg : Nat → Nat × Nat} (S : Sim A B q) (W : WI t0 X L tg A) (hd : ¬ B 22 0 d = 0) (hk : k < p_n B (2 * d + 1)) : ∃ o cap, ew_in X L tg 20 o (X 20 o) ∧ ew_in X L tg 19 (512 * d + k) (X 19 (512 * d + k)) ∧ A 16 d 1 = nI o ∧ o / 64 = d ∧ o < 2 ^ 20 ∧ A 16 d 2 = nI (p_n B (2 * d + 1)) ∧ A 20 o 1000 = nI cap ∧ A 20 o 1001 = nI (p_n B (2 * d + 1)) ∧ p_n B (2 * d + 1) ≤ cap ∧ cap ≤ 1000 := by
  obtain ⟨g, hg⟩ := S.R.G.2 d hd
  have h192 := S.d192 hd
  have hn := S.n16 d
  obtain ⟨g11, ncap, q1, q2, -, qg⟩ := W.ls15 (S.th.mpr hd) h192 hn hg
  have g1 : 1 ≤ g := by
    rcases Nat.eq_zero_or_pos g with h | h
    · rw [h] at ncap; simp [capG] at ncap; omega
    · exact h
  obtain ⟨c1, c2, c3⟩ := qg g1
  have hb := capG_bd g g11 g1
  exact ⟨64 * d + g, capG g, c3, W.inn (S.lv19 hd hk), q1, by omega, by omega, hn, c1, c2, ncap, by omega⟩
theorem Sim.told {A B : ew_R} {q i k : Nat} (S : Sim A B q) (hi : i < wtB B) (hk : k < 7) : A 12 0 (i * 7 + k) = p_let B (B 37 0 i) (B 38 0 i) (B 39 0 i) k := by
  rw [Nat.mul_comm i 7]; exact S.R.R i hi k hk
theorem s_cpre_e_oth (B : ew_R) (i w ln b : Nat) {c : Nat} (h : c ∉ [0, 31, 36]) : s_cpre_e B i w ln b c = B c := by
  simp only [List.mem_cons, List.not_mem_nil, or_false, not_or] at h
  unfold s_cpre_e
  repeat' split
  all_goals first | rw [p_kd_up _ _ _ _ h.1] | rw [p_kd_up _ _ _ _ h.2.2, p_kd_up _ _ _ _ h.1] | rw [p_kd_up _ _ _ _ h.2.1, p_kd_up _ _ _ _ h.1] | rw [p_kd_up _ _ _ _ h.2.2, p_kd_up _ _ _ _ h.2.1, p_kd_up _ _ _ _ h.1]
theorem s_cpre_o_oth (B : ew_R) (i w ln b : Nat) {c : Nat} (h : c ∉ [0, 31, 36]) : s_cpre_o B i w ln b c = B c := by
  simp only [List.mem_cons, List.not_mem_nil, or_false, not_or] at h
  unfold s_cpre_o
  repeat' split
  all_goals first | rw [p_kd_up _ _ _ _ h.1] | rw [p_kd_up _ _ _ _ h.2.2, p_kd_up _ _ _ _ h.1] | rw [p_kd_up _ _ _ _ h.2.1, p_kd_up _ _ _ _ h.1] | rw [p_kd_up _ _ _ _ h.2.2, p_kd_up _ _ _ _ h.2.1, p_kd_up _ _ _ _ h.1]
theorem mx_nI {a b : Nat} (ha : a < 2 ^ 31) (hb : b < 2 ^ 31) : (if nI a < nI b then nI b else nI a) = nI (max a b) := by
  by_cases h : a < b
  · rw [if_pos ((nI_ltI ha hb).mpr h), Nat.max_eq_right (by omega)]
  · rw [if_neg (fun z => h ((nI_ltI ha hb).mp z)), Nat.max_eq_left (by omega)]
set_option maxHeartbeats 4000000 in
set_option maxRecDepth 100000 in
theorem cx_carry_e (l : Launch) (D : va_G) (T : Nat → ClassId) (t0 : Nat × Nat) (X : Nat → Nat → Nat) (L : List Nat) (tg : Nat → Nat × Nat) (sz : Nat) (A : ew_R) {B : ew_R} {q ln b i v f0 : Nat} (hq : q < 512) (S : Sim A B q) (W0 : WI t0 X L tg A) (th : Nat) (hth : ew_in X L tg 0 0 th) (hi : i < wtB B) (hd : ¬ B 22 0 (6 * ln + b) = 0) (hb6 : b < 6) (q38 : B 38 0 i = nI (2 * (6 * ln + b))) (h39 : B 39 0 i = nI v) (hv : v ≤ p_s B (2 * (6 * ln + b))) (h37 : B 37 0 i = (-1) ∨ ∃ j, B 37 0 i = nI j ∧ j < lgB B ∧ B 32 0 j = nI (2 * (6 * ln + b))) (hf0 : p_n B (2 * (6 * ln + b)) ≤ f0) :
    Met l yL_carry wsL_carry ({ frames := 13, cells := 2, slots := 1004, locals := 420 }) (em_Pc D vwCl (tysA T) (cfC T) t0 X L tg A sz [.ref th, .int (nI i)]) (em_Qi D vwCl (cfC T) L sz (fun r u => r = (s_carry_e B i (wtB B) ln b f0).1 ∧ Sim u.2.2.2 (s_carry_e B i (wtB B) ln b f0).2 (q + 1) ∧ PW t0 X L tg u)) 2 1004 (ew_A L sz) := by
  have hl : ln < p_l B := by have := S.d6 hd; omega
  have l32 := S.I.S.2.1
  have h192 := S.d192 hd
  have q512 := S.q512
  have hwt := S.I.S.2.2.2.1
  obtain ⟨⟨e11, q6⟩, ⟨e14, t6⟩, ⟨e15, x7⟩, -, -, h22⟩ := S.I.L.1 ln hl
  have nbr : ¬ b = p_q B ln := fun z => by
    have h := h22 ((b + 6 - p_t B ln) % 6) (Nat.mod_lt _ (by decide))
    rw [show (p_t B ln + (b + 6 - p_t B ln) % 6) % 6 = b by omega, if_neg (fun y => y.2 z)] at h
    exact hd h
  have hn1 := S.nle (2 * (6 * ln + b))
  have hn2 := S.nle (2 * (6 * ln + b) + 1)
  have hsn := S.I.E.2.2.2.1 (6 * ln + b)
  have has := S.I.E.2.2.2.2.1 (6 * ln + b)
  have i7 := W0.inn (Sim.lv0 (A := A) (kd := 7) (by simp))
  have i12 := W0.inn (Sim.lv0 (A := A) (kd := 12) (by simp))
  have i10 := W0.inn (Sim.lv0 (A := A) (kd := 10) (by simp))
  have i2 := W0.inn (S.lv2 hl (kd := 2) (by simp))
  have i13 := W0.inn (S.lv2 hl (kd := 13) (by simp))
  have i4 := W0.inn (S.lv4 hd (kd := 4) (by simp))
  have iG := W0.inn (S.lv4 hd (kd := 15) (by simp))
  have iS := W0.inn (S.lv4 hd (kd := 5) (by simp))
  have iL := W0.inn (S.lv4 hd (kd := 8) (by simp))
  have qw : A 7 0 1 = nI (wtB B) := S.R.C.w.trans hwt.1
  have qnl : A 0 0 6 = nI (p_l B) := S.R.C.nl.trans l32.1
  have qfl : ¬ A 10 0 ln = 0 := fun z => absurd ((S.R.D.2.2.2 ln (by omega)).mp z) (by omega)
  have qfd : ¬ A 13 ln b = 0 := by rw [S.R.C.th ln b hb6]; exact hd
  have qrq : A 2 ln 1 = nI (p_q B ln) := (congrFun S.R.C.l1 ln).trans e11
  have y38 : (B 38 0 i).toNatClampNeg = (2 * (6 * ln + b)) := by rw [q38, nI_clamp (by omega)]
  have T0 : A 12 0 (i * 7 + 0) = nI ln := by rw [S.told hi (by decide)]; unfold p_let; rw [if_pos rfl, y38]; congr 1; omega
  have T1 : A 12 0 (i * 7 + 1) = nI (p_q B ln) := by rw [S.told hi (by decide)]; unfold p_let; rw [if_neg (by decide), if_pos rfl, y38]; rw [if_pos (by omega), show 2 * (6 * ln + b) / 12 = ln by omega]; exact e11
  have T2 : A 12 0 (i * 7 + 2) = nI b := by rw [S.told hi (by decide)]; unfold p_let; rw [if_neg (by decide), if_neg (by decide), if_pos rfl, y38]; rw [if_pos (by omega)]; congr 1; omega
  have T4 : A 12 0 (i * 7 + 4) = nI v := by rw [S.told hi (by decide)]; unfold p_let; rw [if_neg (by decide), if_neg (by decide), if_neg (by decide), if_neg (by decide), if_pos rfl]; exact h39
  have qa : A 15 (6 * ln + b) 5 = nI (p_a B (2 * (6 * ln + b) + 1)) := (congrFun S.R.E.2.2.2.2.1 (6 * ln + b)).trans (S.I.E.2.2.1 (2 * (6 * ln + b) + 1))
  obtain ⟨preB, preL⟩ := S.pre_e (w := wtB B) (i := i) hd rfl h39 hv
  refine em_met (by decide) rfl (Nat.le_of_ble_eq_true rfl) ?_
  intro p e s m below meth c ls hx hb hr hts hown hlocks hml hnm hV hK hN hZ hS hA hl9 hsz
  subst hsz
  have hl9 : lv_has ls 10 [(0, .ref th), (1, .int (nI i))] := hl9
  have fin : ∀ (k0 n : Nat) (X1 : Nat → Nat → Nat) (L1 : List Nat) (tg1 : Nat → Nat × Nat) (A1 B1 : ew_R) (mm k : Nat) (H : Heap) (locs : List Loc) (ls : Array Slot), IvE q (6 * ln + b) mm A1 B1 → WI t0 X1 L1 tg1 A1 → (∀ c i a, ew_in X L tg c i a → ew_in X1 L1 tg1 c i a) → p_s B1 (2 * (6 * ln + b) + 1) = k → k0 ≤ k → k ≤ 512 → nI (k - k0) = (s_carry_e B i (wtB B) ln b f0).1 → B1 = (s_carry_e B i (wtB B) ln b f0).2 → ew_V D vwCl (cfC T) (ew_A L s.heap.size) X1 L1 tg1 A1 [] H → va_S (ew_A L s.heap.size) s.heap H locs → lv_has ls 10 [(9, .int (nI k)), (8, .int (nI n)), (7, .int (nI k0)), (6, .ref (X 5 (6 * ln + b))), (5, .ref (X 15 (6 * ln + b))), (4, .ref (X 4 (6 * ln + b))), (3, .int 0), (2, .ref (X 2 ln)), (0, .ref th), (1, .int (nI i))] → W p l e ({ frames := 13, cells := 2, slots := 1004, locals := 420 }) s m ([.ref th, .int (nI i)] : List Value).toArray below meth c H locs (2 * mm) (1004 * mm) (MQ below (em_Qi D vwCl (cfC T) L s.heap.size (fun r u => r = (s_carry_e B i (wtB B) ln b f0).1 ∧ Sim u.2.2.2 (s_carry_e B i (wtB B) ln b f0).2 (q + 1) ∧ PW t0 X L tg u)) ([.ref th, .int (nI i)] : List Value).toArray s 2 1004 (ew_A L s.heap.size)) (F0 m 256 ls []) := by
    intro k0 n X1 L1 tg1 A1 B1 mm k H locs ls hI hW1 hpr hps hk0 hk5 hr1 hr2 hV hS hl
    obtain ⟨q', hq', S1⟩ := hI.sim
    have hm : mm ≤ 1 := by rcases hI with ⟨h, _⟩ | ⟨h, _⟩ <;> omega
    have sn : A1 15 (6 * ln + b) 4 = nI k := by
      have h1 := (congrFun S1.R.E.2.2.2.1 (6 * ln + b)).trans (S1.I.E.2.1 (2 * (6 * ln + b) + 1))
      rw [hps] at h1; exact h1
    refine lv_aload hx hb dL_carry_256 (lv_at hl 4 rfl) ?_
    refine ew_get (v := .int (A1 15 (6 * ln + b) 4)) hx hb hts hown hK hV fL_185 (hpr _ _ _ iG) (cC_15 _ _ _ _) rfl dL_carry_258 ?_
    refine lv_toe (y := nI k) sn ?_
    refine lv_iload hx hb dL_carry_261 (lv_at hl 2 rfl) ?_
    refine lv_isub hx hb dL_carry_263 ?_
    refine lv_toe (y := nI (k - k0)) (pk_sub (a := k) (b := k0) hk0) ?_
    refine W.widen (k := 2) (n := 1004) (by omega) (by omega) ?_
    refine em_iret hx hb hr hlocks hV hS dL_carry_264 ⟨hr1, ?_, hW1, hpr⟩
    show Sim A1 _ (q + 1)
    rw [← hr2]
    rcases hI with ⟨_, h⟩ | ⟨_, h, _⟩
    · exact h.mono hq
    · exact h
  have loop : ∀ (k0 n f : Nat) (X1 : Nat → Nat → Nat) (L1 : List Nat) (tg1 : Nat → Nat × Nat) (A1 B1 : ew_R) (mm k : Nat) (H : Heap) (locs : List Loc) (ls : Array Slot), IvE q (6 * ln + b) mm A1 B1 → WI t0 X1 L1 tg1 A1 → (∀ c i a, ew_in X L tg c i a → ew_in X1 L1 tg1 c i a) → ¬ B1 22 0 (6 * ln + b) = 0 → p_n B1 (2 * (6 * ln + b)) = n → p_s B1 (2 * (6 * ln + b) + 1) = k → k0 ≤ k → n ≤ k + f → (s_cl_e ln b f B1).1 + nI (k - k0) = (s_carry_e B i (wtB B) ln b f0).1 → (s_cl_e ln b f B1).2 = (s_carry_e B i (wtB B) ln b f0).2 → ew_V D vwCl (cfC T) (ew_A L s.heap.size) X1 L1 tg1 A1 [] H → va_S (ew_A L s.heap.size) s.heap H locs → lv_has ls 10 [(9, .int (nI k)), (8, .int (nI n)), (7, .int (nI k0)), (6, .ref (X 5 (6 * ln + b))), (5, .ref (X 15 (6 * ln + b))), (4, .ref (X 4 (6 * ln + b))), (3, .int 0), (2, .ref (X 2 ln)), (0, .ref th), (1, .int (nI i))] → W p l e ({ frames := 13, cells := 2, slots := 1004, locals := 420 }) s m ([.ref th, .int (nI i)] : List Value).toArray below meth c H locs (2 * mm) (1004 * mm) (MQ below (em_Qi D vwCl (cfC T) L s.heap.size (fun r u => r = (s_carry_e B i (wtB B) ln b f0).1 ∧ Sim u.2.2.2 (s_carry_e B i (wtB B) ln b f0).2 (q + 1) ∧ PW t0 X L tg u)) ([.ref th, .int (nI i)] : List Value).toArray s 2 1004 (ew_A L s.heap.size)) (F0 m 167 ls []) := by
    intro k0 n f
    induction f with
    | zero =>
      intro X1 L1 tg1 A1 B1 mm k H locs ls hI hW1 hpr hd1 hpn hps hk0 hnf hr1 hr2 hV hS hl
      obtain ⟨q', hq', S1⟩ := hI.sim
      have hn9 := S1.nle (2 * (6 * ln + b))
      have hs9 := S1.I.E.2.2.2.1 (6 * ln + b)
      have hk5 : k ≤ 512 := by have := S1.q512; omega
      refine lv_iload hx hb dL_carry_167 (lv_at hl 0 rfl) ?_
      refine lv_iload hx hb dL_carry_169 (lv_at hl 1 rfl) ?_
      refine lv_icmp_ge (tgt := 256) hx hb dL_carry_171 rfl (fun _ => ?_) (fun h9 => absurd ((nI_leI (a := n) (b := k) (by omega) (by omega)).mpr (show n ≤ k by omega)) h9)
      exact fin k0 n X1 L1 tg1 A1 B1 mm k H locs ls hI hW1 hpr hps hk0 hk5 (by rw [← hr1]; show nI (k - k0) = 0 + nI (k - k0); rw [Int32.zero_add]) hr2 hV hS hl
    | succ f ih =>
      intro X1 L1 tg1 A1 B1 mm k H locs ls hI hW1 hpr hd1 hpn hps hk0 hnf hr1 hr2 hV hS hl
      obtain ⟨q', hq', S1⟩ := hI.sim
      have hn9 := S1.nle (2 * (6 * ln + b))
      have hs9 := S1.I.E.2.2.2.1 (6 * ln + b)
      have hk5 : k ≤ 512 := by have := S1.q512; omega
      have hm : mm ≤ 1 := by rcases hI with ⟨h, _⟩ | ⟨h, _⟩ <;> omega
      have hfc : 2 * mm + 0 ≤ 2 ∧ 1004 * mm + 0 ≤ 1004 := by omega
      rw [s_cl_e_s] at hr1 hr2
      refine lv_iload hx hb dL_carry_167 (lv_at hl 0 rfl) ?_
      refine lv_iload hx hb dL_carry_169 (lv_at hl 1 rfl) ?_
      refine lv_icmp_ge (tgt := 256) hx hb dL_carry_171 rfl (fun h9 => ?_) (fun h9 => ?_)
      · have hnk := (nI_leI (a := n) (b := k) (by omega) (by omega)).mp h9
        have hx9 := (S1.hd_e hd1).1 (by omega)
        rw [if_pos hx9] at hr1 hr2
        exact fin k0 n X1 L1 tg1 A1 B1 mm k H locs ls hI hW1 hpr hps hk0 hk5 (by rw [← hr1]; show nI (k - k0) = 0 + nI (k - k0); rw [Int32.zero_add]) hr2 hV hS hl
      have hkn : k < n := by
        rcases Nat.lt_or_ge k n with h | h
        · exact h
        · exact absurd ((nI_leI (a := n) (b := k) (by omega) (by omega)).mpr h) h9
      have hsk : p_s B1 (2 * (6 * ln + b) + 1) < p_n B1 (2 * (6 * ln + b)) := by omega
      obtain ⟨j, hj, hxj, j32, j33, a1, a2, a3⟩ := (S1.hd_e hd1).2 hsk
      have hlg := S1.I.S.2.2.2.2.2
      have hx1 : ¬ nxB B1 (2 * (6 * ln + b)) (2 * (6 * ln + b) + 1) = (-1) := by rw [hxj]; exact nI_m1 (by omega)
      have hxc : (nxB B1 (2 * (6 * ln + b)) (2 * (6 * ln + b) + 1)).toNatClampNeg = j := by rw [hxj, nI_clamp (by omega)]
      rw [if_neg hx1, hxc] at hr1 hr2
      obtain ⟨o, cap, g14, g6, g1, g2, g3, g4, g5, g7, g8, g9⟩ := S1.get5 (k := k) hW1 hd1 (by omega)
      rw [hpn] at g4 g7 g8
      rw [hps] at a1 a2 a3
      have p0 := hpr _ _ _ hth
      have p2 := hpr _ _ _ i2
      have p4 := hpr _ _ _ i4
      have pG := hpr _ _ _ iG
      have pS := hpr _ _ _ iS
      have pL := hpr _ _ _ iL
      refine lv_aload hx hb dL_carry_174 (lv_at hl 3 rfl) ?_
      refine ew_get (v := .ref (X 8 (6 * ln + b))) hx hb hts hown hK hV fL_145 pS (cC_5 _ _ _ _) (congrArg (fun z => some (Value.ref z)) pL.1) dL_carry_176 ?_
      refine lv_iload hx hb dL_carry_179 (lv_at hl 0 rfl) ?_
      refine er_callq (va_runV (As := [.int (nI k)]) (rest := []) ⟨hx, hb, hml, hown, hts⟩ (c_AL_get_8 l D T X1 L1 tg1 _ A1 (6 * ln + b) (X 8 (6 * ln + b)) pL k o cap n g14 g6 g1 g2 g3 g4 g5 g7 g8 g9 hkn) (cwV 1 hts gL_155 rfl rfl rfl (by decide +kernel) ⟨Nat.le_of_ble_eq_true rfl, Nat.le_of_ble_eq_true rfl⟩) (ec_preV hK hN hV pL (cC_8 _ _ _ _) rfl) rfl rfl hl.1 rfl (lv_room (Nat.le_of_ble_eq_true rfl)) dL_carry_181 hfc) hV hS hA (fun r u H locs hp hV hS => ?_)
      obtain ⟨rfl, eu9⟩ := hp
      rw [eu9] at hV
      refine va_castY hx hb hown (hts _ kl_L_32) (hN.at 4 rfl) (ec_recv hK hV g6 (cC_6 _ _ _ _) rfl) dL_carry_184 ?_
      refine ew_get (v := .int (A1 6 (512 * (6 * ln + b) + k) 3)) hx hb hts hown hK hV fL_188 g6 (cC_6 _ _ _ _) rfl dL_carry_187 ?_
      refine lv_toe (y := B1 36 0 j) a3 ?_
      refine lv_if_eq (tgt := 256) hx hb dL_carry_190 rfl (fun hz => ?_) (fun hz => ?_)
      · rw [if_pos hz] at hr1 hr2
        exact fin k0 n X1 L1 tg1 A1 B1 mm k H locs ls hI hW1 hpr hps hk0 hk5 (by rw [← hr1]; show nI (k - k0) = 0 + nI (k - k0); rw [Int32.zero_add]) hr2 hV hS hl
      rw [if_neg hz] at hr1 hr2
      refine lv_aload hx hb dL_carry_193 (lv_at hl 4 rfl) ?_
      refine lv_dup hx hb dL_carry_195 rfl ?_
      refine ew_get (v := .int (A1 15 (6 * ln + b) 4)) hx hb hts hown hK hV fL_185 pG (cC_15 _ _ _ _) rfl dL_carry_196 ?_
      refine lv_iconst (v := 1) hx hb dL_carry_199 (by decide) ?_
      refine lv_iadd hx hb dL_carry_200 ?_
      refine ew_put (ty := .int) hx hb hts hown hK hV hS fL_185 gSide pG (cC_15 _ _ _ _) 4 _ (pC_15_4 _ _ _ _ _) rfl (by decide +kernel) rfl rfl (Nat.le_of_ble_eq_true rfl) dL_carry_201 (fun H locs hV hS => ?_)
      have oA : ∀ c, c ≠ 15 → up3 A1 15 (6 * ln + b) 4 (A1 15 (6 * ln + b) 4 + 1) c = A1 c := fun c h => p_kd_up _ _ _ _ h
      have hW2 : WI t0 X1 L1 tg1 (up3 A1 15 (6 * ln + b) 4 (A1 15 (6 * ln + b) 4 + 1)) := hW1.up (by rw [oA 0 (by decide)]) (by rw [oA 0 (by decide)]) (fun c hc => oA c (by omega))
      have er9 : ∀ a : Int32, a + 1 + nI (k - k0) = a + nI (k + 1 - k0) := fun a => by rw [Int32.add_assoc, show (1 : Int32) + nI (k - k0) = nI (k + 1 - k0) by rw [Int32.add_comm, nI_1]; congr 1; omega]
      rw [show ((s_cl_e ln b f (s_tk_e B1 ln b)).1 + 1, (s_cl_e ln b f (s_tk_e B1 ln b)).2).1 = (s_cl_e ln b f (s_tk_e B1 ln b)).1 + 1 from rfl, er9] at hr1
      obtain ⟨fx1, fx2, fx3⟩ := tk_e_fx rfl S1 hd1 hsk
      refine lv_iload_n hx hb dL_carry_204 rfl (lv_at hl 6 rfl) ?_
      refine lv_if_eq (tgt := 231) hx hb dL_carry_205 rfl (fun _ => ?_) (fun h9 => absurd rfl h9)
      refine lv_aload_n hx hb dL_carry_231 rfl (lv_at hl 8 rfl) ?_
      refine lv_aload hx hb dL_carry_232 (lv_at hl 5 rfl) ?_
      refine lv_aload hx hb dL_carry_234 (lv_at hl 3 rfl) ?_
      refine ew_get (v := .ref (X 8 (6 * ln + b))) hx hb hts hown hK hV fL_145 pS (cC_5 _ _ _ _) (congrArg (fun z => some (Value.ref z)) pL.1) dL_carry_236 ?_
      refine lv_iload hx hb dL_carry_239 (lv_at hl 0 rfl) ?_
      refine er_callq (va_runV (As := [.int (nI k)]) (rest := [.ref (X 4 (6 * ln + b)), .ref th]) ⟨hx, hb, hml, hown, hts⟩ (c_AL_get_8 l D T X1 L1 tg1 _ _ (6 * ln + b) (X 8 (6 * ln + b)) pL k o cap n g14 g6 (by rw [oA 8 (by decide)]; exact g1) g2 g3 (by rw [oA 8 (by decide)]; exact g4) (by rw [oA 14 (by decide)]; exact g5) (by rw [oA 14 (by decide)]; exact g7) g8 g9 hkn) (cwV 1 hts gL_155 rfl rfl rfl (by decide +kernel) ⟨Nat.le_of_ble_eq_true rfl, Nat.le_of_ble_eq_true rfl⟩) (ec_preV hK hN hV pL (cC_8 _ _ _ _) rfl) rfl rfl hl.1 rfl (lv_room (Nat.le_of_ble_eq_true rfl)) dL_carry_241 hfc) hV hS hA (fun r u H locs hp hV hS => ?_)
      obtain ⟨rfl, eu9⟩ := hp
      rw [eu9] at hV
      refine va_castY hx hb hown (hts _ kl_L_32) (hN.at 4 rfl) (ec_recv hK hV g6 (cC_6 _ _ _ _) rfl) dL_carry_244 ?_
      have oB : ∀ c, c ≠ 30 → up3 B1 30 0 (2 * (6 * ln + b) + 1) (B1 30 0 (2 * (6 * ln + b) + 1) + 1) c = B1 c := fun c h => p_kd_up _ _ _ _ h
      have P2 : IvE q (6 * ln + b) mm (up3 A1 15 (6 * ln + b) 4 (A1 15 (6 * ln + b) 4 + 1)) (up3 B1 30 0 (2 * (6 * ln + b) + 1) (B1 30 0 (2 * (6 * ln + b) + 1) + 1)) := by
        rcases hI with ⟨h, h1⟩ | ⟨h, h1, h11⟩
        · exact Or.inl ⟨h, h1.seen15 hd1 hsk⟩
        · exact Or.inr ⟨h, h1.seen15 hd1 hsk, by rw [oB 23 (by decide)]; exact h11⟩
      have er : s_takeSupplier (up3 B1 30 0 (2 * (6 * ln + b) + 1) (B1 30 0 (2 * (6 * ln + b) + 1) + 1)) ln (6 * ln + b) (B1 34 0 j) (wtB (up3 B1 30 0 (2 * (6 * ln + b) + 1) (B1 30 0 (2 * (6 * ln + b) + 1) + 1))) (lgB (up3 B1 30 0 (2 * (6 * ln + b) + 1) (B1 30 0 (2 * (6 * ln + b) + 1) + 1))) = s_tk_e B1 ln b := by rw [wt30, lg30]; unfold s_tk_e; rw [hxc]
      have hc := cx_st1 l D T t0 X1 L1 tg1 H.size (up3 A1 15 (6 * ln + b) 4 (A1 15 (6 * ln + b) 4 + 1)) (ln := ln) (b := b) (t := 512 * (6 * ln + b) + k) (k := B1 34 0 j) hq P2 hW2 (by rw [oB 22 (by decide)]; exact hd1) rfl hb6 (by rw [oA 6 (by decide)]; exact a1) ⟨j, by rw [lg30]; exact hj, by rw [oB 32 (by decide)]; exact j32, by rw [oB 34 (by decide)]⟩ th (X 4 (6 * ln + b)) (X1 6 (512 * (6 * ln + b) + k)) p0 p4 g6
      rw [er] at hc
      rcases hc with ⟨A', hM, P', W'⟩ | ⟨m0, hM⟩
      · refine er_callv (va_runV (As := [.ref (X 4 (6 * ln + b)), .ref (X1 6 (512 * (6 * ln + b) + k))]) (rest := []) ⟨hx, hb, hml, hown, hts⟩ hM (cwV 2 hts gL_196 rfl rfl rfl (by decide +kernel) ⟨Nat.le_of_ble_eq_true rfl, Nat.le_of_ble_eq_true rfl⟩) (ec_preV hK hN hV p0 (cC_0 _ _ _ _) rfl) rfl rfl hl.1 rfl (lv_room (Nat.le_of_ble_eq_true rfl)) dL_carry_247 hfc) hV hS hA (fun u H locs eu hV hS => ?_)
        rw [eu] at hV
        refine lv_iinc (k := 0) (v := nI (k + 1)) (lv' := [(9, .int (nI (k + 1))), (8, .int (nI n)), (7, .int (nI k0)), (6, .ref (X 5 (6 * ln + b))), (5, .ref (X 15 (6 * ln + b))), (4, .ref (X 4 (6 * ln + b))), (3, .int 0), (2, .ref (X 2 ln)), (0, .ref th), (1, .int (nI i))]) hx hb dL_carry_250 hl rfl (nI_add k 1) (by decide) rfl (fun ls hl => ?_)
        refine lv_goto (tgt := 167) hx hb dL_carry_253 rfl ?_
        exact ih X1 L1 tg1 A' _ mm (k + 1) H locs ls P' W' hpr fx1 (fx2.trans hpn) (by rw [fx3, hps]) (by omega) (by omega) hr1 hr2 hV hS hl
      · subst m0
        refine em_callv (va_runV (As := [.ref (X 4 (6 * ln + b)), .ref (X1 6 (512 * (6 * ln + b) + k))]) (rest := []) ⟨hx, hb, hml, hown, hts⟩ hM (cwV 2 hts gL_196 rfl rfl rfl (by decide +kernel) ⟨Nat.le_of_ble_eq_true rfl, Nat.le_of_ble_eq_true rfl⟩) (em_preV hK hN hV hZ hS hA p0 (cC_0 _ _ _ _) rfl) rfl rfl hl.1 rfl (lv_room (Nat.le_of_ble_eq_true rfl)) dL_carry_247 ⟨Nat.le_of_ble_eq_true rfl, Nat.le_of_ble_eq_true rfl⟩) hV hS hA (fun X2 L2 tg2 u H locs hp hV hS => ?_)
        obtain ⟨P', W', pr'⟩ := hp
        refine lv_iinc (k := 0) (v := nI (k + 1)) (lv' := [(9, .int (nI (k + 1))), (8, .int (nI n)), (7, .int (nI k0)), (6, .ref (X 5 (6 * ln + b))), (5, .ref (X 15 (6 * ln + b))), (4, .ref (X 4 (6 * ln + b))), (3, .int 0), (2, .ref (X 2 ln)), (0, .ref th), (1, .int (nI i))]) hx hb dL_carry_250 hl rfl (nI_add k 1) (by decide) rfl (fun ls hl => ?_)
        refine lv_goto (tgt := 167) hx hb dL_carry_253 rfl ?_
        exact ih X2 L2 tg2 u _ 1 (k + 1) H locs ls P' W' (fun c i a h => pr' c i a (hpr c i a h)) fx1 (fx2.trans hpn) (by rw [fx3, hps]) (by omega) (by omega) hr1 hr2 hV hS hl
  have tail : ∀ (A1 : ew_R) (H : Heap) (locs : List Loc) (ls : Array Slot), Sim A1 (s_cpre_e B i (wtB B) ln b) q → (∀ c, c ≠ 15 → c ≠ 6 → A1 c = A c) → ew_V D vwCl (cfC T) (ew_A L s.heap.size) X L tg A1 [] H → va_S (ew_A L s.heap.size) s.heap H locs → lv_has ls 10 [(6, .ref (X 5 (6 * ln + b))), (5, .ref (X 15 (6 * ln + b))), (4, .ref (X 4 (6 * ln + b))), (3, .int 0), (2, .ref (X 2 ln)), (0, .ref th), (1, .int (nI i))] → W p l e ({ frames := 13, cells := 2, slots := 1004, locals := 420 }) s m ([.ref th, .int (nI i)] : List Value).toArray below meth c H locs 0 0 (MQ below (em_Qi D vwCl (cfC T) L s.heap.size (fun r u => r = (s_carry_e B i (wtB B) ln b f0).1 ∧ Sim u.2.2.2 (s_carry_e B i (wtB B) ln b f0).2 (q + 1) ∧ PW t0 X L tg u)) ([.ref th, .int (nI i)] : List Value).toArray s 2 1004 (ew_A L s.heap.size)) (F0 m 146 ls []) := by
    intro A1 H locs ls S1 f1 hV hS hl
    have oB : ∀ c, c ∉ [0, 31, 36] → s_cpre_e B i (wtB B) ln b c = B c := fun c h => s_cpre_e_oth B i (wtB B) ln b h
    have W1 : WI t0 X L tg A1 := W0.up (by rw [f1 0 (by decide) (by decide)]) (by rw [f1 0 (by decide) (by decide)]) (fun c hc => f1 c (by omega) (by omega))
    have sn : A1 15 (6 * ln + b) 4 = nI (p_s (s_cpre_e B i (wtB B) ln b) (2 * (6 * ln + b) + 1)) := (congrFun S1.R.E.2.2.2.1 (6 * ln + b)).trans (S1.I.E.2.1 (2 * (6 * ln + b) + 1))
    have sz9 : A1 8 (6 * ln + b) 2 = nI (p_n (s_cpre_e B i (wtB B) ln b) (2 * (6 * ln + b))) := S1.n8 (6 * ln + b)
    have hpn : p_n (s_cpre_e B i (wtB B) ln b) (2 * (6 * ln + b)) = p_n B (2 * (6 * ln + b)) := by unfold p_n; rw [oB 29 (by decide)]
    refine lv_aload hx hb dL_carry_146 (lv_at hl 1 rfl) ?_
    refine ew_get (v := .int (A1 15 (6 * ln + b) 4)) hx hb hts hown hK hV fL_185 iG (cC_15 _ _ _ _) rfl dL_carry_148 ?_
    refine lv_toe (y := nI (p_s (s_cpre_e B i (wtB B) ln b) (2 * (6 * ln + b) + 1))) sn ?_
    generalize hk0 : p_s (s_cpre_e B i (wtB B) ln b) (2 * (6 * ln + b) + 1) = k0
    refine lv_istore (lv' := [(7, .int (nI k0)), (6, .ref (X 5 (6 * ln + b))), (5, .ref (X 15 (6 * ln + b))), (4, .ref (X 4 (6 * ln + b))), (3, .int 0), (2, .ref (X 2 ln)), (0, .ref th), (1, .int (nI i))]) hx hb dL_carry_151 hl (by decide) rfl (fun ls hl => ?_)
    refine lv_aload hx hb dL_carry_153 (lv_at hl 1 rfl) ?_
    refine ew_get (v := .ref (X 8 (6 * ln + b))) hx hb hts hown hK hV fL_145 iS (cC_5 _ _ _ _) rfl dL_carry_155 ?_
    refine er_calli (va_runV (As := []) (rest := []) ⟨hx, hb, hml, hown, hts⟩ (c_AL_size_8 l D T X L tg _ A1 (6 * ln + b) (X 8 (6 * ln + b)) iL) (cwV 0 hts gL_149 rfl rfl rfl (by decide +kernel) ⟨Nat.le_of_ble_eq_true rfl, Nat.le_of_ble_eq_true rfl⟩) (ec_preV hK hN hV iL (cC_8 _ _ _ _) rfl) rfl rfl hl.1 rfl (lv_room (Nat.le_of_ble_eq_true rfl)) dL_carry_158 ⟨Nat.le_of_ble_eq_true rfl, Nat.le_of_ble_eq_true rfl⟩) hV hS hA (fun r u H locs hp hV hS => ?_)
    obtain ⟨rfl, eu9⟩ := hp
    rw [eu9] at hV
    refine lv_toe (y := nI (p_n (s_cpre_e B i (wtB B) ln b) (2 * (6 * ln + b)))) sz9 ?_
    generalize hn0 : p_n (s_cpre_e B i (wtB B) ln b) (2 * (6 * ln + b)) = n
    refine lv_istore (lv' := [(8, .int (nI n)), (7, .int (nI k0)), (6, .ref (X 5 (6 * ln + b))), (5, .ref (X 15 (6 * ln + b))), (4, .ref (X 4 (6 * ln + b))), (3, .int 0), (2, .ref (X 2 ln)), (0, .ref th), (1, .int (nI i))]) hx hb dL_carry_161 hl (by decide) rfl (fun ls hl => ?_)
    refine lv_iload hx hb dL_carry_163 (lv_at hl 1 rfl) ?_
    refine lv_istore (lv' := [(9, .int (nI k0)), (8, .int (nI n)), (7, .int (nI k0)), (6, .ref (X 5 (6 * ln + b))), (5, .ref (X 15 (6 * ln + b))), (4, .ref (X 4 (6 * ln + b))), (3, .int 0), (2, .ref (X 2 ln)), (0, .ref th), (1, .int (nI i))]) hx hb dL_carry_165 hl (by decide) rfl (fun ls hl => ?_)
    exact loop k0 n f0 X L tg A1 _ 0 k0 H locs ls (Or.inl ⟨rfl, S1⟩) W1 (fun c i a h => h) (by rw [oB 22 (by decide)]; exact hd) hn0 hk0 (Nat.le_refl _) (by omega) (by rw [Nat.sub_self, nI_0, Int32.add_zero]; rfl) rfl hV hS hl
  refine lv_aload_n hx hb dL_carry_0 rfl (lv_at hl9 0 rfl) ?_
  refine lv_aload_n hx hb dL_carry_1 rfl (lv_at hl9 0 rfl) ?_
  refine ew_get (v := .ref (X 7 0)) hx hb hts hown hK hV fL_28 hth (cC_0 _ _ _ _) rfl dL_carry_2 ?_
  refine lv_iload_n hx hb dL_carry_5 rfl (lv_at hl9 1 rfl) ?_
  refine lv_iconst (v := 0) hx hb dL_carry_6 (by decide) ?_
  refine lv_toe (y := nI 0) (by decide +kernel) ?_
  refine er_calli (va_runV (As := [.int (nI i), .int (nI 0)]) (rest := [.ref th]) ⟨hx, hb, hml, hown, hts⟩ (c_Row_told_ok l D T X L tg _ A (X 7 0) i7 i 0 (wtB B) i12 hwt.2 qw hi (by decide)) (cwV 2 hts gL_165 rfl rfl rfl (by decide +kernel) ⟨Nat.le_of_ble_eq_true rfl, Nat.le_of_ble_eq_true rfl⟩) (ec_preV hK hN hV i7 (cC_7 _ _ _ _) rfl) rfl rfl hl9.1 rfl (lv_room (Nat.le_of_ble_eq_true rfl)) dL_carry_7 ⟨Nat.le_of_ble_eq_true rfl, Nat.le_of_ble_eq_true rfl⟩) hV hS hA (fun r u H locs hp hV hS => ?_)
  obtain ⟨rfl, eu9⟩ := hp
  rw [eu9] at hV
  refine lv_toe (y := nI ln) T0 ?_
  refine er_callq (va_runV (As := [.int (nI ln)]) (rest := []) ⟨hx, hb, hml, hown, hts⟩ (c_L_loanAt_ok l D T X L tg _ A th hth ln (p_l B) i10 i2 l32.2 qnl hl qfl) (cwV 1 hts gL_88 rfl rfl rfl (by decide +kernel) ⟨Nat.le_of_ble_eq_true rfl, Nat.le_of_ble_eq_true rfl⟩) (ec_preV hK hN hV hth (cC_0 _ _ _ _) rfl) rfl rfl hl9.1 rfl (lv_room (Nat.le_of_ble_eq_true rfl)) dL_carry_10 ⟨Nat.le_of_ble_eq_true rfl, Nat.le_of_ble_eq_true rfl⟩) hV hS hA (fun r u H locs hp hV hS => ?_)
  obtain ⟨rfl, eu9⟩ := hp
  rw [eu9] at hV
  refine lv_astore_n (lv' := [(2, .ref (X 2 ln)), (0, .ref th), (1, .int (nI i))]) hx hb dL_carry_13 rfl hl9 (by decide) rfl (fun ls hl9 => ?_)
  refine lv_aload_n hx hb dL_carry_14 rfl (lv_at hl9 0 rfl) ?_
  refine lv_ifnonnull (tgt := 20) hx hb dL_carry_15 rfl ?_
  refine lv_aload_n hx hb dL_carry_20 rfl (lv_at hl9 1 rfl) ?_
  refine ew_get (v := .ref (X 7 0)) hx hb hts hown hK hV fL_28 hth (cC_0 _ _ _ _) rfl dL_carry_21 ?_
  refine lv_iload_n hx hb dL_carry_24 rfl (lv_at hl9 2 rfl) ?_
  refine lv_iconst (v := 2) hx hb dL_carry_25 (by decide) ?_
  refine lv_toe (y := nI 2) (by decide +kernel) ?_
  refine er_calli (va_runV (As := [.int (nI i), .int (nI 2)]) (rest := []) ⟨hx, hb, hml, hown, hts⟩ (c_Row_told_ok l D T X L tg _ A (X 7 0) i7 i 2 (wtB B) i12 hwt.2 qw hi (by decide)) (cwV 2 hts gL_165 rfl rfl rfl (by decide +kernel) ⟨Nat.le_of_ble_eq_true rfl, Nat.le_of_ble_eq_true rfl⟩) (ec_preV hK hN hV i7 (cC_7 _ _ _ _) rfl) rfl rfl hl9.1 rfl (lv_room (Nat.le_of_ble_eq_true rfl)) dL_carry_26 ⟨Nat.le_of_ble_eq_true rfl, Nat.le_of_ble_eq_true rfl⟩) hV hS hA (fun r u H locs hp hV hS => ?_)
  obtain ⟨rfl, eu9⟩ := hp
  rw [eu9] at hV
  refine lv_toe (y := nI b) T2 ?_
  refine lv_aload_n hx hb dL_carry_29 rfl (lv_at hl9 0 rfl) ?_
  refine ew_get (v := .int (A 2 ln 1)) hx hb hts hown hK hV fL_96 i2 (cC_2 _ _ _ _) rfl dL_carry_30 ?_
  refine lv_toe (y := nI (p_q B ln)) qrq ?_
  refine lv_icmp_ne (tgt := 40) hx hb dL_carry_33 rfl (fun _ => ?_) (fun h9 => absurd ((nI_eq (by omega) (by omega)).mp h9) nbr)
  refine lv_iconst (v := 0) hx hb dL_carry_40 (by decide) ?_
  refine lv_istore_n (lv' := [(3, .int 0), (2, .ref (X 2 ln)), (0, .ref th), (1, .int (nI i))]) hx hb dL_carry_41 rfl hl9 (by decide) rfl (fun ls hl9 => ?_)
  refine lv_aload_n hx hb dL_carry_42 rfl (lv_at hl9 1 rfl) ?_
  refine lv_aload_n hx hb dL_carry_43 rfl (lv_at hl9 2 rfl) ?_
  refine ew_get (v := .ref (X 7 0)) hx hb hts hown hK hV fL_28 hth (cC_0 _ _ _ _) rfl dL_carry_44 ?_
  refine lv_iload_n hx hb dL_carry_47 rfl (lv_at hl9 3 rfl) ?_
  refine lv_iload_n hx hb dL_carry_48 rfl (lv_at hl9 0 rfl) ?_
  refine lv_if_eq (tgt := 56) hx hb dL_carry_49 rfl (fun _ => ?_) (fun h9 => absurd rfl h9)
  refine lv_iconst (v := 2) hx hb dL_carry_56 (by decide) ?_
  refine lv_toe (y := nI 2) (by decide +kernel) ?_
  refine er_calli (va_runV (As := [.int (nI i), .int (nI 2)]) (rest := [.ref (X 2 ln)]) ⟨hx, hb, hml, hown, hts⟩ (c_Row_told_ok l D T X L tg _ A (X 7 0) i7 i 2 (wtB B) i12 hwt.2 qw hi (by decide)) (cwV 2 hts gL_165 rfl rfl rfl (by decide +kernel) ⟨Nat.le_of_ble_eq_true rfl, Nat.le_of_ble_eq_true rfl⟩) (ec_preV hK hN hV i7 (cC_7 _ _ _ _) rfl) rfl rfl hl9.1 rfl (lv_room (Nat.le_of_ble_eq_true rfl)) dL_carry_57 ⟨Nat.le_of_ble_eq_true rfl, Nat.le_of_ble_eq_true rfl⟩) hV hS hA (fun r u H locs hp hV hS => ?_)
  obtain ⟨rfl, eu9⟩ := hp
  rw [eu9] at hV
  refine lv_toe (y := nI b) T2 ?_
  refine er_callq (va_runV (As := [.int (nI b)]) (rest := []) ⟨hx, hb, hml, hown, hts⟩ (c_Loan_dealWith_ok l D T X L tg _ A ln (X 2 ln) i2 b i13 i4 hb6 qfd) (cwV 1 hts gL_116 rfl rfl rfl (by decide +kernel) ⟨Nat.le_of_ble_eq_true rfl, Nat.le_of_ble_eq_true rfl⟩) (ec_preV hK hN hV i2 (cC_2 _ _ _ _) rfl) rfl rfl hl9.1 rfl (lv_room (Nat.le_of_ble_eq_true rfl)) dL_carry_60 ⟨Nat.le_of_ble_eq_true rfl, Nat.le_of_ble_eq_true rfl⟩) hV hS hA (fun r u H locs hp hV hS => ?_)
  obtain ⟨rfl, eu9⟩ := hp
  rw [eu9] at hV
  refine lv_astore (lv' := [(4, .ref (X 4 (6 * ln + b))), (3, .int 0), (2, .ref (X 2 ln)), (0, .ref th), (1, .int (nI i))]) hx hb dL_carry_63 hl9 (by decide) rfl (fun ls hl9 => ?_)
  refine lv_aload hx hb dL_carry_65 (lv_at hl9 0 rfl) ?_
  refine lv_ifnonnull (tgt := 72) hx hb dL_carry_67 rfl ?_
  refine lv_iload_n hx hb dL_carry_72 rfl (lv_at hl9 1 rfl) ?_
  refine lv_if_eq (tgt := 84) hx hb dL_carry_73 rfl (fun _ => ?_) (fun h9 => absurd rfl h9)
  refine lv_aload hx hb dL_carry_84 (lv_at hl9 0 rfl) ?_
  refine ew_get (v := .ref (X 15 (6 * ln + b))) hx hb hts hown hK hV fL_173 i4 (cC_4 _ _ _ _) rfl dL_carry_86 ?_
  refine lv_astore (lv' := [(5, .ref (X 15 (6 * ln + b))), (4, .ref (X 4 (6 * ln + b))), (3, .int 0), (2, .ref (X 2 ln)), (0, .ref th), (1, .int (nI i))]) hx hb dL_carry_89 hl9 (by decide) rfl (fun ls hl9 => ?_)
  refine lv_iload_n hx hb dL_carry_91 rfl (lv_at hl9 2 rfl) ?_
  refine lv_if_eq (tgt := 103) hx hb dL_carry_92 rfl (fun _ => ?_) (fun h9 => absurd rfl h9)
  refine lv_aload hx hb dL_carry_103 (lv_at hl9 1 rfl) ?_
  refine ew_get (v := .ref (X 5 (6 * ln + b))) hx hb hts hown hK hV fL_169 i4 (cC_4 _ _ _ _) rfl dL_carry_105 ?_
  refine lv_astore (lv' := [(6, .ref (X 5 (6 * ln + b))), (5, .ref (X 15 (6 * ln + b))), (4, .ref (X 4 (6 * ln + b))), (3, .int 0), (2, .ref (X 2 ln)), (0, .ref th), (1, .int (nI i))]) hx hb dL_carry_108 hl9 (by decide) rfl (fun ls hl9 => ?_)
  refine lv_aload hx hb dL_carry_110 (lv_at hl9 1 rfl) ?_
  refine lv_aload hx hb dL_carry_112 (lv_at hl9 1 rfl) ?_
  refine ew_get (v := .int (A 15 (6 * ln + b) 5)) hx hb hts hown hK hV fL_140 iG (cC_15 _ _ _ _) rfl dL_carry_114 ?_
  refine lv_toe (y := nI (p_a B (2 * (6 * ln + b) + 1))) qa ?_
  refine lv_aload_n hx hb dL_carry_117 rfl (lv_at hl9 5 rfl) ?_
  refine ew_get (v := .ref (X 7 0)) hx hb hts hown hK hV fL_28 hth (cC_0 _ _ _ _) rfl dL_carry_118 ?_
  refine lv_iload_n hx hb dL_carry_121 rfl (lv_at hl9 6 rfl) ?_
  refine lv_iconst (v := 4) hx hb dL_carry_122 (by decide) ?_
  refine lv_toe (y := nI 4) (by decide +kernel) ?_
  refine er_calli (va_runV (As := [.int (nI i), .int (nI 4)]) (rest := [.int (nI (p_a B (2 * (6 * ln + b) + 1))), .ref (X 15 (6 * ln + b))]) ⟨hx, hb, hml, hown, hts⟩ (c_Row_told_ok l D T X L tg _ A (X 7 0) i7 i 4 (wtB B) i12 hwt.2 qw hi (by decide)) (cwV 2 hts gL_165 rfl rfl rfl (by decide +kernel) ⟨Nat.le_of_ble_eq_true rfl, Nat.le_of_ble_eq_true rfl⟩) (ec_preV hK hN hV i7 (cC_7 _ _ _ _) rfl) rfl rfl hl9.1 rfl (lv_room (Nat.le_of_ble_eq_true rfl)) dL_carry_123 ⟨Nat.le_of_ble_eq_true rfl, Nat.le_of_ble_eq_true rfl⟩) hV hS hA (fun r u H locs hp hV hS => ?_)
  obtain ⟨rfl, eu9⟩ := hp
  rw [eu9] at hV
  refine lv_toe (y := nI v) T4 ?_
  refine va_mmax hx hb (hml.trans hl9.1.symm) hown (hts _ km_176) (hts _ km_mmax_s) (hts _ km_ini) (hts _ km_mmax_c) (Nat.le_of_ble_eq_true rfl) (Nat.le_of_ble_eq_true rfl) (Nat.le_of_ble_eq_true rfl) (Nat.le_of_ble_eq_true rfl) dL_carry_126 ?_
  refine lv_toe (y := nI (max (p_a B (2 * (6 * ln + b) + 1)) v)) (mx_nI (by omega) (by omega)) ?_
  refine ew_put (ty := .int) hx hb hts hown hK hV hS fL_140 gSide iG (cC_15 _ _ _ _) 5 _ (pC_15_5 _ _ _ _ _) rfl (by decide +kernel) rfl rfl (Nat.le_of_ble_eq_true rfl) dL_carry_129 (fun H locs hV hS => ?_)
  refine lv_aload hx hb dL_carry_132 (lv_at hl9 0 rfl) ?_
  refine lv_aload_n hx hb dL_carry_134 rfl (lv_at hl9 5 rfl) ?_
  refine ew_get (v := .ref (X 7 0)) hx hb hts hown hK hV fL_28 hth (cC_0 _ _ _ _) rfl dL_carry_135 ?_
  refine lv_iload_n hx hb dL_carry_138 rfl (lv_at hl9 6 rfl) ?_
  refine lv_iconst (v := 3) hx hb dL_carry_139 (by decide) ?_
  refine lv_toe (y := nI 3) (by decide +kernel) ?_
  refine er_calli (va_runV (As := [.int (nI i), .int (nI 3)]) (rest := [.ref (X 5 (6 * ln + b))]) ⟨hx, hb, hml, hown, hts⟩ (c_Row_told_ok l D T X L tg _ (up3 A 15 (6 * ln + b) 5 (nI (max (p_a B (2 * (6 * ln + b) + 1)) v))) (X 7 0) i7 i 3 (wtB B) i12 hwt.2 (by rw [p_kd_up _ _ _ _ (by decide)]; exact qw) hi (by decide)) (cwV 2 hts gL_165 rfl rfl rfl (by decide +kernel) ⟨Nat.le_of_ble_eq_true rfl, Nat.le_of_ble_eq_true rfl⟩) (ec_preV hK hN hV i7 (cC_7 _ _ _ _) rfl) rfl rfl hl9.1 rfl (lv_room (Nat.le_of_ble_eq_true rfl)) dL_carry_140 ⟨Nat.le_of_ble_eq_true rfl, Nat.le_of_ble_eq_true rfl⟩) hV hS hA (fun r u H locs hp hV hS => ?_)
  obtain ⟨rfl, eu9⟩ := hp
  rw [eu9] at hV
  rcases h37 with h37 | ⟨j, h37, hj, j32⟩
  · have T3 : A 12 0 (i * 7 + 3) = 0 := by rw [S.told hi (by decide)]; unfold p_let; rw [if_neg (by decide), if_neg (by decide), if_neg (by decide), if_pos rfl, if_pos h37]
    refine lv_toe (y := 0) (by show (up3 A 15 (6 * ln + b) 5 (nI (max (p_a B (2 * (6 * ln + b) + 1)) v))) 12 0 (i * 7 + 3) = 0; rw [p_kd_up _ _ _ _ (by decide)]; exact T3) ?_
    refine er_callv (va_runV (As := [.int 0]) (rest := []) ⟨hx, hb, hml, hown, hts⟩ (c_Side_holdAtGoal_5z l D T X L tg _ (up3 A 15 (6 * ln + b) 5 (nI (max (p_a B (2 * (6 * ln + b) + 1)) v))) (6 * ln + b) (X 5 (6 * ln + b)) iS) (cwV 1 hts gL_181 rfl rfl rfl (by decide +kernel) ⟨Nat.le_of_ble_eq_true rfl, Nat.le_of_ble_eq_true rfl⟩) (ec_preV hK hN hV iS (cC_5 _ _ _ _) rfl) rfl rfl hl9.1 rfl (lv_room (Nat.le_of_ble_eq_true rfl)) dL_carry_143 ⟨Nat.le_of_ble_eq_true rfl, Nat.le_of_ble_eq_true rfl⟩) hV hS hA (fun u H locs eu hV hS => ?_)
    have eu : u = (up3 A 15 (6 * ln + b) 5 (nI (max (p_a B (2 * (6 * ln + b) + 1)) v))) := eu
    rw [eu] at hV
    exact tail _ H locs ls (preB h37) (fun c h _ => p_kd_up _ _ _ _ h) hV hS hl9
  · obtain ⟨k, j33, hk, SL⟩ := preL j h37 hj j32
    have hjl := S.I.S.2.2.2.2.2
    have T3 : A 12 0 (i * 7 + 3) = nI (k + 1) := by rw [S.told hi (by decide)]; unfold p_let; rw [if_neg (by decide), if_neg (by decide), if_neg (by decide), if_pos rfl, if_neg (by rw [h37]; exact nI_m1 (by omega)), h37, nI_clamp (by omega)]; exact j33
    refine lv_toe (y := nI (k + 1)) (by show (up3 A 15 (6 * ln + b) 5 (nI (max (p_a B (2 * (6 * ln + b) + 1)) v))) 12 0 (i * 7 + 3) = nI (k + 1); rw [p_kd_up _ _ _ _ (by decide)]; exact T3) ?_
    obtain ⟨o, cap, g14, g6, g1, g2, g3, g4, g5, g7, g8, g9⟩ := S.get5 (k := k) W0 hd hk
    have oA : ∀ c, c ≠ 15 → (up3 A 15 (6 * ln + b) 5 (nI (max (p_a B (2 * (6 * ln + b) + 1)) v))) c = A c := fun c h => p_kd_up _ _ _ _ h
    refine er_callv (va_runV (As := [.int (nI (k + 1))]) (rest := []) ⟨hx, hb, hml, hown, hts⟩ (c_Side_holdAtGoal_5 l D T X L tg _ (up3 A 15 (6 * ln + b) 5 (nI (max (p_a B (2 * (6 * ln + b) + 1)) v))) (6 * ln + b) (X 5 (6 * ln + b)) iS (k + 1) o cap (p_n B (2 * (6 * ln + b))) iL g14 g6 (by rw [oA 8 (by decide)]; exact g1) g2 g3 (by rw [oA 8 (by decide)]; exact g4) (by rw [oA 14 (by decide)]; exact g5) (by rw [oA 14 (by decide)]; exact g7) g8 g9 (by omega) (by omega)) (cwV 1 hts gL_181 rfl rfl rfl (by decide +kernel) ⟨Nat.le_of_ble_eq_true rfl, Nat.le_of_ble_eq_true rfl⟩) (ec_preV hK hN hV iS (cC_5 _ _ _ _) rfl) rfl rfl hl9.1 rfl (lv_room (Nat.le_of_ble_eq_true rfl)) dL_carry_143 ⟨Nat.le_of_ble_eq_true rfl, Nat.le_of_ble_eq_true rfl⟩) hV hS hA (fun u H locs eu hV hS => ?_)
    have eu : u = up3 (up3 A 15 (6 * ln + b) 5 (nI (max (p_a B (2 * (6 * ln + b) + 1)) v))) 6 (512 * (6 * ln + b) + k) 3 1 := eu
    rw [eu] at hV
    exact tail _ H locs ls SL (fun c h h2 => by rw [p_kd_up _ _ _ _ h2, p_kd_up _ _ _ _ h]) hV hS hl9
set_option maxHeartbeats 4000000 in
set_option maxRecDepth 100000 in
theorem cx_carry_o (l : Launch) (D : va_G) (T : Nat → ClassId) (t0 : Nat × Nat) (X : Nat → Nat → Nat) (L : List Nat) (tg : Nat → Nat × Nat) (sz : Nat) (A : ew_R) {B : ew_R} {q ln b i v f0 : Nat} (hq : q < 512) (S : Sim A B q) (W0 : WI t0 X L tg A) (th : Nat) (hth : ew_in X L tg 0 0 th) (hi : i < wtB B) (hd : ¬ B 22 0 (6 * ln + b) = 0) (hb6 : b < 6) (q38 : B 38 0 i = nI (2 * (6 * ln + b) + 1)) (h39 : B 39 0 i = nI v) (hv : v ≤ p_s B (2 * (6 * ln + b) + 1)) (h37 : B 37 0 i = (-1) ∨ ∃ j, B 37 0 i = nI j ∧ j < lgB B ∧ B 32 0 j = nI (2 * (6 * ln + b) + 1)) (hf0 : p_n B (2 * (6 * ln + b) + 1) ≤ f0) :
    Met l yL_carry wsL_carry ({ frames := 13, cells := 8, slots := 1032, locals := 420 }) (em_Pc D vwCl (tysA T) (cfC T) t0 X L tg A sz [.ref th, .int (nI i)]) (em_Qi D vwCl (cfC T) L sz (fun r u => r = (s_carry_o B i (wtB B) ln b f0).1 ∧ Sim u.2.2.2 (s_carry_o B i (wtB B) ln b f0).2 (q + 1) ∧ PW t0 X L tg u)) 8 1032 (ew_A L sz) := by
  have hl : ln < p_l B := by have := S.d6 hd; omega
  have l32 := S.I.S.2.1
  have h192 := S.d192 hd
  have q512 := S.q512
  have hwt := S.I.S.2.2.2.1
  obtain ⟨⟨e11, q6⟩, ⟨e14, t6⟩, ⟨e15, x7⟩, -, -, h22⟩ := S.I.L.1 ln hl
  have nbr : ¬ b = p_q B ln := fun z => by
    have h := h22 ((b + 6 - p_t B ln) % 6) (Nat.mod_lt _ (by decide))
    rw [show (p_t B ln + (b + 6 - p_t B ln) % 6) % 6 = b by omega, if_neg (fun y => y.2 z)] at h
    exact hd h
  have hn1 := S.nle (2 * (6 * ln + b) + 1)
  have hn2 := S.nle (2 * (6 * ln + b))
  have hsn := S.I.E.2.2.2.1 (6 * ln + b)
  have has := S.I.E.2.2.2.2.1 (6 * ln + b)
  have i7 := W0.inn (Sim.lv0 (A := A) (kd := 7) (by simp))
  have i12 := W0.inn (Sim.lv0 (A := A) (kd := 12) (by simp))
  have i10 := W0.inn (Sim.lv0 (A := A) (kd := 10) (by simp))
  have i2 := W0.inn (S.lv2 hl (kd := 2) (by simp))
  have i13 := W0.inn (S.lv2 hl (kd := 13) (by simp))
  have i4 := W0.inn (S.lv4 hd (kd := 4) (by simp))
  have iG := W0.inn (S.lv4 hd (kd := 5) (by simp))
  have iS := W0.inn (S.lv4 hd (kd := 15) (by simp))
  have iL := W0.inn (S.lv4 hd (kd := 16) (by simp))
  have qw : A 7 0 1 = nI (wtB B) := S.R.C.w.trans hwt.1
  have qnl : A 0 0 6 = nI (p_l B) := S.R.C.nl.trans l32.1
  have qfl : ¬ A 10 0 ln = 0 := fun z => absurd ((S.R.D.2.2.2 ln (by omega)).mp z) (by omega)
  have qfd : ¬ A 13 ln b = 0 := by rw [S.R.C.th ln b hb6]; exact hd
  have qrq : A 2 ln 1 = nI (p_q B ln) := (congrFun S.R.C.l1 ln).trans e11
  have y38 : (B 38 0 i).toNatClampNeg = (2 * (6 * ln + b) + 1) := by rw [q38, nI_clamp (by omega)]
  have T0 : A 12 0 (i * 7 + 0) = nI ln := by rw [S.told hi (by decide)]; unfold p_let; rw [if_pos rfl, y38]; congr 1; omega
  have T1 : A 12 0 (i * 7 + 1) = nI b := by rw [S.told hi (by decide)]; unfold p_let; rw [if_neg (by decide), if_pos rfl, y38]; rw [if_neg (by omega)]; congr 1; omega
  have T2 : A 12 0 (i * 7 + 2) = nI (p_q B ln) := by rw [S.told hi (by decide)]; unfold p_let; rw [if_neg (by decide), if_neg (by decide), if_pos rfl, y38]; rw [if_neg (by omega), show (2 * (6 * ln + b) + 1) / 12 = ln by omega]; exact e11
  have T4 : A 12 0 (i * 7 + 4) = nI v := by rw [S.told hi (by decide)]; unfold p_let; rw [if_neg (by decide), if_neg (by decide), if_neg (by decide), if_neg (by decide), if_pos rfl]; exact h39
  have qa : A 5 (6 * ln + b) 5 = nI (p_a B (2 * (6 * ln + b))) := (congrFun S.R.E.2.1 (6 * ln + b)).trans (S.I.E.2.2.1 (2 * (6 * ln + b)))
  obtain ⟨preB, preL⟩ := S.pre_o (w := wtB B) (i := i) hd rfl h39 hv
  refine em_met (by decide) rfl (Nat.le_of_ble_eq_true rfl) ?_
  intro p e s m below meth c ls hx hb hr hts hown hlocks hml hnm hV hK hN hZ hS hA hl9 hsz
  subst hsz
  have hl9 : lv_has ls 10 [(0, .ref th), (1, .int (nI i))] := hl9
  have fin : ∀ (k0 n : Nat) (X1 : Nat → Nat → Nat) (L1 : List Nat) (tg1 : Nat → Nat × Nat) (A1 B1 : ew_R) (mm k : Nat) (H : Heap) (locs : List Loc) (ls : Array Slot), IvO q ln b mm A1 B1 → WI t0 X1 L1 tg1 A1 → (∀ c i a, ew_in X L tg c i a → ew_in X1 L1 tg1 c i a) → p_s B1 (2 * (6 * ln + b)) = k → k0 ≤ k → k ≤ 512 → nI (k - k0) = (s_carry_o B i (wtB B) ln b f0).1 → B1 = (s_carry_o B i (wtB B) ln b f0).2 → ew_V D vwCl (cfC T) (ew_A L s.heap.size) X1 L1 tg1 A1 [] H → va_S (ew_A L s.heap.size) s.heap H locs → lv_has ls 10 [(9, .int (nI k)), (8, .int (nI n)), (7, .int (nI k0)), (6, .ref (X 15 (6 * ln + b))), (5, .ref (X 5 (6 * ln + b))), (4, .ref (X 4 (6 * ln + b))), (3, .int 1), (2, .ref (X 2 ln)), (0, .ref th), (1, .int (nI i))] → W p l e ({ frames := 13, cells := 8, slots := 1032, locals := 420 }) s m ([.ref th, .int (nI i)] : List Value).toArray below meth c H locs (8 * mm) (1032 * mm) (MQ below (em_Qi D vwCl (cfC T) L s.heap.size (fun r u => r = (s_carry_o B i (wtB B) ln b f0).1 ∧ Sim u.2.2.2 (s_carry_o B i (wtB B) ln b f0).2 (q + 1) ∧ PW t0 X L tg u)) ([.ref th, .int (nI i)] : List Value).toArray s 8 1032 (ew_A L s.heap.size)) (F0 m 256 ls []) := by
    intro k0 n X1 L1 tg1 A1 B1 mm k H locs ls hI hW1 hpr hps hk0 hk5 hr1 hr2 hV hS hl
    obtain ⟨q', hq', S1⟩ := hI.sim
    have hm : mm ≤ 1 := by rcases hI with ⟨h, _⟩ | ⟨h, _⟩ <;> omega
    have sn : A1 5 (6 * ln + b) 4 = nI k := by
      have h1 := (congrFun S1.R.E.1 (6 * ln + b)).trans (S1.I.E.2.1 (2 * (6 * ln + b)))
      rw [hps] at h1; exact h1
    refine lv_aload hx hb dL_carry_256 (lv_at hl 4 rfl) ?_
    refine ew_get (v := .int (A1 5 (6 * ln + b) 4)) hx hb hts hown hK hV fL_185 (hpr _ _ _ iG) (cC_5 _ _ _ _) rfl dL_carry_258 ?_
    refine lv_toe (y := nI k) sn ?_
    refine lv_iload hx hb dL_carry_261 (lv_at hl 2 rfl) ?_
    refine lv_isub hx hb dL_carry_263 ?_
    refine lv_toe (y := nI (k - k0)) (pk_sub (a := k) (b := k0) hk0) ?_
    refine W.widen (k := 8) (n := 1032) (by omega) (by omega) ?_
    refine em_iret hx hb hr hlocks hV hS dL_carry_264 ⟨hr1, ?_, hW1, hpr⟩
    show Sim A1 _ (q + 1)
    rw [← hr2]
    rcases hI with ⟨_, h⟩ | ⟨_, ⟨h, _⟩ | ⟨h, _⟩⟩
    · exact h.mono hq
    · exact h
    · exact h.mono hq
  have loop : ∀ (k0 n f : Nat) (X1 : Nat → Nat → Nat) (L1 : List Nat) (tg1 : Nat → Nat × Nat) (A1 B1 : ew_R) (mm k : Nat) (H : Heap) (locs : List Loc) (ls : Array Slot), IvO q ln b mm A1 B1 → WI t0 X1 L1 tg1 A1 → (∀ c i a, ew_in X L tg c i a → ew_in X1 L1 tg1 c i a) → ¬ B1 22 0 (6 * ln + b) = 0 → p_n B1 (2 * (6 * ln + b) + 1) = n → p_s B1 (2 * (6 * ln + b)) = k → k0 ≤ k → n ≤ k + f → (s_cl_o ln b f B1).1 + nI (k - k0) = (s_carry_o B i (wtB B) ln b f0).1 → (s_cl_o ln b f B1).2 = (s_carry_o B i (wtB B) ln b f0).2 → ew_V D vwCl (cfC T) (ew_A L s.heap.size) X1 L1 tg1 A1 [] H → va_S (ew_A L s.heap.size) s.heap H locs → lv_has ls 10 [(9, .int (nI k)), (8, .int (nI n)), (7, .int (nI k0)), (6, .ref (X 15 (6 * ln + b))), (5, .ref (X 5 (6 * ln + b))), (4, .ref (X 4 (6 * ln + b))), (3, .int 1), (2, .ref (X 2 ln)), (0, .ref th), (1, .int (nI i))] → W p l e ({ frames := 13, cells := 8, slots := 1032, locals := 420 }) s m ([.ref th, .int (nI i)] : List Value).toArray below meth c H locs (8 * mm) (1032 * mm) (MQ below (em_Qi D vwCl (cfC T) L s.heap.size (fun r u => r = (s_carry_o B i (wtB B) ln b f0).1 ∧ Sim u.2.2.2 (s_carry_o B i (wtB B) ln b f0).2 (q + 1) ∧ PW t0 X L tg u)) ([.ref th, .int (nI i)] : List Value).toArray s 8 1032 (ew_A L s.heap.size)) (F0 m 167 ls []) := by
    intro k0 n f
    induction f with
    | zero =>
      intro X1 L1 tg1 A1 B1 mm k H locs ls hI hW1 hpr hd1 hpn hps hk0 hnf hr1 hr2 hV hS hl
      obtain ⟨q', hq', S1⟩ := hI.sim
      have hn9 := S1.nle (2 * (6 * ln + b) + 1)
      have hs9 := S1.I.E.2.2.2.1 (6 * ln + b)
      have hk5 : k ≤ 512 := by have := S1.q512; omega
      refine lv_iload hx hb dL_carry_167 (lv_at hl 0 rfl) ?_
      refine lv_iload hx hb dL_carry_169 (lv_at hl 1 rfl) ?_
      refine lv_icmp_ge (tgt := 256) hx hb dL_carry_171 rfl (fun _ => ?_) (fun h9 => absurd ((nI_leI (a := n) (b := k) (by omega) (by omega)).mpr (show n ≤ k by omega)) h9)
      exact fin k0 n X1 L1 tg1 A1 B1 mm k H locs ls hI hW1 hpr hps hk0 hk5 (by rw [← hr1]; show nI (k - k0) = 0 + nI (k - k0); rw [Int32.zero_add]) hr2 hV hS hl
    | succ f ih =>
      intro X1 L1 tg1 A1 B1 mm k H locs ls hI hW1 hpr hd1 hpn hps hk0 hnf hr1 hr2 hV hS hl
      obtain ⟨q', hq', S1⟩ := hI.sim
      have hn9 := S1.nle (2 * (6 * ln + b) + 1)
      have hs9 := S1.I.E.2.2.2.1 (6 * ln + b)
      have hk5 : k ≤ 512 := by have := S1.q512; omega
      have hm : mm ≤ 1 := by rcases hI with ⟨h, _⟩ | ⟨h, _⟩ <;> omega
      have hfc : 8 * mm + 0 ≤ 8 ∧ 1032 * mm + 0 ≤ 1032 := by omega
      rw [s_cl_o_s] at hr1 hr2
      refine lv_iload hx hb dL_carry_167 (lv_at hl 0 rfl) ?_
      refine lv_iload hx hb dL_carry_169 (lv_at hl 1 rfl) ?_
      refine lv_icmp_ge (tgt := 256) hx hb dL_carry_171 rfl (fun h9 => ?_) (fun h9 => ?_)
      · have hnk := (nI_leI (a := n) (b := k) (by omega) (by omega)).mp h9
        have hx9 := (S1.hd_o hd1).1 (by omega)
        rw [if_pos hx9] at hr1 hr2
        exact fin k0 n X1 L1 tg1 A1 B1 mm k H locs ls hI hW1 hpr hps hk0 hk5 (by rw [← hr1]; show nI (k - k0) = 0 + nI (k - k0); rw [Int32.zero_add]) hr2 hV hS hl
      have hkn : k < n := by
        rcases Nat.lt_or_ge k n with h | h
        · exact h
        · exact absurd ((nI_leI (a := n) (b := k) (by omega) (by omega)).mpr h) h9
      have hsk : p_s B1 (2 * (6 * ln + b)) < p_n B1 (2 * (6 * ln + b) + 1) := by omega
      obtain ⟨j, hj, hxj, j32, j33, a1, a2, a3⟩ := (S1.hd_o hd1).2 hsk
      have hlg := S1.I.S.2.2.2.2.2
      have hx1 : ¬ nxB B1 (2 * (6 * ln + b) + 1) (2 * (6 * ln + b)) = (-1) := by rw [hxj]; exact nI_m1 (by omega)
      have hxc : (nxB B1 (2 * (6 * ln + b) + 1) (2 * (6 * ln + b))).toNatClampNeg = j := by rw [hxj, nI_clamp (by omega)]
      rw [if_neg hx1, hxc] at hr1 hr2
      obtain ⟨o, cap, g14, g6, g1, g2, g3, g4, g5, g7, g8, g9⟩ := S1.get15 (k := k) hW1 hd1 (by omega)
      rw [hpn] at g4 g7 g8
      rw [hps] at a1 a2 a3
      have p0 := hpr _ _ _ hth
      have p2 := hpr _ _ _ i2
      have p4 := hpr _ _ _ i4
      have pG := hpr _ _ _ iG
      have pS := hpr _ _ _ iS
      have pL := hpr _ _ _ iL
      refine lv_aload hx hb dL_carry_174 (lv_at hl 3 rfl) ?_
      refine ew_get (v := .ref (X 16 (6 * ln + b))) hx hb hts hown hK hV fL_145 pS (cC_15 _ _ _ _) (congrArg (fun z => some (Value.ref z)) pL.1) dL_carry_176 ?_
      refine lv_iload hx hb dL_carry_179 (lv_at hl 0 rfl) ?_
      refine er_callq (va_runV (As := [.int (nI k)]) (rest := []) ⟨hx, hb, hml, hown, hts⟩ (c_AL_get_16 l D T X1 L1 tg1 _ A1 (6 * ln + b) (X 16 (6 * ln + b)) pL k o cap n g14 g6 g1 g2 g3 g4 g5 g7 g8 g9 hkn) (cwV 1 hts gL_155 rfl rfl rfl (by decide +kernel) ⟨Nat.le_of_ble_eq_true rfl, Nat.le_of_ble_eq_true rfl⟩) (ec_preV hK hN hV pL (cC_16 _ _ _ _) rfl) rfl rfl hl.1 rfl (lv_room (Nat.le_of_ble_eq_true rfl)) dL_carry_181 hfc) hV hS hA (fun r u H locs hp hV hS => ?_)
      obtain ⟨rfl, eu9⟩ := hp
      rw [eu9] at hV
      refine va_castY hx hb hown (hts _ kl_L_32) (hN.at 4 rfl) (ec_recv hK hV g6 (cC_19 _ _ _ _) rfl) dL_carry_184 ?_
      refine ew_get (v := .int (A1 19 (512 * (6 * ln + b) + k) 3)) hx hb hts hown hK hV fL_188 g6 (cC_19 _ _ _ _) rfl dL_carry_187 ?_
      refine lv_toe (y := B1 36 0 j) a3 ?_
      refine lv_if_eq (tgt := 256) hx hb dL_carry_190 rfl (fun hz => ?_) (fun hz => ?_)
      · rw [if_pos hz] at hr1 hr2
        exact fin k0 n X1 L1 tg1 A1 B1 mm k H locs ls hI hW1 hpr hps hk0 hk5 (by rw [← hr1]; show nI (k - k0) = 0 + nI (k - k0); rw [Int32.zero_add]) hr2 hV hS hl
      rw [if_neg hz] at hr1 hr2
      refine lv_aload hx hb dL_carry_193 (lv_at hl 4 rfl) ?_
      refine lv_dup hx hb dL_carry_195 rfl ?_
      refine ew_get (v := .int (A1 5 (6 * ln + b) 4)) hx hb hts hown hK hV fL_185 pG (cC_5 _ _ _ _) rfl dL_carry_196 ?_
      refine lv_iconst (v := 1) hx hb dL_carry_199 (by decide) ?_
      refine lv_iadd hx hb dL_carry_200 ?_
      refine ew_put (ty := .int) hx hb hts hown hK hV hS fL_185 gSide pG (cC_5 _ _ _ _) 4 _ (pC_5_4 _ _ _ _ _) rfl (by decide +kernel) rfl rfl (Nat.le_of_ble_eq_true rfl) dL_carry_201 (fun H locs hV hS => ?_)
      have oA : ∀ c, c ≠ 5 → up3 A1 5 (6 * ln + b) 4 (A1 5 (6 * ln + b) 4 + 1) c = A1 c := fun c h => p_kd_up _ _ _ _ h
      have hW2 : WI t0 X1 L1 tg1 (up3 A1 5 (6 * ln + b) 4 (A1 5 (6 * ln + b) 4 + 1)) := hW1.up (by rw [oA 0 (by decide)]) (by rw [oA 0 (by decide)]) (fun c hc => oA c (by omega))
      have er9 : ∀ a : Int32, a + 1 + nI (k - k0) = a + nI (k + 1 - k0) := fun a => by rw [Int32.add_assoc, show (1 : Int32) + nI (k - k0) = nI (k + 1 - k0) by rw [Int32.add_comm, nI_1]; congr 1; omega]
      rw [show ((s_cl_o ln b f (s_tk_o B1 ln b)).1 + 1, (s_cl_o ln b f (s_tk_o B1 ln b)).2).1 = (s_cl_o ln b f (s_tk_o B1 ln b)).1 + 1 from rfl, er9] at hr1
      obtain ⟨fx1, fx2, fx3⟩ := tk_o_fx rfl S1 hd1 hsk
      refine lv_iload_n hx hb dL_carry_204 rfl (lv_at hl 6 rfl) ?_
      refine lv_if_eq (tgt := 231) hx hb dL_carry_205 rfl (fun h9 => absurd h9 (by decide)) (fun _ => ?_)
      refine lv_aload_n hx hb dL_carry_208 rfl (lv_at hl 8 rfl) ?_
      refine lv_aload_n hx hb dL_carry_209 rfl (lv_at hl 7 rfl) ?_
      refine lv_aload hx hb dL_carry_210 (lv_at hl 5 rfl) ?_
      refine lv_aload hx hb dL_carry_212 (lv_at hl 3 rfl) ?_
      refine ew_get (v := .ref (X 16 (6 * ln + b))) hx hb hts hown hK hV fL_145 pS (cC_15 _ _ _ _) (congrArg (fun z => some (Value.ref z)) pL.1) dL_carry_214 ?_
      refine lv_iload hx hb dL_carry_217 (lv_at hl 0 rfl) ?_
      refine er_callq (va_runV (As := [.int (nI k)]) (rest := [.ref (X 4 (6 * ln + b)), .ref (X 2 ln), .ref th]) ⟨hx, hb, hml, hown, hts⟩ (c_AL_get_16 l D T X1 L1 tg1 _ _ (6 * ln + b) (X 16 (6 * ln + b)) pL k o cap n g14 g6 (by rw [oA 16 (by decide)]; exact g1) g2 g3 (by rw [oA 16 (by decide)]; exact g4) (by rw [oA 20 (by decide)]; exact g5) (by rw [oA 20 (by decide)]; exact g7) g8 g9 hkn) (cwV 1 hts gL_155 rfl rfl rfl (by decide +kernel) ⟨Nat.le_of_ble_eq_true rfl, Nat.le_of_ble_eq_true rfl⟩) (ec_preV hK hN hV pL (cC_16 _ _ _ _) rfl) rfl rfl hl.1 rfl (lv_room (Nat.le_of_ble_eq_true rfl)) dL_carry_219 hfc) hV hS hA (fun r u H locs hp hV hS => ?_)
      obtain ⟨rfl, eu9⟩ := hp
      rw [eu9] at hV
      refine va_castY hx hb hown (hts _ kl_L_32) (hN.at 4 rfl) (ec_recv hK hV g6 (cC_19 _ _ _ _) rfl) dL_carry_222 ?_
      have er : (if nI b = B1 16 0 ln then s_takeRequester (up3 B1 30 0 (2 * (6 * ln + b)) (B1 30 0 (2 * (6 * ln + b)) + 1)) ln (B1 34 0 j) (B1 35 0 j) (p_t B1 ln) (p_x B1 ln) (p_q B1 ln) (wtB B1) (lgB B1) else up3 B1 30 0 (2 * (6 * ln + b)) (B1 30 0 (2 * (6 * ln + b)) + 1)) = s_tk_o B1 ln b := by unfold s_tk_o; rw [hxc]; rfl
      have hc := cx_rt1 l D T t0 X1 L1 tg1 H.size A1 (d := (6 * ln + b)) (ln := ln) (b := b) (j := j) (k := B1 34 0 j) (tl := B1 35 0 j) hq hI hW2 hd1 rfl hb6 hsk ⟨hj, j32, j33, rfl, rfl, by rw [hps]; exact a1, by rw [hps]; exact a2⟩ th (X 2 ln) (X 4 (6 * ln + b)) (X1 19 (512 * (6 * ln + b) + k)) p0 p2 p4 (by rw [hps]; exact g6)
      rw [er] at hc
      rcases hc with ⟨A', hM, P', W'⟩ | ⟨m0, hM⟩
      · refine er_callv (va_runV (As := [.ref (X 2 ln), .ref (X 4 (6 * ln + b)), .ref (X1 19 (512 * (6 * ln + b) + k))]) (rest := []) ⟨hx, hb, hml, hown, hts⟩ hM (cwV 3 hts gL_192 rfl rfl rfl (by decide +kernel) ⟨Nat.le_of_ble_eq_true rfl, Nat.le_of_ble_eq_true rfl⟩) (ec_preV hK hN hV p0 (cC_0 _ _ _ _) rfl) rfl rfl hl.1 rfl (lv_room (Nat.le_of_ble_eq_true rfl)) dL_carry_225 hfc) hV hS hA (fun u H locs eu hV hS => ?_)
        rw [eu] at hV
        refine lv_goto (tgt := 250) hx hb dL_carry_228 rfl ?_
        refine lv_iinc (k := 0) (v := nI (k + 1)) (lv' := [(9, .int (nI (k + 1))), (8, .int (nI n)), (7, .int (nI k0)), (6, .ref (X 15 (6 * ln + b))), (5, .ref (X 5 (6 * ln + b))), (4, .ref (X 4 (6 * ln + b))), (3, .int 1), (2, .ref (X 2 ln)), (0, .ref th), (1, .int (nI i))]) hx hb dL_carry_250 hl rfl (nI_add k 1) (by decide) rfl (fun ls hl => ?_)
        refine lv_goto (tgt := 167) hx hb dL_carry_253 rfl ?_
        exact ih X1 L1 tg1 A' _ mm (k + 1) H locs ls P' W' hpr fx1 (fx2.trans hpn) (by rw [fx3, hps]) (by omega) (by omega) hr1 hr2 hV hS hl
      · subst m0
        refine em_callv (va_runV (As := [.ref (X 2 ln), .ref (X 4 (6 * ln + b)), .ref (X1 19 (512 * (6 * ln + b) + k))]) (rest := []) ⟨hx, hb, hml, hown, hts⟩ hM (cwV 3 hts gL_192 rfl rfl rfl (by decide +kernel) ⟨Nat.le_of_ble_eq_true rfl, Nat.le_of_ble_eq_true rfl⟩) (em_preV hK hN hV hZ hS hA p0 (cC_0 _ _ _ _) rfl) rfl rfl hl.1 rfl (lv_room (Nat.le_of_ble_eq_true rfl)) dL_carry_225 ⟨Nat.le_of_ble_eq_true rfl, Nat.le_of_ble_eq_true rfl⟩) hV hS hA (fun X2 L2 tg2 u H locs hp hV hS => ?_)
        obtain ⟨P', W', pr'⟩ := hp
        refine lv_goto (tgt := 250) hx hb dL_carry_228 rfl ?_
        refine lv_iinc (k := 0) (v := nI (k + 1)) (lv' := [(9, .int (nI (k + 1))), (8, .int (nI n)), (7, .int (nI k0)), (6, .ref (X 15 (6 * ln + b))), (5, .ref (X 5 (6 * ln + b))), (4, .ref (X 4 (6 * ln + b))), (3, .int 1), (2, .ref (X 2 ln)), (0, .ref th), (1, .int (nI i))]) hx hb dL_carry_250 hl rfl (nI_add k 1) (by decide) rfl (fun ls hl => ?_)
        refine lv_goto (tgt := 167) hx hb dL_carry_253 rfl ?_
        exact ih X2 L2 tg2 u _ 1 (k + 1) H locs ls P' W' (fun c i a h => pr' c i a (hpr c i a h)) fx1 (fx2.trans hpn) (by rw [fx3, hps]) (by omega) (by omega) hr1 hr2 hV hS hl
  have tail : ∀ (A1 : ew_R) (H : Heap) (locs : List Loc) (ls : Array Slot), Sim A1 (s_cpre_o B i (wtB B) ln b) q → (∀ c, c ≠ 5 → c ≠ 19 → A1 c = A c) → ew_V D vwCl (cfC T) (ew_A L s.heap.size) X L tg A1 [] H → va_S (ew_A L s.heap.size) s.heap H locs → lv_has ls 10 [(6, .ref (X 15 (6 * ln + b))), (5, .ref (X 5 (6 * ln + b))), (4, .ref (X 4 (6 * ln + b))), (3, .int 1), (2, .ref (X 2 ln)), (0, .ref th), (1, .int (nI i))] → W p l e ({ frames := 13, cells := 8, slots := 1032, locals := 420 }) s m ([.ref th, .int (nI i)] : List Value).toArray below meth c H locs 0 0 (MQ below (em_Qi D vwCl (cfC T) L s.heap.size (fun r u => r = (s_carry_o B i (wtB B) ln b f0).1 ∧ Sim u.2.2.2 (s_carry_o B i (wtB B) ln b f0).2 (q + 1) ∧ PW t0 X L tg u)) ([.ref th, .int (nI i)] : List Value).toArray s 8 1032 (ew_A L s.heap.size)) (F0 m 146 ls []) := by
    intro A1 H locs ls S1 f1 hV hS hl
    have oB : ∀ c, c ∉ [0, 31, 36] → s_cpre_o B i (wtB B) ln b c = B c := fun c h => s_cpre_o_oth B i (wtB B) ln b h
    have W1 : WI t0 X L tg A1 := W0.up (by rw [f1 0 (by decide) (by decide)]) (by rw [f1 0 (by decide) (by decide)]) (fun c hc => f1 c (by omega) (by omega))
    have sn : A1 5 (6 * ln + b) 4 = nI (p_s (s_cpre_o B i (wtB B) ln b) (2 * (6 * ln + b))) := (congrFun S1.R.E.1 (6 * ln + b)).trans (S1.I.E.2.1 (2 * (6 * ln + b)))
    have sz9 : A1 16 (6 * ln + b) 2 = nI (p_n (s_cpre_o B i (wtB B) ln b) (2 * (6 * ln + b) + 1)) := S1.n16 (6 * ln + b)
    have hpn : p_n (s_cpre_o B i (wtB B) ln b) (2 * (6 * ln + b) + 1) = p_n B (2 * (6 * ln + b) + 1) := by unfold p_n; rw [oB 29 (by decide)]
    refine lv_aload hx hb dL_carry_146 (lv_at hl 1 rfl) ?_
    refine ew_get (v := .int (A1 5 (6 * ln + b) 4)) hx hb hts hown hK hV fL_185 iG (cC_5 _ _ _ _) rfl dL_carry_148 ?_
    refine lv_toe (y := nI (p_s (s_cpre_o B i (wtB B) ln b) (2 * (6 * ln + b)))) sn ?_
    generalize hk0 : p_s (s_cpre_o B i (wtB B) ln b) (2 * (6 * ln + b)) = k0
    refine lv_istore (lv' := [(7, .int (nI k0)), (6, .ref (X 15 (6 * ln + b))), (5, .ref (X 5 (6 * ln + b))), (4, .ref (X 4 (6 * ln + b))), (3, .int 1), (2, .ref (X 2 ln)), (0, .ref th), (1, .int (nI i))]) hx hb dL_carry_151 hl (by decide) rfl (fun ls hl => ?_)
    refine lv_aload hx hb dL_carry_153 (lv_at hl 1 rfl) ?_
    refine ew_get (v := .ref (X 16 (6 * ln + b))) hx hb hts hown hK hV fL_145 iS (cC_15 _ _ _ _) rfl dL_carry_155 ?_
    refine er_calli (va_runV (As := []) (rest := []) ⟨hx, hb, hml, hown, hts⟩ (c_AL_size_16 l D T X L tg _ A1 (6 * ln + b) (X 16 (6 * ln + b)) iL) (cwV 0 hts gL_149 rfl rfl rfl (by decide +kernel) ⟨Nat.le_of_ble_eq_true rfl, Nat.le_of_ble_eq_true rfl⟩) (ec_preV hK hN hV iL (cC_16 _ _ _ _) rfl) rfl rfl hl.1 rfl (lv_room (Nat.le_of_ble_eq_true rfl)) dL_carry_158 ⟨Nat.le_of_ble_eq_true rfl, Nat.le_of_ble_eq_true rfl⟩) hV hS hA (fun r u H locs hp hV hS => ?_)
    obtain ⟨rfl, eu9⟩ := hp
    rw [eu9] at hV
    refine lv_toe (y := nI (p_n (s_cpre_o B i (wtB B) ln b) (2 * (6 * ln + b) + 1))) sz9 ?_
    generalize hn0 : p_n (s_cpre_o B i (wtB B) ln b) (2 * (6 * ln + b) + 1) = n
    refine lv_istore (lv' := [(8, .int (nI n)), (7, .int (nI k0)), (6, .ref (X 15 (6 * ln + b))), (5, .ref (X 5 (6 * ln + b))), (4, .ref (X 4 (6 * ln + b))), (3, .int 1), (2, .ref (X 2 ln)), (0, .ref th), (1, .int (nI i))]) hx hb dL_carry_161 hl (by decide) rfl (fun ls hl => ?_)
    refine lv_iload hx hb dL_carry_163 (lv_at hl 1 rfl) ?_
    refine lv_istore (lv' := [(9, .int (nI k0)), (8, .int (nI n)), (7, .int (nI k0)), (6, .ref (X 15 (6 * ln + b))), (5, .ref (X 5 (6 * ln + b))), (4, .ref (X 4 (6 * ln + b))), (3, .int 1), (2, .ref (X 2 ln)), (0, .ref th), (1, .int (nI i))]) hx hb dL_carry_165 hl (by decide) rfl (fun ls hl => ?_)
    exact loop k0 n f0 X L tg A1 _ 0 k0 H locs ls (Or.inl ⟨rfl, S1⟩) W1 (fun c i a h => h) (by rw [oB 22 (by decide)]; exact hd) hn0 hk0 (Nat.le_refl _) (by omega) (by rw [Nat.sub_self, nI_0, Int32.add_zero]; rfl) rfl hV hS hl
  refine lv_aload_n hx hb dL_carry_0 rfl (lv_at hl9 0 rfl) ?_
  refine lv_aload_n hx hb dL_carry_1 rfl (lv_at hl9 0 rfl) ?_
  refine ew_get (v := .ref (X 7 0)) hx hb hts hown hK hV fL_28 hth (cC_0 _ _ _ _) rfl dL_carry_2 ?_
  refine lv_iload_n hx hb dL_carry_5 rfl (lv_at hl9 1 rfl) ?_
  refine lv_iconst (v := 0) hx hb dL_carry_6 (by decide) ?_
  refine lv_toe (y := nI 0) (by decide +kernel) ?_
  refine er_calli (va_runV (As := [.int (nI i), .int (nI 0)]) (rest := [.ref th]) ⟨hx, hb, hml, hown, hts⟩ (c_Row_told_ok l D T X L tg _ A (X 7 0) i7 i 0 (wtB B) i12 hwt.2 qw hi (by decide)) (cwV 2 hts gL_165 rfl rfl rfl (by decide +kernel) ⟨Nat.le_of_ble_eq_true rfl, Nat.le_of_ble_eq_true rfl⟩) (ec_preV hK hN hV i7 (cC_7 _ _ _ _) rfl) rfl rfl hl9.1 rfl (lv_room (Nat.le_of_ble_eq_true rfl)) dL_carry_7 ⟨Nat.le_of_ble_eq_true rfl, Nat.le_of_ble_eq_true rfl⟩) hV hS hA (fun r u H locs hp hV hS => ?_)
  obtain ⟨rfl, eu9⟩ := hp
  rw [eu9] at hV
  refine lv_toe (y := nI ln) T0 ?_
  refine er_callq (va_runV (As := [.int (nI ln)]) (rest := []) ⟨hx, hb, hml, hown, hts⟩ (c_L_loanAt_ok l D T X L tg _ A th hth ln (p_l B) i10 i2 l32.2 qnl hl qfl) (cwV 1 hts gL_88 rfl rfl rfl (by decide +kernel) ⟨Nat.le_of_ble_eq_true rfl, Nat.le_of_ble_eq_true rfl⟩) (ec_preV hK hN hV hth (cC_0 _ _ _ _) rfl) rfl rfl hl9.1 rfl (lv_room (Nat.le_of_ble_eq_true rfl)) dL_carry_10 ⟨Nat.le_of_ble_eq_true rfl, Nat.le_of_ble_eq_true rfl⟩) hV hS hA (fun r u H locs hp hV hS => ?_)
  obtain ⟨rfl, eu9⟩ := hp
  rw [eu9] at hV
  refine lv_astore_n (lv' := [(2, .ref (X 2 ln)), (0, .ref th), (1, .int (nI i))]) hx hb dL_carry_13 rfl hl9 (by decide) rfl (fun ls hl9 => ?_)
  refine lv_aload_n hx hb dL_carry_14 rfl (lv_at hl9 0 rfl) ?_
  refine lv_ifnonnull (tgt := 20) hx hb dL_carry_15 rfl ?_
  refine lv_aload_n hx hb dL_carry_20 rfl (lv_at hl9 1 rfl) ?_
  refine ew_get (v := .ref (X 7 0)) hx hb hts hown hK hV fL_28 hth (cC_0 _ _ _ _) rfl dL_carry_21 ?_
  refine lv_iload_n hx hb dL_carry_24 rfl (lv_at hl9 2 rfl) ?_
  refine lv_iconst (v := 2) hx hb dL_carry_25 (by decide) ?_
  refine lv_toe (y := nI 2) (by decide +kernel) ?_
  refine er_calli (va_runV (As := [.int (nI i), .int (nI 2)]) (rest := []) ⟨hx, hb, hml, hown, hts⟩ (c_Row_told_ok l D T X L tg _ A (X 7 0) i7 i 2 (wtB B) i12 hwt.2 qw hi (by decide)) (cwV 2 hts gL_165 rfl rfl rfl (by decide +kernel) ⟨Nat.le_of_ble_eq_true rfl, Nat.le_of_ble_eq_true rfl⟩) (ec_preV hK hN hV i7 (cC_7 _ _ _ _) rfl) rfl rfl hl9.1 rfl (lv_room (Nat.le_of_ble_eq_true rfl)) dL_carry_26 ⟨Nat.le_of_ble_eq_true rfl, Nat.le_of_ble_eq_true rfl⟩) hV hS hA (fun r u H locs hp hV hS => ?_)
  obtain ⟨rfl, eu9⟩ := hp
  rw [eu9] at hV
  refine lv_toe (y := nI (p_q B ln)) T2 ?_
  refine lv_aload_n hx hb dL_carry_29 rfl (lv_at hl9 0 rfl) ?_
  refine ew_get (v := .int (A 2 ln 1)) hx hb hts hown hK hV fL_96 i2 (cC_2 _ _ _ _) rfl dL_carry_30 ?_
  refine lv_toe (y := nI (p_q B ln)) qrq ?_
  refine lv_icmp_ne (tgt := 40) hx hb dL_carry_33 rfl (fun h9 => absurd rfl h9) (fun _ => ?_)
  refine lv_iconst (v := 1) hx hb dL_carry_36 (by decide) ?_
  refine lv_goto (tgt := 41) hx hb dL_carry_37 rfl ?_
  refine lv_istore_n (lv' := [(3, .int 1), (2, .ref (X 2 ln)), (0, .ref th), (1, .int (nI i))]) hx hb dL_carry_41 rfl hl9 (by decide) rfl (fun ls hl9 => ?_)
  refine lv_aload_n hx hb dL_carry_42 rfl (lv_at hl9 1 rfl) ?_
  refine lv_aload_n hx hb dL_carry_43 rfl (lv_at hl9 2 rfl) ?_
  refine ew_get (v := .ref (X 7 0)) hx hb hts hown hK hV fL_28 hth (cC_0 _ _ _ _) rfl dL_carry_44 ?_
  refine lv_iload_n hx hb dL_carry_47 rfl (lv_at hl9 3 rfl) ?_
  refine lv_iload_n hx hb dL_carry_48 rfl (lv_at hl9 0 rfl) ?_
  refine lv_if_eq (tgt := 56) hx hb dL_carry_49 rfl (fun h9 => absurd h9 (by decide)) (fun _ => ?_)
  refine lv_iconst (v := 1) hx hb dL_carry_52 (by decide) ?_
  refine lv_goto (tgt := 57) hx hb dL_carry_53 rfl ?_
  refine lv_toe (y := nI 1) (by decide +kernel) ?_
  refine er_calli (va_runV (As := [.int (nI i), .int (nI 1)]) (rest := [.ref (X 2 ln)]) ⟨hx, hb, hml, hown, hts⟩ (c_Row_told_ok l D T X L tg _ A (X 7 0) i7 i 1 (wtB B) i12 hwt.2 qw hi (by decide)) (cwV 2 hts gL_165 rfl rfl rfl (by decide +kernel) ⟨Nat.le_of_ble_eq_true rfl, Nat.le_of_ble_eq_true rfl⟩) (ec_preV hK hN hV i7 (cC_7 _ _ _ _) rfl) rfl rfl hl9.1 rfl (lv_room (Nat.le_of_ble_eq_true rfl)) dL_carry_57 ⟨Nat.le_of_ble_eq_true rfl, Nat.le_of_ble_eq_true rfl⟩) hV hS hA (fun r u H locs hp hV hS => ?_)
  obtain ⟨rfl, eu9⟩ := hp
  rw [eu9] at hV
  refine lv_toe (y := nI b) T1 ?_
  refine er_callq (va_runV (As := [.int (nI b)]) (rest := []) ⟨hx, hb, hml, hown, hts⟩ (c_Loan_dealWith_ok l D T X L tg _ A ln (X 2 ln) i2 b i13 i4 hb6 qfd) (cwV 1 hts gL_116 rfl rfl rfl (by decide +kernel) ⟨Nat.le_of_ble_eq_true rfl, Nat.le_of_ble_eq_true rfl⟩) (ec_preV hK hN hV i2 (cC_2 _ _ _ _) rfl) rfl rfl hl9.1 rfl (lv_room (Nat.le_of_ble_eq_true rfl)) dL_carry_60 ⟨Nat.le_of_ble_eq_true rfl, Nat.le_of_ble_eq_true rfl⟩) hV hS hA (fun r u H locs hp hV hS => ?_)
  obtain ⟨rfl, eu9⟩ := hp
  rw [eu9] at hV
  refine lv_astore (lv' := [(4, .ref (X 4 (6 * ln + b))), (3, .int 1), (2, .ref (X 2 ln)), (0, .ref th), (1, .int (nI i))]) hx hb dL_carry_63 hl9 (by decide) rfl (fun ls hl9 => ?_)
  refine lv_aload hx hb dL_carry_65 (lv_at hl9 0 rfl) ?_
  refine lv_ifnonnull (tgt := 72) hx hb dL_carry_67 rfl ?_
  refine lv_iload_n hx hb dL_carry_72 rfl (lv_at hl9 1 rfl) ?_
  refine lv_if_eq (tgt := 84) hx hb dL_carry_73 rfl (fun h9 => absurd h9 (by decide)) (fun _ => ?_)
  refine lv_aload hx hb dL_carry_76 (lv_at hl9 0 rfl) ?_
  refine ew_get (v := .ref (X 5 (6 * ln + b))) hx hb hts hown hK hV fL_169 i4 (cC_4 _ _ _ _) rfl dL_carry_78 ?_
  refine lv_goto (tgt := 89) hx hb dL_carry_81 rfl ?_
  refine lv_astore (lv' := [(5, .ref (X 5 (6 * ln + b))), (4, .ref (X 4 (6 * ln + b))), (3, .int 1), (2, .ref (X 2 ln)), (0, .ref th), (1, .int (nI i))]) hx hb dL_carry_89 hl9 (by decide) rfl (fun ls hl9 => ?_)
  refine lv_iload_n hx hb dL_carry_91 rfl (lv_at hl9 2 rfl) ?_
  refine lv_if_eq (tgt := 103) hx hb dL_carry_92 rfl (fun h9 => absurd h9 (by decide)) (fun _ => ?_)
  refine lv_aload hx hb dL_carry_95 (lv_at hl9 1 rfl) ?_
  refine ew_get (v := .ref (X 15 (6 * ln + b))) hx hb hts hown hK hV fL_173 i4 (cC_4 _ _ _ _) rfl dL_carry_97 ?_
  refine lv_goto (tgt := 108) hx hb dL_carry_100 rfl ?_
  refine lv_astore (lv' := [(6, .ref (X 15 (6 * ln + b))), (5, .ref (X 5 (6 * ln + b))), (4, .ref (X 4 (6 * ln + b))), (3, .int 1), (2, .ref (X 2 ln)), (0, .ref th), (1, .int (nI i))]) hx hb dL_carry_108 hl9 (by decide) rfl (fun ls hl9 => ?_)
  refine lv_aload hx hb dL_carry_110 (lv_at hl9 1 rfl) ?_
  refine lv_aload hx hb dL_carry_112 (lv_at hl9 1 rfl) ?_
  refine ew_get (v := .int (A 5 (6 * ln + b) 5)) hx hb hts hown hK hV fL_140 iG (cC_5 _ _ _ _) rfl dL_carry_114 ?_
  refine lv_toe (y := nI (p_a B (2 * (6 * ln + b)))) qa ?_
  refine lv_aload_n hx hb dL_carry_117 rfl (lv_at hl9 5 rfl) ?_
  refine ew_get (v := .ref (X 7 0)) hx hb hts hown hK hV fL_28 hth (cC_0 _ _ _ _) rfl dL_carry_118 ?_
  refine lv_iload_n hx hb dL_carry_121 rfl (lv_at hl9 6 rfl) ?_
  refine lv_iconst (v := 4) hx hb dL_carry_122 (by decide) ?_
  refine lv_toe (y := nI 4) (by decide +kernel) ?_
  refine er_calli (va_runV (As := [.int (nI i), .int (nI 4)]) (rest := [.int (nI (p_a B (2 * (6 * ln + b)))), .ref (X 5 (6 * ln + b))]) ⟨hx, hb, hml, hown, hts⟩ (c_Row_told_ok l D T X L tg _ A (X 7 0) i7 i 4 (wtB B) i12 hwt.2 qw hi (by decide)) (cwV 2 hts gL_165 rfl rfl rfl (by decide +kernel) ⟨Nat.le_of_ble_eq_true rfl, Nat.le_of_ble_eq_true rfl⟩) (ec_preV hK hN hV i7 (cC_7 _ _ _ _) rfl) rfl rfl hl9.1 rfl (lv_room (Nat.le_of_ble_eq_true rfl)) dL_carry_123 ⟨Nat.le_of_ble_eq_true rfl, Nat.le_of_ble_eq_true rfl⟩) hV hS hA (fun r u H locs hp hV hS => ?_)
  obtain ⟨rfl, eu9⟩ := hp
  rw [eu9] at hV
  refine lv_toe (y := nI v) T4 ?_
  refine va_mmax hx hb (hml.trans hl9.1.symm) hown (hts _ km_176) (hts _ km_mmax_s) (hts _ km_ini) (hts _ km_mmax_c) (Nat.le_of_ble_eq_true rfl) (Nat.le_of_ble_eq_true rfl) (Nat.le_of_ble_eq_true rfl) (Nat.le_of_ble_eq_true rfl) dL_carry_126 ?_
  refine lv_toe (y := nI (max (p_a B (2 * (6 * ln + b))) v)) (mx_nI (by omega) (by omega)) ?_
  refine ew_put (ty := .int) hx hb hts hown hK hV hS fL_140 gSide iG (cC_5 _ _ _ _) 5 _ (pC_5_5 _ _ _ _ _) rfl (by decide +kernel) rfl rfl (Nat.le_of_ble_eq_true rfl) dL_carry_129 (fun H locs hV hS => ?_)
  refine lv_aload hx hb dL_carry_132 (lv_at hl9 0 rfl) ?_
  refine lv_aload_n hx hb dL_carry_134 rfl (lv_at hl9 5 rfl) ?_
  refine ew_get (v := .ref (X 7 0)) hx hb hts hown hK hV fL_28 hth (cC_0 _ _ _ _) rfl dL_carry_135 ?_
  refine lv_iload_n hx hb dL_carry_138 rfl (lv_at hl9 6 rfl) ?_
  refine lv_iconst (v := 3) hx hb dL_carry_139 (by decide) ?_
  refine lv_toe (y := nI 3) (by decide +kernel) ?_
  refine er_calli (va_runV (As := [.int (nI i), .int (nI 3)]) (rest := [.ref (X 15 (6 * ln + b))]) ⟨hx, hb, hml, hown, hts⟩ (c_Row_told_ok l D T X L tg _ (up3 A 5 (6 * ln + b) 5 (nI (max (p_a B (2 * (6 * ln + b))) v))) (X 7 0) i7 i 3 (wtB B) i12 hwt.2 (by rw [p_kd_up _ _ _ _ (by decide)]; exact qw) hi (by decide)) (cwV 2 hts gL_165 rfl rfl rfl (by decide +kernel) ⟨Nat.le_of_ble_eq_true rfl, Nat.le_of_ble_eq_true rfl⟩) (ec_preV hK hN hV i7 (cC_7 _ _ _ _) rfl) rfl rfl hl9.1 rfl (lv_room (Nat.le_of_ble_eq_true rfl)) dL_carry_140 ⟨Nat.le_of_ble_eq_true rfl, Nat.le_of_ble_eq_true rfl⟩) hV hS hA (fun r u H locs hp hV hS => ?_)
  obtain ⟨rfl, eu9⟩ := hp
  rw [eu9] at hV
  rcases h37 with h37 | ⟨j, h37, hj, j32⟩
  · have T3 : A 12 0 (i * 7 + 3) = 0 := by rw [S.told hi (by decide)]; unfold p_let; rw [if_neg (by decide), if_neg (by decide), if_neg (by decide), if_pos rfl, if_pos h37]
    refine lv_toe (y := 0) (by show (up3 A 5 (6 * ln + b) 5 (nI (max (p_a B (2 * (6 * ln + b))) v))) 12 0 (i * 7 + 3) = 0; rw [p_kd_up _ _ _ _ (by decide)]; exact T3) ?_
    refine er_callv (va_runV (As := [.int 0]) (rest := []) ⟨hx, hb, hml, hown, hts⟩ (c_Side_holdAtGoal_15z l D T X L tg _ (up3 A 5 (6 * ln + b) 5 (nI (max (p_a B (2 * (6 * ln + b))) v))) (6 * ln + b) (X 15 (6 * ln + b)) iS) (cwV 1 hts gL_181 rfl rfl rfl (by decide +kernel) ⟨Nat.le_of_ble_eq_true rfl, Nat.le_of_ble_eq_true rfl⟩) (ec_preV hK hN hV iS (cC_15 _ _ _ _) rfl) rfl rfl hl9.1 rfl (lv_room (Nat.le_of_ble_eq_true rfl)) dL_carry_143 ⟨Nat.le_of_ble_eq_true rfl, Nat.le_of_ble_eq_true rfl⟩) hV hS hA (fun u H locs eu hV hS => ?_)
    have eu : u = (up3 A 5 (6 * ln + b) 5 (nI (max (p_a B (2 * (6 * ln + b))) v))) := eu
    rw [eu] at hV
    exact tail _ H locs ls (preB h37) (fun c h _ => p_kd_up _ _ _ _ h) hV hS hl9
  · obtain ⟨k, j33, hk, SL⟩ := preL j h37 hj j32
    have hjl := S.I.S.2.2.2.2.2
    have T3 : A 12 0 (i * 7 + 3) = nI (k + 1) := by rw [S.told hi (by decide)]; unfold p_let; rw [if_neg (by decide), if_neg (by decide), if_neg (by decide), if_pos rfl, if_neg (by rw [h37]; exact nI_m1 (by omega)), h37, nI_clamp (by omega)]; exact j33
    refine lv_toe (y := nI (k + 1)) (by show (up3 A 5 (6 * ln + b) 5 (nI (max (p_a B (2 * (6 * ln + b))) v))) 12 0 (i * 7 + 3) = nI (k + 1); rw [p_kd_up _ _ _ _ (by decide)]; exact T3) ?_
    obtain ⟨o, cap, g14, g6, g1, g2, g3, g4, g5, g7, g8, g9⟩ := S.get15 (k := k) W0 hd hk
    have oA : ∀ c, c ≠ 5 → (up3 A 5 (6 * ln + b) 5 (nI (max (p_a B (2 * (6 * ln + b))) v))) c = A c := fun c h => p_kd_up _ _ _ _ h
    refine er_callv (va_runV (As := [.int (nI (k + 1))]) (rest := []) ⟨hx, hb, hml, hown, hts⟩ (c_Side_holdAtGoal_15 l D T X L tg _ (up3 A 5 (6 * ln + b) 5 (nI (max (p_a B (2 * (6 * ln + b))) v))) (6 * ln + b) (X 15 (6 * ln + b)) iS (k + 1) o cap (p_n B (2 * (6 * ln + b) + 1)) iL g14 g6 (by rw [oA 16 (by decide)]; exact g1) g2 g3 (by rw [oA 16 (by decide)]; exact g4) (by rw [oA 20 (by decide)]; exact g5) (by rw [oA 20 (by decide)]; exact g7) g8 g9 (by omega) (by omega)) (cwV 1 hts gL_181 rfl rfl rfl (by decide +kernel) ⟨Nat.le_of_ble_eq_true rfl, Nat.le_of_ble_eq_true rfl⟩) (ec_preV hK hN hV iS (cC_15 _ _ _ _) rfl) rfl rfl hl9.1 rfl (lv_room (Nat.le_of_ble_eq_true rfl)) dL_carry_143 ⟨Nat.le_of_ble_eq_true rfl, Nat.le_of_ble_eq_true rfl⟩) hV hS hA (fun u H locs eu hV hS => ?_)
    have eu : u = up3 (up3 A 5 (6 * ln + b) 5 (nI (max (p_a B (2 * (6 * ln + b))) v))) 19 (512 * (6 * ln + b) + k) 3 1 := eu
    rw [eu] at hV
    exact tail _ H locs ls SL (fun c h h2 => by rw [p_kd_up _ _ _ _ h2, p_kd_up _ _ _ _ h]) hV hS hl9
