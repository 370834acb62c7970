/-! The next of the rota is asked, or there is none; declines; requests -/
/-- the deals of the loan that aren't the present one keep what holds of them -/
theorem p_ph.old {A A' B B' : ew_R} {ln x d d1 to : Nat} {b : Int32} (H : p_ph A B d) (hl : d / 6 = ln) (hne : ¬ p_k B ln = d % 6) (hd1 : d ≠ d1) (to6 : to < 6) (et : (p_t B ln + x) % 6 = to) (e1 : d1 = 6 * ln + to) (N : p_nx B B' ln x) (M : p_nd A A' ln d1 b (B 11 0 ln)) : p_ph A' B' d := by
  have r : ∀ c, c ∉ [0, 15, 16, 18, 19, 20, 21, 22, 28] → B' c 0 = B c 0 := fun c hc => by rw [N.o c hc]
  have e16 := N.e16; rw [et] at e16
  have hh : ∀ e k, p_has B' e k ↔ p_has B e k := fun e k => p_has_cg (N.e0 5 (by decide)) (r 32 (by decide)) (r 34 (by decide)) e k
  have hw : ∀ d, p_saw B' d ↔ p_saw B d := fun d => p_saw_cg (N.e0 5 (by decide)) (r 32 (by decide)) (r 33 (by decide)) (r 34 (by decide)) d (by simp only [p_s, r 30 (by decide)])
  unfold p_ph at H ⊢
  rw [hl] at H ⊢
  refine (H.other (rs2 := B' 18 0 ln) hne).iff (by rw [r 23 (by decide)]) rfl ?_ (hh _ _) (hw _) (hh _ _) (hh _ _) (hh _ _) (hh _ _) (hh _ _) (by rw [M.a4, va_up_ne _ _ hd1]) (by rw [r 25 (by decide)])
  simp only [p_k, e16, va_up_self]
  rw [nI_clamp (by omega)]
  exact ⟨fun z => absurd z (by omega), fun z => absurd z hne⟩
theorem p_ph.prev {A A' B B' : ew_R} {ln x d d1 to : Nat} {b : Int32} (hl : d / 6 = ln) (hd1 : d ≠ d1) (to6 : to < 6) (et : (p_t B ln + x) % 6 = to) (e1 : d1 = 6 * ln + to) (N : p_nx B B' ln x) (M : p_nd A A' ln d1 b (B 11 0 ln))
    (P : Ph (B 23 0 d) 0 False (p_has B (2 * d + 1) 3) (p_saw B d) (p_has B (2 * d + 1) 4) (p_has B (2 * d + 1) 7) (p_has B (2 * d) 5) (p_has B (2 * d) 6) (p_has B (2 * d) 15) (A 4 d 4 = (-1)) (B 25 0 d = 0)) : p_ph A' B' d := by
  have r : ∀ c, c ∉ [0, 15, 16, 18, 19, 20, 21, 22, 28] → B' c 0 = B c 0 := fun c hc => by rw [N.o c hc]
  have e16 := N.e16; rw [et] at e16
  have hh : ∀ e k, p_has B' e k ↔ p_has B e k := fun e k => p_has_cg (N.e0 5 (by decide)) (r 32 (by decide)) (r 34 (by decide)) e k
  have hw : ∀ d, p_saw B' d ↔ p_saw B d := fun d => p_saw_cg (N.e0 5 (by decide)) (r 32 (by decide)) (r 33 (by decide)) (r 34 (by decide)) d (by simp only [p_s, r 30 (by decide)])
  unfold p_ph
  rw [hl]
  refine P.iff (by rw [r 23 (by decide)]) (by rw [N.e18, va_up_self]) (iff_false_intro ?_) (hh _ _) (hw _) (hh _ _) (hh _ _) (hh _ _) (hh _ _) (hh _ _) (by rw [M.a4, va_up_ne _ _ hd1]) (by rw [r 25 (by decide)])
  simp only [p_k, e16, va_up_self]
  rw [nI_clamp (by omega)]
  omega
/-- the first letter to the new one -/
theorem Sim.first {A' B' : ew_R} {q q' ln d1 w lg : Nat} {t b r : Int32} {A : ew_R} (S : Sim A' B' q) (hqq : q ≤ q') (hq : q' ≤ 512) (hq1 : 1 ≤ q') (e1 : d1 / 6 = ln) (hln : ln < p_l B') (hd : ¬ B' 22 0 d1 = 0) (M : p_nd A A' ln d1 b r) (n0 : p_n B' (2 * d1) = 0) (ew : w = wtB B') (elg : lg = lgB B') (hlg : lg < 2 * q') : Sim (z_L_send_5 A' d1 0 0 w 1 t) (s_write B' (2 * d1) 1 t w lg) q' := by
  refine S.wr5g hqq hq (p_f0.refl A' B' d1) S.R S.I S.Z hd ew elg n0.symm ⟨by omega, Nat.le_refl _, ?_, by omega⟩ (by omega) hlg (by decide) (S.P.rs _ (by omega)) ?_ (S.P.ph d1 hd)
  · rw [M.a8, va_up_self]; rfl
  · obtain ⟨c1, c2, c3, c4, u, g, c5, c6, c7, c8, c9⟩ := S.P.cd d1 hd
    exact ⟨c1, c2, c3, c4, u, g, c5, c6, c7, by omega, c9⟩
/-- the present one has refused: the next is asked -/
theorem Sim.next {A A' B : ew_R} {q ln d st ak rq w lg : Nat} (S : Sim A B q) (hq : q < 512) (hl : ln < p_l B) (ed : d = 6 * ln + p_k B ln) (es : st = p_t B ln) (ea : ak = p_x B ln) (eq : rq = p_q B ln) (ew : w = wtB B) (elg : lg = lgB B) (hx : p_nxt st ak rq < 6) (hr : B 18 0 ln = 0) (h4 : p_has B (2 * d + 1) 4)
    (M : p_nd A A' ln (6 * ln + (st + p_nxt st ak rq) % 6) (nI ((st + p_nxt st ak rq) % 6)) (B 11 0 ln)) : Sim (z_L_send_5 A' (6 * ln + (st + p_nxt st ak rq) % 6) 0 0 w 1 (B 13 0 ln)) (s_askNext B ln st ak rq w lg) (q + 1) := by
  have l32 := S.I.S.nl.2
  obtain ⟨I', h0⟩ := S.I.next hl es ea eq hx
  have N := p_nb_nx B ln st ak rq es.symm
  have et : (p_t B ln + p_nxt st ak rq) % 6 = (st + p_nxt st ak rq) % 6 := by rw [es]
  have R' := Rl.deal S.R.C S.R.E (S.R.D.x ln) S.R.T S.R.R S.R.G S.I.E S.Z hl (Nat.mod_lt _ (by decide)) et h0 N M
  have Z' := S.Z.nx N (by omega)
  have hp := (S.I.L.p ln hl).2
  have hd : ¬ B 22 0 d = 0 := by rw [ed]; exact hp.2.2
  have S1 : Sim A' (p_nb B ln st ak rq) q := by
    refine Sim.nx S.I S.Z I' Z' R' (by omega) et rfl h0 N M (fun x hx _ => S.P.ph x hx) (fun x hx hxl => ?_) S.P.cd S.P.u3 S.P.tl (fun l h _ => S.P.rs l h) S.P.day
    have hx1 : x ≠ 6 * ln + (st + p_nxt st ak rq) % 6 := fun z => hx (z ▸ h0)
    by_cases hxd : x = d
    · subst hxd
      have H := S.P.ph x hx
      unfold p_ph at H
      rw [hxl] at H
      exact p_ph.prev hxl hx1 (Nat.mod_lt _ (by decide)) et rfl N M (H.u4Next (by omega) h4 hr)
    · exact (S.P.ph x hx).old hxl (by omega) hx1 (Nat.mod_lt _ (by decide)) et rfl N M
  rw [s_askNext_go _ _ _ _ _ _ _ hx]
  have hlg := S.I.S.lg.2
  have e22 := N.e22; rw [et] at e22
  refine S1.first (by omega) (by omega) (by omega) (by omega) (by simp only [p_l, N.e0 2 (by decide)]; exact hl) (by rw [e22, va_up_self]; decide) M ?_ (by rw [ew]; simp only [wtB, N.e0 4 (by decide)]) (by rw [elg]; simp only [lgB, N.e0 5 (by decide)]) (by omega)
  unfold p_n; rw [N.o 29 (by decide), (S.I.E.z0 h0).1]; rfl
/-- the rota has ended -/
def p_eb (B : ew_R) (ln st ak rq : Nat) : ew_R :=
  if (st + ak) % 6 = rq then up3 (up3 (up3 (up3 (up3 B 19 0 ln 0) 20 0 ln 0) 21 0 ln 0) 15 0 ln (nI (ak + 1))) 18 0 ln 9
  else up3 (up3 (up3 (up3 B 19 0 ln 0) 20 0 ln 0) 21 0 ln 0) 18 0 ln 9
theorem s_askNext_end (B : ew_R) (ln st ak rq w lg : Nat) (h : ¬ p_nxt st ak rq < 6) : s_askNext B ln st ak rq w lg = p_eb B ln st ak rq := by
  unfold s_askNext p_eb p_nxt at *
  split <;> rename_i h1
  · rw [if_pos h1] at h; rw [if_neg h]
  · rw [if_neg h1] at h; rw [if_neg h]
def p_ee (B B' : ew_R) (ln : Nat) : Prop :=
  (∀ c, c ∉ [15, 18, 19, 20, 21] → B' c = B c) ∧
  (B' 15 0 = B 15 0 ∨ (B' 15 0 = va_up (B 15 0) ln (nI (p_x B ln + 1)) ∧ (p_t B ln + p_x B ln) % 6 = p_q B ln ∧ 5 ≤ p_x B ln)) ∧
  (B' 18 0 = va_up (B 18 0) ln 9) ∧
  (B' 19 0 = va_up (B 19 0) ln 0) ∧
  (B' 20 0 = va_up (B 20 0) ln 0) ∧
  (B' 21 0 = va_up (B 21 0) ln 0)
theorem p_ee.o {B B' : ew_R} {ln : Nat} (h9 : p_ee B B' ln) : ∀ c, c ∉ [15, 18, 19, 20, 21] → B' c = B c := h9.1
theorem p_ee.e15 {B B' : ew_R} {ln : Nat} (h9 : p_ee B B' ln) : B' 15 0 = B 15 0 ∨ (B' 15 0 = va_up (B 15 0) ln (nI (p_x B ln + 1)) ∧ (p_t B ln + p_x B ln) % 6 = p_q B ln ∧ 5 ≤ p_x B ln) := h9.2.1
theorem p_ee.e18 {B B' : ew_R} {ln : Nat} (h9 : p_ee B B' ln) : B' 18 0 = va_up (B 18 0) ln 9 := h9.2.2.1
theorem p_ee.e19 {B B' : ew_R} {ln : Nat} (h9 : p_ee B B' ln) : B' 19 0 = va_up (B 19 0) ln 0 := h9.2.2.2.1
theorem p_ee.e20 {B B' : ew_R} {ln : Nat} (h9 : p_ee B B' ln) : B' 20 0 = va_up (B 20 0) ln 0 := h9.2.2.2.2.1
theorem p_ee.e21 {B B' : ew_R} {ln : Nat} (h9 : p_ee B B' ln) : B' 21 0 = va_up (B 21 0) ln 0 := h9.2.2.2.2.2
theorem p_eb_ee (B : ew_R) (ln st ak rq : Nat) (es : st = p_t B ln) (ea : ak = p_x B ln) (eq : rq = p_q B ln) (h : ¬ p_nxt st ak rq < 6) : p_ee B (p_eb B ln st ak rq) ln := by
  unfold p_eb p_nxt at *
  split <;> rename_i h1
  · rw [if_pos h1] at h
    refine ⟨fun c hc => ?_, Or.inr ⟨?_, ?_, ?_⟩, ?_, ?_, ?_, ?_⟩
    · simp only [List.mem_cons, List.not_mem_nil, or_false, not_or] at hc
      rw [p_kd_up _ _ _ _ hc.2.1, p_kd_up _ _ _ _ hc.1, p_kd_up _ _ _ _ hc.2.2.2.2, p_kd_up _ _ _ _ hc.2.2.2.1, p_kd_up _ _ _ _ hc.2.2.1]
    · simp only [p_row_up]; simp [ea]
    · rw [← es, ← ea, ← eq]; exact h1
    · omega
    · simp only [p_row_up]; simp
    · simp only [p_row_up]; simp
    · simp only [p_row_up]; simp
    · simp only [p_row_up]; simp
  · refine ⟨fun c hc => ?_, Or.inl ?_, ?_, ?_, ?_, ?_⟩
    · simp only [List.mem_cons, List.not_mem_nil, or_false, not_or] at hc
      rw [p_kd_up _ _ _ _ hc.2.1, p_kd_up _ _ _ _ hc.2.2.2.2, p_kd_up _ _ _ _ hc.2.2.2.1, p_kd_up _ _ _ _ hc.2.2.1]
    · simp only [p_row_up]; simp
    · simp only [p_row_up]; simp
    · simp only [p_row_up]; simp
    · simp only [p_row_up]; simp
    · simp only [p_row_up]; simp
theorem p_ee.ri {B B' : ew_R} {ln q : Nat} (n : p_ee B B' ln) (I : RfI B q) (hl : ln < p_l B) : RfI B' q := by
  have r : ∀ c, c ∉ [15, 18, 19, 20, 21] → B' c 0 = B c 0 := fun c hc => by rw [n.o c hc]
  have el : p_l B' = p_l B := by simp only [p_l]; rw [n.o 0 (by decide)]
  refine ⟨I.S.cg (Nat.le_refl _) I.S.hq (fun k _ _ => by rw [n.o 0 (by decide)]), ?_, I.E.cg (Nat.le_refl _) (r _ (by decide)) (r _ (by decide)) (r _ (by decide)) (r _ (by decide)), I.G.cg (by rw [n.o 0 (by decide)]) (r _ (by decide)) (r _ (by decide)) (r _ (by decide)), I.W.cg (by rw [n.o 0 (by decide)]) (by rw [n.o 0 (by decide)]) (r _ (by decide)) (r _ (by decide)) (r _ (by decide)) (r _ (by decide)) (r _ (by decide)) (r _ (by decide))⟩
  rcases n.e15 with h | ⟨h, h1, h2⟩
  · exact I.L.cg (by rw [n.o 0 (by decide)]) (r _ (by decide)) (r _ (by decide)) (r _ (by decide)) h (r _ (by decide)) (r _ (by decide))
  · have K := I.L.k ln hl
    have ex : p_x B' ln = p_x B ln + 1 := by
      have := K.ak.2
      have e9 : p_x B' ln = (nI (p_x B ln + 1)).toNatClampNeg := by simp only [p_x, h, va_up_self]
      rw [e9, nI_clamp (by omega)]
    have et : p_t B' ln = p_t B ln := by simp only [p_t, r 14 (by decide)]
    have eq : p_q B' ln = p_q B ln := by simp only [p_q, r 11 (by decide)]
    have k7 := K.a7; have k6 := K.ak.2; have ks := K.st.2; have kr := K.rq.2
    refine ⟨fun l hl9 => ?_, fun l hl9 => ?_, ?_, ?_⟩
    · by_cases hll : l = ln
      · subst hll
        refine ⟨?_, ?_, ?_, ?_, ?_, fun j hj => ?_⟩
        · rw [eq, r 11 (by decide)]; exact K.rq
        · rw [et, r 14 (by decide)]; exact K.st
        · rw [ex, h, va_up_self]; exact ⟨rfl, by omega⟩
        · rw [ex, et, eq]; omega
        · rw [r 13 (by decide)]; exact K.dy
        · rw [ex, et, eq, r 22 (by decide), K.th j hj]
          by_cases hj2 : j = p_x B l
          · subst hj2; rw [if_neg (by omega), if_neg (fun z => z.2 h1)]
          · by_cases h3 : j < p_x B l ∧ (p_t B l + j) % 6 ≠ p_q B l
            · rw [if_pos h3, if_pos ⟨by omega, h3.2⟩]
            · rw [if_neg h3, if_neg (fun z => h3 ⟨by omega, z.2⟩)]
      · exact (I.L.k l (by omega)).cg (by rw [r 11 (by decide)]) (by rw [r 13 (by decide)]) (by rw [r 14 (by decide)]) (by rw [h, va_up_ne _ _ hll]) (fun b _ => by rw [r 22 (by decide)])
    · by_cases hll : l = ln
      · subst hll
        have P := I.L.p l (by omega)
        refine ⟨by omega, ?_, ?_, ?_⟩
        · simp only [p_k]; rw [r 16 (by decide)]; exact P.2.1
        · simp only [p_k]; rw [r 16 (by decide)]; exact P.2.2.1
        · simp only [p_k]; rw [r 16 (by decide), r 22 (by decide)]; exact P.2.2.2
      · exact (I.L.p l (by omega)).cg (by rw [h, va_up_ne _ _ hll]) (by rw [r 16 (by decide)]) (fun b _ => by rw [r 22 (by decide)])
    · rw [el, r 22 (by decide)]; exact I.L.nth
    · rw [el, h]; intro l hl9; rw [va_up_ne _ _ (by omega)]; exact I.L.ak0 l hl9
/-- the class's page then -/
def p_ea (A A' : ew_R) (ln : Nat) : Prop :=
  (∀ c, c ≠ 3 → A' c = A c) ∧
  (∀ l k, k < 4 → A' 3 l k = if l = ln then (if k = 0 then 9 else 0) else A 3 l k)
theorem p_ea.o {A A' : ew_R} {ln : Nat} (h9 : p_ea A A' ln) : ∀ c, c ≠ 3 → A' c = A c := h9.1
theorem p_ea.a3 {A A' : ew_R} {ln : Nat} (h9 : p_ea A A' ln) : ∀ l k, k < 4 → A' 3 l k = if l = ln then (if k = 0 then 9 else 0) else A 3 l k := h9.2
theorem Rl.ended {A A' B B' : ew_R} {ln : Nat} (h : Rl A B) (n : p_ee B B' ln) (m : p_ea A A' ln) : Rl A' B' := by
  have r : ∀ c, c ∉ [15, 18, 19, 20, 21] → B' c 0 = B c 0 := fun c hc => by rw [n.o c hc]
  have c3 : ∀ k, k < 4 → p_col A' 3 k = va_up (p_col A 3 k) ln (if k = 0 then 9 else 0) := fun k hk => by
    funext i; unfold p_col; rw [m.a3 i k hk]
    by_cases hi : i = ln
    · subst hi; rw [if_pos rfl, va_up_self]
    · rw [if_neg hi, va_up_ne _ _ hi]
  have C := h.C
  refine h.cols ⟨?_, ?_, ?_, ?_, ?_, ?_, ?_, ?_, ?_, ?_, ?_, ?_, ?_, ?_, ?_, ?_, ?_, ?_, ?_, ?_, ?_, ?_, ?_, ?_⟩ (fun c hc => m.o c (by revert c; decide)) (fun d => by rw [m.o 4 (by decide)]) (fun c hc => r c (by revert c; decide)) (fun k _ _ => by rw [n.o 0 (by decide)])
  · rw [m.o 0 (by decide), n.o 0 (by decide)]; exact C.day
  · rw [m.o 0 (by decide), n.o 0 (by decide)]; exact C.nl
  · rw [m.o 0 (by decide), n.o 0 (by decide)]; exact C.nc
  · rw [m.o 7 (by decide), n.o 0 (by decide)]; exact C.w
  · rw [m.o 11 (by decide), r 6 (by decide)]; exact C.bal
  · rw [p_col_kd (m.o 1 (by decide)), r 8 (by decide)]; exact C.c0
  · rw [p_col_kd (m.o 1 (by decide)), r 7 (by decide)]; exact C.c1
  · rw [p_col_kd (m.o 1 (by decide)), r 9 (by decide)]; exact C.c2
  · rw [p_col_kd (m.o 1 (by decide)), r 10 (by decide)]; exact C.c3
  · rw [p_col_kd (m.o 2 (by decide)), r 11 (by decide)]; exact C.l1
  · rw [p_col_kd (m.o 2 (by decide)), r 12 (by decide)]; exact C.l2
  · rw [p_col_kd (m.o 2 (by decide)), r 14 (by decide)]; exact C.l3
  · rw [p_col_kd (m.o 2 (by decide)), r 13 (by decide)]; exact C.l4
  · rw [c3 0 (by decide), n.e18, C.g0]; rfl
  · rw [c3 1 (by decide), n.e19, C.g1]; rfl
  · rw [c3 2 (by decide), n.e20, C.g2]; rfl
  · rw [c3 3 (by decide), n.e21, C.g3]; rfl
  · rw [p_col_kd (m.o 17 (by decide)), r 23 (by decide)]; exact C.d0
  · rw [p_col_kd (m.o 17 (by decide)), r 24 (by decide)]; exact C.d1
  · rw [p_col_kd (m.o 17 (by decide)), r 25 (by decide)]; exact C.d2
  · rw [p_col_kd (m.o 17 (by decide)), r 26 (by decide)]; exact C.d3
  · rw [p_col_kd (m.o 4 (by decide)), r 27 (by decide)]; exact C.gr
  · rw [m.o 13 (by decide), r 22 (by decide)]; exact C.th
  · rw [m.o 18 (by decide)]; exact C.bare
/-- the end of the rota, over what holds of the other deals -/
theorem Sim.ended {A A' B B' : ew_R} {q ln d : Nat} (I : RfI B q) (Z : RfZ B) (R : Rl A B) (X : Pvx A B q d) (hl : ln < p_l B) (ed : d = 6 * ln + p_k B ln) (n : p_ee B B' ln) (m : p_ea A A' ln)
    (P : Ph (B 23 0 d) 9 True (p_has B (2 * d + 1) 3) (p_saw B d) (p_has B (2 * d + 1) 4) (p_has B (2 * d + 1) 7) (p_has B (2 * d) 5) (p_has B (2 * d) 6) (p_has B (2 * d) 15) (A 4 d 4 = (-1)) (B 25 0 d = 0)) : Sim A' B' q := by
  have r : ∀ c, c ∉ [15, 18, 19, 20, 21] → B' c 0 = B c 0 := fun c hc => by rw [n.o c hc]
  have hh : ∀ e k, p_has B' e k ↔ p_has B e k := fun e k => p_has_cg (by rw [n.o 0 (by decide)]) (r 32 (by decide)) (r 34 (by decide)) e k
  have hw : ∀ d, p_saw B' d ↔ p_saw B d := fun d => p_saw_cg (by rw [n.o 0 (by decide)]) (r 32 (by decide)) (r 33 (by decide)) (r 34 (by decide)) d (by simp only [p_s, r 30 (by decide)])
  have hp := (I.L.p ln hl).2
  have el : lgB B' = lgB B := by simp only [lgB]; rw [n.o 0 (by decide)]
  refine ⟨n.ri I hl, Z.cg (fun c hc => r c (by revert c; decide)), R.ended n m, ?_, ?_, ?_, ?_, ?_, ?_⟩
  · intro x hx
    rw [r 22 (by decide)] at hx
    by_cases hxd : x = d
    · subst hxd
      unfold p_ph
      have e6 : x / 6 = ln := by omega
      rw [e6]
      exact P.iff (by rw [r 23 (by decide)]) (by rw [n.e18, va_up_self]) (iff_true_intro (by simp only [p_k]; rw [r 16 (by decide)]; unfold p_k at *; omega)) (hh _ _) (hw _) (hh _ _) (hh _ _) (hh _ _) (hh _ _) (hh _ _) (by rw [m.o 4 (by decide)]) (by rw [r 25 (by decide)])
    · have H := X.ph x hx hxd
      unfold p_ph at H ⊢
      have H' : Ph (B' 23 0 x) (B 18 0 (x / 6)) (p_k B' (x / 6) = x % 6) (p_has B' (2 * x + 1) 3) (p_saw B' x) (p_has B' (2 * x + 1) 4) (p_has B' (2 * x + 1) 7) (p_has B' (2 * x) 5) (p_has B' (2 * x) 6) (p_has B' (2 * x) 15) (A' 4 x 4 = (-1)) (B' 25 0 x = 0) := H.iff (by rw [r 23 (by decide)]) rfl (by simp only [p_k]; rw [r 16 (by decide)]) (hh _ _) (hw _) (hh _ _) (hh _ _) (hh _ _) (hh _ _) (hh _ _) (by rw [m.o 4 (by decide)]) (by rw [r 25 (by decide)])
      by_cases hxl : x / 6 = ln
      · refine H'.other (fun z => ?_)
        simp only [p_k, r 16 (by decide)] at z
        unfold p_k at *; rw [hxl] at z; omega
      · rw [n.e18, va_up_ne _ _ hxl]; exact H'
  · intro x hx
    rw [r 22 (by decide)] at hx
    exact (X.cd x hx).cg (by rw [m.o 4 (by decide)]) (by rw [n.o 0 (by decide)]) (by rw [r 17 (by decide)]) (fun c hc => by rw [r c (by revert c; decide)])
  · rw [el, r 32 (by decide), r 34 (by decide)]; exact X.u3
  · rw [el, r 34 (by decide), r 35 (by decide)]; exact X.tl
  · intro l hl9
    simp only [p_l] at hl9; rw [n.o 0 (by decide)] at hl9
    rw [n.e18]
    by_cases hll : l = ln
    · subst hll; rw [va_up_self]; decide
    · rw [va_up_ne _ _ hll]; exact X.rs l hl9
  · rw [n.o 0 (by decide)]; exact X.day
theorem Pv.x {A B : ew_R} {q : Nat} (h : Pv A B q) (d : Nat) : Pvx A B q d := ⟨fun x hx _ => h.ph x hx, h.cd, h.u3, h.tl, h.rs, h.day⟩
theorem Sim.last {A A' B : ew_R} {q ln d st ak rq w lg : Nat} (S : Sim A B q) (hl : ln < p_l B) (ed : d = 6 * ln + p_k B ln) (es : st = p_t B ln) (ea : ak = p_x B ln) (eq : rq = p_q B ln) (hx : ¬ p_nxt st ak rq < 6) (hr : B 18 0 ln = 0) (h4 : p_has B (2 * d + 1) 4) (m : p_ea A A' ln) : Sim A' (s_askNext B ln st ak rq w lg) q := by
  rw [s_askNext_end _ _ _ _ _ _ _ hx]
  have hp := (S.I.L.p ln hl).2
  have hd : ¬ B 22 0 d = 0 := by rw [ed]; exact hp.2.2
  have H := S.P.ph d hd
  unfold p_ph at H
  have e6 : d / 6 = ln := by omega
  rw [e6] at H
  have ht : p_k B ln = d % 6 ↔ True := iff_true_intro (by omega)
  refine Sim.ended S.I S.Z S.R (S.P.x d) hl ed (p_eb_ee B ln st ak rq es ea eq hx) m ?_
  exact (H.u4End (ht.mpr trivial) h4 hr).iff rfl rfl ht.symm Iff.rfl Iff.rfl Iff.rfl Iff.rfl Iff.rfl Iff.rfl Iff.rfl Iff.rfl Iff.rfl
