theorem Pv.cg {A A' B B' : ew_R} {q q' : Nat} (h : Pv A B q) (hq : q ≤ q') (a4 : ∀ d, A' 4 d 4 = A 4 d 4) (hb : ∀ c, c ∈ [16, 17, 18, 22, 23, 24, 25, 27, 28, 30, 32, 33, 34, 35] → B' c 0 = B c 0) (b2 : B' 0 0 2 = B 0 0 2) (b5 : B' 0 0 5 = B 0 0 5) (hc : p_c B ≤ p_c B') (day : ∃ t : Nat, t ≤ 1000 * q' ∧ B' 0 0 1 = nI t) : Pv A' B' q' := by
  have el : lgB B' = lgB B := by simp only [lgB, b5]
  have hh : ∀ e k, p_has B' e k ↔ p_has B e k := fun e k => p_has_cg b5 (hb 32 (by decide)) (hb 34 (by decide)) e k
  have hw : ∀ d, p_saw B' d ↔ p_saw B d := fun d => p_saw_cg b5 (hb 32 (by decide)) (hb 33 (by decide)) (hb 34 (by decide)) d (by simp only [p_s, hb 30 (by decide)])
  refine ⟨fun d hd => ?_, fun d hd => ?_, ?_, ?_, ?_, day⟩
  · rw [hb 22 (by decide)] at hd
    have H := h.ph d hd
    unfold p_ph at H ⊢
    exact H.iff (by rw [hb 23 (by decide)]) (by rw [hb 18 (by decide)]) (by simp only [p_k, hb 16 (by decide)]) (hh _ _) (hw _) (hh _ _) (hh _ _) (hh _ _) (hh _ _) (hh _ _) (by rw [a4]) (by rw [hb 25 (by decide)])
  · rw [hb 22 (by decide)] at hd
    obtain ⟨c1, c2, c3, c4, u, g, c5, c6, c7, c8, c9⟩ := h.cd d hd
    refine ⟨?_, ?_, ?_, ?_, u, g, c5, ?_, ?_, by omega, ?_⟩
    · rw [a4, hb 17 (by decide)]
      rcases c1 with c1 | ⟨c, x1, x2⟩
      · exact Or.inl c1
      · exact Or.inr ⟨c, by omega, x2⟩
    · rw [a4, hb 23 (by decide), hb 28 (by decide)]; exact c2
    · rw [hb 23 (by decide), hb 28 (by decide)]; exact c3
    · rw [hb 28 (by decide)]
      rcases c4 with c4 | ⟨c, x1, x2⟩
      · exact Or.inl c4
      · exact Or.inr ⟨c, by omega, x2⟩
    · rw [hb 27 (by decide)]; exact c6
    · rw [hb 24 (by decide)]; exact c7
    · rw [hb 23 (by decide)]; exact c9
  · rw [el, hb 32 (by decide), hb 34 (by decide)]; exact h.u3
  · rw [el, hb 34 (by decide), hb 35 (by decide)]; exact h.tl
  · simp only [p_l]; rw [b2, hb 18 (by decide)]; exact h.rs
theorem Sim.mono {A B : ew_R} {q : Nat} (S : Sim A B q) (hq : q < 512) : Sim A B (q + 1) := ⟨S.I.mono (by omega), S.Z, S.R, S.P.cg (by omega) (fun _ => rfl) (fun _ _ => rfl) rfl rfl (Nat.le_refl _) (by obtain ⟨t, h1, h2⟩ := S.P.day; exact ⟨t, by omega, h2⟩)⟩
theorem Sim.code {A B : ew_R} {q : Nat} (S : Sim A B q) (x : Int32) : Sim A (up3 B 0 0 0 x) q := S.free (by decide) (fun _ => rfl) (fun z => absurd z (by decide)) (fun _ => rfl) (S.R.code x)
/-- a decline: the next is asked / there is none -/
theorem Sim.decNext {A A' B : ew_R} {q ln d g n st ak rq w lg : Nat} (S : Sim A B q) (hq : q < 512) (hl : ln < p_l B) (ed : d = 6 * ln + p_k B ln) (ew : w = wtB B) (elg : lg = lgB B) (en : n = p_n B (2 * d)) (hg : p_ls 8 14 A d g n) (hr : B 18 0 ln = 1) (es : st = p_t B ln) (ea : ak = p_x B ln) (eq : rq = p_q B ln) (hx : p_nxt st ak rq < 6)
    (M : p_nd (z_L_requesterWrites A ln d g n w 0 6 0) A' ln (6 * ln + (st + p_nxt st ak rq) % 6) (nI ((st + p_nxt st ak rq) % 6)) (B 11 0 ln)) : Sim (z_L_send_5 A' (6 * ln + (st + p_nxt st ak rq) % 6) 0 0 (p_lw w) 1 (B 13 0 ln)) (s_stepRequester_1 (up3 B 0 0 0 0) ln (p_k B ln) st ak rq w lg) (q + 1) := by
  obtain ⟨I1, Z1, R1, X1, P1⟩ := S.decl hq hl ed ew elg en hg hr
  have e : s_stepRequester_1 (up3 B 0 0 0 0) ln (p_k B ln) st ak rq w lg = s_askNext (s_write (up3 (up3 B 0 0 0 0) 18 0 ln 0) (2 * d) 6 0 w lg) ln st ak rq (p_lw w) (lg + 1) := by rw [ed]; rfl
  rw [e]
  generalize hB : s_write (up3 (up3 B 0 0 0 0) 18 0 ln 0) (2 * d) 6 0 w lg = B1 at *
  have wo : ∀ c, c ∉ [0, 18, 29, 32, 33, 34, 35, 36, 37, 38, 39] → B1 c = B c := fun c hc => by
    simp only [List.mem_cons, List.not_mem_nil, or_false, not_or] at hc
    rw [← hB, s_write_oth _ _ _ _ _ _ (by simp; omega), p_kd_up _ _ _ _ hc.2.1, p_kd_up _ _ _ _ hc.1]
  have w0 : ∀ k, 1 ≤ k → k ≠ 4 → k ≠ 5 → B1 0 0 k = B 0 0 k := fun k h1 h4 h5 => by rw [← hB, s_write_0k _ _ _ _ _ _ h4 h5, p_kd_up _ _ _ _ (by decide), up3_ne _ _ (by omega)]
  have hlg := S.I.S.lg.2
  have hw := S.I.S.w.2
  have elg1 : lgB B1 = lg + 1 := by rw [← hB, s_write_lg _ _ _ _ (by omega)]
  have ew1 : wtB B1 = p_lw w := by rw [← hB, s_write_wt _ _ _ _ (by omega)]
  have el1 : p_l B1 = p_l B := by simp only [p_l]; rw [w0 2 (by decide) (by decide) (by decide)]
  have l32 := S.I.S.nl.2
  have es1 : st = p_t B1 ln := by rw [es]; simp only [p_t]; rw [wo 14 (by decide)]
  have ea1 : ak = p_x B1 ln := by rw [ea]; simp only [p_x]; rw [wo 15 (by decide)]
  have eq1 : rq = p_q B1 ln := by rw [eq]; simp only [p_q]; rw [wo 11 (by decide)]
  have ek1 : p_k B1 ln = p_k B ln := by simp only [p_k]; rw [wo 16 (by decide)]
  have r11 : B1 11 0 ln = B 11 0 ln := by rw [wo 11 (by decide)]
  have r13 : B1 13 0 ln = B 13 0 ln := by rw [wo 13 (by decide)]
  rw [← r11] at M
  rw [← r13]
  obtain ⟨I', h0⟩ := I1.next (by omega) es1 ea1 eq1 hx
  have N := p_nb_nx B1 ln st ak rq es1.symm
  have et : (p_t B1 ln + p_nxt st ak rq) % 6 = (st + p_nxt st ak rq) % 6 := by rw [es1]
  have R' := Rl.deal R1.C R1.E (R1.D.x ln) R1.T R1.R R1.G I1.E Z1 (by omega) (Nat.mod_lt _ (by decide)) et h0 N M
  have Z' := Z1.nx N (by omega)
  have hp := (I1.L.p ln (by omega)).2
  rw [ek1] at hp
  have S1 : Sim A' (p_nb B1 ln st ak rq) (q + 1) := by
    refine Sim.nx I1 Z1 I' Z' R' (by omega) et rfl h0 N M (fun x hx hxl => X1.ph x hx (by omega)) (fun x hx hxl => ?_) X1.cd X1.u3 X1.tl (fun l h _ => X1.rs l h) X1.day
    have hx1 : x ≠ 6 * ln + (st + p_nxt st ak rq) % 6 := fun z => hx (z ▸ h0)
    by_cases hxd : x = d
    · subst hxd
      exact p_ph.prev hxl hx1 (Nat.mod_lt _ (by decide)) et rfl N M (P1 False 0 (Or.inr ⟨rfl, rfl⟩))
    · exact (X1.ph x hx hxd).old hxl (by rw [ek1]; omega) hx1 (Nat.mod_lt _ (by decide)) et rfl N M
  rw [s_askNext_go _ _ _ _ _ _ _ hx]
  have e22 := N.e22; rw [et] at e22
  refine S1.first (Nat.le_refl _) (by omega) (by omega) (by omega) (by simp only [p_l, N.e0 2 (by decide)]; rw [w0 2 (by decide) (by decide) (by decide)]; exact hl) (by rw [e22, va_up_self]; decide) M ?_ (by rw [← ew1]; simp only [wtB, N.e0 4 (by decide)]) (by rw [← elg1]; simp only [lgB, N.e0 5 (by decide)]) (by omega)
  unfold p_n; rw [N.o 29 (by decide), (I1.E.z0 h0).1]; rfl
theorem Sim.decLast {A A' B : ew_R} {q ln d g n st ak rq w lg : Nat} (S : Sim A B q) (hq : q < 512) (hl : ln < p_l B) (ed : d = 6 * ln + p_k B ln) (ew : w = wtB B) (elg : lg = lgB B) (en : n = p_n B (2 * d)) (hg : p_ls 8 14 A d g n) (hr : B 18 0 ln = 1) (es : st = p_t B ln) (ea : ak = p_x B ln) (eq : rq = p_q B ln) (hx : ¬ p_nxt st ak rq < 6)
    (m : p_ea (z_L_requesterWrites A ln d g n w 0 6 0) A' ln) : Sim A' (s_stepRequester_1 (up3 B 0 0 0 0) ln (p_k B ln) st ak rq w lg) (q + 1) := by
  obtain ⟨I1, Z1, R1, X1, P1⟩ := S.decl hq hl ed ew elg en hg hr
  have e : s_stepRequester_1 (up3 B 0 0 0 0) ln (p_k B ln) st ak rq w lg = s_askNext (s_write (up3 (up3 B 0 0 0 0) 18 0 ln 0) (2 * d) 6 0 w lg) ln st ak rq (p_lw w) (lg + 1) := by rw [ed]; rfl
  rw [e]
  generalize hB : s_write (up3 (up3 B 0 0 0 0) 18 0 ln 0) (2 * d) 6 0 w lg = B1 at *
  have wo : ∀ c, c ∉ [0, 18, 29, 32, 33, 34, 35, 36, 37, 38, 39] → B1 c = B c := fun c hc => by
    simp only [List.mem_cons, List.not_mem_nil, or_false, not_or] at hc
    rw [← hB, s_write_oth _ _ _ _ _ _ (by simp; omega), p_kd_up _ _ _ _ hc.2.1, p_kd_up _ _ _ _ hc.1]
  have w0 : ∀ k, 1 ≤ k → k ≠ 4 → k ≠ 5 → B1 0 0 k = B 0 0 k := fun k h1 h4 h5 => by rw [← hB, s_write_0k _ _ _ _ _ _ h4 h5, p_kd_up _ _ _ _ (by decide), up3_ne _ _ (by omega)]
  have el1 : p_l B1 = p_l B := by simp only [p_l]; rw [w0 2 (by decide) (by decide) (by decide)]
  have es1 : st = p_t B1 ln := by rw [es]; simp only [p_t]; rw [wo 14 (by decide)]
  have ea1 : ak = p_x B1 ln := by rw [ea]; simp only [p_x]; rw [wo 15 (by decide)]
  have eq1 : rq = p_q B1 ln := by rw [eq]; simp only [p_q]; rw [wo 11 (by decide)]
  have ek1 : p_k B1 ln = p_k B ln := by simp only [p_k]; rw [wo 16 (by decide)]
  rw [s_askNext_end _ _ _ _ _ _ _ hx]
  exact Sim.ended I1 Z1 R1 X1 (by omega) (by rw [ek1]; exact ed) (p_eb_ee B1 ln st ak rq es1 ea1 eq1 hx) m (P1 True 9 (Or.inl ⟨rfl, rfl⟩))
/-- a request -/
theorem Sim.request {A A1 A' B : ew_R} {q nl b f n w lg : Nat} {t : Int32} (S : Sim A B q) (hq : q < 512) (en : nl = p_l B) (hn : nl < 32) (hb : b < 6) (hf : f < 6) (n1 : 1 ≤ n) (n9 : n ≤ 99) (ew : w = wtB B) (elg : lg = lgB B)
    (m : p_nl A A1 nl (nI b) t (nI f) (nI n)) (M : p_nd A1 A' nl (6 * nl + (f + p_nxt f 0 b) % 6) (nI ((f + p_nxt f 0 b) % 6)) (nI b)) : Sim (z_L_send_5 A' (6 * nl + (f + p_nxt f 0 b) % 6) 0 0 w 1 (nI n)) (s_askNext (p_b1 B nl (nI b) t (nI f) (nI n)) nl f 0 b w lg) (q + 1) := by
  obtain ⟨I', h0⟩ := S.I.loan (t := t) en hn hb hf n1 n9
  obtain ⟨C1, E1, D1, T1, R1, G1⟩ := S.R.loan S.I en hn m
  have hx : p_nxt f 0 b < 6 := by unfold p_nxt; split <;> omega
  have o : ∀ c, c ∉ [0, 11, 12, 13, 14, 17] → p_b1 B nl (nI b) t (nI f) (nI n) c 0 = B c 0 := fun c hc => by rw [p_b1_row _ _ _ _ _ _ hc]
  have k0 := p_b1_0 B nl (nI b) t (nI f) (nI n)
  have et0 : p_t (p_b1 B nl (nI b) t (nI f) (nI n)) nl = f := by unfold p_t; rw [p_b1_14, va_up_self, nI_clamp (by omega)]
  have el : p_l (p_b1 B nl (nI b) t (nI f) (nI n)) = nl + 1 := by unfold p_l; rw [k0 2 (by decide), if_pos rfl, nI_clamp (by omega)]
  have elg1 : lgB (p_b1 B nl (nI b) t (nI f) (nI n)) = lgB B := by unfold lgB; rw [k0 5 (by decide)]; rfl
  have ew1 : wtB (p_b1 B nl (nI b) t (nI f) (nI n)) = wtB B := by unfold wtB; rw [k0 4 (by decide)]; rfl
  have r11 : p_b1 B nl (nI b) t (nI f) (nI n) 11 0 nl = nI b := by rw [p_b1_11, va_up_self]
  have r13 : p_b1 B nl (nI b) t (nI f) (nI n) 13 0 nl = nI n := by rw [p_b1_13, va_up_self]
  have N := p_nb_nx (p_b1 B nl (nI b) t (nI f) (nI n)) nl f 0 b et0
  have et : (p_t (p_b1 B nl (nI b) t (nI f) (nI n)) nl + p_nxt f 0 b) % 6 = (f + p_nxt f 0 b) % 6 := by rw [et0]
  have E0 : RfE (p_b1 B nl (nI b) t (nI f) (nI n)) q := S.I.E.cg (Nat.le_refl _) (o _ (by decide)) (o _ (by decide)) (o _ (by decide)) (o _ (by decide))
  have Z0 : RfZ (p_b1 B nl (nI b) t (nI f) (nI n)) := S.Z.cg (fun c hc => o c (by revert c; decide))
  have h0' : p_b1 B nl (nI b) t (nI f) (nI n) 22 0 (6 * nl + (f + p_nxt f 0 b) % 6) = 0 := by rw [o 22 (by decide)]; exact h0
  rw [← r11] at M
  have R' := Rl.deal C1 E1 D1 T1 R1 G1 E0 Z0 (by omega) (Nat.mod_lt _ (by decide)) et h0' N M
  have Z' := Z0.nx N (by omega)
  have hlt : ∀ d, ¬ B 22 0 d = 0 → d / 6 < nl := fun d hd => by have := (S.I.L.in hd).1; omega
  have hh : ∀ e k, p_has (p_b1 B nl (nI b) t (nI f) (nI n)) e k ↔ p_has B e k := fun e k => p_has_cg (by rw [k0 5 (by decide)]; rfl) (o 32 (by decide)) (o 34 (by decide)) e k
  have hw : ∀ d, p_saw (p_b1 B nl (nI b) t (nI f) (nI n)) d ↔ p_saw B d := fun d => p_saw_cg (by rw [k0 5 (by decide)]; rfl) (o 32 (by decide)) (o 33 (by decide)) (o 34 (by decide)) d (by simp only [p_s, o 30 (by decide)])
  have S1 : Sim A' (p_nb (p_b1 B nl (nI b) t (nI f) (nI n)) nl f 0 b) q := by
    refine Sim.nx' S.I elg1 (o 29 (by decide)) (o 32 (by decide)) Z0 E0 I' Z' R' (by omega) et rfl h0' N M (fun d hd hdl => ?_) (fun d hd hdl => ?_) (fun d hd => ?_) ?_ ?_ (fun l hl hll => ?_) ?_
    · rw [o 22 (by decide)] at hd
      have H := S.P.ph d hd
      unfold p_ph at H ⊢
      exact H.iff (by rw [o 23 (by decide)]) (by rw [o 18 (by decide)]) (by simp only [p_k, o 16 (by decide)]) (hh _ _) (hw _) (hh _ _) (hh _ _) (hh _ _) (hh _ _) (hh _ _) (by rw [m.o 4 (by decide)]) (by rw [o 25 (by decide)])
    · rw [o 22 (by decide)] at hd
      have := hlt d hd; omega
    · rw [o 22 (by decide)] at hd
      have := hlt d hd
      exact (S.P.cd d hd).cg (by rw [m.o 4 (by decide)]) (by rw [k0 3 (by decide)]; rfl) (by rw [p_b1_17, va_up_ne _ _ (by omega)]) (fun c hc => by rw [o c (by revert c; decide)])
    · rw [elg1, o 32 (by decide), o 34 (by decide)]; exact S.P.u3
    · rw [elg1, o 34 (by decide), o 35 (by decide)]; exact S.P.tl
    · rw [o 18 (by decide)]; exact S.P.rs l (by omega)
    · rw [k0 1 (by decide)]; exact S.P.day
  rw [s_askNext_go _ _ _ _ _ _ _ hx, r13]
  have hlg := S.I.S.lg.2
  have e22 := N.e22; rw [et] at e22
  refine S1.first (by omega) (by omega) (by omega) (by omega) (by simp only [p_l, N.e0 2 (by decide)]; unfold p_l at el; omega) (by rw [e22, va_up_self]; decide) M ?_ (by rw [ew, ← ew1]; simp only [wtB, N.e0 4 (by decide)]) (by rw [elg, ← elg1]; simp only [lgB, N.e0 5 (by decide)]) (by omega)
  unfold p_n; rw [N.o 29 (by decide), (E0.z0 h0').1]; rfl
