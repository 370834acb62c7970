/-! Losses, cancellations, and the next of the rota -/
theorem Sim.let {A B : ew_R} {q d : Nat} (S : Sim A B q) (hd : ¬ B 22 0 d = 0) (h1 : ¬ (B 23 0 d = 3 ∨ B 23 0 d = 4 ∨ B 23 0 d = 5 ∨ B 23 0 d = 6 ∨ B 23 0 d = 7 ∨ B 23 0 d = 8)) : Sim A (up3 B 28 0 d (-1)) q := by
  have o : ∀ c, c ≠ 28 → up3 B 28 0 d (-1) c = B c := fun c h => p_kd_up _ _ _ _ h
  have F := (p_f0.refl A B d).up (c := 28) (i := d) (-1) (Or.inl ⟨by simp, rfl⟩)
  have H := S.P.ph d hd
  unfold p_ph at H
  obtain ⟨c1, c2, c3, c4, u, g, c5, c6, c7, c8, c9⟩ := S.P.cd d hd
  refine S.mk1 F (S.R.free (Or.inr rfl) d _) (S.I.up 28 d _ (by decide) (by omega)) (S.Z.upo 0 _ _ (by decide)) ?_ ⟨?_, ?_, ?_, ?_, u, g, c5, ?_, ?_, c8, ?_⟩ (by rw [o 18 (by decide)]; exact S.P.rs _ (S.I.L.in hd).1)
  · unfold p_ph
    refine H.iff (by rw [o 23 (by decide)]) (by rw [o 18 (by decide)]) (by simp only [p_k]; rw [o 16 (by decide)]) (F.has _ _) ?_ (F.has _ _) (F.has _ _) (F.has _ _) (F.has _ _) (F.has _ _) Iff.rfl (by rw [o 25 (by decide)])
    exact p_saw_cg (by rw [o 0 (by decide)]) (by rw [o 32 (by decide)]) (by rw [o 33 (by decide)]) (by rw [o 34 (by decide)]) d (by simp only [p_s]; rw [o 30 (by decide)])
  · simp only [p_c]; rw [o 0 (by decide), o 17 (by decide)]; exact c1
  · rw [o 23 (by decide)]; exact fun z => absurd z h1
  · intro _; exact up3_self _ _ _ _ _
  · left; exact up3_self _ _ _ _ _
  · rw [o 27 (by decide)]; exact c6
  · rw [o 24 (by decide)]; exact c7
  · rw [o 23 (by decide)]; exact c9
theorem s_letGo_c {X : ew_R} {k cp : Nat} (h : X 28 0 k = nI cp) (hc : cp < 32) : s_letGo X k = up3 (up3 X 10 0 cp (-1)) 28 0 k (-1) := by
  unfold s_letGo; rw [h, if_neg (nI_m1 (by omega)), nI_clamp (by omega)]
theorem s_letGo_n {X : ew_R} {k : Nat} (h : X 28 0 k = (-1)) : s_letGo X k = X := by
  unfold s_letGo; rw [if_pos h, up3_same h]
/-- the supplier hears of the loss -/
theorem Sim.loss {A B : ew_R} {q ln b d cp : Nat} (S : Sim A B q) (ed : d = 6 * ln + b) (hd : ¬ B 22 0 d = 0) (hs : B 23 0 d = 5 ∨ B 23 0 d = 6 ∨ B 23 0 d = 7) (hcp : cp < 32) (q28 : B 28 0 d = nI cp) : Sim (up3 (up3 (up3 A 1 cp 3 (-1)) 17 d 0 12) 11 0 b (A 11 0 b + 4000)) (s_letGo (up3 (up3 B 23 0 d 12) 6 0 (d - 6 * ln) (B 6 0 (d - 6 * ln) + 4000)) d) q := by
  have S1 := S.turn hd 12 (fun rs pr h3 s3 h4 h7 cn pz H => H.tout (Or.inr rfl) hs) (fun z => absurd z (by decide)) (fun z => absurd z (by decide)) (fun z => absurd z (by decide))
  have S2 := S1.free (c := 6) (i := b) (x := B 6 0 b + 4000) (A1 := up3 (up3 A 17 d 0 12) 11 0 b (B 6 0 b + 4000)) (by decide) (fun z => absurd z (by decide)) (fun z => absurd z (by decide)) (fun x => by rw [p_kd_up _ _ _ _ (by decide)]) (S1.R.bal b _)
  have S3 := S2.free (c := 10) (i := cp) (x := -1) (A1 := up3 (up3 (up3 A 17 d 0 12) 11 0 b (B 6 0 b + 4000)) 1 cp 3 (-1)) (by decide) (fun z => absurd z (by decide)) (fun z => absurd z (by decide)) (fun x => by rw [p_kd_up _ _ _ _ (by decide)]) (S2.R.prom cp _)
  have S4 := S3.let (d := d) (by simp [p_row_up]; exact hd) (by simp [p_row_up, va_up_self])
  rw [s_letGo_c (cp := cp) (by simp [p_row_up]; exact q28) hcp, show d - 6 * ln = b by omega, S.R.C.bal]
  rw [up3_comm (show (11 : Nat) ≠ 1 by decide), up3_comm (show (17 : Nat) ≠ 1 by decide)] at S4
  exact S4
/-- the supplier is cancelled: no copy / a copy -/
theorem Sim.canc_n {A B : ew_R} {q d g n w lg : Nat} (S : Sim A B q) (hq : q < 512) (hd : ¬ B 22 0 d = 0) (ew : w = wtB B) (elg : lg = lgB B) (en : n = p_n B (2 * d + 1)) (hg : p_ls 16 20 A d g n) (hs : B 23 0 d = 1 ∨ B 23 0 d = 2) (h15 : p_has B (2 * d) 15) : Sim (z_L_supplierWrites A d g n w 11 16 0) (s_write (up3 (s_letGo B d) 23 0 d 11) (2 * d + 1) 16 0 w lg) (q + 1) := by
  rw [s_letGo_n ((S.P.cd d hd).ic0 (by rcases hs with h | h <;> rw [h] <;> decide))]
  refine S.wr15 (A1 := up3 A 17 d 0 11) (B1 := up3 B 23 0 d 11) hq ((p_f0.refl A B d).st 11 11) (S.R.itst d 11) (S.I.up 23 d _ (by decide) (by omega)) (S.Z.up _ hd (by decide)) hd (by rw [ew]; unfold wtB; rw [p_kd_up _ _ _ _ (by decide)]) (by rw [elg, ((p_f0.refl A B d).st 11 11).lg]) (by rw [en]; unfold p_n; rw [p_kd_up _ _ _ _ (by decide)]) (by unfold p_ls at hg ⊢; rw [p_kd_up _ _ _ _ (by decide), p_kd_up _ _ _ _ (by decide)]; exact hg) (fun z => absurd z (by decide)) (fun z => absurd z (by decide)) (by rw [p_kd_up _ _ _ _ (by decide)]; exact S.P.rs _ (S.I.L.in hd).1) (((S.P.cd d hd).mono.st (fun z => absurd z (by decide)) (fun z => absurd z (by decide)) (fun z => absurd z (by decide))).cg (by rw [p_kd_up _ _ _ _ (by decide)]) rfl rfl (fun _ _ => rfl)) ?_
  have H := S.P.ph d hd
  unfold p_ph at H
  have F := (p_f0.refl A B d).st 11 11
  refine (H.t15 h15 (by rcases hs with h | h <;> simp [h])).iff (by rw [up3_self]) (by rw [p_kd_up _ _ _ _ (by decide)]) Iff.rfl (by simp) ?_ (by simp) (by simp) (by simp) (by simp) (by simp) (by rw [p_kd_up _ _ _ _ (by decide)]) (by rw [p_kd_up _ _ _ _ (by decide)])
  exact p_saw_cg (by rw [p_kd_up _ _ _ _ (by decide)]) (by rw [p_kd_up _ _ _ _ (by decide)]) (by rw [p_kd_up _ _ _ _ (by decide)]) (by rw [p_kd_up _ _ _ _ (by decide)]) d (by simp only [p_s]; rw [p_kd_up _ _ _ _ (by decide)])
theorem Sim.canc_c {A B : ew_R} {q d g n w lg cp : Nat} (S : Sim A B q) (hq : q < 512) (hd : ¬ B 22 0 d = 0) (ew : w = wtB B) (elg : lg = lgB B) (en : n = p_n B (2 * d + 1)) (hg : p_ls 16 20 A d g n) (hs : B 23 0 d = 3) (h15 : p_has B (2 * d) 15) (hcp : cp < 32) (q28 : B 28 0 d = nI cp) : Sim (z_L_supplierWrites (up3 A 1 cp 3 (-1)) d g n w 11 16 0) (s_write (up3 (s_letGo B d) 23 0 d 11) (2 * d + 1) 16 0 w lg) (q + 1) := by
  rw [s_letGo_c q28 hcp]
  have F := ((((p_f0.refl A B d).up (c := 10) (i := cp) (-1) (Or.inr (by simp))).up (c := 28) (i := d) (-1) (Or.inl ⟨by simp, rfl⟩)).a (A1 := up3 A 1 cp 3 (-1)) (fun x _ => by rw [p_kd_up _ _ _ _ (by decide)])).st 11 11
  obtain ⟨c1, c2, c3, c4, u, g9, c5, c6, c7, c8, c9⟩ := (S.P.cd d hd).mono
  refine S.wr15 (A1 := up3 (up3 A 1 cp 3 (-1)) 17 d 0 11) (B1 := up3 (up3 (up3 B 10 0 cp (-1)) 28 0 d (-1)) 23 0 d 11) hq F (((S.R.prom cp _).free (Or.inr rfl) d _).itst d 11) (((S.I.up 10 cp _ (by decide) (by omega)).up 28 d _ (by decide) (by omega)).up 23 d _ (by decide) (by omega)) (((S.Z.upo 0 _ _ (by decide)).upo 0 _ _ (by decide)).up _ (by simp [p_row_up]; exact hd) (by decide)) hd (by rw [ew]; unfold wtB; simp [p_row_up]) (by rw [elg, F.lg]) (by rw [en]; unfold p_n; simp [p_row_up]) (by unfold p_ls at hg ⊢; rw [p_kd_up _ _ _ _ (by decide), p_kd_up _ _ _ _ (by decide), p_kd_up _ _ _ _ (by decide), p_kd_up _ _ _ _ (by decide)]; exact hg) (fun z => absurd z (by decide)) (fun z => absurd z (by decide)) (by simp [p_row_up]; have := S.P.rs _ (S.I.L.in hd).1; simpa using this) ⟨?_, ?_, ?_, ?_, u, g9, c5, ?_, ?_, c8, ?_⟩ ?_
  · simp only [p_c]; simp only [p_kd_up _ _ _ _ (show 4 ≠ 17 by decide), p_kd_up _ _ _ _ (show 4 ≠ 1 by decide)]; simp [p_row_up]; exact c1
  · rw [up3_self]; exact fun z => absurd z (by decide)
  · rw [up3_self]; exact fun z => absurd z (by decide)
  · left; rw [p_kd_up _ _ _ _ (by decide), up3_self]
  · simp [p_row_up]; exact c6
  · simp [p_row_up]; exact c7
  · rw [up3_self]; exact fun z => absurd z (by decide)
  · have H := S.P.ph d hd
    unfold p_ph at H
    refine (H.t15 h15 (by simp [hs])).iff (by rw [up3_self]) (by simp [p_row_up]) Iff.rfl (by simp) ?_ (by simp) (by simp) (by simp) (by simp) (by simp) (by simp [p_kd_up]) (by simp [p_row_up])
    exact p_saw_cg (by simp [p_row_up]) (by simp [p_row_up]) (by simp [p_row_up]) (by simp [p_row_up]) d (by simp only [p_s]; simp [p_row_up])
/-- a letter at a new end: the number of calls needn't grow -/
theorem Sim.wr5g {A A1 B B1 : ew_R} {q q' d g n w lg : Nat} {k t : Int32} (S : Sim A B q) (hqq : q ≤ q') (hq : q' ≤ 512) (F : p_f0 A A1 B B1 d) (R1 : Rl A1 B1) (I1 : RfI B1 q) (Z1 : RfZ B1) (hd : ¬ B 22 0 d = 0) (ew : w = wtB B1) (elg : lg = lgB B1) (en : n = p_n B1 (2 * d)) (hg : p_ls 8 14 A1 d g n) (hn : n < q') (hlg : lg < 2 * q')
    (hk : ¬ (k = 3 ∨ k = 7 ∨ k = 11 ∨ k = 5 ∨ k = 6 ∨ k = 15)) (rs : ¬ B1 18 0 (d / 6) < 0) (C : p_cd A1 B1 q' d)
    (P : p_ph A1 B1 d) : Sim (z_L_send_5 A1 d g n w k t) (s_write B1 (2 * d) k t w lg) q' := by
  have h192 := S.Z.lt d hd
  have I2 : RfI B1 q' := I1.cg hqq hq (fun _ _ _ => rfl) (fun _ _ => rfl)
  have hn1 := (I1.E.n (2 * d)).2
  have hd1 : ¬ B1 22 0 d = 0 := by rw [F.e22]; exact hd
  have a4 : z_L_send_5 A1 d g n w k t 4 = A1 4 := p_send5_4 _ _ _ _ _ _ _ (by decide)
  have hc := S.I.S.nc.2
  refine ⟨I2.write ew elg (2 * d) (by omega) (by rw [show (2 * d) / 2 = d by omega]; exact hd1) (by omega) (by omega) k t, Z1.write _ _ _ _ _, R1.send5 I1 hd1 h192 en ew elg hg (by omega) k t, ?_⟩
  refine S.P.wr S.Z hc hqq F I2 (by rw [elg, F.lg]) h192 (by simp) a4 (fun z => (hk (by simp [z])).elim) (fun z => (hk (by rcases z with z | z <;> simp [z])).elim) (p_ph.wr F I2 (by rw [elg, F.lg]) h192 (by simp) a4 ?_) (C.wr a4) rs
  unfold p_ph at P
  refine P.iff rfl rfl (by simp only [p_k]; rw [F.e16]) ?_ Iff.rfl ?_ ?_ ?_ ?_ ?_ Iff.rfl Iff.rfl <;> rw [F.has]
  · exact ⟨fun z => z.elim (fun y => absurd y.1 (by omega)) id, Or.inr⟩
  · exact ⟨fun z => z.elim (fun y => absurd y.1 (by omega)) id, Or.inr⟩
  · exact ⟨fun z => z.elim (fun y => absurd y.1 (by omega)) id, Or.inr⟩
  · exact ⟨fun z => z.elim (fun y => absurd (by simp [y.2] : k = 3 ∨ k = 7 ∨ k = 11 ∨ k = 5 ∨ k = 6 ∨ k = 15) hk) id, Or.inr⟩
  · exact ⟨fun z => z.elim (fun y => absurd (by simp [y.2] : k = 3 ∨ k = 7 ∨ k = 11 ∨ k = 5 ∨ k = 6 ∨ k = 15) hk) id, Or.inr⟩
  · exact ⟨fun z => z.elim (fun y => absurd (by simp [y.2] : k = 3 ∨ k = 7 ∨ k = 11 ∨ k = 5 ∨ k = 6 ∨ k = 15) hk) id, Or.inr⟩
theorem RfI.nohas {B : ew_R} {q : Nat} (I : RfI B q) {e : Nat} (he : e < 384) (hz : p_n B e = 0) (k : Int32) : ¬ p_has B e k := by
  rintro ⟨j, h1, h2, h3⟩
  obtain ⟨e', k', a, b, c, d⟩ := I.G.i j h1
  rw [h2] at c
  have := (nI_eq (by omega) (by omega)).mp c
  subst this; omega
/-- the new deal is the present one: both sides -/
theorem Sim.nx {A A' B B' : ew_R} {q ln x d1 to : Nat} {b : Int32} (I : RfI B q) (Z : RfZ B) (I' : RfI B' q) (Z' : RfZ B') (R' : Rl A' B') (hln : ln < 32) (et : (p_t B ln + x) % 6 = to) (e1 : d1 = 6 * ln + to) (h0 : B 22 0 d1 = 0) (N : p_nx B B' ln x) (M : p_nd A A' ln d1 b (B 11 0 ln))
    (phO : ∀ d, ¬ B 22 0 d = 0 → d / 6 ≠ ln → p_ph A B d) (phL : ∀ d, ¬ B 22 0 d = 0 → d / 6 = ln → p_ph A' B' d) (cd : ∀ d, ¬ B 22 0 d = 0 → p_cd A B q d) (u3 : ∀ j j', j < lgB B → j' < lgB B → B 32 0 j = B 32 0 j' → B 34 0 j = 3 → B 34 0 j' = 3 → j = j') (tl : ∀ j, j < lgB B → B 34 0 j = 7 ∨ B 34 0 j = 11 → ¬ B 35 0 j = 0) (rs : ∀ l, l < p_l B → l ≠ ln → ¬ B 18 0 l < 0) (day : ∃ t : Nat, t ≤ 1000 * q ∧ B 0 0 1 = nI t) : Sim A' B' q := by
  have r : ∀ c, c ∉ [0, 15, 16, 18, 19, 20, 21, 22, 28] → B' c 0 = B c 0 := fun c hc => by rw [N.o c hc]
  have e16 := N.e16; have e22 := N.e22; have e28 := N.e28; rw [et] at e16 e22 e28; rw [← e1] at e22 e28
  have el : lgB B' = lgB B := by simp only [lgB, N.e0 5 (by decide)]
  have ec : p_c B' = p_c B := by simp only [p_c, N.e0 3 (by decide)]
  have hh : ∀ e k, p_has B' e k ↔ p_has B e k := fun e k => p_has_cg (N.e0 5 (by decide)) (r 32 (by decide)) (r 34 (by decide)) e k
  have hw : ∀ d, p_saw B' d ↔ p_saw B d := fun d => p_saw_cg (N.e0 5 (by decide)) (r 32 (by decide)) (r 33 (by decide)) (r 34 (by decide)) d (by simp only [p_s, r 30 (by decide)])
  have to6 : to < 6 := by omega
  have z3 := Z.z3 d1 h0
  have zE := I.E.z0 h0
  have n0 : p_n B (2 * d1) = 0 ∧ p_n B (2 * d1 + 1) = 0 := ⟨by unfold p_n; rw [zE.1]; rfl, by unfold p_n; rw [zE.2.1]; rfl⟩
  refine ⟨I', Z', R', ?_, ?_, ?_, ?_, ?_, ?_⟩
  · intro d hd
    by_cases hdd : d = d1
    · subst hdd
      unfold p_ph
      have e6 : d / 6 = ln := by omega
      rw [e6]
      refine (Ph.fresh (rs := B' 18 0 ln) (by rw [N.e18, va_up_self])).iff (by rw [r 23 (by decide)]; exact z3.1) rfl (iff_true_intro ?_) (iff_false_intro ?_) (iff_false_intro ?_) (iff_false_intro ?_) (iff_false_intro ?_) (iff_false_intro ?_) (iff_false_intro ?_) (iff_false_intro ?_) (iff_true_intro ?_) (iff_true_intro ?_)
      · simp only [p_k, e16, va_up_self]; rw [nI_clamp (by omega)]; omega
      · rw [hh]; exact I.nohas (by omega) n0.2 _
      · rw [hw]; rintro ⟨j, k, h1, h2, h3, h4, h5⟩; exact I.nohas (e := 2 * d + 1) (by omega) n0.2 3 ⟨j, h1, h2, h4⟩
      · rw [hh]; exact I.nohas (by omega) n0.2 _
      · rw [hh]; exact I.nohas (by omega) n0.2 _
      · rw [hh]; exact I.nohas (by omega) n0.1 _
      · rw [hh]; exact I.nohas (by omega) n0.1 _
      · rw [hh]; exact I.nohas (by omega) n0.1 _
      · rw [M.a4, va_up_self]; rfl
      · rw [r 25 (by decide)]; exact z3.2.2.1
    · rw [e22, va_up_ne _ _ hdd] at hd
      by_cases hl : d / 6 = ln
      · exact phL d hd hl
      · have H := phO d hd hl
        unfold p_ph at H ⊢
        exact H.iff (by rw [r 23 (by decide)]) (by rw [N.e18, va_up_ne _ _ hl]) (by simp only [p_k, e16]; rw [va_up_ne _ _ hl]) (hh _ _) (hw _) (hh _ _) (hh _ _) (hh _ _) (hh _ _) (hh _ _) (by rw [M.a4, va_up_ne _ _ hdd]) (by rw [r 25 (by decide)])
  · intro d hd
    by_cases hdd : d = d1
    · subst hdd
      refine ⟨Or.inl (by rw [M.a4, va_up_self]; rfl), ?_, ?_, ?_, 0, 0, by omega, ?_, ?_, by omega, ?_⟩
      · rw [r 23 (by decide), z3.1]; exact fun z => absurd z (by decide)
      · rw [e28, va_up_self]; exact fun _ => rfl
      · rw [e28, va_up_self]; exact Or.inl rfl
      · rw [r 27 (by decide)]; exact z3.2.2.2.2
      · rw [r 24 (by decide)]; exact z3.2.1
      · rw [r 23 (by decide), z3.1]; exact fun z => absurd z (by decide)
    · rw [e22, va_up_ne _ _ hdd] at hd
      refine (cd d hd).cg (by rw [M.a4, va_up_ne _ _ hdd]) (N.e0 3 (by decide)) (by rw [r 17 (by decide)]) (fun c hc => ?_)
      simp only [List.mem_cons, List.not_mem_nil, or_false] at hc
      rcases hc with rfl | rfl | rfl | rfl
      · rw [r 23 (by decide)]
      · rw [r 24 (by decide)]
      · rw [r 27 (by decide)]
      · rw [e28, va_up_ne _ _ hdd]
  · rw [el, r 32 (by decide), r 34 (by decide)]; exact u3
  · rw [el, r 34 (by decide), r 35 (by decide)]; exact tl
  · intro l hl
    simp only [p_l, N.e0 2 (by decide)] at hl
    rw [N.e18]
    by_cases hll : l = ln
    · subst hll; rw [va_up_self]; decide
    · rw [va_up_ne _ _ hll]; exact rs l hl hll
  · rw [N.e0 1 (by decide)]; exact day
/-- the new deal is the present one: both sides -/
theorem Sim.nx' {A A' B B' B0 : ew_R} {q ln x d1 to : Nat} {b : Int32} (I : RfI B0 q) (elg0 : lgB B = lgB B0) (e29 : B 29 0 = B0 29 0) (e32 : B 32 0 = B0 32 0) (Z : RfZ B) (E : RfE B q) (I' : RfI B' q) (Z' : RfZ B') (R' : Rl A' B') (hln : ln < 32) (et : (p_t B ln + x) % 6 = to) (e1 : d1 = 6 * ln + to) (h0 : B 22 0 d1 = 0) (N : p_nx B B' ln x) (M : p_nd A A' ln d1 b (B 11 0 ln))
    (phO : ∀ d, ¬ B 22 0 d = 0 → d / 6 ≠ ln → p_ph A B d) (phL : ∀ d, ¬ B 22 0 d = 0 → d / 6 = ln → p_ph A' B' d) (cd : ∀ d, ¬ B 22 0 d = 0 → p_cd A B q d) (u3 : ∀ j j', j < lgB B → j' < lgB B → B 32 0 j = B 32 0 j' → B 34 0 j = 3 → B 34 0 j' = 3 → j = j') (tl : ∀ j, j < lgB B → B 34 0 j = 7 ∨ B 34 0 j = 11 → ¬ B 35 0 j = 0) (rs : ∀ l, l < p_l B → l ≠ ln → ¬ B 18 0 l < 0) (day : ∃ t : Nat, t ≤ 1000 * q ∧ B 0 0 1 = nI t) : Sim A' B' q := by
  have r : ∀ c, c ∉ [0, 15, 16, 18, 19, 20, 21, 22, 28] → B' c 0 = B c 0 := fun c hc => by rw [N.o c hc]
  have e16 := N.e16; have e22 := N.e22; have e28 := N.e28; rw [et] at e16 e22 e28; rw [← e1] at e22 e28
  have el : lgB B' = lgB B := by simp only [lgB, N.e0 5 (by decide)]
  have ec : p_c B' = p_c B := by simp only [p_c, N.e0 3 (by decide)]
  have hh : ∀ e k, p_has B' e k ↔ p_has B e k := fun e k => p_has_cg (N.e0 5 (by decide)) (r 32 (by decide)) (r 34 (by decide)) e k
  have hw : ∀ d, p_saw B' d ↔ p_saw B d := fun d => p_saw_cg (N.e0 5 (by decide)) (r 32 (by decide)) (r 33 (by decide)) (r 34 (by decide)) d (by simp only [p_s, r 30 (by decide)])
  have to6 : to < 6 := by omega
  have z3 := Z.z3 d1 h0
  have zE := E.z0 h0
  have hnh : ∀ e k, e < 384 → p_n B e = 0 → ¬ p_has B e k := fun e k he hz => fun ⟨j, h1, h2, h3⟩ => by
    obtain ⟨e', k', a, b, c, d⟩ := I.G.i j (by omega)
    rw [← e32, h2] at c
    have := (nI_eq (by omega) (by omega)).mp c
    subst this
    unfold p_n at b hz; rw [e29] at hz; omega
  have n0 : p_n B (2 * d1) = 0 ∧ p_n B (2 * d1 + 1) = 0 := ⟨by unfold p_n; rw [zE.1]; rfl, by unfold p_n; rw [zE.2.1]; rfl⟩
  refine ⟨I', Z', R', ?_, ?_, ?_, ?_, ?_, ?_⟩
  · intro d hd
    by_cases hdd : d = d1
    · subst hdd
      unfold p_ph
      have e6 : d / 6 = ln := by omega
      rw [e6]
      refine (Ph.fresh (rs := B' 18 0 ln) (by rw [N.e18, va_up_self])).iff (by rw [r 23 (by decide)]; exact z3.1) rfl (iff_true_intro ?_) (iff_false_intro ?_) (iff_false_intro ?_) (iff_false_intro ?_) (iff_false_intro ?_) (iff_false_intro ?_) (iff_false_intro ?_) (iff_false_intro ?_) (iff_true_intro ?_) (iff_true_intro ?_)
      · simp only [p_k, e16, va_up_self]; rw [nI_clamp (by omega)]; omega
      · rw [hh]; exact hnh _ _ (by omega) n0.2
      · rw [hw]; rintro ⟨j, k, h1, h2, h3, h4, h5⟩; exact hnh (2 * d + 1) 3 (by omega) n0.2 ⟨j, h1, h2, h4⟩
      · rw [hh]; exact hnh _ _ (by omega) n0.2
      · rw [hh]; exact hnh _ _ (by omega) n0.2
      · rw [hh]; exact hnh _ _ (by omega) n0.1
      · rw [hh]; exact hnh _ _ (by omega) n0.1
      · rw [hh]; exact hnh _ _ (by omega) n0.1
      · rw [M.a4, va_up_self]; rfl
      · rw [r 25 (by decide)]; exact z3.2.2.1
    · rw [e22, va_up_ne _ _ hdd] at hd
      by_cases hl : d / 6 = ln
      · exact phL d hd hl
      · have H := phO d hd hl
        unfold p_ph at H ⊢
        exact H.iff (by rw [r 23 (by decide)]) (by rw [N.e18, va_up_ne _ _ hl]) (by simp only [p_k, e16]; rw [va_up_ne _ _ hl]) (hh _ _) (hw _) (hh _ _) (hh _ _) (hh _ _) (hh _ _) (hh _ _) (by rw [M.a4, va_up_ne _ _ hdd]) (by rw [r 25 (by decide)])
  · intro d hd
    by_cases hdd : d = d1
    · subst hdd
      refine ⟨Or.inl (by rw [M.a4, va_up_self]; rfl), ?_, ?_, ?_, 0, 0, by omega, ?_, ?_, by omega, ?_⟩
      · rw [r 23 (by decide), z3.1]; exact fun z => absurd z (by decide)
      · rw [e28, va_up_self]; exact fun _ => rfl
      · rw [e28, va_up_self]; exact Or.inl rfl
      · rw [r 27 (by decide)]; exact z3.2.2.2.2
      · rw [r 24 (by decide)]; exact z3.2.1
      · rw [r 23 (by decide), z3.1]; exact fun z => absurd z (by decide)
    · rw [e22, va_up_ne _ _ hdd] at hd
      refine (cd d hd).cg (by rw [M.a4, va_up_ne _ _ hdd]) (N.e0 3 (by decide)) (by rw [r 17 (by decide)]) (fun c hc => ?_)
      simp only [List.mem_cons, List.not_mem_nil, or_false] at hc
      rcases hc with rfl | rfl | rfl | rfl
      · rw [r 23 (by decide)]
      · rw [r 24 (by decide)]
      · rw [r 27 (by decide)]
      · rw [e28, va_up_ne _ _ hdd]
  · rw [el, r 32 (by decide), r 34 (by decide)]; exact u3
  · rw [el, r 34 (by decide), r 35 (by decide)]; exact tl
  · intro l hl
    simp only [p_l, N.e0 2 (by decide)] at hl
    rw [N.e18]
    by_cases hll : l = ln
    · subst hll; rw [va_up_self]; decide
    · rw [va_up_ne _ _ hll]; exact rs l hl hll
  · rw [N.e0 1 (by decide)]; exact day
