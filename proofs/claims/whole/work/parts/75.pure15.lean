/-! Both sides together -/
def Sim (A B : ew_R) (q : Nat) : Prop :=
  (RfI B q) ∧
  (RfZ B) ∧
  (Rl A B) ∧
  (Pv A B q)
theorem Sim.I {A B : ew_R} {q : Nat} (h9 : Sim A B q) : RfI B q := h9.1
theorem Sim.Z {A B : ew_R} {q : Nat} (h9 : Sim A B q) : RfZ B := h9.2.1
theorem Sim.R {A B : ew_R} {q : Nat} (h9 : Sim A B q) : Rl A B := h9.2.2.1
theorem Sim.P {A B : ew_R} {q : Nat} (h9 : Sim A B q) : Pv A B q := h9.2.2.2

theorem p_send5_4 (A : ew_R) (d g n w : Nat) (kn tl : Int32) {c : Nat} (hc : c ∉ [7, 12, 6, 8, 14]) : z_L_send_5 A d g n w kn tl c = A c := by
  simp only [List.mem_cons, List.not_mem_nil, or_false, not_or] at hc
  obtain ⟨h7, h12, h6, h8, h14⟩ := hc
  unfold z_L_send_5
  rw [p_radd_5_6, p_radd_oth _ _ _ _ _ _ _ _ _ h12 h7, p_wr_5_oth _ _ _ _ _ _ h6 h8 h14]
theorem Sim.wr5 {A A1 B B1 : ew_R} {q d g n w lg : Nat} {k t : Int32} (S : Sim A B q) (hq : q < 512) (F : p_f0 A A1 B B1 d) (R1 : Rl A1 B1) (I1 : RfI B1 q) (Z1 : RfZ B1) (hd : ¬ B 22 0 d = 0) (ew : w = wtB B1) (elg : lg = lgB B1) (en : n = p_n B1 (2 * d)) (hg : p_ls 8 14 A1 d g n)
    (h3 : k = 3 → ¬ p_has B (2 * d) 3) (h7 : k = 7 ∨ k = 11 → ¬ t = 0) (rs : ¬ B1 18 0 (d / 6) < 0) (C : p_cd A1 B1 (q + 1) d)
    (P : Ph (B1 23 0 d) (B1 18 0 (d / 6)) (p_k B (d / 6) = d % 6) (False ∨ p_has B (2 * d + 1) 3) (p_saw B1 d) (False ∨ p_has B (2 * d + 1) 4) (False ∨ p_has B (2 * d + 1) 7) (k = 5 ∨ p_has B (2 * d) 5) (k = 6 ∨ p_has B (2 * d) 6) (k = 15 ∨ p_has B (2 * d) 15) (A1 4 d 4 = (-1)) (B1 25 0 d = 0)) : Sim (z_L_send_5 A1 d g n w k t) (s_write B1 (2 * d) k t w lg) (q + 1) := by
  have h192 := S.Z.lt d hd
  have I2 : RfI B1 (q + 1) := I1.mono (by omega)
  have hn := (I1.E.n (2 * d)).2
  have hlg := I1.S.lg.2
  have hd1 : ¬ B1 22 0 d = 0 := by rw [F.e22]; exact hd
  have a4 : z_L_send_5 A1 d g n w k t 4 = A1 4 := p_send5_4 _ _ _ _ _ _ _ (by decide)
  have hc := S.I.S.nc.2
  refine ⟨I2.write ew elg (2 * d) (by omega) (by rw [show (2 * d) / 2 = d by omega]; exact hd1) (by omega) (by omega) k t, Z1.write _ _ _ _ _, R1.send5 I1 hd1 h192 en ew elg hg (by omega) k t, ?_⟩
  refine S.P.wr S.Z hc (by omega) F I2 (by rw [elg, F.lg]) h192 (by simp) a4 h3 h7 (p_ph.wr F I2 (by rw [elg, F.lg]) h192 (by simp) a4 ?_) (C.wr a4) rs
  refine P.iff rfl rfl Iff.rfl ?_ Iff.rfl ?_ ?_ ?_ ?_ ?_ Iff.rfl Iff.rfl <;> simp <;> omega

theorem p_send15_4 (A : ew_R) (d g n w : Nat) (kn tl : Int32) {c : Nat} (hc : c ∉ [7, 12, 19, 16, 20]) : z_L_send_15 A d g n w kn tl c = A c := by
  simp only [List.mem_cons, List.not_mem_nil, or_false, not_or] at hc
  obtain ⟨h7, h12, h6, h8, h14⟩ := hc
  unfold z_L_send_15
  rw [p_radd_15_19, p_radd_oth _ _ _ _ _ _ _ _ _ h12 h7, p_wr_15_oth _ _ _ _ _ _ h6 h8 h14]
theorem Sim.wr15 {A A1 B B1 : ew_R} {q d g n w lg : Nat} {k t : Int32} (S : Sim A B q) (hq : q < 512) (F : p_f0 A A1 B B1 d) (R1 : Rl A1 B1) (I1 : RfI B1 q) (Z1 : RfZ B1) (hd : ¬ B 22 0 d = 0) (ew : w = wtB B1) (elg : lg = lgB B1) (en : n = p_n B1 (2 * d + 1)) (hg : p_ls 16 20 A1 d g n)
    (h3 : k = 3 → ¬ p_has B (2 * d + 1) 3) (h7 : k = 7 ∨ k = 11 → ¬ t = 0) (rs : ¬ B1 18 0 (d / 6) < 0) (C : p_cd A1 B1 (q + 1) d)
    (P : Ph (B1 23 0 d) (B1 18 0 (d / 6)) (p_k B (d / 6) = d % 6) (k = 3 ∨ p_has B (2 * d + 1) 3) (p_saw B1 d) (k = 4 ∨ p_has B (2 * d + 1) 4) (k = 7 ∨ p_has B (2 * d + 1) 7) (False ∨ p_has B (2 * d) 5) (False ∨ p_has B (2 * d) 6) (False ∨ p_has B (2 * d) 15) (A1 4 d 4 = (-1)) (B1 25 0 d = 0)) : Sim (z_L_send_15 A1 d g n w k t) (s_write B1 (2 * d + 1) k t w lg) (q + 1) := by
  have h192 := S.Z.lt d hd
  have I2 : RfI B1 (q + 1) := I1.mono (by omega)
  have hn := (I1.E.n (2 * d + 1)).2
  have hlg := I1.S.lg.2
  have hd1 : ¬ B1 22 0 d = 0 := by rw [F.e22]; exact hd
  have a4 : z_L_send_15 A1 d g n w k t 4 = A1 4 := p_send15_4 _ _ _ _ _ _ _ (by decide)
  have hc := S.I.S.nc.2
  refine ⟨I2.write ew elg (2 * d + 1) (by omega) (by rw [show (2 * d + 1) / 2 = d by omega]; exact hd1) (by omega) (by omega) k t, Z1.write _ _ _ _ _, R1.send15 I1 hd1 h192 en ew elg hg (by omega) k t, ?_⟩
  refine S.P.wr S.Z hc (by omega) F I2 (by rw [elg, F.lg]) h192 (by simp) a4 h3 h7 (p_ph.wr F I2 (by rw [elg, F.lg]) h192 (by simp) a4 ?_) (C.wr a4) rs
  refine P.iff rfl rfl Iff.rfl ?_ Iff.rfl ?_ ?_ ?_ ?_ ?_ Iff.rfl Iff.rfl <;> simp <;> omega

theorem p_cd.mono {A B : ew_R} {q d : Nat} (h : p_cd A B q d) : p_cd A B (q + 1) d := by
  obtain ⟨c1, c2, c3, c4, u, g, c5, c6, c7, c8, c9⟩ := h
  exact ⟨c1, c2, c3, c4, u, g, c5, c6, c7, by omega, c9⟩
theorem p_cd.cg {A A1 B B1 : ew_R} {q d : Nat} (h : p_cd A B q d) (a4 : A1 4 d 4 = A 4 d 4) (e3 : B1 0 0 3 = B 0 0 3) (e17 : B1 17 0 (d / 6) = B 17 0 (d / 6)) (e : ∀ c, c ∈ [23, 24, 27, 28] → B1 c 0 d = B c 0 d) : p_cd A1 B1 q d := by
  have ec : p_c B1 = p_c B := by simp only [p_c, e3]
  obtain ⟨c1, c2, c3, c4, c5⟩ := h
  refine ⟨?_, ?_, ?_, ?_, ?_⟩
  · rw [a4, ec, e17]; exact c1
  · rw [a4, e 23 (by decide), e 28 (by decide)]; exact c2
  · rw [e 23 (by decide), e 28 (by decide)]; exact c3
  · rw [e 28 (by decide), ec]; exact c4
  · rw [e 27 (by decide), e 24 (by decide), e 23 (by decide)]; exact c5
/-- the requester's step: its state, a letter to the present one; what moves of copies and balances is brought -/
theorem Sim.rq {A A0 B B0 : ew_R} {q ln d g n w lg : Nat} {v k : Int32} (S : Sim A B q) (hq : q < 512) (hl : ln < p_l B) (ed : d = 6 * ln + p_k B ln) (R0 : Rl A0 B0) (a0 : ∀ c, c ≠ 1 → c ≠ 11 → A0 c = A c) (b0 : ∀ c, c ∉ [0, 6, 9] → B0 c = B c) (b00 : ∀ k, 1 ≤ k → B0 0 0 k = B 0 0 k)
    (ew : w = wtB B) (elg : lg = lgB B) (en : n = p_n B (2 * d)) (hg : p_ls 8 14 A d g n) (hk : ¬ (k = 3 ∨ k = 7 ∨ k = 11)) (hv : ¬ v < 0)
    (P : ∀ h3 s3 h4 h7 h5 h6 h15 cn pz, Ph (B 23 0 d) (B 18 0 ln) True h3 s3 h4 h7 h5 h6 h15 cn pz → Ph (B 23 0 d) v True h3 s3 h4 h7 (k = 5 ∨ h5) (k = 6 ∨ h6) (k = 15 ∨ h15) cn pz) : Sim (z_L_requesterWrites A0 ln d g n w v k 0) (s_write (up3 B0 18 0 ln v) (2 * d) k 0 w lg) (q + 1) := by
  have hp := (S.I.L.p ln hl).2
  have e6 : d / 6 = ln := by omega
  have e66 : p_k B ln = d % 6 := by omega
  have hd : ¬ B 22 0 d = 0 := by rw [ed]; exact hp.2.2
  have bb : ∀ c, c ∉ [0, 6, 9, 18] → up3 B0 18 0 ln v c = B c := fun c hc => by
    rw [p_kd_up _ _ _ _ (by intro z; subst z; exact hc (by decide)), b0 c (by intro z; revert z; simp at hc ⊢; omega)]
  have b1 : ∀ k, 1 ≤ k → up3 B0 18 0 ln v 0 0 k = B 0 0 k := fun k hk => by rw [p_kd_up _ _ _ _ (by decide)]; exact b00 k hk
  have e18 : up3 B0 18 0 ln v 18 0 = va_up (B 18 0) ln v := by rw [p_row_up, if_pos ⟨rfl, rfl⟩, b0 18 (by decide)]
  have a1 : ∀ c, c ≠ 1 → c ≠ 11 → c ≠ 3 → up3 A0 3 ln 0 v c = A c := fun c h1 h2 h3 => by rw [p_kd_up _ _ _ _ h3, a0 c h1 h2]
  have F : p_f0 A (up3 A0 3 ln 0 v) B (up3 B0 18 0 ln v) d := by
    refine ⟨?_, ?_, fun x _ => ?_, fun x _ => ?_, fun x _ => ?_, fun x _ => ?_, fun x _ => ?_, fun x _ => ?_, fun l hl => ?_, Or.inr (by rw [e6, e66]), fun l _ => ?_, Or.inl ?_, fun k h1 _ => b1 k h1, fun c hc => ?_, fun e _ _ => ?_⟩
    · rw [bb 22 (by decide)]
    · rw [bb 16 (by decide)]
    · rw [bb 23 (by decide)]
    · rw [bb 24 (by decide)]
    · rw [bb 25 (by decide)]
    · rw [bb 27 (by decide)]
    · rw [bb 28 (by decide)]
    · rw [a1 4 (by decide) (by decide) (by decide)]
    · rw [e18, va_up_ne _ _ (by omega)]
    · rw [bb 17 (by decide)]
    · rw [bb 17 (by decide)]
    · rw [bb c (by revert c; decide)]
    · rw [bb 30 (by decide)]
  have I1 : RfI (up3 B0 18 0 ln v) q := S.I.cg (Nat.le_refl _) S.I.S.hq (fun k h1 _ => b1 k (by omega)) (fun c hc => by rw [bb c (by revert c; decide)])
  have H := S.P.ph d hd
  unfold p_ph at H
  rw [e6] at H
  unfold z_L_requesterWrites
  refine S.wr5 hq F (R0.page ln v) I1 (S.Z.cg (fun c hc => by rw [bb c (by revert c; decide)])) hd ?_ ?_ ?_ ?_ (fun z => (hk (Or.inl z)).elim) (fun z => (hk (Or.inr z)).elim) ?_ ((S.P.cd d hd).mono.cg (by rw [a1 4 (by decide) (by decide) (by decide)]) (b1 3 (by decide)) (by rw [bb 17 (by decide)]) (fun c hc => by rw [bb c (by revert c; decide)])) ?_
  · rw [ew]; unfold wtB; rw [b1 4 (by decide)]
  · rw [elg]; unfold lgB; rw [b1 5 (by decide)]
  · rw [en]; unfold p_n; rw [bb 29 (by decide)]
  · unfold p_ls at hg ⊢; rw [a1 8 (by decide) (by decide) (by decide), a1 14 (by decide) (by decide) (by decide)]; exact hg
  · rw [e6, e18, va_up_self]; exact hv
  · rw [e6, e18, va_up_self, bb 23 (by decide), bb 25 (by decide), a1 4 (by decide) (by decide) (by decide)]
    have ht : p_k B ln = d % 6 ↔ True := iff_true_intro e66
    refine (P _ _ _ _ _ _ _ _ _ (H.iff rfl rfl ht.symm Iff.rfl Iff.rfl Iff.rfl Iff.rfl Iff.rfl Iff.rfl Iff.rfl Iff.rfl Iff.rfl)).iff rfl rfl ht (by simp) (p_saw_cg (b1 5 (by decide)) (by rw [bb 32 (by decide)]) (by rw [bb 33 (by decide)]) (by rw [bb 34 (by decide)]) d (by simp only [p_s]; rw [bb 30 (by decide)])) (by simp) (by simp) Iff.rfl Iff.rfl Iff.rfl Iff.rfl Iff.rfl
