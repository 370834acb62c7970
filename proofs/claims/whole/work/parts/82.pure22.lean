/-! Declines, requests, the days, the drops, the copies -/
/-- after the letter that declines -/
theorem Sim.decl {A B : ew_R} {q ln d g n w lg : Nat} (S : Sim A B q) (hq : q < 512) (hl : ln < p_l B) (ed : d = 6 * ln + p_k B ln) (ew : w = wtB B) (elg : lg = lgB B) (en : n = p_n B (2 * d)) (hg : p_ls 8 14 A d g n) (hr : B 18 0 ln = 1) :
    RfI (s_write (up3 (up3 B 0 0 0 0) 18 0 ln 0) (2 * d) 6 0 w lg) (q + 1) ∧ RfZ (s_write (up3 (up3 B 0 0 0 0) 18 0 ln 0) (2 * d) 6 0 w lg) ∧ Rl (z_L_requesterWrites A ln d g n w 0 6 0) (s_write (up3 (up3 B 0 0 0 0) 18 0 ln 0) (2 * d) 6 0 w lg) ∧ Pvx (z_L_requesterWrites A ln d g n w 0 6 0) (s_write (up3 (up3 B 0 0 0 0) 18 0 ln 0) (2 * d) 6 0 w lg) (q + 1) d
    ∧ (∀ pr rs2, (rs2 = 9 ∧ pr = True ∨ rs2 = 0 ∧ pr = False) → Ph (s_write (up3 (up3 B 0 0 0 0) 18 0 ln 0) (2 * d) 6 0 w lg 23 0 d) rs2 pr (p_has (s_write (up3 (up3 B 0 0 0 0) 18 0 ln 0) (2 * d) 6 0 w lg) (2 * d + 1) 3) (p_saw (s_write (up3 (up3 B 0 0 0 0) 18 0 ln 0) (2 * d) 6 0 w lg) d) (p_has (s_write (up3 (up3 B 0 0 0 0) 18 0 ln 0) (2 * d) 6 0 w lg) (2 * d + 1) 4) (p_has (s_write (up3 (up3 B 0 0 0 0) 18 0 ln 0) (2 * d) 6 0 w lg) (2 * d + 1) 7) (p_has (s_write (up3 (up3 B 0 0 0 0) 18 0 ln 0) (2 * d) 6 0 w lg) (2 * d) 5) (p_has (s_write (up3 (up3 B 0 0 0 0) 18 0 ln 0) (2 * d) 6 0 w lg) (2 * d) 6) (p_has (s_write (up3 (up3 B 0 0 0 0) 18 0 ln 0) (2 * d) 6 0 w lg) (2 * d) 15) (z_L_requesterWrites A ln d g n w 0 6 0 4 d 4 = (-1)) (s_write (up3 (up3 B 0 0 0 0) 18 0 ln 0) (2 * d) 6 0 w lg 25 0 d = 0)) := by
  have hp := (S.I.L.p ln hl).2
  have e6 : d / 6 = ln := by omega
  have e66 : p_k B ln = d % 6 := by omega
  have hd : ¬ B 22 0 d = 0 := by rw [ed]; exact hp.2.2
  have h192 := S.Z.lt d hd
  have o : ∀ c, c ≠ 0 → c ≠ 18 → up3 (up3 B 0 0 0 0) 18 0 ln 0 c = B c := fun c h h1 => by rw [p_kd_up _ _ _ _ h1, p_kd_up _ _ _ _ h]
  have o0 : ∀ k, 1 ≤ k → up3 (up3 B 0 0 0 0) 18 0 ln 0 0 0 k = B 0 0 k := fun k hk => by rw [p_kd_up _ _ _ _ (by decide), up3_ne _ _ (by omega)]
  have F : p_f0 A (up3 A 3 ln 0 0) B (up3 (up3 B 0 0 0 0) 18 0 ln 0) d := ⟨by rw [o 22 (by decide) (by decide)], by rw [o 16 (by decide) (by decide)], fun _ _ => by rw [o 23 (by decide) (by decide)], fun _ _ => by rw [o 24 (by decide) (by decide)], fun _ _ => by rw [o 25 (by decide) (by decide)], fun _ _ => by rw [o 27 (by decide) (by decide)], fun _ _ => by rw [o 28 (by decide) (by decide)], fun _ _ => by rw [p_kd_up _ _ _ _ (by decide)], fun _ _ => by rw [up3_ne _ _ (by omega), p_kd_up _ _ _ _ (by decide)], Or.inr (by rw [e6]; exact e66), fun _ _ => by rw [o 17 (by decide) (by decide)], Or.inl (by rw [o 17 (by decide) (by decide)]), fun k h1 _ => o0 k h1, fun c hc => by rw [o c (by revert c; decide) (by revert c; decide)], fun f h1 h2 => by rw [o 30 (by decide) (by decide)]⟩
  have R1 : Rl (up3 A 3 ln 0 0) (up3 (up3 B 0 0 0 0) 18 0 ln 0) := (S.R.code 0).page ln 0
  have I1 : RfI (up3 (up3 B 0 0 0 0) 18 0 ln 0) q := (S.I.code 0).up 18 ln 0 (by decide) (by omega)
  have I2 : RfI (up3 (up3 B 0 0 0 0) 18 0 ln 0) (q + 1) := I1.mono (by omega)
  have Z1 : RfZ (up3 (up3 B 0 0 0 0) 18 0 ln 0) := (S.Z.upo 0 0 0 (by decide)).upo 0 _ _ (by decide)
  have hn := (S.I.E.n (2 * d)).2
  have hlg := S.I.S.lg.2
  have elg1 : lg = lgB (up3 (up3 B 0 0 0 0) 18 0 ln 0) := by rw [elg, F.lg]
  have ew1 : w = wtB (up3 (up3 B 0 0 0 0) 18 0 ln 0) := by rw [ew]; unfold wtB; rw [o0 4 (by decide)]
  have en1 : n = p_n (up3 (up3 B 0 0 0 0) 18 0 ln 0) (2 * d) := by rw [en]; unfold p_n; rw [o 29 (by decide) (by decide)]
  have hd1 : ¬ up3 (up3 B 0 0 0 0) 18 0 ln 0 22 0 d = 0 := by rw [F.e22]; exact hd
  have a4 : z_L_send_5 (up3 A 3 ln 0 0) d g n w 6 0 4 = A 4 := by rw [p_send5_4 _ _ _ _ _ _ _ (by decide), p_kd_up _ _ _ _ (by decide)]
  have a4' : z_L_send_5 (up3 A 3 ln 0 0) d g n w 6 0 4 = (up3 A 3 ln 0 0) 4 := p_send5_4 _ _ _ _ _ _ _ (by decide)
  have hc := S.I.S.nc.2
  have H := S.P.ph d hd
  unfold p_ph at H
  rw [e6] at H
  have wo : ∀ c, c ∉ [0, 18, 29, 32, 33, 34, 35, 36, 37, 38, 39] → s_write (up3 (up3 B 0 0 0 0) 18 0 ln 0) (2 * d) 6 0 w lg c = B c := fun c hc => by
    simp only [List.mem_cons, List.not_mem_nil, or_false, not_or] at hc
    rw [s_write_oth _ _ _ _ _ _ (by simp; omega), o c hc.1 hc.2.1]
  have hh : ∀ e' k', e' < 384 → (p_has (s_write (up3 (up3 B 0 0 0 0) 18 0 ln 0) (2 * d) 6 0 w lg) e' k' ↔ (e' = 2 * d ∧ k' = 6) ∨ p_has B e' k') := fun e' k' he' => by rw [p_has_write elg1 (by omega) (2 * d) 6 0 w (by omega) he' k', F.has]
  have C1 : p_cd (up3 A 3 ln 0 0) (up3 (up3 B 0 0 0 0) 18 0 ln 0) (q + 1) d := (S.P.cd d hd).mono.cg (by rw [p_kd_up _ _ _ _ (by decide)]) (o0 3 (by decide)) (by rw [o 17 (by decide) (by decide)]) (fun c hc => by rw [o c (by revert c; decide) (by revert c; decide)])
  refine ⟨I2.write ew1 elg1 (2 * d) (by omega) (by rw [show 2 * d / 2 = d by omega]; exact hd1) (by omega) (by omega) 6 0, Z1.write _ _ _ _ _, R1.send5 I1 hd1 h192 en1 ew1 elg1 (by unfold p_ls at hg ⊢; rw [p_kd_up _ _ _ _ (by decide), p_kd_up _ _ _ _ (by decide)]; exact hg) (by omega) 6 0, ?_, fun pr rs2 hpr => ?_⟩
  · exact S.P.wrx S.Z hc (by omega) F I2 elg h192 (by simp) a4' (fun z => absurd z (by decide)) (fun z => absurd z (by decide)) (C1.wr a4') (by rw [e6, up3_self]; decide)
  · have sw : p_saw (s_write (up3 (up3 B 0 0 0 0) 18 0 ln 0) (2 * d) 6 0 w lg) d ↔ p_saw B d := by
      rw [p_saw_write I2 elg1 (2 * d) (by omega) 6 0 w d h192]
      exact p_saw_cg (o0 5 (by decide)) (by rw [o 32 (by decide) (by decide)]) (by rw [o 33 (by decide) (by decide)]) (by rw [o 34 (by decide) (by decide)]) d (by simp only [p_s]; rw [o 30 (by decide) (by decide)])
    have ht : p_k B ln = d % 6 ↔ True := iff_true_intro e66
    rcases hpr with ⟨rfl, rfl⟩ | ⟨rfl, rfl⟩
    · refine (H.declineEnd e66 hr).iff (by rw [wo 23 (by decide)]) rfl ht.symm ?_ sw ?_ ?_ ?_ ?_ ?_ (by unfold z_L_requesterWrites; rw [a4]) (by rw [wo 25 (by decide)])
      · rw [hh _ _ (by omega)]; simp
      · rw [hh _ _ (by omega)]; simp
      · rw [hh _ _ (by omega)]; simp
      · rw [hh _ _ (by omega)]; simp
      · rw [hh _ _ (by omega)]; simp
      · rw [hh _ _ (by omega)]; simp
    · refine (H.declineNext (rs2 := 0) e66 hr).iff (by rw [wo 23 (by decide)]) rfl Iff.rfl ?_ sw ?_ ?_ ?_ ?_ ?_ (by unfold z_L_requesterWrites; rw [a4]) (by rw [wo 25 (by decide)])
      · rw [hh _ _ (by omega)]; simp
      · rw [hh _ _ (by omega)]; simp
      · rw [hh _ _ (by omega)]; simp
      · rw [hh _ _ (by omega)]; simp
      · rw [hh _ _ (by omega)]; simp
      · rw [hh _ _ (by omega)]; simp
