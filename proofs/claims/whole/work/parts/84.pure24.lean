/-! Days, drops, copies, letters sent again, what a letter brings before it is taken -/
theorem Sim.pass {A B : ew_R} {q m : Nat} (S : Sim A B q) (hq : q < 512) (hm : m ≤ 1000) : Sim (up3 A 0 0 7 (A 0 0 7 + nI m)) (up3 (up3 B 0 0 0 0) 0 0 1 (B 0 0 1 + nI m)) (q + 1) := by
  have o : ∀ c, c ≠ 0 → up3 (up3 B 0 0 0 0) 0 0 1 (B 0 0 1 + nI m) c = B c := fun c h => by rw [p_kd_up _ _ _ _ h, p_kd_up _ _ _ _ h]
  have k0 : ∀ k, 2 ≤ k → up3 (up3 B 0 0 0 0) 0 0 1 (B 0 0 1 + nI m) 0 0 k = B 0 0 k := fun k hk => by rw [up3_ne _ _ (by omega), up3_ne _ _ (by omega)]
  have a0 : ∀ c, c ≠ 0 → up3 A 0 0 7 (A 0 0 7 + nI m) c = A c := fun c h => p_kd_up _ _ _ _ h
  refine ⟨S.I.cg (by omega) (by omega) (fun k h1 _ => k0 k h1) (fun c hc => by rw [o c (by revert c; decide)]), S.Z.cg (fun c hc => by rw [o c (by revert c; decide)]), S.R.cols ?_ (fun c hc => a0 c (by revert c; decide)) (fun d => by rw [a0 4 (by decide)]) (fun c hc => by rw [o c (by revert c; decide)]) (fun k h1 _ => k0 k h1), S.P.cg (by omega) (fun d => by rw [a0 4 (by decide)]) (fun c hc => by rw [o c (by revert c; decide)]) (k0 2 (by decide)) (k0 5 (by decide)) (by simp only [p_c]; rw [k0 3 (by decide)]; exact Nat.le_refl _) ?_⟩
  · have C := S.R.C
    refine ⟨?_, ?_, ?_, ?_, ?_, ?_, ?_, ?_, ?_, ?_, ?_, ?_, ?_, ?_, ?_, ?_, ?_, ?_, ?_, ?_, ?_, ?_, ?_, ?_⟩ <;> first
      | (rw [p_col_kd (a0 _ (by decide)), o _ (by decide)]; first | exact C.c0 | exact C.c1 | exact C.c2 | exact C.c3 | exact C.l1 | exact C.l2 | exact C.l3 | exact C.l4 | exact C.g0 | exact C.g1 | exact C.g2 | exact C.g3 | exact C.d0 | exact C.d1 | exact C.d2 | exact C.d3 | exact C.gr)
      | (rw [a0 _ (by decide), o _ (by decide)]; first | exact C.bal | exact C.th)
      | (rw [a0 _ (by decide)]; exact C.bare)
      | (rw [a0 _ (by decide), k0 _ (by decide)]; exact C.w)
      | (rw [up3_self, up3_self, C.day])
      | (rw [up3_ne _ _ (by decide), k0 _ (by decide)]; first | exact C.nl | exact C.nc)
  · obtain ⟨t, h1, h2⟩ := S.P.day
    exact ⟨t + m, by omega, by rw [up3_self, h2, nI_add]⟩
theorem Sim.drop {A B : ew_R} {q w i : Nat} (S : Sim A B q) (hq : q < 512) (ew : w = wtB B) (hi : i < w) : Sim (z_Row_remove_ok A i w).2 (s_takeOut (up3 B 0 0 0 0) i w) (q + 1) := by
  have S1 := (S.code 0).mono hq
  have ew1 : w = wtB (up3 B 0 0 0 0) := by rw [ew]; unfold wtB; rw [up3_ne _ _ (by decide)]
  have o : ∀ c, c ≠ 37 → c ≠ 38 → c ≠ 39 → c ≠ 0 → s_takeOut (up3 B 0 0 0 0) i w c = up3 B 0 0 0 0 c := fun c a b d e => s_takeOut_oth _ _ _ a b d e
  have k0 : ∀ k, k ≠ 4 → s_takeOut (up3 B 0 0 0 0) i w 0 0 k = up3 B 0 0 0 0 0 0 k := fun k hk => by rw [s_takeOut_0, va_up_ne _ _ hk]
  refine ⟨S1.I.takeOut ew1 hi, S1.Z.cg (fun c hc => by rw [o c (by revert c; decide) (by revert c; decide) (by revert c; decide) (by revert c; decide)]), S1.R.drop S1.I ew1 hi, S1.P.cg (Nat.le_refl _) (fun d => ?_) (fun c hc => by rw [o c (by revert c; decide) (by revert c; decide) (by revert c; decide) (by revert c; decide)]) (k0 2 (by decide)) (k0 5 (by decide)) (by simp only [p_c]; rw [k0 3 (by decide)]; exact Nat.le_refl _) (by rw [k0 1 (by decide)]; exact S1.P.day)⟩
  unfold z_Row_remove_ok
  simp only [p_kd_upr _ _ _ (show 4 ≠ 12 by decide), p_kd_up _ _ _ _ (show 4 ≠ 7 by decide)]
theorem Sim.copy {A B : ew_R} {q nc : Nat} (S : Sim A B q) (hq : q < 512) (ec : nc = p_c B) (hc : nc < 32) (b t : Int32) : Sim (up3 (up3 (upr A 1 nc (fun k => if k = 0 then b else if k = 1 then t else if k = 2 then b else if k = 3 then (-1) else 0)) 9 0 nc 1) 0 0 5 (nI (nc + 1))) (up3 (up3 (up3 (up3 (up3 (up3 B 0 0 0 0) 7 0 nc t) 8 0 nc b) 9 0 nc b) 10 0 nc (-1)) 0 0 3 (nI (nc + 1))) (q + 1) := by
  have S1 := (S.code 0).mono hq
  generalize hB : up3 B 0 0 0 0 = B0 at *
  have ec0 : nc = p_c B0 := by rw [ec, ← hB]; unfold p_c; rw [up3_ne _ _ (by decide)]
  have hcc : p_c (up3 (up3 (up3 (up3 (up3 B0 7 0 nc t) 8 0 nc b) 9 0 nc b) 10 0 nc (-1)) 0 0 3 (nI (nc + 1))) = nc + 1 := by unfold p_c; rw [up3_self, nI_clamp (by omega)]
  have rb : ∀ c, c ∉ [0, 7, 8, 9, 10] → (up3 (up3 (up3 (up3 (up3 B0 7 0 nc t) 8 0 nc b) 9 0 nc b) 10 0 nc (-1)) 0 0 3 (nI (nc + 1))) c = B0 c := fun c hc => by
    simp only [List.mem_cons, List.not_mem_nil, or_false, not_or] at hc
    rw [p_kd_up _ _ _ _ hc.1, p_kd_up _ _ _ _ hc.2.2.2.2, p_kd_up _ _ _ _ hc.2.2.2.1, p_kd_up _ _ _ _ hc.2.2.1, p_kd_up _ _ _ _ hc.2.1]
  have b0 : ∀ k, k ≠ 3 → (up3 (up3 (up3 (up3 (up3 B0 7 0 nc t) 8 0 nc b) 9 0 nc b) 10 0 nc (-1)) 0 0 3 (nI (nc + 1))) 0 0 k = B0 0 0 k := fun k hk => by simp [p_row_up, va_up, hk]
  refine ⟨⟨⟨S1.I.S.hq, ?_, ?_, ?_, ?_⟩, S1.I.L.cg (b0 2 (by decide)) (by rw [rb 11 (by decide)]) (by rw [rb 13 (by decide)]) (by rw [rb 14 (by decide)]) (by rw [rb 15 (by decide)]) (by rw [rb 16 (by decide)]) (by rw [rb 22 (by decide)]), S1.I.E.cg (Nat.le_refl _) (by rw [rb 29 (by decide)]) (by rw [rb 30 (by decide)]) (by rw [rb 31 (by decide)]) (by rw [rb 22 (by decide)]), S1.I.G.cg (b0 5 (by decide)) (by rw [rb 29 (by decide)]) (by rw [rb 32 (by decide)]) (by rw [rb 33 (by decide)]), S1.I.W.cg (b0 4 (by decide)) (b0 5 (by decide)) (by rw [rb 22 (by decide)]) (by rw [rb 30 (by decide)]) (by rw [rb 32 (by decide)]) (by rw [rb 37 (by decide)]) (by rw [rb 38 (by decide)]) (by rw [rb 39 (by decide)])⟩, S1.Z.cg (fun c hc => by rw [rb c (by revert c; decide)]), S1.R.copy S1.I.S ec0 hc b t, S1.P.cg (Nat.le_refl _) (fun d => ?_) (fun c hc => by rw [rb c (by revert c; decide)]) (b0 2 (by decide)) (b0 5 (by decide)) (by omega) (by rw [b0 1 (by decide)]; exact S1.P.day)⟩
  · simp only [p_l]; rw [b0 2 (by decide)]; exact S1.I.S.nl
  · rw [hcc, up3_self]; exact ⟨rfl, by omega⟩
  · simp only [wtB]; rw [b0 4 (by decide)]; exact S1.I.S.w
  · simp only [lgB]; rw [b0 5 (by decide)]; exact S1.I.S.lg
  · rw [p_kd_up _ _ _ _ (by decide), p_kd_up _ _ _ _ (by decide), p_kd_upr _ _ _ (by decide)]
/-- one more line of the row -/
theorem Sim.lay {A B : ew_R} {q w en : Nat} {lt v0 v1 v2 v3 v4 v5 v6 : Int32} (S : Sim A B q) (ew : w = wtB B) (hn : ∀ k, k < 7 → p_v7 v0 v1 v2 v3 v4 v5 v6 k = p_let B lt (nI en) (B 30 0 en) k) (hr : p_rw B (lgB B) lt (nI en) (B 30 0 en)) : Sim (p_radd A w v0 v1 v2 v3 v4 v5 v6) (s_lay B lt en w) q := by
  have o : ∀ c, c ≠ 37 → c ≠ 38 → c ≠ 39 → c ≠ 0 → s_lay B lt en w c = B c := fun c a b d e => s_lay_oth _ _ _ _ a b d e
  have k0 : ∀ k, k ≠ 4 → s_lay B lt en w 0 0 k = B 0 0 k := fun k hk => s_lay_0k _ _ _ _ hk
  exact ⟨S.I.lay ew lt en hr, S.Z.cg (fun c hc => by rw [o c (by revert c; decide) (by revert c; decide) (by revert c; decide) (by revert c; decide)]), S.R.radd S.I ew hn, S.P.cg (Nat.le_refl _) (fun d => by rw [p_radd_oth _ _ _ _ _ _ _ _ _ (by decide) (by decide)]) (fun c hc => by rw [o c (by revert c; decide) (by revert c; decide) (by revert c; decide) (by revert c; decide)]) (k0 2 (by decide)) (k0 5 (by decide)) (by simp only [p_c]; rw [k0 3 (by decide)]; exact Nat.le_refl _) (by rw [k0 1 (by decide)]; exact S.P.day)⟩
theorem p_min1 {w i : Nat} (h : w ≤ 64) : p_lw (min 64 (w + i)) = min 64 (w + (i + 1)) := by unfold p_lw; split <;> omega

/-- letters sent again -/
theorem Sim.rs5 {A B : ew_R} {q d w ac lg : Nat} (S : Sim A B q) (hd : ¬ B 22 0 d = 0) (ew : w = wtB B) (elg : lg = lgB B) : ∀ i, ac + i ≤ p_n B (2 * d) → Sim (z_rs_5 A d w ac i) (s_rs B (2 * d) lg w ac i) q ∧ wtB (s_rs B (2 * d) lg w ac i) = min 64 (w + i) ∧ (∀ c, c ≠ 37 → c ≠ 38 → c ≠ 39 → c ≠ 0 → s_rs B (2 * d) lg w ac i c = B c) ∧ (∀ k, k ≠ 4 → s_rs B (2 * d) lg w ac i 0 0 k = B 0 0 k)
  | 0, _ => by
    have hw := S.I.S.w.2
    exact ⟨S, by show wtB B = _; omega, fun _ _ _ _ _ => rfl, fun _ _ => rfl⟩
  | i + 1, hi => by
    obtain ⟨S1, w1, o1, k1⟩ := Sim.rs5 (ac := ac) S hd ew elg i (by omega)
    have hw := S.I.S.w.2
    have h192 := S.Z.lt d hd
    have hnq := (S.I.E.n (2 * d)).2
    have hqq := S.I.S.hq
    have lg1 : lgB (s_rs B (2 * d) lg w ac i) = lg := by unfold lgB; rw [k1 5 (by decide), elg]; rfl
    have hn1 : p_n (s_rs B (2 * d) lg w ac i) (2 * d) = p_n B (2 * d) := by unfold p_n; rw [o1 29 (by decide) (by decide) (by decide) (by decide)]
    have hd1 : ¬ s_rs B (2 * d) lg w ac i 22 0 d = 0 := by rw [o1 22 (by decide) (by decide) (by decide) (by decide)]; exact hd
    obtain ⟨j, j1, j2, j3, j4⟩ := S1.I.find (e := 2 * d) (k := ac + i) (by omega)
    have hz : z_rs_5 A d w ac (i + 1) = p_radd (z_rs_5 A d w ac i) (min 64 (w + i)) _ _ _ _ _ _ _ := p_radd_5_6 _ _ _ _
    have hs : s_rs B (2 * d) lg w ac (i + 1) = s_lay (s_rs B (2 * d) lg w ac i) (nI j) (2 * d) (min 64 (w + i)) := by
      show s_lay _ (s_find _ _ (nI ((ac + 1) + i)) lg) _ _ = _
      rw [lg1] at j4
      rw [show ac + 1 + i = ac + i + 1 by omega, j4]
    rw [hz, hs]
    refine ⟨S1.lay w1.symm (p_let_5 S1.R S1.I hd1 h192 (by omega) j1 j2 j3) ⟨2 * d, by omega, by rw [show (2 * d) / 2 = d by omega]; exact hd1, rfl, ⟨_, Nat.le_refl _, S1.I.E.s _⟩, Or.inr ⟨j, j1, rfl, j2⟩⟩, ?_, fun c a b e f => ?_, fun k hk => ?_⟩
    · rw [s_lay_wt _ _ _ (by omega), p_min1 (by omega)]
    · rw [s_lay_oth _ _ _ _ a b e f, o1 c a b e f]
    · rw [s_lay_0k _ _ _ _ hk, k1 k hk]
theorem Sim.resend5 {A B : ew_R} {q d w ac sn lg : Nat} (S : Sim A B q) (hq : q < 512) (hd : ¬ B 22 0 d = 0) (ew : w = wtB B) (elg : lg = lgB B) (es : sn = p_n B (2 * d)) (ha : ac ≤ sn) : Sim (z_Row_add_5_18 (z_rs_5 A d w ac (sn - ac)) d 0 (min 64 (w + (sn - ac)))) (s_lay (s_rs (up3 B 0 0 0 0) (2 * d) lg w ac (sn - ac)) (-1) (2 * d) (min 64 (w + (sn - ac)))) (q + 1) := by
  have S0 := (S.code 0).mono hq
  have h192 := S.Z.lt d hd
  have hd0 : ¬ up3 B 0 0 0 0 22 0 d = 0 := by rw [p_kd_up _ _ _ _ (by decide)]; exact hd
  have n0 : p_n (up3 B 0 0 0 0) (2 * d) = p_n B (2 * d) := by unfold p_n; rw [p_kd_up _ _ _ _ (by decide)]
  obtain ⟨S1, w1, o1, k1⟩ := S0.rs5 (d := d) (w := w) (ac := ac) (lg := lg) hd0 (by rw [ew]; unfold wtB; rw [up3_ne _ _ (by decide)]) (by rw [elg]; unfold lgB; rw [up3_ne _ _ (by decide)]) (sn - ac) (by omega)
  have hd1 : ¬ s_rs (up3 B 0 0 0 0) (2 * d) lg w ac (sn - ac) 22 0 d = 0 := by rw [o1 22 (by decide) (by decide) (by decide) (by decide)]; exact hd0
  rw [p_radd_5_18]
  exact S1.lay w1.symm (p_bare_5 S1.R hd1 h192) ⟨2 * d, by omega, by rw [show (2 * d) / 2 = d by omega]; exact hd1, rfl, ⟨_, Nat.le_refl _, S1.I.E.s _⟩, Or.inl rfl⟩
/-- the other end knows more of what was seen; a letter is held at its goal -/
theorem Sim.acked5 {A B : ew_R} {q d m : Nat} (S : Sim A B q) (hm : m ≤ p_s B (2 * d + 1)) : Sim (up3 A 5 d 5 (nI m)) (up3 B 31 0 (2 * d) (nI m)) q := by
  have o : ∀ c, c ≠ 31 → up3 B 31 0 (2 * d) (nI m) c = B c := fun c h => p_kd_up _ _ _ _ h
  exact ⟨S.I.acked (d := d) (Or.inl ⟨rfl, rfl⟩) hm, S.Z.upo 0 _ _ (by decide), S.R.acked5 _, S.P.cg (Nat.le_refl _) (fun x => by rw [p_kd_up _ _ _ _ (by decide)]) (fun c hc => by rw [o c (by revert c; decide)]) (by rw [o 0 (by decide)]) (by rw [o 0 (by decide)]) (by simp only [p_c]; rw [o 0 (by decide)]; exact Nat.le_refl _) (by rw [o 0 (by decide)]; exact S.P.day)⟩
theorem Sim.held5o {A B : ew_R} {q d k : Nat} (S : Sim A B q) (hk : k < p_s B (2 * d + 1)) (hk2 : k < 512) : Sim (up3 A 6 (512 * d + k) 3 1) B q :=
  ⟨S.I, S.Z, S.R.held5o hk hk2, S.P.cg (Nat.le_refl _) (fun x => by rw [p_kd_up _ _ _ _ (by decide)]) (fun _ _ => rfl) rfl rfl (Nat.le_refl _) S.P.day⟩
theorem Sim.held5n {A B : ew_R} {q d k j : Nat} (S : Sim A B q) (h192 : d < 192) (hj : j < lgB B) (hk2 : k < 512) (h32 : B 32 0 j = nI (2 * d)) (h33 : B 33 0 j = nI (k + 1)) : Sim (up3 A 6 (512 * d + k) 3 1) (up3 B 36 0 j 1) q := by
  have o : ∀ c, c ≠ 36 → up3 B 36 0 j 1 c = B c := fun c h => p_kd_up _ _ _ _ h
  exact ⟨S.I.up 36 j 1 (by decide) (by omega), S.Z.upo 0 _ _ (by decide), S.R.held5n S.I h192 hj hk2 h32 h33, S.P.cg (Nat.le_refl _) (fun x => by rw [p_kd_up _ _ _ _ (by decide)]) (fun c hc => by rw [o c (by revert c; decide)]) (by rw [o 0 (by decide)]) (by rw [o 0 (by decide)]) (by simp only [p_c]; rw [o 0 (by decide)]; exact Nat.le_refl _) (by rw [o 0 (by decide)]; exact S.P.day)⟩

/-- letters sent again -/
theorem Sim.rs15 {A B : ew_R} {q d w ac lg : Nat} (S : Sim A B q) (hd : ¬ B 22 0 d = 0) (ew : w = wtB B) (elg : lg = lgB B) : ∀ i, ac + i ≤ p_n B (2 * d + 1) → Sim (z_rs_15 A d w ac i) (s_rs B (2 * d + 1) lg w ac i) q ∧ wtB (s_rs B (2 * d + 1) lg w ac i) = min 64 (w + i) ∧ (∀ c, c ≠ 37 → c ≠ 38 → c ≠ 39 → c ≠ 0 → s_rs B (2 * d + 1) lg w ac i c = B c) ∧ (∀ k, k ≠ 4 → s_rs B (2 * d + 1) lg w ac i 0 0 k = B 0 0 k)
  | 0, _ => by
    have hw := S.I.S.w.2
    exact ⟨S, by show wtB B = _; omega, fun _ _ _ _ _ => rfl, fun _ _ => rfl⟩
  | i + 1, hi => by
    obtain ⟨S1, w1, o1, k1⟩ := Sim.rs15 (ac := ac) S hd ew elg i (by omega)
    have hw := S.I.S.w.2
    have h192 := S.Z.lt d hd
    have hnq := (S.I.E.n (2 * d + 1)).2
    have hqq := S.I.S.hq
    have lg1 : lgB (s_rs B (2 * d + 1) lg w ac i) = lg := by unfold lgB; rw [k1 5 (by decide), elg]; rfl
    have hn1 : p_n (s_rs B (2 * d + 1) lg w ac i) (2 * d + 1) = p_n B (2 * d + 1) := by unfold p_n; rw [o1 29 (by decide) (by decide) (by decide) (by decide)]
    have hd1 : ¬ s_rs B (2 * d + 1) lg w ac i 22 0 d = 0 := by rw [o1 22 (by decide) (by decide) (by decide) (by decide)]; exact hd
    obtain ⟨j, j1, j2, j3, j4⟩ := S1.I.find (e := 2 * d + 1) (k := ac + i) (by omega)
    have hz : z_rs_15 A d w ac (i + 1) = p_radd (z_rs_15 A d w ac i) (min 64 (w + i)) _ _ _ _ _ _ _ := p_radd_15_19 _ _ _ _
    have hs : s_rs B (2 * d + 1) lg w ac (i + 1) = s_lay (s_rs B (2 * d + 1) lg w ac i) (nI j) (2 * d + 1) (min 64 (w + i)) := by
      show s_lay _ (s_find _ _ (nI ((ac + 1) + i)) lg) _ _ = _
      rw [lg1] at j4
      rw [show ac + 1 + i = ac + i + 1 by omega, j4]
    rw [hz, hs]
    refine ⟨S1.lay w1.symm (p_let_15 S1.R S1.I hd1 h192 (by omega) j1 j2 j3) ⟨2 * d + 1, by omega, by rw [show (2 * d + 1) / 2 = d by omega]; exact hd1, rfl, ⟨_, Nat.le_refl _, S1.I.E.s _⟩, Or.inr ⟨j, j1, rfl, j2⟩⟩, ?_, fun c a b e f => ?_, fun k hk => ?_⟩
    · rw [s_lay_wt _ _ _ (by omega), p_min1 (by omega)]
    · rw [s_lay_oth _ _ _ _ a b e f, o1 c a b e f]
    · rw [s_lay_0k _ _ _ _ hk, k1 k hk]
theorem Sim.resend15 {A B : ew_R} {q d w ac sn lg : Nat} (S : Sim A B q) (hq : q < 512) (hd : ¬ B 22 0 d = 0) (ew : w = wtB B) (elg : lg = lgB B) (es : sn = p_n B (2 * d + 1)) (ha : ac ≤ sn) : Sim (z_Row_add_15_18 (z_rs_15 A d w ac (sn - ac)) d 0 (min 64 (w + (sn - ac)))) (s_lay (s_rs (up3 B 0 0 0 0) (2 * d + 1) lg w ac (sn - ac)) (-1) (2 * d + 1) (min 64 (w + (sn - ac)))) (q + 1) := by
  have S0 := (S.code 0).mono hq
  have h192 := S.Z.lt d hd
  have hd0 : ¬ up3 B 0 0 0 0 22 0 d = 0 := by rw [p_kd_up _ _ _ _ (by decide)]; exact hd
  have n0 : p_n (up3 B 0 0 0 0) (2 * d + 1) = p_n B (2 * d + 1) := by unfold p_n; rw [p_kd_up _ _ _ _ (by decide)]
  obtain ⟨S1, w1, o1, k1⟩ := S0.rs15 (d := d) (w := w) (ac := ac) (lg := lg) hd0 (by rw [ew]; unfold wtB; rw [up3_ne _ _ (by decide)]) (by rw [elg]; unfold lgB; rw [up3_ne _ _ (by decide)]) (sn - ac) (by omega)
  have hd1 : ¬ s_rs (up3 B 0 0 0 0) (2 * d + 1) lg w ac (sn - ac) 22 0 d = 0 := by rw [o1 22 (by decide) (by decide) (by decide) (by decide)]; exact hd0
  rw [p_radd_15_18]
  exact S1.lay w1.symm (p_bare_15 S1.R hd1 h192) ⟨2 * d + 1, by omega, by rw [show (2 * d + 1) / 2 = d by omega]; exact hd1, rfl, ⟨_, Nat.le_refl _, S1.I.E.s _⟩, Or.inl rfl⟩
/-- the other end knows more of what was seen; a letter is held at its goal -/
theorem Sim.acked15 {A B : ew_R} {q d m : Nat} (S : Sim A B q) (hm : m ≤ p_s B (2 * d)) : Sim (up3 A 15 d 5 (nI m)) (up3 B 31 0 (2 * d + 1) (nI m)) q := by
  have o : ∀ c, c ≠ 31 → up3 B 31 0 (2 * d + 1) (nI m) c = B c := fun c h => p_kd_up _ _ _ _ h
  exact ⟨S.I.acked (d := d) (Or.inr ⟨rfl, rfl⟩) hm, S.Z.upo 0 _ _ (by decide), S.R.acked15 _, S.P.cg (Nat.le_refl _) (fun x => by rw [p_kd_up _ _ _ _ (by decide)]) (fun c hc => by rw [o c (by revert c; decide)]) (by rw [o 0 (by decide)]) (by rw [o 0 (by decide)]) (by simp only [p_c]; rw [o 0 (by decide)]; exact Nat.le_refl _) (by rw [o 0 (by decide)]; exact S.P.day)⟩
theorem Sim.held15o {A B : ew_R} {q d k : Nat} (S : Sim A B q) (hk : k < p_s B (2 * d)) (hk2 : k < 512) : Sim (up3 A 19 (512 * d + k) 3 1) B q :=
  ⟨S.I, S.Z, S.R.held15o hk hk2, S.P.cg (Nat.le_refl _) (fun x => by rw [p_kd_up _ _ _ _ (by decide)]) (fun _ _ => rfl) rfl rfl (Nat.le_refl _) S.P.day⟩
theorem Sim.held15n {A B : ew_R} {q d k j : Nat} (S : Sim A B q) (h192 : d < 192) (hj : j < lgB B) (hk2 : k < 512) (h32 : B 32 0 j = nI (2 * d + 1)) (h33 : B 33 0 j = nI (k + 1)) : Sim (up3 A 19 (512 * d + k) 3 1) (up3 B 36 0 j 1) q := by
  have o : ∀ c, c ≠ 36 → up3 B 36 0 j 1 c = B c := fun c h => p_kd_up _ _ _ _ h
  exact ⟨S.I.up 36 j 1 (by decide) (by omega), S.Z.upo 0 _ _ (by decide), S.R.held15n S.I h192 hj hk2 h32 h33, S.P.cg (Nat.le_refl _) (fun x => by rw [p_kd_up _ _ _ _ (by decide)]) (fun c hc => by rw [o c (by revert c; decide)]) (by rw [o 0 (by decide)]) (by rw [o 0 (by decide)]) (by simp only [p_c]; rw [o 0 (by decide)]; exact Nat.le_refl _) (by rw [o 0 (by decide)]; exact S.P.day)⟩
