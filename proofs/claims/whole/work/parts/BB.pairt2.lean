/-! act, side by side: the requester's steps -/
section PT2
variable {l : Launch} {D : va_G} {T : Nat → ClassId} {t0 : Nat × Nat} {X : Nat → Nat → Nat} {L : List Nat} {tg : Nat → Nat × Nat} {A : ew_R} {XR : Nat → Nat → Nat} {LR : List Nat} {tgR : Nat → Nat × Nat} {B : ew_R} {q : Nat}
theorem Sim.own22 (S : Sim A B q) {ln : Nat} (hi : ln < p_l B) : B 22 0 (6 * ln + p_q B ln) = 0 := by
  have h6 := (S.I.L.k ln hi).rq.2
  apply Classical.byContradiction
  intro h
  have h9 := (S.I.L.in h).2
  rw [show (6 * ln + p_q B ln) / 6 = ln by omega] at h9
  omega
theorem Sim.w5 (S : Sim A B q) (W : WI t0 X L tg A) (hq : q < 512) {A0 : ew_R} {d ln g w : Nat} {v k t : Int32} (hd : ¬ B 22 0 d = 0) (a0 : ∀ c, c ≠ 1 → c ≠ 3 → c ≠ 11 → A0 c = A c) (hg : p_ls 8 14 A d g (p_n B (2 * d))) {X' : Nat → Nat → Nat} {L' : List Nat} {tg' : Nat → Nat × Nat} (hS : em_S (nw_5 d g (p_n B (2 * d))) X L tg X' L' tg') : WI t0 X' L' tg' (z_L_requesterWrites A0 ln d g (p_n B (2 * d)) w v k t) := by
  have a1 : ∀ c, c ≠ 1 → c ≠ 3 → c ≠ 11 → up3 A0 3 ln 0 v c = A c := fun c h1 h3 h11 => by rw [p_kd_up _ _ _ _ h3]; exact a0 c h1 h3 h11
  have W0 : WI t0 X L tg (up3 A0 3 ln 0 v) := W.up (by rw [a1 0 (by decide) (by decide) (by decide)]) (by rw [a1 0 (by decide) (by decide) (by decide)]) (fun c hc => a1 c (by omega) (by omega) (by omega))
  unfold z_L_requesterWrites
  refine W0.send5 ?_ (S.d192 hd) (by have := S.nle (2 * d); omega) ?_ ?_ hS
  · have h := S.th.mpr hd
    unfold p_th at h ⊢
    rw [a1 13 (by decide) (by decide) (by decide), a1 0 (by decide) (by decide) (by decide)]; exact h
  · rw [a1 8 (by decide) (by decide) (by decide)]; exact S.n8 d
  · unfold p_ls at hg ⊢
    rw [a1 8 (by decide) (by decide) (by decide), a1 14 (by decide) (by decide) (by decide)]; exact hg
theorem Sim.cpF (S : Sim A B q) {ln : Nat} (hi : ln < p_l B) (hs : B 18 0 ln = 3 ∨ B 18 0 ln = 4 ∨ B 18 0 ln = 5 ∨ B 18 0 ln = 6) : ∃ cp, cp < p_c B ∧ A 4 (6 * ln + p_k B ln) 4 = nI cp ∧ B 17 0 ln = nI cp := by
  obtain ⟨k1, k2, k3⟩ := S.pk hi
  have h := S.P.ph _ k3
  unfold p_ph at h
  rw [show (6 * ln + p_k B ln) / 6 = ln by omega, show (6 * ln + p_k B ln) % 6 = p_k B ln by omega] at h
  have hn := h.d rfl hs
  rcases (S.P.cd _ k3).1 with h4 | ⟨c, hc, h4, h17⟩
  · exact absurd h4 hn
  · rw [show (6 * ln + p_k B ln) / 6 = ln by omega] at h17
    exact ⟨c, hc, h4, h17⟩
theorem i_012 {x : Int32} (h : ¬ x < 0) : x = 0 ∨ x = 1 ∨ x = 2 ∨ 3 ≤ x := by
  obtain ⟨j, hj, rfl⟩ := nI_of h
  rcases Nat.lt_or_ge j 3 with h3 | h3
  · have : j = 0 ∨ j = 1 ∨ j = 2 := by omega
    rcases this with rfl | rfl | rfl
    · exact Or.inl rfl
    · exact Or.inr (Or.inl rfl)
    · exact Or.inr (Or.inr (Or.inl rfl))
  · exact Or.inr (Or.inr (Or.inr (nI_le (a := 3) h3 hj)))
theorem i_has (x : Int32) : (z_Asker_hasCopy x = 1 ∧ (x = 4 ∨ x = 5 ∨ x = 6)) ∨ z_Asker_hasCopy x = 0 := by
  unfold z_Asker_hasCopy
  by_cases h4 : x = 4
  · exact Or.inl ⟨by rw [if_pos h4], Or.inl h4⟩
  · by_cases h5 : x = 5
    · exact Or.inl ⟨by rw [if_neg h4, if_pos h5], Or.inr (Or.inl h5)⟩
    · by_cases h6 : x = 6
      · exact Or.inl ⟨by rw [if_neg h4, if_neg h5, if_pos h6], Or.inr (Or.inr h6)⟩
      · exact Or.inr (by rw [if_neg h4, if_neg h5, if_neg h6])
theorem pr_act_0 (hfl : l.flags = pinnedFlags ++ [noTraceFlag]) (P : PX t0 X L tg A XR LR tgR B q) {ln : Nat} (hi : ln < p_l B) (ar : Int32) : PairT l D T t0 X L tg A XR LR tgR B q yL_act wsL_act yM_act wsM_act [.int (nI (p_q B ln)), .int (nI ln), .int 0, .int ar] := by
  obtain ⟨hq, S, W, E⟩ := P
  have hn := S.nl32
  have hlg := S.I.S.lg
  obtain ⟨k1, k2, k3⟩ := S.pk hi
  obtain ⟨r1, r2⟩ := S.q1 hi
  have r3 : B 11 0 ln = nI (p_q B ln) := (S.I.L.k ln hi).rq.1
  have z22 := S.own22 hi
  have i0 := W.v0 0 (by simp)
  have i2 := W.inn (S.lv2 hi (kd := 2) (by simp))
  have i3 := W.inn (S.lv2 hi (kd := 3) (by simp))
  have i10 := W.v0 10 (by simp)
  have g0 : A 3 ln 0 = B 18 0 ln := congrFun S.R.C.g0 ln
  obtain ⟨g, hg, hLS, h6, h14, hn5⟩ := S.sup5 hq W k3
  by_cases hs : B 18 0 ln = 1
  · have i4 := W.inn (S.lv4 k3 (kd := 4) (by simp))
    have i5 := W.inn (S.lv4 k3 (kd := 5) (by simp))
    have i8 := W.inn (S.lv4 k3 (kd := 8) (by simp))
    have i7 := W.v0 7 (by simp)
    have i12 := W.v0 12 (by simp)
    have S' := S.accept hq hi rfl rfl rfl rfl hg hs
    exact PairT.ok (Z := z_L_act_accept_y A (p_q B ln) ln ar (6 * ln + p_k B ln) g (p_n B (2 * (6 * ln + p_k B ln))) (wtB B) (p_l B)) (R := s_stepRequester_0 (up3 B 0 0 0 0) ln (p_k B ln) (wtB B) (lgB B)) (fun sz => c_L_act_accept_y l D T t0 X L tg sz A _ i0 (p_q B ln) ln ar (6 * ln + p_k B ln) g (p_n B (2 * (6 * ln + p_k B ln))) (wtB B) (p_l B) i3 i4 i5 i8 i7 i12 i2 i10 (S.d192 k3) hn5 hLS S.w64 S.wA W.cl h6 h14 (S.q7 hi) (g0.trans hs) r2 r1 hn S.nlA hi (S.f10 hi)) (by decide) (by decide) (fun sz => r_act_0 l D T XR LR tgR sz E B (p_q B ln) ln ar (p_l B) (p_k B ln) (wtB B) (lgB B) hi hn S.I.S.nl.1 r2 r3 z22 k2 k1 S.w64 S.I.S.w.1 (by omega) hlg.1) (by decide) (by unfold s_act_0; rw [if_neg (by unfold s_mayRequester_0; rw [if_pos hs]; decide)]) (congrFun S'.R.C.g0 ln) S' (fun X' L' tg' h => S.w5 W hq k3 (fun c h1 h3 h11 => rfl) hg h) (by
      unfold s_stepRequester_0
      rw [s_write_0k _ _ _ _ _ _ (by decide) (by decide)]
      repeat rw [p_kd_up _ _ _ _ (by decide)]
      rw [up3_self])
  · exact PairT.no ⟨hq, S, W, E⟩ (fun sz => t_act_accept_no l hfl D T t0 X L tg sz A _ i0 (p_q B ln) ln ar (p_l B) i3 i2 i10 (fun z => hs (g0.symm.trans z)) r2 r1 hn S.nlA hi (S.f10 hi)) (fun sz => r_act_0r l D T XR LR tgR sz E B (p_q B ln) ln ar (p_l B) hi hn S.I.S.nl.1 r2 r3 z22 (by unfold s_mayRequester_0; rw [if_neg hs])) (by decide) rfl
theorem pr_act_3 (hfl : l.flags = pinnedFlags ++ [noTraceFlag]) (P : PX t0 X L tg A XR LR tgR B q) {ln : Nat} (hi : ln < p_l B) (ar : Int32) : PairT l D T t0 X L tg A XR LR tgR B q yL_act wsL_act yM_act wsM_act [.int (nI (p_q B ln)), .int (nI ln), .int 3, .int ar] := by
  obtain ⟨hq, S, W, E⟩ := P
  have hn := S.nl32
  have hlg := S.I.S.lg
  obtain ⟨k1, k2, k3⟩ := S.pk hi
  obtain ⟨r1, r2⟩ := S.q1 hi
  have r3 : B 11 0 ln = nI (p_q B ln) := (S.I.L.k ln hi).rq.1
  have z22 := S.own22 hi
  have i0 := W.v0 0 (by simp)
  have i2 := W.inn (S.lv2 hi (kd := 2) (by simp))
  have i3 := W.inn (S.lv2 hi (kd := 3) (by simp))
  have i10 := W.v0 10 (by simp)
  have g0 : A 3 ln 0 = B 18 0 ln := congrFun S.R.C.g0 ln
  obtain ⟨g, hg, hLS, h6, h14, hn5⟩ := S.sup5 hq W k3
  by_cases hs : B 18 0 ln = 3
  · have i4 := W.inn (S.lv4 k3 (kd := 4) (by simp))
    have i5 := W.inn (S.lv4 k3 (kd := 5) (by simp))
    have i8 := W.inn (S.lv4 k3 (kd := 8) (by simp))
    have i7 := W.v0 7 (by simp)
    have i12 := W.v0 12 (by simp)
    obtain ⟨cp, hcp, h4, h17⟩ := S.cpF hi (Or.inl hs)
    have i1 := W.inn (S.lv1 hcp)
    have hc32 : cp < 32 := by have := S.nc32; omega
    have S' := S.receive hq hi rfl rfl rfl rfl hg (cp := cp) hs
    exact PairT.ok (Z := z_L_act_receive_y A (p_q B ln) ln ar (6 * ln + p_k B ln) g (p_n B (2 * (6 * ln + p_k B ln))) (wtB B) cp (p_l B)) (R := s_stepRequester_3 (up3 B 0 0 0 0) ln (p_k B ln) cp (wtB B) (lgB B)) (fun sz => c_L_act_receive_y l D T t0 X L tg sz A _ i0 (p_q B ln) ln ar (6 * ln + p_k B ln) g (p_n B (2 * (6 * ln + p_k B ln))) (wtB B) cp (p_l B) i3 i4 i5 i8 i7 i12 i1 i2 i10 (S.d192 k3) hn5 hLS S.w64 S.wA W.cl h6 h14 (S.q7 hi) hc32 h4 (g0.trans hs) r2 r1 hn S.nlA hi (S.f10 hi)) (by decide) (by decide) (fun sz => r_act_3 l D T XR LR tgR sz E B (p_q B ln) ln ar (p_l B) (p_k B ln) cp (wtB B) (lgB B) hi hn S.I.S.nl.1 r2 r3 z22 k2 k1 hc32 h17 S.w64 S.I.S.w.1 (by omega) hlg.1) (by decide) (by unfold s_act_3; rw [if_neg (by unfold s_mayRequester_3; rw [if_pos hs]; decide)]) (congrFun S'.R.C.g0 ln) S' (fun X' L' tg' h => S.w5 W hq k3 (fun c h1 h3 h11 => p_kd_up _ _ _ _ h1) hg h) (by
      unfold s_stepRequester_3
      rw [s_write_0k _ _ _ _ _ _ (by decide) (by decide)]
      repeat rw [p_kd_up _ _ _ _ (by decide)]
      rw [up3_self])
  · exact PairT.no ⟨hq, S, W, E⟩ (fun sz => t_act_receive_no l hfl D T t0 X L tg sz A _ i0 (p_q B ln) ln ar (p_l B) i3 i2 i10 (fun z => hs (g0.symm.trans z)) r2 r1 hn S.nlA hi (S.f10 hi)) (fun sz => r_act_3r l D T XR LR tgR sz E B (p_q B ln) ln ar (p_l B) hi hn S.I.S.nl.1 r2 r3 z22 (by unfold s_mayRequester_3; rw [if_neg hs])) (by decide) rfl
theorem pr_act_4 (hfl : l.flags = pinnedFlags ++ [noTraceFlag]) (P : PX t0 X L tg A XR LR tgR B q) {ln : Nat} (hi : ln < p_l B) (ar : Int32) : PairT l D T t0 X L tg A XR LR tgR B q yL_act wsL_act yM_act wsM_act [.int (nI (p_q B ln)), .int (nI ln), .int 4, .int ar] := by
  obtain ⟨hq, S, W, E⟩ := P
  have hn := S.nl32
  have hlg := S.I.S.lg
  obtain ⟨k1, k2, k3⟩ := S.pk hi
  obtain ⟨r1, r2⟩ := S.q1 hi
  have r3 : B 11 0 ln = nI (p_q B ln) := (S.I.L.k ln hi).rq.1
  have z22 := S.own22 hi
  have i0 := W.v0 0 (by simp)
  have i2 := W.inn (S.lv2 hi (kd := 2) (by simp))
  have i3 := W.inn (S.lv2 hi (kd := 3) (by simp))
  have i10 := W.v0 10 (by simp)
  have g0 : A 3 ln 0 = B 18 0 ln := congrFun S.R.C.g0 ln
  obtain ⟨g, hg, hLS, h6, h14, hn5⟩ := S.sup5 hq W k3
  by_cases hs : B 18 0 ln = 4
  · have i4 := W.inn (S.lv4 k3 (kd := 4) (by simp))
    have i5 := W.inn (S.lv4 k3 (kd := 5) (by simp))
    have i8 := W.inn (S.lv4 k3 (kd := 8) (by simp))
    have i7 := W.v0 7 (by simp)
    have i12 := W.v0 12 (by simp)
    have S' := S.renew hq hi rfl rfl rfl rfl hg hs
    exact PairT.ok (Z := z_L_act_renew_y A (p_q B ln) ln ar (6 * ln + p_k B ln) g (p_n B (2 * (6 * ln + p_k B ln))) (wtB B) (p_l B)) (R := s_stepRequester_4 (up3 B 0 0 0 0) ln (p_k B ln) (wtB B) (lgB B)) (fun sz => c_L_act_renew_y l D T t0 X L tg sz A _ i0 (p_q B ln) ln ar (6 * ln + p_k B ln) g (p_n B (2 * (6 * ln + p_k B ln))) (wtB B) (p_l B) i3 i4 i5 i8 i7 i12 i2 i10 (S.d192 k3) hn5 hLS S.w64 S.wA W.cl h6 h14 (S.q7 hi) (g0.trans hs) r2 r1 hn S.nlA hi (S.f10 hi)) (by decide) (by decide) (fun sz => r_act_4 l D T XR LR tgR sz E B (p_q B ln) ln ar (p_l B) (p_k B ln) (wtB B) (lgB B) hi hn S.I.S.nl.1 r2 r3 z22 k2 k1 S.w64 S.I.S.w.1 (by omega) hlg.1) (by decide) (by unfold s_act_4; rw [if_neg (by unfold s_mayRequester_4; rw [if_pos hs]; decide)]) (congrFun S'.R.C.g0 ln) S' (fun X' L' tg' h => S.w5 W hq k3 (fun c h1 h3 h11 => rfl) hg h) (by
      unfold s_stepRequester_4
      rw [s_write_0k _ _ _ _ _ _ (by decide) (by decide)]
      repeat rw [p_kd_up _ _ _ _ (by decide)]
      rw [up3_self])
  · exact PairT.no ⟨hq, S, W, E⟩ (fun sz => t_act_renew_no l hfl D T t0 X L tg sz A _ i0 (p_q B ln) ln ar (p_l B) i3 i2 i10 (fun z => hs (g0.symm.trans z)) r2 r1 hn S.nlA hi (S.f10 hi)) (fun sz => r_act_4r l D T XR LR tgR sz E B (p_q B ln) ln ar (p_l B) hi hn S.I.S.nl.1 r2 r3 z22 (by unfold s_mayRequester_4; rw [if_neg hs])) (by decide) rfl
theorem pr_act_2 (hfl : l.flags = pinnedFlags ++ [noTraceFlag]) (P : PX t0 X L tg A XR LR tgR B q) {ln : Nat} (hi : ln < p_l B) (ar : Int32) : PairT l D T t0 X L tg A XR LR tgR B q yL_act wsL_act yM_act wsM_act [.int (nI (p_q B ln)), .int (nI ln), .int 2, .int ar] := by
  obtain ⟨hq, S, W, E⟩ := P
  have hn := S.nl32
  have hlg := S.I.S.lg
  obtain ⟨k1, k2, k3⟩ := S.pk hi
  obtain ⟨r1, r2⟩ := S.q1 hi
  have r3 : B 11 0 ln = nI (p_q B ln) := (S.I.L.k ln hi).rq.1
  have z22 := S.own22 hi
  have i0 := W.v0 0 (by simp)
  have i2 := W.inn (S.lv2 hi (kd := 2) (by simp))
  have i3 := W.inn (S.lv2 hi (kd := 3) (by simp))
  have i10 := W.v0 10 (by simp)
  have g0 : A 3 ln 0 = B 18 0 ln := congrFun S.R.C.g0 ln
  obtain ⟨g, hg, hLS, h6, h14, hn5⟩ := S.sup5 hq W k3
  rcases i_012 (S.P.rs ln hi) with hs | hs | hs | hs
  · have i4 := W.inn (S.lv4 k3 (kd := 4) (by simp))
    have i5 := W.inn (S.lv4 k3 (kd := 5) (by simp))
    have i8 := W.inn (S.lv4 k3 (kd := 8) (by simp))
    have i7 := W.v0 7 (by simp)
    have i12 := W.v0 12 (by simp)
    have S' := S.cancel hq hi rfl rfl rfl rfl hg (Or.inl hs)
    exact PairT.ok (Z := z_L_act_cancel_y0 A (p_q B ln) ln ar (6 * ln + p_k B ln) g (p_n B (2 * (6 * ln + p_k B ln))) (wtB B) (p_l B)) (R := s_stepRequester_2 (up3 B 0 0 0 0) ln (p_k B ln) (wtB B) (lgB B)) (fun sz => c_L_act_cancel_y0 l D T t0 X L tg sz A _ i0 (p_q B ln) ln ar (6 * ln + p_k B ln) g (p_n B (2 * (6 * ln + p_k B ln))) (wtB B) (p_l B) i3 i4 i5 i8 i7 i12 i2 i10 (S.d192 k3) hn5 hLS S.w64 S.wA W.cl h6 h14 (S.q7 hi) (g0.trans hs) r2 r1 hn S.nlA hi (S.f10 hi)) (by decide) (by decide) (fun sz => r_act_2 l D T XR LR tgR sz E B (p_q B ln) ln ar (p_l B) (p_k B ln) (wtB B) (lgB B) hi hn S.I.S.nl.1 r2 r3 z22 k2 k1 S.w64 S.I.S.w.1 (by omega) hlg.1) (by decide) (by unfold s_act_2; rw [if_neg (by unfold s_mayRequester_2; rw [if_neg (by rw [hs]; decide)]; decide)]) (congrFun S'.R.C.g0 ln) S' (fun X' L' tg' h => S.w5 W hq k3 (fun c h1 h3 h11 => rfl) hg h) (by
      unfold s_stepRequester_2
      rw [s_write_0k _ _ _ _ _ _ (by decide) (by decide)]
      repeat rw [p_kd_up _ _ _ _ (by decide)]
      rw [up3_self])
  · have i4 := W.inn (S.lv4 k3 (kd := 4) (by simp))
    have i5 := W.inn (S.lv4 k3 (kd := 5) (by simp))
    have i8 := W.inn (S.lv4 k3 (kd := 8) (by simp))
    have i7 := W.v0 7 (by simp)
    have i12 := W.v0 12 (by simp)
    have S' := S.cancel hq hi rfl rfl rfl rfl hg (Or.inr (Or.inl hs))
    exact PairT.ok (Z := z_L_act_cancel_y1 A (p_q B ln) ln ar (6 * ln + p_k B ln) g (p_n B (2 * (6 * ln + p_k B ln))) (wtB B) (p_l B)) (R := s_stepRequester_2 (up3 B 0 0 0 0) ln (p_k B ln) (wtB B) (lgB B)) (fun sz => c_L_act_cancel_y1 l D T t0 X L tg sz A _ i0 (p_q B ln) ln ar (6 * ln + p_k B ln) g (p_n B (2 * (6 * ln + p_k B ln))) (wtB B) (p_l B) i3 i4 i5 i8 i7 i12 i2 i10 (S.d192 k3) hn5 hLS S.w64 S.wA W.cl h6 h14 (S.q7 hi) (g0.trans hs) r2 r1 hn S.nlA hi (S.f10 hi)) (by decide) (by decide) (fun sz => r_act_2 l D T XR LR tgR sz E B (p_q B ln) ln ar (p_l B) (p_k B ln) (wtB B) (lgB B) hi hn S.I.S.nl.1 r2 r3 z22 k2 k1 S.w64 S.I.S.w.1 (by omega) hlg.1) (by decide) (by unfold s_act_2; rw [if_neg (by unfold s_mayRequester_2; rw [if_neg (by rw [hs]; decide)]; decide)]) (congrFun S'.R.C.g0 ln) S' (fun X' L' tg' h => S.w5 W hq k3 (fun c h1 h3 h11 => rfl) hg h) (by
      unfold s_stepRequester_2
      rw [s_write_0k _ _ _ _ _ _ (by decide) (by decide)]
      repeat rw [p_kd_up _ _ _ _ (by decide)]
      rw [up3_self])
  · have i4 := W.inn (S.lv4 k3 (kd := 4) (by simp))
    have i5 := W.inn (S.lv4 k3 (kd := 5) (by simp))
    have i8 := W.inn (S.lv4 k3 (kd := 8) (by simp))
    have i7 := W.v0 7 (by simp)
    have i12 := W.v0 12 (by simp)
    have S' := S.cancel hq hi rfl rfl rfl rfl hg (Or.inr (Or.inr hs))
    exact PairT.ok (Z := z_L_act_cancel_y2 A (p_q B ln) ln ar (6 * ln + p_k B ln) g (p_n B (2 * (6 * ln + p_k B ln))) (wtB B) (p_l B)) (R := s_stepRequester_2 (up3 B 0 0 0 0) ln (p_k B ln) (wtB B) (lgB B)) (fun sz => c_L_act_cancel_y2 l D T t0 X L tg sz A _ i0 (p_q B ln) ln ar (6 * ln + p_k B ln) g (p_n B (2 * (6 * ln + p_k B ln))) (wtB B) (p_l B) i3 i4 i5 i8 i7 i12 i2 i10 (S.d192 k3) hn5 hLS S.w64 S.wA W.cl h6 h14 (S.q7 hi) (g0.trans hs) r2 r1 hn S.nlA hi (S.f10 hi)) (by decide) (by decide) (fun sz => r_act_2 l D T XR LR tgR sz E B (p_q B ln) ln ar (p_l B) (p_k B ln) (wtB B) (lgB B) hi hn S.I.S.nl.1 r2 r3 z22 k2 k1 S.w64 S.I.S.w.1 (by omega) hlg.1) (by decide) (by unfold s_act_2; rw [if_neg (by unfold s_mayRequester_2; rw [if_neg (by rw [hs]; decide)]; decide)]) (congrFun S'.R.C.g0 ln) S' (fun X' L' tg' h => S.w5 W hq k3 (fun c h1 h3 h11 => rfl) hg h) (by
      unfold s_stepRequester_2
      rw [s_write_0k _ _ _ _ _ _ (by decide) (by decide)]
      repeat rw [p_kd_up _ _ _ _ (by decide)]
      rw [up3_self])
  · exact PairT.no ⟨hq, S, W, E⟩ (fun sz => t_act_cancel_no l hfl D T t0 X L tg sz A _ i0 (p_q B ln) ln ar (p_l B) i3 i2 i10 (fun z => absurd hs (by rw [← g0, z]; decide)) (fun z => absurd hs (by rw [← g0, z]; decide)) (fun z => absurd hs (by rw [← g0, z]; decide)) r2 r1 hn S.nlA hi (S.f10 hi)) (fun sz => r_act_2r l D T XR LR tgR sz E B (p_q B ln) ln ar (p_l B) hi hn S.I.S.nl.1 r2 r3 z22 (by unfold s_mayRequester_2; rw [if_pos hs])) (by decide) rfl
theorem pr_act_5 (hfl : l.flags = pinnedFlags ++ [noTraceFlag]) (P : PX t0 X L tg A XR LR tgR B q) {ln : Nat} (hi : ln < p_l B) (ar : Int32) : PairT l D T t0 X L tg A XR LR tgR B q yL_act wsL_act yM_act wsM_act [.int (nI (p_q B ln)), .int (nI ln), .int 5, .int ar] := by
  obtain ⟨hq, S, W, E⟩ := P
  have hn := S.nl32
  have hlg := S.I.S.lg
  obtain ⟨k1, k2, k3⟩ := S.pk hi
  obtain ⟨r1, r2⟩ := S.q1 hi
  have r3 : B 11 0 ln = nI (p_q B ln) := (S.I.L.k ln hi).rq.1
  have z22 := S.own22 hi
  have i0 := W.v0 0 (by simp)
  have i2 := W.inn (S.lv2 hi (kd := 2) (by simp))
  have i3 := W.inn (S.lv2 hi (kd := 3) (by simp))
  have i10 := W.v0 10 (by simp)
  have g0 : A 3 ln 0 = B 18 0 ln := congrFun S.R.C.g0 ln
  obtain ⟨g, hg, hLS, h6, h14, hn5⟩ := S.sup5 hq W k3
  rcases i_has (B 18 0 ln) with ⟨hh, hs⟩ | hh
  · have i4 := W.inn (S.lv4 k3 (kd := 4) (by simp))
    have i5 := W.inn (S.lv4 k3 (kd := 5) (by simp))
    have i8 := W.inn (S.lv4 k3 (kd := 8) (by simp))
    have i7 := W.v0 7 (by simp)
    have i12 := W.v0 12 (by simp)
    obtain ⟨cp, hcp, h4, h17⟩ := S.cpF hi (Or.inr hs)
    have i1 := W.inn (S.lv1 hcp)
    have hc32 : cp < 32 := by have := S.nc32; omega
    have S' := S.giveBack hq hi rfl rfl rfl rfl hg (cp := cp) hs
    exact PairT.ok (Z := z_L_act_giveBack_y A (p_q B ln) ln ar (6 * ln + p_k B ln) g (p_n B (2 * (6 * ln + p_k B ln))) (wtB B) cp (p_l B)) (R := s_stepRequester_5 (up3 B 0 0 0 0) ln (p_k B ln) cp (wtB B) (lgB B)) (fun sz => c_L_act_giveBack_y l D T t0 X L tg sz A _ i0 (p_q B ln) ln ar (6 * ln + p_k B ln) g (p_n B (2 * (6 * ln + p_k B ln))) (wtB B) cp (p_l B) i3 i4 i5 i8 i7 i12 i1 i2 i10 (S.d192 k3) hn5 hLS S.w64 S.wA W.cl h6 h14 (S.q7 hi) hc32 h4 (by rw [g0]; exact hh) r2 r1 hn S.nlA hi (S.f10 hi)) (by decide) (by decide) (fun sz => r_act_5 l D T XR LR tgR sz E B (p_q B ln) ln ar (p_l B) (p_k B ln) cp (wtB B) (lgB B) hi hn S.I.S.nl.1 r2 r3 z22 k2 k1 hc32 h17 S.w64 S.I.S.w.1 (by omega) hlg.1) (by decide) (by unfold s_act_5; rw [if_neg (by show ¬ z_Asker_hasCopy (B 18 0 ln) = 0; rw [hh]; decide)]) (congrFun S'.R.C.g0 ln) S' (fun X' L' tg' h => S.w5 W hq k3 (fun c h1 h3 h11 => p_kd_up _ _ _ _ h1) hg h) (by
      unfold s_stepRequester_5
      rw [s_write_0k _ _ _ _ _ _ (by decide) (by decide)]
      repeat rw [p_kd_up _ _ _ _ (by decide)]
      rw [up3_self])
  · exact PairT.no ⟨hq, S, W, E⟩ (fun sz => t_act_giveBack_no l hfl D T t0 X L tg sz A _ i0 (p_q B ln) ln ar (p_l B) i3 i2 i10 (by rw [g0]; exact hh) r2 r1 hn S.nlA hi (S.f10 hi)) (fun sz => r_act_5r l D T XR LR tgR sz E B (p_q B ln) ln ar (p_l B) hi hn S.I.S.nl.1 r2 r3 z22 (show z_Asker_hasCopy (B 18 0 ln) = 0 from hh)) (by decide) rfl
theorem pr_act_6 (hfl : l.flags = pinnedFlags ++ [noTraceFlag]) (P : PX t0 X L tg A XR LR tgR B q) {ln : Nat} (hi : ln < p_l B) (ar : Int32) : PairT l D T t0 X L tg A XR LR tgR B q yL_act wsL_act yM_act wsM_act [.int (nI (p_q B ln)), .int (nI ln), .int 6, .int ar] := by
  obtain ⟨hq, S, W, E⟩ := P
  have hn := S.nl32
  have hlg := S.I.S.lg
  obtain ⟨k1, k2, k3⟩ := S.pk hi
  obtain ⟨r1, r2⟩ := S.q1 hi
  have r3 : B 11 0 ln = nI (p_q B ln) := (S.I.L.k ln hi).rq.1
  have z22 := S.own22 hi
  have i0 := W.v0 0 (by simp)
  have i2 := W.inn (S.lv2 hi (kd := 2) (by simp))
  have i3 := W.inn (S.lv2 hi (kd := 3) (by simp))
  have i10 := W.v0 10 (by simp)
  have g0 : A 3 ln 0 = B 18 0 ln := congrFun S.R.C.g0 ln
  obtain ⟨g, hg, hLS, h6, h14, hn5⟩ := S.sup5 hq W k3
  rcases i_has (B 18 0 ln) with ⟨hh, hs⟩ | hh
  · have i4 := W.inn (S.lv4 k3 (kd := 4) (by simp))
    have i5 := W.inn (S.lv4 k3 (kd := 5) (by simp))
    have i8 := W.inn (S.lv4 k3 (kd := 8) (by simp))
    have i7 := W.v0 7 (by simp)
    have i12 := W.v0 12 (by simp)
    obtain ⟨cp, hcp, h4, h17⟩ := S.cpF hi (Or.inr hs)
    have i1 := W.inn (S.lv1 hcp)
    have hc32 : cp < 32 := by have := S.nc32; omega
    have S' := S.lose hq hi rfl rfl rfl rfl hg (cp := cp) (rq := p_q B ln) hs
    exact PairT.ok (Z := z_L_act_lose_ok A (p_q B ln) ln ar (6 * ln + p_k B ln) g (p_n B (2 * (6 * ln + p_k B ln))) (wtB B) cp (p_l B)) (R := s_stepRequester_6 (up3 B 0 0 0 0) ln (p_k B ln) cp (p_q B ln) (wtB B) (lgB B)) (fun sz => c_L_act_lose_ok l D T t0 X L tg sz A _ i0 (p_q B ln) ln ar (6 * ln + p_k B ln) g (p_n B (2 * (6 * ln + p_k B ln))) (wtB B) cp (p_l B) i3 i4 i5 i8 i7 i12 i1 (W.v0 11 (by simp)) i2 i10 (S.d192 k3) hn5 hLS S.w64 S.wA W.cl h6 h14 (S.q7 hi) hc32 h4 (by rw [g0]; exact hh) r2 r1 hn S.nlA hi (S.f10 hi)) (by decide) (by decide) (fun sz => r_act_6 l D T XR LR tgR sz E B (p_q B ln) ln ar (p_l B) (p_k B ln) cp (wtB B) (lgB B) hi hn S.I.S.nl.1 r2 r3 z22 k2 k1 hc32 h17 S.w64 S.I.S.w.1 (by omega) hlg.1) (by decide) (by unfold s_act_6; rw [if_neg (by show ¬ z_Asker_hasCopy (B 18 0 ln) = 0; rw [hh]; decide)]) (congrFun S'.R.C.g0 ln) S' (fun X' L' tg' h => S.w5 W hq k3 (fun c h1 h3 h11 => by rw [p_kd_up _ _ _ _ h11, p_kd_up _ _ _ _ h1]) hg h) (by
      unfold s_stepRequester_6
      rw [s_write_0k _ _ _ _ _ _ (by decide) (by decide)]
      repeat rw [p_kd_up _ _ _ _ (by decide)]
      rw [up3_self])
  · exact PairT.no ⟨hq, S, W, E⟩ (fun sz => t_act_lose_no l hfl D T t0 X L tg sz A _ i0 (p_q B ln) ln ar (p_l B) i3 i2 i10 (by rw [g0]; exact hh) r2 r1 hn S.nlA hi (S.f10 hi)) (fun sz => r_act_6r l D T XR LR tgR sz E B (p_q B ln) ln ar (p_l B) hi hn S.I.S.nl.1 r2 r3 z22 (show z_Asker_hasCopy (B 18 0 ln) = 0 from hh)) (by decide) rfl
end PT2
