/-! act, side by side: the supplier's steps -/
section PT4
variable {l : Launch} {D : va_G} {T : Nat → ClassId} {t0 : Nat × Nat} {X : Nat → Nat → Nat} {L : List Nat} {tg : Nat → Nat × Nat} {A : ew_R} {XR : Nat → Nat → Nat} {LR : List Nat} {tgR : Nat → Nat × Nat} {B : ew_R} {q : Nat}
theorem p_live_k4 {A A' : ew_R} (h : ∀ c, c = 0 ∨ c = 8 ∨ c = 13 ∨ c = 16 → A' c = A c) (kd id : Nat) : p_live A' kd id ↔ p_live A kd id := by
  unfold p_live p_th
  rw [h 0 (by decide), h 8 (by decide), h 13 (by decide), h 16 (by decide)]
theorem WI.o1 (W : WI t0 X L tg A) (c k : Nat) (x : Int32) : WI t0 X L tg (up3 A 1 c k x) := W.up (by rw [p_kd_up _ _ _ _ (by decide)]) (by rw [p_kd_up _ _ _ _ (by decide)]) (fun c hc => p_kd_up _ _ _ _ (by omega))
theorem WI.o11 (W : WI t0 X L tg A) (c k : Nat) (x : Int32) : WI t0 X L tg (up3 A 11 c k x) := W.up (by rw [p_kd_up _ _ _ _ (by decide)]) (by rw [p_kd_up _ _ _ _ (by decide)]) (fun c hc => p_kd_up _ _ _ _ (by omega))
theorem WI.o17 (W : WI t0 X L tg A) (c k : Nat) (x : Int32) : WI t0 X L tg (up3 A 17 c k x) := W.up (by rw [p_kd_up _ _ _ _ (by decide)]) (by rw [p_kd_up _ _ _ _ (by decide)]) (fun c hc => p_kd_up _ _ _ _ (by omega))
theorem WI.o4_5 (W : WI t0 X L tg A) (d : Nat) (x : Int32) : WI t0 X L tg (up3 A 4 d 5 x) := W.cg (p_live_k4 (fun c hc => p_kd_up _ _ _ _ (by omega))) (clC_4_5 W.cl)
theorem WI.o4_4 (W : WI t0 X L tg A) {d cp : Nat} (hcp : cp < 32) (he : ew_in X L tg 1 cp (X 1 cp)) : WI t0 X L tg (up3 A 4 d 4 (nI cp)) := W.cg (p_live_k4 (fun c hc => p_kd_up _ _ _ _ (by omega))) (clC_cp W.cl hcp he)
theorem Sim.w15 (S : Sim A B q) (hq : q < 512) {A0 : ew_R} {d g w : Nat} {v k t : Int32} (hd : ¬ B 22 0 d = 0) (W0 : WI t0 X L tg A0) (a0 : ∀ c, c = 0 ∨ c = 13 ∨ c = 16 ∨ c = 20 → A0 c = A c) (hg : p_ls 16 20 A d g (p_n B (2 * d + 1))) {X' : Nat → Nat → Nat} {L' : List Nat} {tg' : Nat → Nat × Nat} (hS : em_S (nw_15 d g (p_n B (2 * d + 1))) X L tg X' L' tg') : WI t0 X' L' tg' (z_L_supplierWrites A0 d g (p_n B (2 * d + 1)) w v k t) := by
  have a1 : ∀ c, c = 0 ∨ c = 13 ∨ c = 16 ∨ c = 20 → up3 A0 17 d 0 v c = A c := fun c hc => by rw [p_kd_up _ _ _ _ (by omega)]; exact a0 c hc
  unfold z_L_supplierWrites
  refine (W0.o17 d 0 v).send15 ?_ (S.d192 hd) (by have := S.nle (2 * d + 1); omega) ?_ ?_ hS
  · have h := S.th.mpr hd
    unfold p_th at h ⊢
    rw [a1 13 (by decide), a1 0 (by decide)]; exact h
  · rw [a1 16 (by decide)]; exact S.n16 d
  · unfold p_ls at hg ⊢
    rw [a1 16 (by decide), a1 20 (by decide)]; exact hg
theorem Sim.cpS (S : Sim A B q) {d : Nat} (hd : ¬ B 22 0 d = 0) (hs : B 23 0 d = 3 ∨ B 23 0 d = 4 ∨ B 23 0 d = 5 ∨ B 23 0 d = 6 ∨ B 23 0 d = 7 ∨ B 23 0 d = 8) : ∃ cp, cp < p_c B ∧ A 4 d 4 = nI cp ∧ B 28 0 d = nI cp := by
  have h := S.P.ph d hd
  unfold p_ph at h
  have hn := h.c hs
  obtain ⟨c1, c2, -⟩ := S.P.cd d hd
  rcases c1 with h4 | ⟨c, hc, h4, -⟩
  · exact absurd h4 hn
  · exact ⟨c, hc, h4, (c2 hs).trans h4⟩
theorem s_letGo_k0 (A : ew_R) (k : Nat) : s_letGo A k 0 = A 0 := by
  unfold s_letGo
  split
  · rw [p_kd_up _ _ _ _ (by decide)]
  · rw [p_kd_up _ _ _ _ (by decide), p_kd_up _ _ _ _ (by decide)]
theorem z_canGo01 (A : ew_R) (cp : Nat) (lb wn : Int32) : z_Copy_canGo A cp lb wn = 1 ∨ z_Copy_canGo A cp lb wn = 0 := by
  unfold z_Copy_canGo
  by_cases h1 : A 1 cp 1 = wn <;> by_cases h2 : A 1 cp 0 = lb <;> by_cases h3 : A 1 cp 2 = lb <;> by_cases h4 : A 1 cp 3 = (-1) <;> simp [h1, h2, h3, h4]
theorem pr_act_9 (hfl : l.flags = pinnedFlags ++ [noTraceFlag]) (P : PX t0 X L tg A XR LR tgR B q) {ln b : Nat} (hi : ln < p_l B) (hb : b < 6) (hbq : ¬ b = p_q B ln) (hd : ¬ B 22 0 (6 * ln + b) = 0) (ar : Int32) : PairT l D T t0 X L tg A XR LR tgR B q yL_act wsL_act yM_act wsM_act [.int (nI b), .int (nI ln), .int 9, .int ar] := by
  obtain ⟨hq, S, W, E⟩ := P
  have hn := S.nl32
  have hlg := S.I.S.lg
  obtain ⟨r1, r2⟩ := S.q1 hi
  have r3 : B 11 0 ln = nI (p_q B ln) := (S.I.L.k ln hi).rq.1
  have i0 := W.v0 0 (by simp)
  have i2 := W.inn (S.lv2 hi (kd := 2) (by simp))
  have i13 := W.inn (S.lv2 hi (kd := 13) (by simp))
  have i10 := W.v0 10 (by simp)
  have i7 := W.v0 7 (by simp)
  have i12 := W.v0 12 (by simp)
  have i4 := W.inn (S.lv4 hd (kd := 4) (by simp))
  have i15 := W.inn (S.lv4 hd (kd := 15) (by simp))
  have i16 := W.inn (S.lv4 hd (kd := 16) (by simp))
  have i17 := W.inn (S.lv4 hd (kd := 17) (by simp))
  have d0 : A 17 (6 * ln + b) 0 = B 23 0 (6 * ln + b) := congrFun S.R.C.d0 _
  have d1 : A 17 (6 * ln + b) 1 = B 24 0 (6 * ln + b) := congrFun S.R.C.d1 _
  have d2 : A 17 (6 * ln + b) 2 = B 25 0 (6 * ln + b) := congrFun S.R.C.d2 _
  have day : A 0 0 7 = B 0 0 1 := S.R.C.day
  have l4 : A 2 ln 4 = B 13 0 ln := congrFun S.R.C.l4 ln
  have gr : A 4 (6 * ln + b) 5 = B 27 0 (6 * ln + b) := congrFun S.R.C.gr _
  have qfd : ¬ A 13 ln b = 0 := by rw [S.R.C.th ln b hb]; exact hd
  obtain ⟨g, hg, hLS, h19, h20, hn5⟩ := S.sup15 hq W hd
  by_cases hs : B 23 0 (6 * ln + b) = 1
  · have S' : Sim (z_L_act_refuse_y A b ln ar g (p_n B (2 * (6 * ln + b) + 1)) (wtB B) (p_l B)) (s_stepSupplier_9 (up3 B 0 0 0 0) ln b ar (wtB B) (lgB B)) (q + 1) := S.refuse hq rfl hd rfl rfl rfl hg hs
    exact PairT.ok (Z := z_L_act_refuse_y A b ln ar g (p_n B (2 * (6 * ln + b) + 1)) (wtB B) (p_l B)) (R := s_stepSupplier_9 (up3 B 0 0 0 0) ln b ar (wtB B) (lgB B)) (fun sz => c_L_act_refuse_y l D T t0 X L tg sz A _ i0 b ln ar g (p_n B (2 * (6 * ln + b) + 1)) (wtB B) (p_l B) i17 i15 i16 i7 i12 i2 i10 i13 i4 (S.d192 hd) hn5 hLS S.w64 S.wA W.cl h19 h20 (d0.trans hs) hb qfd hn S.nlA hi (S.f10 hi)) (by decide) (by decide) (fun sz => r_act_9 l D T XR LR tgR sz E B b ln ar (p_l B) (p_q B ln) (wtB B) (lgB B) hb hi hn S.I.S.nl.1 r2 r3 hbq S.w64 S.I.S.w.1 (by omega) hlg.1) (by decide) (by unfold s_act_9; rw [if_neg hd, if_neg (by unfold s_maySupplier_9; rw [if_pos hs]; decide)]) (congrFun S'.R.C.d0 _) S' (fun X' L' tg' h => S.w15 hq hd W (fun c hc => rfl) hg h) (by
      unfold s_stepSupplier_9
      rw [s_write_0k _ _ _ _ _ _ (by decide) (by decide)]
      repeat rw [p_kd_up _ _ _ _ (by decide)]
      rw [up3_self])
  · exact PairT.no ⟨hq, S, W, E⟩ (fun sz => t_act_refuse_no l hfl D T t0 X L tg sz A _ i0 b ln ar (p_l B) i17 i2 i10 i13 i4 (fun z => hs (d0.symm.trans z)) hb qfd hn S.nlA hi (S.f10 hi)) (fun sz => r_act_9r l D T XR LR tgR sz E B b ln ar (p_l B) (p_q B ln) hb hi hn S.I.S.nl.1 r2 r3 hbq (by unfold s_maySupplier_9; rw [if_neg hs])) (by decide) (by unfold s_act_9r; rw [if_neg hd])
theorem pr_act_12 (hfl : l.flags = pinnedFlags ++ [noTraceFlag]) (P : PX t0 X L tg A XR LR tgR B q) {ln b : Nat} (hi : ln < p_l B) (hb : b < 6) (hbq : ¬ b = p_q B ln) (hd : ¬ B 22 0 (6 * ln + b) = 0) (ar : Int32) : PairT l D T t0 X L tg A XR LR tgR B q yL_act wsL_act yM_act wsM_act [.int (nI b), .int (nI ln), .int 12, .int ar] := by
  obtain ⟨hq, S, W, E⟩ := P
  have hn := S.nl32
  have hlg := S.I.S.lg
  obtain ⟨r1, r2⟩ := S.q1 hi
  have r3 : B 11 0 ln = nI (p_q B ln) := (S.I.L.k ln hi).rq.1
  have i0 := W.v0 0 (by simp)
  have i2 := W.inn (S.lv2 hi (kd := 2) (by simp))
  have i13 := W.inn (S.lv2 hi (kd := 13) (by simp))
  have i10 := W.v0 10 (by simp)
  have i7 := W.v0 7 (by simp)
  have i12 := W.v0 12 (by simp)
  have i4 := W.inn (S.lv4 hd (kd := 4) (by simp))
  have i15 := W.inn (S.lv4 hd (kd := 15) (by simp))
  have i16 := W.inn (S.lv4 hd (kd := 16) (by simp))
  have i17 := W.inn (S.lv4 hd (kd := 17) (by simp))
  have d0 : A 17 (6 * ln + b) 0 = B 23 0 (6 * ln + b) := congrFun S.R.C.d0 _
  have d1 : A 17 (6 * ln + b) 1 = B 24 0 (6 * ln + b) := congrFun S.R.C.d1 _
  have d2 : A 17 (6 * ln + b) 2 = B 25 0 (6 * ln + b) := congrFun S.R.C.d2 _
  have day : A 0 0 7 = B 0 0 1 := S.R.C.day
  have l4 : A 2 ln 4 = B 13 0 ln := congrFun S.R.C.l4 ln
  have gr : A 4 (6 * ln + b) 5 = B 27 0 (6 * ln + b) := congrFun S.R.C.gr _
  have qfd : ¬ A 13 ln b = 0 := by rw [S.R.C.th ln b hb]; exact hd
  obtain ⟨g, hg, hLS, h19, h20, hn5⟩ := S.sup15 hq W hd
  by_cases hs : B 23 0 (6 * ln + b) = 6
  · have S' : Sim (z_L_act_deny_y A b ln ar g (p_n B (2 * (6 * ln + b) + 1)) (wtB B) (p_l B)) (s_stepSupplier_12 (up3 B 0 0 0 0) ln b ar (wtB B) (lgB B)) (q + 1) := S.deny hq rfl hd rfl rfl rfl hg hs
    exact PairT.ok (Z := z_L_act_deny_y A b ln ar g (p_n B (2 * (6 * ln + b) + 1)) (wtB B) (p_l B)) (R := s_stepSupplier_12 (up3 B 0 0 0 0) ln b ar (wtB B) (lgB B)) (fun sz => c_L_act_deny_y l D T t0 X L tg sz A _ i0 b ln ar g (p_n B (2 * (6 * ln + b) + 1)) (wtB B) (p_l B) i17 i15 i16 i7 i12 i2 i10 i13 i4 (S.d192 hd) hn5 hLS S.w64 S.wA W.cl h19 h20 (d0.trans hs) hb qfd hn S.nlA hi (S.f10 hi)) (by decide) (by decide) (fun sz => r_act_12 l D T XR LR tgR sz E B b ln ar (p_l B) (p_q B ln) (wtB B) (lgB B) hb hi hn S.I.S.nl.1 r2 r3 hbq S.w64 S.I.S.w.1 (by omega) hlg.1) (by decide) (by unfold s_act_12; rw [if_neg hd, if_neg (by unfold s_maySupplier_12; rw [if_pos hs]; decide)]) (congrFun S'.R.C.d0 _) S' (fun X' L' tg' h => S.w15 hq hd W (fun c hc => rfl) hg h) (by
      unfold s_stepSupplier_12
      rw [s_write_0k _ _ _ _ _ _ (by decide) (by decide)]
      repeat rw [p_kd_up _ _ _ _ (by decide)]
      rw [up3_self])
  · exact PairT.no ⟨hq, S, W, E⟩ (fun sz => t_act_deny_no l hfl D T t0 X L tg sz A _ i0 b ln ar (p_l B) i17 i2 i10 i13 i4 (fun z => hs (d0.symm.trans z)) hb qfd hn S.nlA hi (S.f10 hi)) (fun sz => r_act_12r l D T XR LR tgR sz E B b ln ar (p_l B) (p_q B ln) hb hi hn S.I.S.nl.1 r2 r3 hbq (by unfold s_maySupplier_12; rw [if_neg hs])) (by decide) (by unfold s_act_12r; rw [if_neg hd])
theorem pr_act_8 (hfl : l.flags = pinnedFlags ++ [noTraceFlag]) (P : PX t0 X L tg A XR LR tgR B q) {ln b : Nat} (hi : ln < p_l B) (hb : b < 6) (hbq : ¬ b = p_q B ln) (hd : ¬ B 22 0 (6 * ln + b) = 0) (ar : Int32) : PairT l D T t0 X L tg A XR LR tgR B q yL_act wsL_act yM_act wsM_act [.int (nI b), .int (nI ln), .int 8, .int ar] := by
  obtain ⟨hq, S, W, E⟩ := P
  have hn := S.nl32
  have hlg := S.I.S.lg
  obtain ⟨r1, r2⟩ := S.q1 hi
  have r3 : B 11 0 ln = nI (p_q B ln) := (S.I.L.k ln hi).rq.1
  have i0 := W.v0 0 (by simp)
  have i2 := W.inn (S.lv2 hi (kd := 2) (by simp))
  have i13 := W.inn (S.lv2 hi (kd := 13) (by simp))
  have i10 := W.v0 10 (by simp)
  have i7 := W.v0 7 (by simp)
  have i12 := W.v0 12 (by simp)
  have i4 := W.inn (S.lv4 hd (kd := 4) (by simp))
  have i15 := W.inn (S.lv4 hd (kd := 15) (by simp))
  have i16 := W.inn (S.lv4 hd (kd := 16) (by simp))
  have i17 := W.inn (S.lv4 hd (kd := 17) (by simp))
  have d0 : A 17 (6 * ln + b) 0 = B 23 0 (6 * ln + b) := congrFun S.R.C.d0 _
  have d1 : A 17 (6 * ln + b) 1 = B 24 0 (6 * ln + b) := congrFun S.R.C.d1 _
  have d2 : A 17 (6 * ln + b) 2 = B 25 0 (6 * ln + b) := congrFun S.R.C.d2 _
  have day : A 0 0 7 = B 0 0 1 := S.R.C.day
  have l4 : A 2 ln 4 = B 13 0 ln := congrFun S.R.C.l4 ln
  have gr : A 4 (6 * ln + b) 5 = B 27 0 (6 * ln + b) := congrFun S.R.C.gr _
  have qfd : ¬ A 13 ln b = 0 := by rw [S.R.C.th ln b hb]; exact hd
  obtain ⟨g, hg, hLS, h19, h20, hn5⟩ := S.sup15 hq W hd
  by_cases hs : B 23 0 (6 * ln + b) = 1
  · by_cases hp : B 25 0 (6 * ln + b) = 0
    · by_cases h1 : ar < 1
      · exact PairT.no ⟨hq, S, W, E⟩ (fun sz => t_act_offer_no3 l hfl D T t0 X L tg sz A _ i0 b ln ar (p_l B) i17 i2 i10 i13 i4 (d2.trans hp) (d0.trans hs) h1 hb qfd hn S.nlA hi (S.f10 hi)) (fun sz => r_act_8r l D T XR LR tgR sz E B b ln ar (p_l B) (p_q B ln) hb hi hn S.I.S.nl.1 r2 r3 hbq (by unfold s_maySupplier_8; rw [if_pos hs, if_pos hp, if_pos h1])) (by decide) (by unfold s_act_8r; rw [if_neg hd])
      · by_cases h2 : ar ≤ 1000
        · have S' : Sim (z_L_act_offer_y A b ln ar g (p_n B (2 * (6 * ln + b) + 1)) (wtB B) (p_l B)) (s_stepSupplier_8 (up3 B 0 0 0 0) ln b ar (wtB B) (lgB B)) (q + 1) := S.offer hq rfl hd rfl rfl rfl hg hs hp (fun z => h1 (by rw [z]; decide))
          exact PairT.ok (Z := z_L_act_offer_y A b ln ar g (p_n B (2 * (6 * ln + b) + 1)) (wtB B) (p_l B)) (R := s_stepSupplier_8 (up3 B 0 0 0 0) ln b ar (wtB B) (lgB B)) (fun sz => c_L_act_offer_y l D T t0 X L tg sz A _ i0 b ln ar g (p_n B (2 * (6 * ln + b) + 1)) (wtB B) (p_l B) i17 i15 i16 i7 i12 i2 i10 i13 i4 (S.d192 hd) hn5 hLS S.w64 S.wA W.cl h19 h20 (d2.trans hp) (d0.trans hs) h1 h2 hb qfd hn S.nlA hi (S.f10 hi)) (by decide) (by decide) (fun sz => r_act_8 l D T XR LR tgR sz E B b ln ar (p_l B) (p_q B ln) (wtB B) (lgB B) hb hi hn S.I.S.nl.1 r2 r3 hbq S.w64 S.I.S.w.1 (by omega) hlg.1) (by decide) (by unfold s_act_8; rw [if_neg hd, if_neg (by unfold s_maySupplier_8; rw [if_pos hs, if_pos hp, if_neg h1, if_neg (Int32.not_lt.mpr h2)]; decide)]) (congrFun S'.R.C.d0 _) S' (fun X' L' tg' h => S.w15 hq hd (W.o17 _ _ _) (fun c hc => by rw [p_kd_up _ _ _ _ (by omega)]) hg h) (by
      unfold s_stepSupplier_8
      rw [s_write_0k _ _ _ _ _ _ (by decide) (by decide)]
      repeat rw [p_kd_up _ _ _ _ (by decide)]
      rw [up3_self])
        · exact PairT.no ⟨hq, S, W, E⟩ (fun sz => t_act_offer_no4 l hfl D T t0 X L tg sz A _ i0 b ln ar (p_l B) i17 i2 i10 i13 i4 (d2.trans hp) (d0.trans hs) h1 h2 hb qfd hn S.nlA hi (S.f10 hi)) (fun sz => r_act_8r l D T XR LR tgR sz E B b ln ar (p_l B) (p_q B ln) hb hi hn S.I.S.nl.1 r2 r3 hbq (by unfold s_maySupplier_8; rw [if_pos hs, if_pos hp, if_neg h1, if_pos (Int32.not_le.mp h2)])) (by decide) (by unfold s_act_8r; rw [if_neg hd])
    · exact PairT.no ⟨hq, S, W, E⟩ (fun sz => t_act_offer_no2 l hfl D T t0 X L tg sz A _ i0 b ln ar (p_l B) i17 i2 i10 i13 i4 (d0.trans hs) (fun z => hp (d2.symm.trans z)) hb qfd hn S.nlA hi (S.f10 hi)) (fun sz => r_act_8r l D T XR LR tgR sz E B b ln ar (p_l B) (p_q B ln) hb hi hn S.I.S.nl.1 r2 r3 hbq (by unfold s_maySupplier_8; rw [if_pos hs, if_neg hp])) (by decide) (by unfold s_act_8r; rw [if_neg hd])
  · exact PairT.no ⟨hq, S, W, E⟩ (fun sz => t_act_offer_no1 l hfl D T t0 X L tg sz A _ i0 b ln ar (p_l B) i17 i2 i10 i13 i4 (fun z => hs (d0.symm.trans z)) hb qfd hn S.nlA hi (S.f10 hi)) (fun sz => r_act_8r l D T XR LR tgR sz E B b ln ar (p_l B) (p_q B ln) hb hi hn S.I.S.nl.1 r2 r3 hbq (by unfold s_maySupplier_8; rw [if_neg hs])) (by decide) (by unfold s_act_8r; rw [if_neg hd])
theorem pr_act_10 (hfl : l.flags = pinnedFlags ++ [noTraceFlag]) (P : PX t0 X L tg A XR LR tgR B q) {ln b : Nat} (hi : ln < p_l B) (hb : b < 6) (hbq : ¬ b = p_q B ln) (hd : ¬ B 22 0 (6 * ln + b) = 0) (ar : Int32) : PairT l D T t0 X L tg A XR LR tgR B q yL_act wsL_act yM_act wsM_act [.int (nI b), .int (nI ln), .int 10, .int ar] := by
  obtain ⟨hq, S, W, E⟩ := P
  have hn := S.nl32
  have hlg := S.I.S.lg
  obtain ⟨r1, r2⟩ := S.q1 hi
  have r3 : B 11 0 ln = nI (p_q B ln) := (S.I.L.k ln hi).rq.1
  have i0 := W.v0 0 (by simp)
  have i2 := W.inn (S.lv2 hi (kd := 2) (by simp))
  have i13 := W.inn (S.lv2 hi (kd := 13) (by simp))
  have i10 := W.v0 10 (by simp)
  have i7 := W.v0 7 (by simp)
  have i12 := W.v0 12 (by simp)
  have i4 := W.inn (S.lv4 hd (kd := 4) (by simp))
  have i15 := W.inn (S.lv4 hd (kd := 15) (by simp))
  have i16 := W.inn (S.lv4 hd (kd := 16) (by simp))
  have i17 := W.inn (S.lv4 hd (kd := 17) (by simp))
  have d0 : A 17 (6 * ln + b) 0 = B 23 0 (6 * ln + b) := congrFun S.R.C.d0 _
  have d1 : A 17 (6 * ln + b) 1 = B 24 0 (6 * ln + b) := congrFun S.R.C.d1 _
  have d2 : A 17 (6 * ln + b) 2 = B 25 0 (6 * ln + b) := congrFun S.R.C.d2 _
  have day : A 0 0 7 = B 0 0 1 := S.R.C.day
  have l4 : A 2 ln 4 = B 13 0 ln := congrFun S.R.C.l4 ln
  have gr : A 4 (6 * ln + b) 5 = B 27 0 (6 * ln + b) := congrFun S.R.C.gr _
  have qfd : ¬ A 13 ln b = 0 := by rw [S.R.C.th ln b hb]; exact hd
  obtain ⟨g, hg, hLS, h19, h20, hn5⟩ := S.sup15 hq W hd
  by_cases hs : B 23 0 (6 * ln + b) = 3
  · obtain ⟨cp, hcp, h4, h28⟩ := S.cpS hd (Or.inl hs)
    have i1 := W.inn (S.lv1 hcp)
    have hc32 : cp < 32 := by have := S.nc32; omega
    have S' : Sim (z_L_act_ship_ok A b ln ar g (p_n B (2 * (6 * ln + b) + 1)) (wtB B) cp (B 0 0 1 + B 13 0 ln) (p_l B)) (s_stepSupplier_10 (up3 B 0 0 0 0) ln b ar cp (wtB B) (lgB B)) (q + 1) := S.ship (cp := cp) hq rfl hd rfl rfl rfl hg hi hb hs
    exact PairT.ok (Z := z_L_act_ship_ok A b ln ar g (p_n B (2 * (6 * ln + b) + 1)) (wtB B) cp (B 0 0 1 + B 13 0 ln) (p_l B)) (R := s_stepSupplier_10 (up3 B 0 0 0 0) ln b ar cp (wtB B) (lgB B)) (fun sz => c_L_act_ship_ok l D T t0 X L tg sz A _ i0 b ln ar g (p_n B (2 * (6 * ln + b) + 1)) (wtB B) cp (B 0 0 1 + B 13 0 ln) (p_l B) i17 i15 i16 i7 i12 i1 i2 i10 i13 i4 (S.d192 hd) hn5 hLS S.w64 S.wA W.cl h19 h20 hc32 h4 (by rw [day, l4]) (d0.trans hs) hb qfd hn S.nlA hi (S.f10 hi)) (by decide) (by decide) (fun sz => r_act_10 l D T XR LR tgR sz E B b ln ar (p_l B) (p_q B ln) cp (wtB B) (lgB B) hb hi hn S.I.S.nl.1 r2 r3 hbq hc32 h28 S.w64 S.I.S.w.1 (by omega) hlg.1) (by decide) (by unfold s_act_10; rw [if_neg hd, if_neg (by unfold s_maySupplier_10; rw [if_pos hs]; decide)]) (congrFun S'.R.C.d0 _) S' (fun X' L' tg' h => S.w15 hq hd ((W.o1 _ _ _).o17 _ _ _) (fun c hc => by rw [p_kd_up _ _ _ _ (by omega), p_kd_up _ _ _ _ (by omega)]) hg h) (by
      unfold s_stepSupplier_10
      rw [s_write_0k _ _ _ _ _ _ (by decide) (by decide)]
      repeat rw [p_kd_up _ _ _ _ (by decide)]
      rw [up3_self])
  · exact PairT.no ⟨hq, S, W, E⟩ (fun sz => t_act_ship_no l hfl D T t0 X L tg sz A _ i0 b ln ar (p_l B) i17 i2 i10 i13 i4 (fun z => hs (d0.symm.trans z)) hb qfd hn S.nlA hi (S.f10 hi)) (fun sz => r_act_10r l D T XR LR tgR sz E B b ln ar (p_l B) (p_q B ln) hb hi hn S.I.S.nl.1 r2 r3 hbq (by unfold s_maySupplier_10; rw [if_neg hs])) (by decide) (by unfold s_act_10r; rw [if_neg hd])
theorem pr_act_11 (hfl : l.flags = pinnedFlags ++ [noTraceFlag]) (P : PX t0 X L tg A XR LR tgR B q) {ln b : Nat} (hi : ln < p_l B) (hb : b < 6) (hbq : ¬ b = p_q B ln) (hd : ¬ B 22 0 (6 * ln + b) = 0) (ar : Int32) : PairT l D T t0 X L tg A XR LR tgR B q yL_act wsL_act yM_act wsM_act [.int (nI b), .int (nI ln), .int 11, .int ar] := by
  obtain ⟨hq, S, W, E⟩ := P
  have hn := S.nl32
  have hlg := S.I.S.lg
  obtain ⟨r1, r2⟩ := S.q1 hi
  have r3 : B 11 0 ln = nI (p_q B ln) := (S.I.L.k ln hi).rq.1
  have i0 := W.v0 0 (by simp)
  have i2 := W.inn (S.lv2 hi (kd := 2) (by simp))
  have i13 := W.inn (S.lv2 hi (kd := 13) (by simp))
  have i10 := W.v0 10 (by simp)
  have i7 := W.v0 7 (by simp)
  have i12 := W.v0 12 (by simp)
  have i4 := W.inn (S.lv4 hd (kd := 4) (by simp))
  have i15 := W.inn (S.lv4 hd (kd := 15) (by simp))
  have i16 := W.inn (S.lv4 hd (kd := 16) (by simp))
  have i17 := W.inn (S.lv4 hd (kd := 17) (by simp))
  have d0 : A 17 (6 * ln + b) 0 = B 23 0 (6 * ln + b) := congrFun S.R.C.d0 _
  have d1 : A 17 (6 * ln + b) 1 = B 24 0 (6 * ln + b) := congrFun S.R.C.d1 _
  have d2 : A 17 (6 * ln + b) 2 = B 25 0 (6 * ln + b) := congrFun S.R.C.d2 _
  have day : A 0 0 7 = B 0 0 1 := S.R.C.day
  have l4 : A 2 ln 4 = B 13 0 ln := congrFun S.R.C.l4 ln
  have gr : A 4 (6 * ln + b) 5 = B 27 0 (6 * ln + b) := congrFun S.R.C.gr _
  have qfd : ¬ A 13 ln b = 0 := by rw [S.R.C.th ln b hb]; exact hd
  obtain ⟨g, hg, hLS, h19, h20, hn5⟩ := S.sup15 hq W hd
  by_cases hs : B 23 0 (6 * ln + b) = 6
  · by_cases h3 : 3 ≤ B 27 0 (6 * ln + b)
    · exact PairT.no ⟨hq, S, W, E⟩ (fun sz => t_act_grant_no3 l hfl D T t0 X L tg sz A _ i0 b ln ar (p_l B) i17 i2 i10 i13 i4 (d0.trans hs) (by rw [gr]; exact Int32.not_lt.mpr h3) hb qfd hn S.nlA hi (S.f10 hi)) (fun sz => r_act_11r l D T XR LR tgR sz E B b ln ar (p_l B) (p_q B ln) hb hi hn S.I.S.nl.1 r2 r3 hbq (by unfold s_maySupplier_11; rw [if_pos hs, if_pos h3])) (by decide) (by unfold s_act_11r; rw [if_neg hd])
    · have S' : Sim (z_L_act_grant_ok A b ln ar g (p_n B (2 * (6 * ln + b) + 1)) (wtB B) (B 24 0 (6 * ln + b) + B 13 0 ln) (p_l B)) (s_stepSupplier_11 (up3 B 0 0 0 0) ln b ar (wtB B) (lgB B)) (q + 1) := by
        have h9 := S.grant (cc := ar) hq rfl hd rfl rfl rfl hg hi hb hs h3
        rw [← gr] at h9
        exact h9
      exact PairT.ok (Z := z_L_act_grant_ok A b ln ar g (p_n B (2 * (6 * ln + b) + 1)) (wtB B) (B 24 0 (6 * ln + b) + B 13 0 ln) (p_l B)) (R := s_stepSupplier_11 (up3 B 0 0 0 0) ln b ar (wtB B) (lgB B)) (fun sz => c_L_act_grant_ok l D T t0 X L tg sz A _ i0 b ln ar g (p_n B (2 * (6 * ln + b) + 1)) (wtB B) (B 24 0 (6 * ln + b) + B 13 0 ln) (p_l B) i17 i15 i16 i7 i12 i2 i10 i13 i4 (S.d192 hd) hn5 hLS S.w64 S.wA W.cl h19 h20 (by rw [d1, l4]) (d0.trans hs) (by rw [gr]; exact Int32.not_le.mp h3) hb qfd hn S.nlA hi (S.f10 hi)) (by decide) (by decide) (fun sz => r_act_11 l D T XR LR tgR sz E B b ln ar (p_l B) (p_q B ln) (wtB B) (lgB B) hb hi hn S.I.S.nl.1 r2 r3 hbq S.w64 S.I.S.w.1 (by omega) hlg.1) (by decide) (by unfold s_act_11; rw [if_neg hd, if_neg (by unfold s_maySupplier_11; rw [if_pos hs, if_neg h3]; decide)]) (congrFun S'.R.C.d0 _) S' (fun X' L' tg' h => S.w15 hq hd ((W.o4_5 _ _).o17 _ _ _) (fun c hc => by rw [p_kd_up _ _ _ _ (by omega), p_kd_up _ _ _ _ (by omega)]) hg h) (by
      unfold s_stepSupplier_11
      rw [s_write_0k _ _ _ _ _ _ (by decide) (by decide)]
      repeat rw [p_kd_up _ _ _ _ (by decide)]
      rw [up3_self])
  · exact PairT.no ⟨hq, S, W, E⟩ (fun sz => t_act_grant_no l hfl D T t0 X L tg sz A _ i0 b ln ar (p_l B) i17 i2 i10 i13 i4 (fun z => hs (d0.symm.trans z)) hb qfd hn S.nlA hi (S.f10 hi)) (fun sz => r_act_11r l D T XR LR tgR sz E B b ln ar (p_l B) (p_q B ln) hb hi hn S.I.S.nl.1 r2 r3 hbq (by unfold s_maySupplier_11; rw [if_neg hs])) (by decide) (by unfold s_act_11r; rw [if_neg hd])
theorem pr_act_13 (hfl : l.flags = pinnedFlags ++ [noTraceFlag]) (P : PX t0 X L tg A XR LR tgR B q) {ln b : Nat} (hi : ln < p_l B) (hb : b < 6) (hbq : ¬ b = p_q B ln) (hd : ¬ B 22 0 (6 * ln + b) = 0) (ar : Int32) : PairT l D T t0 X L tg A XR LR tgR B q yL_act wsL_act yM_act wsM_act [.int (nI b), .int (nI ln), .int 13, .int ar] := by
  obtain ⟨hq, S, W, E⟩ := P
  have hn := S.nl32
  have hlg := S.I.S.lg
  obtain ⟨r1, r2⟩ := S.q1 hi
  have r3 : B 11 0 ln = nI (p_q B ln) := (S.I.L.k ln hi).rq.1
  have i0 := W.v0 0 (by simp)
  have i2 := W.inn (S.lv2 hi (kd := 2) (by simp))
  have i13 := W.inn (S.lv2 hi (kd := 13) (by simp))
  have i10 := W.v0 10 (by simp)
  have i7 := W.v0 7 (by simp)
  have i12 := W.v0 12 (by simp)
  have i4 := W.inn (S.lv4 hd (kd := 4) (by simp))
  have i15 := W.inn (S.lv4 hd (kd := 15) (by simp))
  have i16 := W.inn (S.lv4 hd (kd := 16) (by simp))
  have i17 := W.inn (S.lv4 hd (kd := 17) (by simp))
  have d0 : A 17 (6 * ln + b) 0 = B 23 0 (6 * ln + b) := congrFun S.R.C.d0 _
  have d1 : A 17 (6 * ln + b) 1 = B 24 0 (6 * ln + b) := congrFun S.R.C.d1 _
  have d2 : A 17 (6 * ln + b) 2 = B 25 0 (6 * ln + b) := congrFun S.R.C.d2 _
  have day : A 0 0 7 = B 0 0 1 := S.R.C.day
  have l4 : A 2 ln 4 = B 13 0 ln := congrFun S.R.C.l4 ln
  have gr : A 4 (6 * ln + b) 5 = B 27 0 (6 * ln + b) := congrFun S.R.C.gr _
  have qfd : ¬ A 13 ln b = 0 := by rw [S.R.C.th ln b hb]; exact hd
  obtain ⟨g, hg, hLS, h19, h20, hn5⟩ := S.sup15 hq W hd
  by_cases hs : B 23 0 (6 * ln + b) = 5
  · have S' : Sim (z_L_act_recall_5 A b ln ar g (p_n B (2 * (6 * ln + b) + 1)) (wtB B) (if B 0 0 1 + 7 < B 24 0 (6 * ln + b) then B 0 0 1 + 7 else B 24 0 (6 * ln + b)) (p_l B)) (s_stepSupplier_13 (up3 B 0 0 0 0) ln b ar (wtB B) (lgB B)) (q + 1) := S.recall (cc := ar) hq rfl hd rfl rfl rfl hg (Or.inl hs) rfl
    exact PairT.ok (Z := z_L_act_recall_5 A b ln ar g (p_n B (2 * (6 * ln + b) + 1)) (wtB B) (if B 0 0 1 + 7 < B 24 0 (6 * ln + b) then B 0 0 1 + 7 else B 24 0 (6 * ln + b)) (p_l B)) (R := s_stepSupplier_13 (up3 B 0 0 0 0) ln b ar (wtB B) (lgB B)) (fun sz => c_L_act_recall_5 l D T t0 X L tg sz A _ i0 b ln ar g (p_n B (2 * (6 * ln + b) + 1)) (wtB B) (if B 0 0 1 + 7 < B 24 0 (6 * ln + b) then B 0 0 1 + 7 else B 24 0 (6 * ln + b)) (p_l B) i17 i15 i16 i7 i12 i2 i10 i13 i4 (S.d192 hd) hn5 hLS S.w64 S.wA W.cl h19 h20 (by rw [day, d1]) (d0.trans hs) hb qfd hn S.nlA hi (S.f10 hi)) (by decide) (by decide) (fun sz => r_act_13 l D T XR LR tgR sz E B b ln ar (p_l B) (p_q B ln) (wtB B) (lgB B) hb hi hn S.I.S.nl.1 r2 r3 hbq S.w64 S.I.S.w.1 (by omega) hlg.1) (by decide) (by unfold s_act_13; rw [if_neg hd, if_neg (by unfold s_maySupplier_13; rw [if_pos hs]; decide)]) (congrFun S'.R.C.d0 _) S' (fun X' L' tg' h => S.w15 hq hd (W.o17 _ _ _) (fun c hc => by rw [p_kd_up _ _ _ _ (by omega)]) hg h) (by
      unfold s_stepSupplier_13
      split
      · rw [s_write_0k _ _ _ _ _ _ (by decide) (by decide)]
        repeat rw [p_kd_up _ _ _ _ (by decide)]
        rw [up3_self]
      · rw [s_write_0k _ _ _ _ _ _ (by decide) (by decide)]
        repeat rw [p_kd_up _ _ _ _ (by decide)]
        rw [up3_self])
  · by_cases hs6 : B 23 0 (6 * ln + b) = 6
    · have S' : Sim (z_L_act_recall_6 A b ln ar g (p_n B (2 * (6 * ln + b) + 1)) (wtB B) (if B 0 0 1 + 7 < B 24 0 (6 * ln + b) then B 0 0 1 + 7 else B 24 0 (6 * ln + b)) (p_l B)) (s_stepSupplier_13 (up3 B 0 0 0 0) ln b ar (wtB B) (lgB B)) (q + 1) := S.recall (cc := ar) hq rfl hd rfl rfl rfl hg (Or.inr hs6) rfl
      exact PairT.ok (Z := z_L_act_recall_6 A b ln ar g (p_n B (2 * (6 * ln + b) + 1)) (wtB B) (if B 0 0 1 + 7 < B 24 0 (6 * ln + b) then B 0 0 1 + 7 else B 24 0 (6 * ln + b)) (p_l B)) (R := s_stepSupplier_13 (up3 B 0 0 0 0) ln b ar (wtB B) (lgB B)) (fun sz => c_L_act_recall_6 l D T t0 X L tg sz A _ i0 b ln ar g (p_n B (2 * (6 * ln + b) + 1)) (wtB B) (if B 0 0 1 + 7 < B 24 0 (6 * ln + b) then B 0 0 1 + 7 else B 24 0 (6 * ln + b)) (p_l B) i17 i15 i16 i7 i12 i2 i10 i13 i4 (S.d192 hd) hn5 hLS S.w64 S.wA W.cl h19 h20 (by rw [day, d1]) (d0.trans hs6) hb qfd hn S.nlA hi (S.f10 hi)) (by decide) (by decide) (fun sz => r_act_13 l D T XR LR tgR sz E B b ln ar (p_l B) (p_q B ln) (wtB B) (lgB B) hb hi hn S.I.S.nl.1 r2 r3 hbq S.w64 S.I.S.w.1 (by omega) hlg.1) (by decide) (by unfold s_act_13; rw [if_neg hd, if_neg (by unfold s_maySupplier_13; rw [if_neg hs, if_pos hs6]; decide)]) (congrFun S'.R.C.d0 _) S' (fun X' L' tg' h => S.w15 hq hd (W.o17 _ _ _) (fun c hc => by rw [p_kd_up _ _ _ _ (by omega)]) hg h) (by
      unfold s_stepSupplier_13
      split
      · rw [s_write_0k _ _ _ _ _ _ (by decide) (by decide)]
        repeat rw [p_kd_up _ _ _ _ (by decide)]
        rw [up3_self]
      · rw [s_write_0k _ _ _ _ _ _ (by decide) (by decide)]
        repeat rw [p_kd_up _ _ _ _ (by decide)]
        rw [up3_self])
    · exact PairT.no ⟨hq, S, W, E⟩ (fun sz => t_act_recall_no l hfl D T t0 X L tg sz A _ i0 b ln ar (p_l B) i17 i2 i10 i13 i4 (fun z => hs (d0.symm.trans z)) (fun z => hs6 (d0.symm.trans z)) hb qfd hn S.nlA hi (S.f10 hi)) (fun sz => r_act_13r l D T XR LR tgR sz E B b ln ar (p_l B) (p_q B ln) hb hi hn S.I.S.nl.1 r2 r3 hbq (by unfold s_maySupplier_13; rw [if_neg hs, if_neg hs6])) (by decide) (by unfold s_act_13r; rw [if_neg hd])
theorem pr_act_14 (hfl : l.flags = pinnedFlags ++ [noTraceFlag]) (P : PX t0 X L tg A XR LR tgR B q) {ln b : Nat} (hi : ln < p_l B) (hb : b < 6) (hbq : ¬ b = p_q B ln) (hd : ¬ B 22 0 (6 * ln + b) = 0) (ar : Int32) : PairT l D T t0 X L tg A XR LR tgR B q yL_act wsL_act yM_act wsM_act [.int (nI b), .int (nI ln), .int 14, .int ar] := by
  obtain ⟨hq, S, W, E⟩ := P
  have hn := S.nl32
  have hlg := S.I.S.lg
  obtain ⟨r1, r2⟩ := S.q1 hi
  have r3 : B 11 0 ln = nI (p_q B ln) := (S.I.L.k ln hi).rq.1
  have i0 := W.v0 0 (by simp)
  have i2 := W.inn (S.lv2 hi (kd := 2) (by simp))
  have i13 := W.inn (S.lv2 hi (kd := 13) (by simp))
  have i10 := W.v0 10 (by simp)
  have i7 := W.v0 7 (by simp)
  have i12 := W.v0 12 (by simp)
  have i4 := W.inn (S.lv4 hd (kd := 4) (by simp))
  have i15 := W.inn (S.lv4 hd (kd := 15) (by simp))
  have i16 := W.inn (S.lv4 hd (kd := 16) (by simp))
  have i17 := W.inn (S.lv4 hd (kd := 17) (by simp))
  have d0 : A 17 (6 * ln + b) 0 = B 23 0 (6 * ln + b) := congrFun S.R.C.d0 _
  have d1 : A 17 (6 * ln + b) 1 = B 24 0 (6 * ln + b) := congrFun S.R.C.d1 _
  have d2 : A 17 (6 * ln + b) 2 = B 25 0 (6 * ln + b) := congrFun S.R.C.d2 _
  have day : A 0 0 7 = B 0 0 1 := S.R.C.day
  have l4 : A 2 ln 4 = B 13 0 ln := congrFun S.R.C.l4 ln
  have gr : A 4 (6 * ln + b) 5 = B 27 0 (6 * ln + b) := congrFun S.R.C.gr _
  have qfd : ¬ A 13 ln b = 0 := by rw [S.R.C.th ln b hb]; exact hd
  obtain ⟨g, hg, hLS, h19, h20, hn5⟩ := S.sup15 hq W hd
  by_cases hs : B 23 0 (6 * ln + b) = 8
  · obtain ⟨cp, hcp, h4, h28⟩ := S.cpS hd (Or.inr (Or.inr (Or.inr (Or.inr (Or.inr hs)))))
    have i1 := W.inn (S.lv1 hcp)
    have hc32 : cp < 32 := by have := S.nc32; omega
    have q0 : A 4 (6 * ln + b) 0 = nI b := by rw [(S.R.D.dl _ hd).h0]; congr 1; omega
    have S' : Sim (z_L_act_checkIn_ok A b ln ar g (p_n B (2 * (6 * ln + b) + 1)) (wtB B) cp (10 * (if 0 < B 0 0 1 - B 24 0 (6 * ln + b) then B 0 0 1 - B 24 0 (6 * ln + b) else 0) + B 25 0 (6 * ln + b)) (p_l B)) (s_stepSupplier_14 (up3 B 0 0 0 0) ln b ar cp (wtB B) (lgB B)) (q + 1) := S.checkIn (cc := ar) hq rfl hb hd rfl rfl rfl hg hs hc32 h28 rfl
    exact PairT.ok (Z := z_L_act_checkIn_ok A b ln ar g (p_n B (2 * (6 * ln + b) + 1)) (wtB B) cp (10 * (if 0 < B 0 0 1 - B 24 0 (6 * ln + b) then B 0 0 1 - B 24 0 (6 * ln + b) else 0) + B 25 0 (6 * ln + b)) (p_l B)) (R := s_stepSupplier_14 (up3 B 0 0 0 0) ln b ar cp (wtB B) (lgB B)) (fun sz => c_L_act_checkIn_ok l D T t0 X L tg sz A _ i0 b ln ar g (p_n B (2 * (6 * ln + b) + 1)) (wtB B) cp (10 * (if 0 < B 0 0 1 - B 24 0 (6 * ln + b) then B 0 0 1 - B 24 0 (6 * ln + b) else 0) + B 25 0 (6 * ln + b)) (p_l B) i17 i15 i16 i7 i12 i1 (W.v0 11 (by simp)) i2 i10 i13 i4 (S.d192 hd) hn5 hLS S.w64 S.wA W.cl h19 h20 hc32 h4 q0 (by rw [day, d1, d2]) (d0.trans hs) hb qfd hn S.nlA hi (S.f10 hi)) (by decide) (by decide) (fun sz => r_act_14 l D T XR LR tgR sz E B b ln ar (p_l B) (p_q B ln) cp (wtB B) (lgB B) hb hi hn S.I.S.nl.1 r2 r3 hbq hc32 h28 S.w64 S.I.S.w.1 (by omega) hlg.1) (by decide) (by unfold s_act_14; rw [if_neg hd, if_neg (by unfold s_maySupplier_14; rw [if_pos hs]; decide)]) (congrFun S'.R.C.d0 _) S' (fun X' L' tg' h => S.w15 hq hd ((((W.o1 _ _ _).o1 _ _ _).o17 _ _ _).o11 _ _ _) (fun c hc => by rw [p_kd_up _ _ _ _ (by omega), p_kd_up _ _ _ _ (by omega), p_kd_up _ _ _ _ (by omega), p_kd_up _ _ _ _ (by omega)]) hg h) (by
      unfold s_stepSupplier_14
      split
      · rw [s_write_0k _ _ _ _ _ _ (by decide) (by decide), p_kd_up _ _ _ _ (by decide), s_letGo_k0]
        repeat rw [p_kd_up _ _ _ _ (by decide)]
        rw [up3_self]
      · rw [s_write_0k _ _ _ _ _ _ (by decide) (by decide), p_kd_up _ _ _ _ (by decide), s_letGo_k0]
        repeat rw [p_kd_up _ _ _ _ (by decide)]
        rw [up3_self])
  · exact PairT.no ⟨hq, S, W, E⟩ (fun sz => t_act_checkIn_no l hfl D T t0 X L tg sz A _ i0 b ln ar (p_l B) i17 i2 i10 i13 i4 (fun z => hs (d0.symm.trans z)) hb qfd hn S.nlA hi (S.f10 hi)) (fun sz => r_act_14r l D T XR LR tgR sz E B b ln ar (p_l B) (p_q B ln) hb hi hn S.I.S.nl.1 r2 r3 hbq (by unfold s_maySupplier_14; rw [if_neg hs])) (by decide) (by unfold s_act_14r; rw [if_neg hd])
theorem pr_act_7 (hfl : l.flags = pinnedFlags ++ [noTraceFlag]) (P : PX t0 X L tg A XR LR tgR B q) {ln b : Nat} (hi : ln < p_l B) (hb : b < 6) (hbq : ¬ b = p_q B ln) (hd : ¬ B 22 0 (6 * ln + b) = 0) (ar : Int32) : PairT l D T t0 X L tg A XR LR tgR B q yL_act wsL_act yM_act wsM_act [.int (nI b), .int (nI ln), .int 7, .int ar] := by
  obtain ⟨hq, S, W, E⟩ := P
  have hn := S.nl32
  have hlg := S.I.S.lg
  obtain ⟨r1, r2⟩ := S.q1 hi
  have r3 : B 11 0 ln = nI (p_q B ln) := (S.I.L.k ln hi).rq.1
  have i0 := W.v0 0 (by simp)
  have i2 := W.inn (S.lv2 hi (kd := 2) (by simp))
  have i13 := W.inn (S.lv2 hi (kd := 13) (by simp))
  have i10 := W.v0 10 (by simp)
  have i7 := W.v0 7 (by simp)
  have i12 := W.v0 12 (by simp)
  have i4 := W.inn (S.lv4 hd (kd := 4) (by simp))
  have i15 := W.inn (S.lv4 hd (kd := 15) (by simp))
  have i16 := W.inn (S.lv4 hd (kd := 16) (by simp))
  have i17 := W.inn (S.lv4 hd (kd := 17) (by simp))
  have d0 : A 17 (6 * ln + b) 0 = B 23 0 (6 * ln + b) := congrFun S.R.C.d0 _
  have d1 : A 17 (6 * ln + b) 1 = B 24 0 (6 * ln + b) := congrFun S.R.C.d1 _
  have d2 : A 17 (6 * ln + b) 2 = B 25 0 (6 * ln + b) := congrFun S.R.C.d2 _
  have day : A 0 0 7 = B 0 0 1 := S.R.C.day
  have l4 : A 2 ln 4 = B 13 0 ln := congrFun S.R.C.l4 ln
  have gr : A 4 (6 * ln + b) 5 = B 27 0 (6 * ln + b) := congrFun S.R.C.gr _
  have qfd : ¬ A 13 ln b = 0 := by rw [S.R.C.th ln b hb]; exact hd
  obtain ⟨g, hg, hLS, h19, h20, hn5⟩ := S.sup15 hq W hd
  have hc := S.nc32
  rcases nI_three ar (p_c B) (by omega) with h | ⟨h1, h2⟩ | ⟨cp, hcp, rfl⟩
  · by_cases hs : B 23 0 (6 * ln + b) = 1
    · exact PairT.no ⟨hq, S, W, E⟩ (fun sz => t_act_promiseCopy_non_neg l hfl D T t0 X L tg sz A _ i0 b ln ar (p_l B) i17 i2 i10 i13 i4 (d0.trans hs) h hb qfd hn S.nlA hi (S.f10 hi)) (fun sz => r_act_7n l D T XR LR tgR sz E B b ln ar (p_l B) (p_q B ln) (p_c B) hb hi hn S.I.S.nl.1 r2 r3 hbq S.nc32 S.I.S.nc.1 (by unfold s_mayPromise; rw [if_pos h])) (by decide) (by unfold s_act_7n; rw [if_neg hd])
    · exact PairT.no ⟨hq, S, W, E⟩ (fun sz => t_act_promiseCopy_no1_neg l hfl D T t0 X L tg sz A _ i0 b ln ar (p_l B) i17 i2 i10 i13 i4 (fun z => hs (d0.symm.trans z)) h hb qfd hn S.nlA hi (S.f10 hi)) (fun sz => r_act_7n l D T XR LR tgR sz E B b ln ar (p_l B) (p_q B ln) (p_c B) hb hi hn S.I.S.nl.1 r2 r3 hbq S.nc32 S.I.S.nc.1 (by unfold s_mayPromise; rw [if_pos h])) (by decide) (by unfold s_act_7n; rw [if_neg hd])
  · by_cases hs : B 23 0 (6 * ln + b) = 1
    · exact PairT.no ⟨hq, S, W, E⟩ (fun sz => t_act_promiseCopy_non_big l hfl D T t0 X L tg sz A _ i0 b ln ar (p_c B) (p_l B) i17 i2 i10 i13 i4 (d0.trans hs) S.ncA h1 h2 hb qfd hn S.nlA hi (S.f10 hi)) (fun sz => r_act_7n l D T XR LR tgR sz E B b ln ar (p_l B) (p_q B ln) (p_c B) hb hi hn S.I.S.nl.1 r2 r3 hbq S.nc32 S.I.S.nc.1 (by unfold s_mayPromise; rw [if_neg h1, if_pos h2])) (by decide) (by unfold s_act_7n; rw [if_neg hd])
    · exact PairT.no ⟨hq, S, W, E⟩ (fun sz => t_act_promiseCopy_no1_big l hfl D T t0 X L tg sz A _ i0 b ln ar (p_c B) (p_l B) i17 i2 i10 i13 i4 (fun z => hs (d0.symm.trans z)) S.ncA h1 h2 hb qfd hn S.nlA hi (S.f10 hi)) (fun sz => r_act_7n l D T XR LR tgR sz E B b ln ar (p_l B) (p_q B ln) (p_c B) hb hi hn S.I.S.nl.1 r2 r3 hbq S.nc32 S.I.S.nc.1 (by unfold s_mayPromise; rw [if_neg h1, if_pos h2])) (by decide) (by unfold s_act_7n; rw [if_neg hd])
  · have i1 := W.inn (S.lv1 hcp)
    have i9 := W.v0 9 (by simp)
    have hc32 : cp < 32 := by omega
    have q0 : A 4 (6 * ln + b) 0 = nI b := by rw [(S.R.D.dl _ hd).h0]; congr 1; omega
    have c0 : A 1 cp 0 = B 8 0 cp := congrFun S.R.C.c0 cp
    have c1 : A 1 cp 1 = B 7 0 cp := congrFun S.R.C.c1 cp
    have c2 : A 1 cp 2 = B 9 0 cp := congrFun S.R.C.c2 cp
    have c3 : A 1 cp 3 = B 10 0 cp := congrFun S.R.C.c3 cp
    have l2 : A 2 ln 2 = B 12 0 ln := congrFun S.R.C.l2 ln
    have eM : s_mayPromise B ln b (nI cp) (p_c B) = z_Copy_canGo A cp (A 4 (6 * ln + b) 0) (A 2 ln 2) := by
      unfold s_mayPromise z_Copy_canGo
      rw [if_neg (nI_pos (by omega)), if_neg (nI_ge hcp (by omega)), nI_clamp (by omega), q0, l2, c0, c1, c2, c3]
    have R := fun sz => r_act_7 l D T XR LR tgR sz E B b ln cp (p_l B) (p_q B ln) (wtB B) (lgB B) (p_c B) hb hi hn S.I.S.nl.1 r2 r3 hbq S.w64 S.I.S.w.1 (by omega) hlg.1 S.nc32 S.I.S.nc.1 hcp
    by_cases hs : B 23 0 (6 * ln + b) = 1
    · rcases z_canGo01 A cp (A 4 (6 * ln + b) 0) (A 2 ln 2) with hcg | hcg
      · have S' : Sim (z_L_act_promiseCopy_ok A b ln cp g (p_n B (2 * (6 * ln + b) + 1)) (wtB B) (p_c B) (p_l B)) (s_stepSupplier_7 (up3 B 0 0 0 0) ln b cp (wtB B) (lgB B)) (q + 1) := by
          have h9 := S.promise hq rfl hd rfl rfl rfl hg hi hb hcp hs
          rw [← (S.R.D.ln ln hi).1] at h9
          exact h9
        exact PairT.ok (Z := z_L_act_promiseCopy_ok A b ln cp g (p_n B (2 * (6 * ln + b) + 1)) (wtB B) (p_c B) (p_l B)) (R := s_stepSupplier_7 (up3 B 0 0 0 0) ln b cp (wtB B) (lgB B)) (fun sz => c_L_act_promiseCopy_ok l D T t0 X L tg sz A _ i0 b ln cp g (p_n B (2 * (6 * ln + b) + 1)) (wtB B) (p_c B) (p_l B) i17 i15 i16 i7 i12 i1 i9 i2 i10 i13 i4 (S.d192 hd) hn5 hLS S.w64 S.wA W.cl h19 h20 hc32 (d0.trans hs) hcg S.nc32 S.ncA hcp (S.f9 hcp) hb qfd hn S.nlA hi (S.f10 hi)) (by decide) (by decide) R (by decide) (by
          unfold s_act_7 s_maySupplier_7
          rw [if_neg hd, if_pos hs, eM, hcg, if_neg (by decide)]) (congrFun S'.R.C.d0 _) S' (fun X' L' tg' h => S.w15 hq hd ((W.o4_4 hc32 i1).o1 _ _ _) (fun c hc => by rw [p_kd_up _ _ _ _ (by omega), p_kd_up _ _ _ _ (by omega)]) hg h) (by
          unfold s_stepSupplier_7
          rw [s_write_0k _ _ _ _ _ _ (by decide) (by decide)]
          repeat rw [p_kd_up _ _ _ _ (by decide)]
          rw [up3_self])
      · exact PairT.no ⟨hq, S, W, E⟩ (fun sz => t_act_promiseCopy_nog l hfl D T t0 X L tg sz A _ i0 b ln cp (p_c B) (p_l B) i17 i1 i9 i2 i10 i13 i4 (d0.trans hs) hcg S.nc32 S.ncA hcp (S.f9 hcp) hb qfd hn S.nlA hi (S.f10 hi)) R (by decide) (by
          unfold s_act_7 s_maySupplier_7
          rw [if_neg hd, if_pos hs, eM, hcg, if_pos rfl, if_pos rfl])
    · exact PairT.no ⟨hq, S, W, E⟩ (fun sz => t_act_promiseCopy_no l hfl D T t0 X L tg sz A _ i0 b ln cp (p_c B) (p_l B) i17 i1 i9 i2 i10 i13 i4 (fun z => hs (d0.symm.trans z)) S.nc32 S.ncA hcp (S.f9 hcp) hb qfd hn S.nlA hi (S.f10 hi)) R (by decide) (by
        unfold s_act_7 s_maySupplier_7
        rw [if_neg hd, if_neg hs, if_pos rfl])
end PT4
