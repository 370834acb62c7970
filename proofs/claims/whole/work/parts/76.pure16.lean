/-! The requester's steps -/

theorem Rl.hold {A B : ew_R} (h : Rl A B) (i : Nat) (v : Int32) : Rl (up3 A 1 i 2 v) (up3 B 9 0 i v) := by
  refine h.cols ?_ (fun c hc => p_kd_up _ _ _ _ (by revert c; decide)) (fun d => up3_ne _ _ (by omega)) (fun c hc => by rw [p_kd_up _ _ _ _ (by revert c; decide)]) (fun k h1 h2 => up3_ne _ _ (by omega))
  refine ⟨?_, ?_, ?_, ?_, ?_, ?_, ?_, ?_, ?_, ?_, ?_, ?_, ?_, ?_, ?_, ?_, ?_, ?_, ?_, ?_, ?_, ?_, ?_, ?_⟩ <;> first | (simp only [p_col_up, p_row_up]; simp [(h.C).day, (h.C).nl, (h.C).nc, (h.C).w, (h.C).bal, (h.C).c0, (h.C).c1, (h.C).c2, (h.C).c3, (h.C).l1, (h.C).l2, (h.C).l3, (h.C).l4, (h.C).g0, (h.C).g1, (h.C).g2, (h.C).g3, (h.C).d0, (h.C).d1, (h.C).d2, (h.C).d3, (h.C).gr, (h.C).bare]; done) | (intro l b hb; simp only [p_row_up]; simp; exact (h.C).th l b hb)
theorem Rl.prom {A B : ew_R} (h : Rl A B) (i : Nat) (v : Int32) : Rl (up3 A 1 i 3 v) (up3 B 10 0 i v) := by
  refine h.cols ?_ (fun c hc => p_kd_up _ _ _ _ (by revert c; decide)) (fun d => up3_ne _ _ (by omega)) (fun c hc => by rw [p_kd_up _ _ _ _ (by revert c; decide)]) (fun k h1 h2 => up3_ne _ _ (by omega))
  refine ⟨?_, ?_, ?_, ?_, ?_, ?_, ?_, ?_, ?_, ?_, ?_, ?_, ?_, ?_, ?_, ?_, ?_, ?_, ?_, ?_, ?_, ?_, ?_, ?_⟩ <;> first | (simp only [p_col_up, p_row_up]; simp [(h.C).day, (h.C).nl, (h.C).nc, (h.C).w, (h.C).bal, (h.C).c0, (h.C).c1, (h.C).c2, (h.C).c3, (h.C).l1, (h.C).l2, (h.C).l3, (h.C).l4, (h.C).g0, (h.C).g1, (h.C).g2, (h.C).g3, (h.C).d0, (h.C).d1, (h.C).d2, (h.C).d3, (h.C).gr, (h.C).bare]; done) | (intro l b hb; simp only [p_row_up]; simp; exact (h.C).th l b hb)
theorem Rl.bal {A B : ew_R} (h : Rl A B) (i : Nat) (v : Int32) : Rl (up3 A 11 0 i v) (up3 B 6 0 i v) := by
  refine h.cols ?_ (fun c hc => p_kd_up _ _ _ _ (by revert c; decide)) (fun d => up3_ne _ _ (by omega)) (fun c hc => by rw [p_kd_up _ _ _ _ (by revert c; decide)]) (fun k h1 h2 => up3_ne _ _ (by omega))
  refine ⟨?_, ?_, ?_, ?_, ?_, ?_, ?_, ?_, ?_, ?_, ?_, ?_, ?_, ?_, ?_, ?_, ?_, ?_, ?_, ?_, ?_, ?_, ?_, ?_⟩ <;> first | (simp only [p_col_up, p_row_up]; simp [(h.C).day, (h.C).nl, (h.C).nc, (h.C).w, (h.C).bal, (h.C).c0, (h.C).c1, (h.C).c2, (h.C).c3, (h.C).l1, (h.C).l2, (h.C).l3, (h.C).l4, (h.C).g0, (h.C).g1, (h.C).g2, (h.C).g3, (h.C).d0, (h.C).d1, (h.C).d2, (h.C).d3, (h.C).gr, (h.C).bare]; done) | (intro l b hb; simp only [p_row_up]; simp; exact (h.C).th l b hb)
theorem Rl.due {A B : ew_R} (h : Rl A B) (i : Nat) (v : Int32) : Rl (up3 A 3 i 1 v) (up3 B 19 0 i v) := by
  refine h.cols ?_ (fun c hc => p_kd_up _ _ _ _ (by revert c; decide)) (fun d => up3_ne _ _ (by omega)) (fun c hc => by rw [p_kd_up _ _ _ _ (by revert c; decide)]) (fun k h1 h2 => up3_ne _ _ (by omega))
  refine ⟨?_, ?_, ?_, ?_, ?_, ?_, ?_, ?_, ?_, ?_, ?_, ?_, ?_, ?_, ?_, ?_, ?_, ?_, ?_, ?_, ?_, ?_, ?_, ?_⟩ <;> first | (simp only [p_col_up, p_row_up]; simp [(h.C).day, (h.C).nl, (h.C).nc, (h.C).w, (h.C).bal, (h.C).c0, (h.C).c1, (h.C).c2, (h.C).c3, (h.C).l1, (h.C).l2, (h.C).l3, (h.C).l4, (h.C).g0, (h.C).g1, (h.C).g2, (h.C).g3, (h.C).d0, (h.C).d1, (h.C).d2, (h.C).d3, (h.C).gr, (h.C).bare]; done) | (intro l b hb; simp only [p_row_up]; simp; exact (h.C).th l b hb)
theorem Rl.price {A B : ew_R} (h : Rl A B) (i : Nat) (v : Int32) : Rl (up3 A 3 i 2 v) (up3 B 20 0 i v) := by
  refine h.cols ?_ (fun c hc => p_kd_up _ _ _ _ (by revert c; decide)) (fun d => up3_ne _ _ (by omega)) (fun c hc => by rw [p_kd_up _ _ _ _ (by revert c; decide)]) (fun k h1 h2 => up3_ne _ _ (by omega))
  refine ⟨?_, ?_, ?_, ?_, ?_, ?_, ?_, ?_, ?_, ?_, ?_, ?_, ?_, ?_, ?_, ?_, ?_, ?_, ?_, ?_, ?_, ?_, ?_, ?_⟩ <;> first | (simp only [p_col_up, p_row_up]; simp [(h.C).day, (h.C).nl, (h.C).nc, (h.C).w, (h.C).bal, (h.C).c0, (h.C).c1, (h.C).c2, (h.C).c3, (h.C).l1, (h.C).l2, (h.C).l3, (h.C).l4, (h.C).g0, (h.C).g1, (h.C).g2, (h.C).g3, (h.C).d0, (h.C).d1, (h.C).d2, (h.C).d3, (h.C).gr, (h.C).bare]; done) | (intro l b hb; simp only [p_row_up]; simp; exact (h.C).th l b hb)
theorem Rl.charge {A B : ew_R} (h : Rl A B) (i : Nat) (v : Int32) : Rl (up3 A 3 i 3 v) (up3 B 21 0 i v) := by
  refine h.cols ?_ (fun c hc => p_kd_up _ _ _ _ (by revert c; decide)) (fun d => up3_ne _ _ (by omega)) (fun c hc => by rw [p_kd_up _ _ _ _ (by revert c; decide)]) (fun k h1 h2 => up3_ne _ _ (by omega))
  refine ⟨?_, ?_, ?_, ?_, ?_, ?_, ?_, ?_, ?_, ?_, ?_, ?_, ?_, ?_, ?_, ?_, ?_, ?_, ?_, ?_, ?_, ?_, ?_, ?_⟩ <;> first | (simp only [p_col_up, p_row_up]; simp [(h.C).day, (h.C).nl, (h.C).nc, (h.C).w, (h.C).bal, (h.C).c0, (h.C).c1, (h.C).c2, (h.C).c3, (h.C).l1, (h.C).l2, (h.C).l3, (h.C).l4, (h.C).g0, (h.C).g1, (h.C).g2, (h.C).g3, (h.C).d0, (h.C).d1, (h.C).d2, (h.C).d3, (h.C).gr, (h.C).bare]; done) | (intro l b hb; simp only [p_row_up]; simp; exact (h.C).th l b hb)
theorem Rl.itst {A B : ew_R} (h : Rl A B) (i : Nat) (v : Int32) : Rl (up3 A 17 i 0 v) (up3 B 23 0 i v) := by
  refine h.cols ?_ (fun c hc => p_kd_up _ _ _ _ (by revert c; decide)) (fun d => up3_ne _ _ (by omega)) (fun c hc => by rw [p_kd_up _ _ _ _ (by revert c; decide)]) (fun k h1 h2 => up3_ne _ _ (by omega))
  refine ⟨?_, ?_, ?_, ?_, ?_, ?_, ?_, ?_, ?_, ?_, ?_, ?_, ?_, ?_, ?_, ?_, ?_, ?_, ?_, ?_, ?_, ?_, ?_, ?_⟩ <;> first | (simp only [p_col_up, p_row_up]; simp [(h.C).day, (h.C).nl, (h.C).nc, (h.C).w, (h.C).bal, (h.C).c0, (h.C).c1, (h.C).c2, (h.C).c3, (h.C).l1, (h.C).l2, (h.C).l3, (h.C).l4, (h.C).g0, (h.C).g1, (h.C).g2, (h.C).g3, (h.C).d0, (h.C).d1, (h.C).d2, (h.C).d3, (h.C).gr, (h.C).bare]; done) | (intro l b hb; simp only [p_row_up]; simp; exact (h.C).th l b hb)
theorem Rl.itdue {A B : ew_R} (h : Rl A B) (i : Nat) (v : Int32) : Rl (up3 A 17 i 1 v) (up3 B 24 0 i v) := by
  refine h.cols ?_ (fun c hc => p_kd_up _ _ _ _ (by revert c; decide)) (fun d => up3_ne _ _ (by omega)) (fun c hc => by rw [p_kd_up _ _ _ _ (by revert c; decide)]) (fun k h1 h2 => up3_ne _ _ (by omega))
  refine ⟨?_, ?_, ?_, ?_, ?_, ?_, ?_, ?_, ?_, ?_, ?_, ?_, ?_, ?_, ?_, ?_, ?_, ?_, ?_, ?_, ?_, ?_, ?_, ?_⟩ <;> first | (simp only [p_col_up, p_row_up]; simp [(h.C).day, (h.C).nl, (h.C).nc, (h.C).w, (h.C).bal, (h.C).c0, (h.C).c1, (h.C).c2, (h.C).c3, (h.C).l1, (h.C).l2, (h.C).l3, (h.C).l4, (h.C).g0, (h.C).g1, (h.C).g2, (h.C).g3, (h.C).d0, (h.C).d1, (h.C).d2, (h.C).d3, (h.C).gr, (h.C).bare]; done) | (intro l b hb; simp only [p_row_up]; simp; exact (h.C).th l b hb)
theorem Rl.itpr {A B : ew_R} (h : Rl A B) (i : Nat) (v : Int32) : Rl (up3 A 17 i 2 v) (up3 B 25 0 i v) := by
  refine h.cols ?_ (fun c hc => p_kd_up _ _ _ _ (by revert c; decide)) (fun d => up3_ne _ _ (by omega)) (fun c hc => by rw [p_kd_up _ _ _ _ (by revert c; decide)]) (fun k h1 h2 => up3_ne _ _ (by omega))
  refine ⟨?_, ?_, ?_, ?_, ?_, ?_, ?_, ?_, ?_, ?_, ?_, ?_, ?_, ?_, ?_, ?_, ?_, ?_, ?_, ?_, ?_, ?_, ?_, ?_⟩ <;> first | (simp only [p_col_up, p_row_up]; simp [(h.C).day, (h.C).nl, (h.C).nc, (h.C).w, (h.C).bal, (h.C).c0, (h.C).c1, (h.C).c2, (h.C).c3, (h.C).l1, (h.C).l2, (h.C).l3, (h.C).l4, (h.C).g0, (h.C).g1, (h.C).g2, (h.C).g3, (h.C).d0, (h.C).d1, (h.C).d2, (h.C).d3, (h.C).gr, (h.C).bare]; done) | (intro l b hb; simp only [p_row_up]; simp; exact (h.C).th l b hb)
theorem Rl.itch {A B : ew_R} (h : Rl A B) (i : Nat) (v : Int32) : Rl (up3 A 17 i 3 v) (up3 B 26 0 i v) := by
  refine h.cols ?_ (fun c hc => p_kd_up _ _ _ _ (by revert c; decide)) (fun d => up3_ne _ _ (by omega)) (fun c hc => by rw [p_kd_up _ _ _ _ (by revert c; decide)]) (fun k h1 h2 => up3_ne _ _ (by omega))
  refine ⟨?_, ?_, ?_, ?_, ?_, ?_, ?_, ?_, ?_, ?_, ?_, ?_, ?_, ?_, ?_, ?_, ?_, ?_, ?_, ?_, ?_, ?_, ?_, ?_⟩ <;> first | (simp only [p_col_up, p_row_up]; simp [(h.C).day, (h.C).nl, (h.C).nc, (h.C).w, (h.C).bal, (h.C).c0, (h.C).c1, (h.C).c2, (h.C).c3, (h.C).l1, (h.C).l2, (h.C).l3, (h.C).l4, (h.C).g0, (h.C).g1, (h.C).g2, (h.C).g3, (h.C).d0, (h.C).d1, (h.C).d2, (h.C).d3, (h.C).gr, (h.C).bare]; done) | (intro l b hb; simp only [p_row_up]; simp; exact (h.C).th l b hb)
theorem Rl.itgr {A B : ew_R} (h : Rl A B) (i : Nat) (v : Int32) : Rl (up3 A 4 i 5 v) (up3 B 27 0 i v) := by
  refine h.cols ?_ (fun c hc => p_kd_up _ _ _ _ (by revert c; decide)) (fun d => up3_ne _ _ (by omega)) (fun c hc => by rw [p_kd_up _ _ _ _ (by revert c; decide)]) (fun k h1 h2 => up3_ne _ _ (by omega))
  refine ⟨?_, ?_, ?_, ?_, ?_, ?_, ?_, ?_, ?_, ?_, ?_, ?_, ?_, ?_, ?_, ?_, ?_, ?_, ?_, ?_, ?_, ?_, ?_, ?_⟩ <;> first | (simp only [p_col_up, p_row_up]; simp [(h.C).day, (h.C).nl, (h.C).nc, (h.C).w, (h.C).bal, (h.C).c0, (h.C).c1, (h.C).c2, (h.C).c3, (h.C).l1, (h.C).l2, (h.C).l3, (h.C).l4, (h.C).g0, (h.C).g1, (h.C).g2, (h.C).g3, (h.C).d0, (h.C).d1, (h.C).d2, (h.C).d3, (h.C).gr, (h.C).bare]; done) | (intro l b hb; simp only [p_row_up]; simp; exact (h.C).th l b hb)
theorem Rl.free {A B : ew_R} (h : Rl A B) {c : Nat} (hc : c = 17 ∨ c = 28) (i : Nat) (v : Int32) : Rl A (up3 B c 0 i v) := by
  have o : ∀ c', c' ≠ c → up3 B c 0 i v c' = B c' := fun c' h => p_kd_up _ _ _ _ h
  refine h.cols (h.C.cg (fun _ _ => rfl) (fun c' hc' => by rw [o c' (by intro z; subst z; rcases hc with rfl | rfl <;> revert hc' <;> decide)]) (fun _ _ _ => rfl) (fun k _ _ => by rw [o 0 (by omega)]) (by rw [o 0 (by omega)]; exact h.C.w)) (fun _ _ => rfl) (fun _ => rfl) (fun c' hc' => by rw [o c' (by intro z; subst z; rcases hc with rfl | rfl <;> revert hc' <;> decide)]) (fun k _ _ => by rw [o 0 (by omega)])
theorem Rl.copyOf {A B : ew_R} (h : Rl A B) (i : Nat) (v : Int32) : Rl (up3 A 4 i 4 v) B := by
  refine h.cols ?_ (fun c hc => p_kd_up _ _ _ _ (by revert c; decide)) (fun d => up3_ne _ _ (by omega)) (fun _ _ => rfl) (fun _ _ _ => rfl)
  refine ⟨?_, ?_, ?_, ?_, ?_, ?_, ?_, ?_, ?_, ?_, ?_, ?_, ?_, ?_, ?_, ?_, ?_, ?_, ?_, ?_, ?_, ?_, ?_, ?_⟩ <;> first | (simp only [p_col_up, p_row_up]; simp [(h.C).day, (h.C).nl, (h.C).nc, (h.C).w, (h.C).bal, (h.C).c0, (h.C).c1, (h.C).c2, (h.C).c3, (h.C).l1, (h.C).l2, (h.C).l3, (h.C).l4, (h.C).g0, (h.C).g1, (h.C).g2, (h.C).g3, (h.C).d0, (h.C).d1, (h.C).d2, (h.C).d3, (h.C).gr, (h.C).bare]; done) | (intro l b hb; simp only [p_row_up]; simp; exact (h.C).th l b hb)

theorem Sim.accept {A B : ew_R} {q ln d g n w lg : Nat} (S : Sim A B q) (hq : q < 512) (hl : ln < p_l B) (ed : d = 6 * ln + p_k B ln) (ew : w = wtB B) (elg : lg = lgB B) (en : n = p_n B (2 * d)) (hg : p_ls 8 14 A d g n) (hs : B 18 0 ln = 1) : Sim (z_L_requesterWrites A ln d g n w 0 5 0) (s_stepRequester_0 (up3 B 0 0 0 0) ln (p_k B ln) w lg) (q + 1) := by
  have e : s_stepRequester_0 (up3 B 0 0 0 0) ln (p_k B ln) w lg = s_write (up3 (up3 B 0 0 0 0) 18 0 ln 0) (2 * d) 5 0 w lg := by rw [ed]; rfl
  rw [e]
  refine S.rq hq hl ed ?_ (fun c h1 h2 => ?_) (fun c hc => ?_) (fun k hk => ?_) ew elg en hg (by decide) (by decide) (fun h3 s3 h4 h7 h5 h6 h15 cn pz H => ?_)
  · exact S.R.code 0
  · rfl
  · simp only [List.mem_cons, List.not_mem_nil, or_false, not_or] at hc
    simp only [p_kd_up _ _ _ _ hc.1]
  · simp only [p_row_up]; simp [va_up]; omega
  · exact (H.accept trivial hs).iff rfl rfl Iff.rfl Iff.rfl Iff.rfl Iff.rfl Iff.rfl (by simp) (by simp) (by simp) Iff.rfl Iff.rfl
theorem Sim.cancel {A B : ew_R} {q ln d g n w lg : Nat} (S : Sim A B q) (hq : q < 512) (hl : ln < p_l B) (ed : d = 6 * ln + p_k B ln) (ew : w = wtB B) (elg : lg = lgB B) (en : n = p_n B (2 * d)) (hg : p_ls 8 14 A d g n) (hs : B 18 0 ln = 0 ∨ B 18 0 ln = 1 ∨ B 18 0 ln = 2) : Sim (z_L_requesterWrites A ln d g n w 10 15 0) (s_stepRequester_2 (up3 B 0 0 0 0) ln (p_k B ln) w lg) (q + 1) := by
  have e : s_stepRequester_2 (up3 B 0 0 0 0) ln (p_k B ln) w lg = s_write (up3 (up3 B 0 0 0 0) 18 0 ln 10) (2 * d) 15 0 w lg := by rw [ed]; rfl
  rw [e]
  refine S.rq hq hl ed ?_ (fun c h1 h2 => ?_) (fun c hc => ?_) (fun k hk => ?_) ew elg en hg (by decide) (by decide) (fun h3 s3 h4 h7 h5 h6 h15 cn pz H => ?_)
  · exact S.R.code 0
  · rfl
  · simp only [List.mem_cons, List.not_mem_nil, or_false, not_or] at hc
    simp only [p_kd_up _ _ _ _ hc.1]
  · simp only [p_row_up]; simp [va_up]; omega
  · exact (H.cancel trivial hs).iff rfl rfl Iff.rfl Iff.rfl Iff.rfl Iff.rfl Iff.rfl (by simp) (by simp) (by simp) Iff.rfl Iff.rfl
theorem Sim.receive {A B : ew_R} {q ln d g n w lg : Nat} (S : Sim A B q) (hq : q < 512) (hl : ln < p_l B) (ed : d = 6 * ln + p_k B ln) (ew : w = wtB B) (elg : lg = lgB B) (en : n = p_n B (2 * d)) (hg : p_ls 8 14 A d g n) {cp : Nat} (hs : B 18 0 ln = 3) : Sim (z_L_requesterWrites (up3 A 1 cp 2 (A 2 ln 1)) ln d g n w 4 8 0) (s_stepRequester_3 (up3 B 0 0 0 0) ln (p_k B ln) cp w lg) (q + 1) := by
  have e : s_stepRequester_3 (up3 B 0 0 0 0) ln (p_k B ln) cp w lg = s_write (up3 (up3 (up3 B 0 0 0 0) 9 0 cp (B 11 0 ln)) 18 0 ln 4) (2 * d) 8 0 w lg := by rw [ed]; rfl
  rw [e]
  refine S.rq hq hl ed ?_ (fun c h1 h2 => ?_) (fun c hc => ?_) (fun k hk => ?_) ew elg en hg (by decide) (by decide) (fun h3 s3 h4 h7 h5 h6 h15 cn pz H => ?_)
  · rw [show A 2 ln 1 = B 11 0 ln from congrFun S.R.C.l1 ln]; exact (S.R.code 0).hold cp _
  · simp only [p_kd_up _ _ _ _ h1, p_kd_up _ _ _ _ h2]
  · simp only [List.mem_cons, List.not_mem_nil, or_false, not_or] at hc
    simp only [p_kd_up _ _ _ _ hc.1, p_kd_up _ _ _ _ hc.2.1, p_kd_up _ _ _ _ hc.2.2]
  · simp only [p_row_up]; simp [va_up]; omega
  · exact (H.receive trivial hs).iff rfl rfl Iff.rfl Iff.rfl Iff.rfl Iff.rfl Iff.rfl (by simp) (by simp) (by simp) Iff.rfl Iff.rfl
theorem Sim.renew {A B : ew_R} {q ln d g n w lg : Nat} (S : Sim A B q) (hq : q < 512) (hl : ln < p_l B) (ed : d = 6 * ln + p_k B ln) (ew : w = wtB B) (elg : lg = lgB B) (en : n = p_n B (2 * d)) (hg : p_ls 8 14 A d g n) (hs : B 18 0 ln = 4) : Sim (z_L_requesterWrites A ln d g n w 5 9 0) (s_stepRequester_4 (up3 B 0 0 0 0) ln (p_k B ln) w lg) (q + 1) := by
  have e : s_stepRequester_4 (up3 B 0 0 0 0) ln (p_k B ln) w lg = s_write (up3 (up3 B 0 0 0 0) 18 0 ln 5) (2 * d) 9 0 w lg := by rw [ed]; rfl
  rw [e]
  refine S.rq hq hl ed ?_ (fun c h1 h2 => ?_) (fun c hc => ?_) (fun k hk => ?_) ew elg en hg (by decide) (by decide) (fun h3 s3 h4 h7 h5 h6 h15 cn pz H => ?_)
  · exact S.R.code 0
  · rfl
  · simp only [List.mem_cons, List.not_mem_nil, or_false, not_or] at hc
    simp only [p_kd_up _ _ _ _ hc.1]
  · simp only [p_row_up]; simp [va_up]; omega
  · exact (H.renew trivial hs).iff rfl rfl Iff.rfl Iff.rfl Iff.rfl Iff.rfl Iff.rfl (by simp) (by simp) (by simp) Iff.rfl Iff.rfl
theorem Sim.giveBack {A B : ew_R} {q ln d g n w lg : Nat} (S : Sim A B q) (hq : q < 512) (hl : ln < p_l B) (ed : d = 6 * ln + p_k B ln) (ew : w = wtB B) (elg : lg = lgB B) (en : n = p_n B (2 * d)) (hg : p_ls 8 14 A d g n) {cp : Nat} (hs : B 18 0 ln = 4 ∨ B 18 0 ln = 5 ∨ B 18 0 ln = 6) : Sim (z_L_requesterWrites (up3 A 1 cp 2 6) ln d g n w 7 12 0) (s_stepRequester_5 (up3 B 0 0 0 0) ln (p_k B ln) cp w lg) (q + 1) := by
  have e : s_stepRequester_5 (up3 B 0 0 0 0) ln (p_k B ln) cp w lg = s_write (up3 (up3 (up3 B 0 0 0 0) 9 0 cp 6) 18 0 ln 7) (2 * d) 12 0 w lg := by rw [ed]; rfl
  rw [e]
  refine S.rq hq hl ed ?_ (fun c h1 h2 => ?_) (fun c hc => ?_) (fun k hk => ?_) ew elg en hg (by decide) (by decide) (fun h3 s3 h4 h7 h5 h6 h15 cn pz H => ?_)
  · exact (S.R.code 0).hold cp _
  · simp only [p_kd_up _ _ _ _ h1, p_kd_up _ _ _ _ h2]
  · simp only [List.mem_cons, List.not_mem_nil, or_false, not_or] at hc
    simp only [p_kd_up _ _ _ _ hc.1, p_kd_up _ _ _ _ hc.2.1, p_kd_up _ _ _ _ hc.2.2]
  · simp only [p_row_up]; simp [va_up]; omega
  · exact (H.back (Or.inl rfl) hs).iff rfl rfl Iff.rfl Iff.rfl Iff.rfl Iff.rfl Iff.rfl (by simp) (by simp) (by simp) Iff.rfl Iff.rfl
theorem Sim.lose {A B : ew_R} {q ln d g n w lg : Nat} (S : Sim A B q) (hq : q < 512) (hl : ln < p_l B) (ed : d = 6 * ln + p_k B ln) (ew : w = wtB B) (elg : lg = lgB B) (en : n = p_n B (2 * d)) (hg : p_ls 8 14 A d g n) {cp rq : Nat} (hs : B 18 0 ln = 4 ∨ B 18 0 ln = 5 ∨ B 18 0 ln = 6) : Sim (z_L_requesterWrites (up3 (up3 A 1 cp 2 7) 11 0 rq ((up3 A 1 cp 2 7) 11 0 rq + (-4000))) ln d g n w 12 14 0) (s_stepRequester_6 (up3 B 0 0 0 0) ln (p_k B ln) cp rq w lg) (q + 1) := by
  have e : s_stepRequester_6 (up3 B 0 0 0 0) ln (p_k B ln) cp rq w lg = s_write (up3 (up3 (up3 (up3 B 0 0 0 0) 9 0 cp 7) 6 0 rq (B 6 0 rq - 4000)) 18 0 ln 12) (2 * d) 14 0 w lg := by rw [ed]; rfl
  rw [e]
  refine S.rq hq hl ed ?_ (fun c h1 h2 => ?_) (fun c hc => ?_) (fun k hk => ?_) ew elg en hg (by decide) (by decide) (fun h3 s3 h4 h7 h5 h6 h15 cn pz H => ?_)
  · have e2 : (up3 A 1 cp 2 7) 11 0 rq + (-4000) = B 6 0 rq - 4000 := by rw [p_kd_up _ _ _ _ (by decide), S.R.C.bal, Int32.sub_eq_add_neg]
    rw [e2]; exact ((S.R.code 0).hold cp _).bal rq _
  · simp only [p_kd_up _ _ _ _ h1, p_kd_up _ _ _ _ h2]
  · simp only [List.mem_cons, List.not_mem_nil, or_false, not_or] at hc
    simp only [p_kd_up _ _ _ _ hc.1, p_kd_up _ _ _ _ hc.2.1, p_kd_up _ _ _ _ hc.2.2]
  · simp only [p_row_up]; simp [va_up]; omega
  · exact (H.back (Or.inr rfl) hs).iff rfl rfl Iff.rfl Iff.rfl Iff.rfl Iff.rfl Iff.rfl (by simp) (by simp) (by simp) Iff.rfl Iff.rfl