/-! Other coherent changes -/
def p_ka : List Nat := [2, 5, 6, 8, 9, 10, 12, 14, 15, 16, 19, 20]
def p_kb : List Nat := [11, 16, 22, 29, 30, 31, 32, 33, 34, 35, 36, 37, 38, 39]
theorem RlE.cg {A A' B B' : ew_R} (h : RlE A B) (ha : ∀ c, c ∈ [5, 8, 15, 16] → A' c = A c) (hb : ∀ c, c ∈ [29, 30, 31] → B' c 0 = B c 0) : RlE A' B' := by
  obtain ⟨h1, h2, h3, h4, h5, h6⟩ := h
  refine ⟨?_, ?_, ?_, ?_, ?_, ?_⟩
  · rw [p_col_kd (ha 5 (by decide)), hb 30 (by decide)]; exact h1
  · rw [p_col_kd (ha 5 (by decide)), hb 31 (by decide)]; exact h2
  · rw [p_col_kd (ha 8 (by decide)), hb 29 (by decide)]; exact h3
  · rw [p_col_kd (ha 15 (by decide)), hb 30 (by decide)]; exact h4
  · rw [p_col_kd (ha 15 (by decide)), hb 31 (by decide)]; exact h5
  · rw [p_col_kd (ha 16 (by decide)), hb 29 (by decide)]; exact h6
theorem RlT.cg {A A' B B' : ew_R} (h : RlT A B) (a6 : A' 6 = A 6) (a19 : A' 19 = A 19) (hb : ∀ c, c ∈ [32, 33, 34, 35, 36] → B' c 0 = B c 0) (b5 : B' 0 0 5 = B 0 0 5) (hs : ∀ e, p_s B e ≤ p_s B' e) : RlT A' B' := by
  have el : lgB B' = lgB B := by simp only [lgB, b5]
  refine ⟨fun j d k hj hk h1 h2 h3 => ?_, fun j d k hj hk h1 h2 h3 => ?_⟩ <;> rw [hb 32 (by decide)] at h1 <;> rw [hb 33 (by decide)] at h2
  · have := h.t j d k (by omega) hk h1 h2 h3
    unfold p_lt at this ⊢
    rw [a6, hb 33 (by decide), hb 34 (by decide), hb 35 (by decide), hb 36 (by decide)]
    exact ⟨this.1, fun z => this.2 (Nat.le_trans (hs _) z)⟩
  · have := h.t' j d k (by omega) hk h1 h2 h3
    unfold p_lt at this ⊢
    rw [a19, hb 33 (by decide), hb 34 (by decide), hb 35 (by decide), hb 36 (by decide)]
    exact ⟨this.1, fun z => this.2 (Nat.le_trans (hs _) z)⟩
theorem RlR.cg {A A' B B' : ew_R} (h : RlR A B) (a12 : A' 12 0 = A 12 0) (hb : ∀ c, c ∈ [11, 33, 34, 35, 37, 38, 39] → B' c 0 = B c 0) (b4 : B' 0 0 4 = B 0 0 4) : RlR A' B' := by
  have el : wtB B' = wtB B := by simp only [wtB, b4]
  intro i hi k hk
  rw [a12, hb 37 (by decide), hb 38 (by decide), hb 39 (by decide), h i (by omega) k hk]
  unfold p_let
  rw [hb 11 (by decide), hb 33 (by decide), hb 34 (by decide), hb 35 (by decide)]
theorem RlG.cg {A A' B B' : ew_R} (h : RlG A B) (ha : ∀ c, c ∈ [8, 14, 16, 20] → A' c = A c) (b22 : B' 22 0 = B 22 0) (b29 : B' 29 0 = B 29 0) : RlG A' B' := by
  have en : p_n B' = p_n B := by funext e; simp only [p_n, b29]
  refine ⟨fun d hd => ?_, fun d hd => ?_⟩ <;> rw [b22] at hd <;> rw [en] <;> unfold p_ls
  · rw [ha 8 (by decide), ha 14 (by decide)]; exact h.g d hd
  · rw [ha 16 (by decide), ha 20 (by decide)]; exact h.g' d hd
/-- columns alone have changed -/
theorem Rl.cols {A A' B B' : ew_R} (h : Rl A B) (C : RlC A' B') (ha : ∀ c, c ∈ p_ka → A' c = A c) (h4 : ∀ d, A' 4 d 0 = A 4 d 0) (hb : ∀ c, c ∈ p_kb → B' c 0 = B c 0) (b0 : ∀ k, 2 ≤ k → k ≤ 5 → B' 0 0 k = B 0 0 k) : Rl A' B' := by
  refine ⟨C, h.E.cg (fun c hc => ha c (by revert c; decide)) (fun c hc => hb c (by revert c; decide)), ?_, h.T.cg (ha 6 (by decide)) (ha 19 (by decide)) (fun c hc => hb c (by revert c; decide)) (b0 5 (by decide) (by decide)) (fun e => by simp only [p_s, hb 30 (by decide)]; exact Nat.le_refl _), h.R.cg (by rw [ha 12 (by decide)]) (fun c hc => hb c (by revert c; decide)) (b0 4 (by decide) (by decide)), h.G.cg (fun c hc => ha c (by revert c; decide)) (hb 22 (by decide)) (hb 29 (by decide))⟩
  have el : p_l B' = p_l B := by simp only [p_l, b0 2 (by decide) (by decide)]
  have ec : p_c B' = p_c B := by simp only [p_c, b0 3 (by decide) (by decide)]
  refine ⟨fun l hl => ?_, fun d hd => ?_, fun c hc => ?_, fun l hl => ?_⟩
  · rw [ha 2 (by decide)]; simp only [p_k, hb 16 (by decide)]; exact h.D.ln l (by omega)
  · rw [hb 22 (by decide)] at hd
    have := h.D.dl d hd
    exact ⟨by rw [h4]; exact this.h0, by rw [ha 5 (by decide)]; exact this.h1, by rw [ha 5 (by decide), hb 11 (by decide)]; exact this.h2, by rw [ha 5 (by decide)]; exact this.h3, by rw [ha 15 (by decide)]; exact this.h4, by rw [ha 15 (by decide)]; exact this.h5, by rw [ha 15 (by decide), hb 11 (by decide)]; exact this.h6⟩
  · rw [ha 9 (by decide), ec]; exact h.D.f9 c hc
  · rw [ha 10 (by decide), el]; exact h.D.f10 l hl
/-- the reference's last throw isn't spoken of -/
theorem Rl.code {A B : ew_R} (h : Rl A B) (x : Int32) : Rl A (up3 B 0 0 0 x) := by
  refine h.cols ?_ (fun _ _ => rfl) (fun _ => rfl) (fun c hc => by rw [p_row_up, if_neg (fun z => by revert c; decide)]) (fun k h1 h2 => up3_ne _ _ (by omega))
  refine h.C.cg (fun _ _ => rfl) (fun c hc => by rw [p_row_up, if_neg (fun z => by revert c; decide)]) (fun _ _ _ => rfl) (fun k h1 h2 => up3_ne _ _ (by omega)) ?_
  rw [up3_ne _ _ (by decide)]; exact h.C.w
theorem RfI.code {B : ew_R} {q : Nat} (h : RfI B q) (x : Int32) : RfI (up3 B 0 0 0 x) q := h.up 0 0 x (by decide) (by omega)
/-- a state of the requester's page, of the supplier's page -/
theorem Rl.page {A B : ew_R} (h : Rl A B) (l : Nat) (v : Int32) : Rl (up3 A 3 l 0 v) (up3 B 18 0 l v) := by
  refine h.cols ?_ (fun c hc => p_kd_up _ _ _ _ (by revert c; decide)) (fun d => up3_ne _ _ (by omega)) (fun c hc => by rw [p_kd_up _ _ _ _ (by revert c; decide)]) (fun k h1 h2 => up3_ne _ _ (by omega))
  refine ⟨?_, ?_, ?_, ?_, ?_, ?_, ?_, ?_, ?_, ?_, ?_, ?_, ?_, ?_, ?_, ?_, ?_, ?_, ?_, ?_, ?_, ?_, ?_, ?_⟩ <;> first | (simp only [p_col_up, p_row_up]; simp [(h.C).day, (h.C).nl, (h.C).nc, (h.C).w, (h.C).bal, (h.C).c0, (h.C).c1, (h.C).c2, (h.C).c3, (h.C).l1, (h.C).l2, (h.C).l3, (h.C).l4, (h.C).g0, (h.C).g1, (h.C).g2, (h.C).g3, (h.C).d0, (h.C).d1, (h.C).d2, (h.C).d3, (h.C).gr, (h.C).bare]; done) | (intro l b hb; simp only [p_row_up]; simp; exact (h.C).th l b hb)
