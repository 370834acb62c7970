/-! A letter is sent: both sides -/
theorem p_col_kd {A A' : ew_R} {c : Nat} (h : A' c = A c) (k : Nat) : p_col A' c k = p_col A c k := by unfold p_col; rw [h]
/-- kinds of the class and rows of the reference that the columns speak of -/
def p_ca : List Nat := [1, 2, 3, 4, 11, 13, 17, 18]
def p_cb : List Nat := [6, 7, 8, 9, 10, 11, 12, 13, 14, 18, 19, 20, 21, 22, 23, 24, 25, 26, 27]
theorem RlC.cg {A A' B B' : ew_R} (h : RlC A B) (ha : ∀ c, c ∈ p_ca → A' c = A c) (hb : ∀ c, c ∈ p_cb → B' c 0 = B c 0) (a5 : ∀ k, 5 ≤ k → k ≤ 7 → A' 0 0 k = A 0 0 k) (b1 : ∀ k, 1 ≤ k → k ≤ 3 → B' 0 0 k = B 0 0 k) (hw : A' 7 0 1 = B' 0 0 4) : RlC A' B' :=
  ⟨by rw [a5 7 (by decide) (by decide), b1 1 (by decide) (by decide)]; exact h.day,
   by rw [a5 6 (by decide) (by decide), b1 2 (by decide) (by decide)]; exact h.nl,
   by rw [a5 5 (by decide) (by decide), b1 3 (by decide) (by decide)]; exact h.nc,
   hw,
   by rw [ha 11 (by decide), hb 6 (by decide)]; exact h.bal,
   by rw [p_col_kd (ha 1 (by decide)), hb 8 (by decide)]; exact h.c0,
   by rw [p_col_kd (ha 1 (by decide)), hb 7 (by decide)]; exact h.c1,
   by rw [p_col_kd (ha 1 (by decide)), hb 9 (by decide)]; exact h.c2,
   by rw [p_col_kd (ha 1 (by decide)), hb 10 (by decide)]; exact h.c3,
   by rw [p_col_kd (ha 2 (by decide)), hb 11 (by decide)]; exact h.l1,
   by rw [p_col_kd (ha 2 (by decide)), hb 12 (by decide)]; exact h.l2,
   by rw [p_col_kd (ha 2 (by decide)), hb 14 (by decide)]; exact h.l3,
   by rw [p_col_kd (ha 2 (by decide)), hb 13 (by decide)]; exact h.l4,
   by rw [p_col_kd (ha 3 (by decide)), hb 18 (by decide)]; exact h.g0,
   by rw [p_col_kd (ha 3 (by decide)), hb 19 (by decide)]; exact h.g1,
   by rw [p_col_kd (ha 3 (by decide)), hb 20 (by decide)]; exact h.g2,
   by rw [p_col_kd (ha 3 (by decide)), hb 21 (by decide)]; exact h.g3,
   by rw [p_col_kd (ha 17 (by decide)), hb 23 (by decide)]; exact h.d0,
   by rw [p_col_kd (ha 17 (by decide)), hb 24 (by decide)]; exact h.d1,
   by rw [p_col_kd (ha 17 (by decide)), hb 25 (by decide)]; exact h.d2,
   by rw [p_col_kd (ha 17 (by decide)), hb 26 (by decide)]; exact h.d3,
   by rw [p_col_kd (ha 4 (by decide)), hb 27 (by decide)]; exact h.gr,
   by rw [ha 13 (by decide), hb 22 (by decide)]; exact h.th,
   by rw [ha 18 (by decide)]; exact h.bare⟩
theorem RlD.cg {A A' B B' : ew_R} (h : RlD A B) (ha : ∀ c, c ∈ [2, 4, 5, 9, 10, 15] → ∀ i, A' c i = A c i) (hb : ∀ c, c ∈ [11, 16, 22] → B' c 0 = B c 0) (b1 : ∀ k, 2 ≤ k → k ≤ 3 → B' 0 0 k = B 0 0 k) : RlD A' B' := by
  have el : p_l B' = p_l B := by simp only [p_l, b1 2 (by decide) (by decide)]
  have ec : p_c B' = p_c B := by simp only [p_c, b1 3 (by decide) (by decide)]
  refine ⟨fun l hl => ?_, fun d hd => ?_, fun c hc => ?_, fun l hl => ?_⟩
  · rw [ha 2 (by decide)]; simp only [p_k, hb 16 (by decide)]; exact h.ln l (by omega)
  · rw [hb 22 (by decide)] at hd
    have := h.dl d hd
    exact ⟨by rw [ha 4 (by decide)]; exact this.h0, by rw [ha 5 (by decide)]; exact this.h1, by rw [ha 5 (by decide), hb 11 (by decide)]; exact this.h2, by rw [ha 5 (by decide)]; exact this.h3, by rw [ha 15 (by decide)]; exact this.h4, by rw [ha 15 (by decide)]; exact this.h5, by rw [ha 15 (by decide), hb 11 (by decide)]; exact this.h6⟩
  · rw [ha 9 (by decide), ec]; exact h.f9 c hc
  · rw [ha 10 (by decide), el]; exact h.f10 l hl
theorem RlR.lay {A B B' : ew_R} {w en : Nat} {lt v0 v1 v2 v3 v4 v5 v6 : Int32} (hw : w ≤ 64) (h : ∀ i, i < w → ∀ k, k < 7 → A 12 0 (7 * i + k) = p_let B' (B 37 0 i) (B 38 0 i) (B 39 0 i) k) (hn : ∀ k, k < 7 → p_v7 v0 v1 v2 v3 v4 v5 v6 k = p_let B' lt (nI en) (B 30 0 en) k) :
    ∀ i, i < p_lw w → ∀ k, k < 7 → p_radd A w v0 v1 v2 v3 v4 v5 v6 12 0 (7 * i + k) = p_let B' (s_lay B lt en w 37 0 i) (s_lay B lt en w 38 0 i) (s_lay B lt en w 39 0 i) k := by
  intro i hi k hk
  rw [p_radd_12 A hw _ _ _ _ _ _ _ hi hk]
  by_cases hl : i = p_lw w - 1
  · rw [if_pos hl]
    subst hl
    obtain ⟨h1, h2, h3⟩ := s_lay_last B lt en w
    rw [h1, h2, h3]; exact hn k hk
  · rw [if_neg hl, s_lay_old _ _ _ hw (by omega) (by simp), s_lay_old _ _ _ hw (by omega) (by simp), s_lay_old _ _ _ hw (by omega) (by simp)]
    refine h _ ?_ k hk
    unfold p_lw at hi hl
    split <;> simp_all <;> omega

theorem Rl.send5 {A B : ew_R} {q : Nat} (h : Rl A B) (I : RfI B q) {d g n w lg : Nat} (hd : ¬ B 22 0 d = 0) (h192 : d < 192) (en : n = p_n B (2 * d)) (ew : w = wtB B) (elg : lg = lgB B) (hg : p_ls 8 14 A d g n) (hn : n < 512) (kn tl : Int32) : Rl (z_L_send_5 A d g n w kn tl) (s_write B (2 * d) kn tl w lg) := by
  have hlg : lg ≤ 3000 := by have := I.S.lg.2; have := I.S.hq; omega
  have hw : w ≤ 64 := by have := I.S.w.2; omega
  have h0 : g = 0 → n = 0 ∨ n < capG g := fun h => by left; have := hg.2.1; rw [h] at this; exact Nat.le_zero.mp this
  have a1 : ∀ c, c ∉ [7, 12, 6, 8, 14] → z_L_send_5 A d g n w kn tl c = A c := by
    intro c hc
    simp only [List.mem_cons, List.not_mem_nil, or_false, not_or] at hc
    obtain ⟨h7, h12, h6, h8, h14⟩ := hc
    unfold z_L_send_5
    rw [p_radd_5_6, p_radd_oth _ _ _ _ _ _ _ _ _ h12 h7, p_wr_5_oth _ _ _ _ _ _ h6 h8 h14]
  have a2 : ∀ c, c ≠ 7 → c ≠ 12 → z_L_send_5 A d g n w kn tl c = z_Side_write_5 A d g n kn tl c := by
    intro c h7 h12
    unfold z_L_send_5
    rw [p_radd_5_6, p_radd_oth _ _ _ _ _ _ _ _ _ h12 h7]
  have b1 : ∀ c, c ∉ [0, 29, 32, 33, 34, 35, 36, 37, 38, 39] → s_write B (2 * d) kn tl w lg c = B c := fun c hc => s_write_oth _ _ _ _ _ _ hc
  have hN : B 29 0 (2 * d) = nI n := by rw [en]; exact (I.E.n _).1
  have nb := s_write_n B (2 * d) kn tl (w := w) (lg := lg) hN (by omega)
  have elg' := s_write_lg B (2 * d) kn tl (w := w) hlg
  refine ⟨?_, ?_, ?_, ⟨?_, ?_⟩, ?_, ⟨?_, ?_⟩⟩
  · refine h.C.cg (fun c hc => a1 c (fun z => by revert c; decide)) (fun c hc => by rw [b1 c (fun z => by revert c; decide)]) (fun k _ _ => by rw [a1 0 (by decide)]) (fun k _ _ => s_write_0k _ _ _ _ _ _ (by omega) (by omega)) ?_
    · rw [s_write_0, va_up_ne _ _ (by decide), va_up_self]
      unfold z_L_send_5
      rw [p_radd_5_6, p_radd_7 _ hw]
  · have c8 : p_col (z_L_send_5 A d g n w kn tl) 8 2 = va_up (p_col A 8 2) d (nI (n + 1)) := by
      funext i; unfold p_col; rw [a2 8 (by decide) (by decide)]
      by_cases hi : i = d
      · subst hi; rw [va_up_self, (p_wr_5_ls A i g n kn tl hg hn).2]
      · rw [va_up_ne _ _ hi, p_wr_5_l _ _ _ _ _ _ hi]
    refine ⟨?_, ?_, ?_, ?_, ?_, ?_⟩
    · rw [p_col_kd (a1 5 (by decide)), b1 30 (by decide)]; exact h.E.s
    · rw [p_col_kd (a1 5 (by decide)), b1 31 (by decide)]; exact h.E.a
    · rw [c8, s_write_29]
      funext x
      by_cases hx : x = d
      · subst hx; rw [va_up_self, va_up_self, hN, nI_1]
      · rw [va_up_ne _ _ hx, va_up_ne _ _ (by omega), h.E.n]
    · rw [p_col_kd (a1 15 (by decide)), b1 30 (by decide)]; exact h.E.s'
    · rw [p_col_kd (a1 15 (by decide)), b1 31 (by decide)]; exact h.E.a'
    · rw [p_col_kd (a1 16 (by decide)), s_write_29]
      funext x
      rw [va_up_ne _ _ (by omega), h.E.n']
  · exact h.D.cg (fun c hc i => by rw [a1 c (fun z => by revert c; decide)]) (fun c hc => by rw [b1 c (fun z => by revert c; decide)]) (fun k _ _ => s_write_0k _ _ _ _ _ _ (by omega) (by omega))
  · intro j d' k hj hk h32 h33 hd'
    rw [elg'] at hj
    rw [s_write_32] at h32
    rw [s_write_33] at h33
    rw [s_write_s, s_write_36, a2 6 (by decide) (by decide), p_wr_5_t A d g n kn tl h0]
    unfold p_lt
    rw [s_write_33, s_write_34, s_write_35, a2 6 (by decide) (by decide), p_wr_5_t A d g n kn tl h0]
    by_cases hj2 : j = lg
    · subst hj2
      rw [va_up_self] at h32 h33
      rw [hN, nI_1] at h33
      have e1 := (nI_eq (by omega) (by omega)).mp h32
      have e2 := (nI_eq (by omega) (by omega)).mp h33
      have : d' = d := by omega
      subst this
      have : k = n := by omega
      subst this
      simp only [va_up_self]
      refine ⟨⟨?_, rfl, rfl⟩, fun _ => rfl⟩
      rw [hN, nI_1]; rfl
    · rw [va_up_ne _ _ hj2] at h32 h33
      have ne : 512 * d' + k ≠ 512 * d + n := by
        intro z
        have : d' = d := by omega
        subst this
        obtain ⟨e9, k9, h6, h7, h8, h9⟩ := I.G.i j (by omega)
        have b9 := (I.E.n e9).2
        have b8 := I.S.hq
        rw [h32] at h8
        rw [h33] at h9
        have := (nI_eq (by omega) (by omega)).mp h8
        subst this
        have := (nI_eq (by omega) (by omega)).mp h9
        omega
      rw [va_up_ne _ _ hj2, va_up_ne _ _ hj2, va_up_ne _ _ hj2, va_up_ne _ _ hj2, va_up_ne _ _ ne]
      exact h.T.t j d' k (by omega) hk h32 h33 hd'
  · intro j d' k hj hk h32 h33 hd'
    rw [elg'] at hj
    rw [s_write_32] at h32
    rw [s_write_33] at h33
    rw [s_write_s, s_write_36, a1 19 (by decide)]
    unfold p_lt
    rw [s_write_33, s_write_34, s_write_35, a1 19 (by decide)]
    by_cases hj2 : j = lg
    · subst hj2
      rw [va_up_self] at h32
      have e1 := (nI_eq (by omega) (by omega)).mp h32
      omega
    · rw [va_up_ne _ _ hj2] at h32 h33
      rw [va_up_ne _ _ hj2, va_up_ne _ _ hj2, va_up_ne _ _ hj2, va_up_ne _ _ hj2]
      exact h.T.t' j d' k (by omega) hk h32 h33 hd'
  · intro i hi
    rw [s_write_wt _ _ _ _ hw] at hi
    have e12 : z_L_send_5 A d g n w kn tl 12 0 = p_radd (z_Side_write_5 A d g n kn tl) w (A 5 d 0) (A 5 d 1) (A 5 d 2) (nI (n + 1)) (A 5 d 4) kn tl 12 0 := by
      unfold z_L_send_5
      rw [p_radd_5_6, p_wr_5_t A d g n kn tl h0, p_wr_5_oth A d g n kn tl (c := 5) (by decide) (by decide) (by decide), va_up_self]
      rfl
    rw [e12, s_write_row _ _ _ _ _ _ (by decide), s_write_row _ _ _ _ _ _ (by decide), s_write_row _ _ _ _ _ _ (by decide)]
    have eb : ∀ c, c = 37 ∨ c = 38 ∨ c = 39 → p_wb B (2 * d) kn tl lg c 0 = B c 0 := fun c hc => by rcases hc with rfl | rfl | rfl <;> simp [p_wb, p_row_up]
    have e30 : p_wb B (2 * d) kn tl lg 30 0 = B 30 0 := by simp [p_wb, p_row_up]
    refine RlR.lay hw (fun i hi k hk => ?_) (fun k hk => ?_) i hi
    · rw [eb _ (by simp), eb _ (by simp), eb _ (by simp), p_wr_5_oth _ _ _ _ _ _ (by decide) (by decide) (by decide)]
      rw [p_let_cg (I.W i (by omega)) I.L (fun l _ => by rw [b1 11 (by decide)]) (fun c hc j hj => ?_) (by omega), h.R i (by omega) k hk]
      rcases hc with rfl | rfl | rfl
      · rw [s_write_33, va_up_ne _ _ (by omega)]
      · rw [s_write_34, va_up_ne _ _ (by omega)]
      · rw [s_write_35, va_up_ne _ _ (by omega)]
    · have D := h.D.dl d hd
      have e1 : (nI (2 * d)).toNatClampNeg = 2 * d := nI_clamp (by omega)
      have e2 : (nI lg).toNatClampNeg = lg := nI_clamp (by omega)
      have e3 : ¬ nI lg = (-1) := nI_m1 (by omega)
      rw [e30]
      unfold p_let p_v7
      rw [e1, e2, if_neg e3, if_neg e3, if_neg e3, b1 11 (by decide), s_write_33, s_write_34, s_write_35, va_up_self, va_up_self, va_up_self, hN, nI_1, D.h1, D.h2, D.h3, show (2 * d) / 12 = d / 6 by omega, show (2 * d) / 2 % 6 = d % 6 by omega, if_pos (show (2 * d) % 2 = 0 by omega), if_pos (show (2 * d) % 2 = 0 by omega)]
      have := congrFun h.E.s d
      rw [show A 5 d 4 = B 30 0 (2 * d) from this]
  · intro d' hd'
    rw [b1 22 (by decide)] at hd'
    rw [nb]
    by_cases hx : d' = d
    · subst hx
      rw [if_pos rfl]
      refine ⟨p_g1 g n, ?_⟩
      have := (p_wr_5_ls A d' g n kn tl hg hn).1
      unfold p_ls at this ⊢
      rw [a2 8 (by decide) (by decide), a2 14 (by decide) (by decide)]; exact this
    · rw [if_neg (by omega)]
      obtain ⟨g9, h1, h2, h3, h4⟩ := h.G.g d' hd'
      have hg1 : p_g1 g n ≤ 12 := by have := hg.1; unfold p_g1; split <;> omega
      refine ⟨g9, h1, h2, ?_, ?_⟩
      · rw [a2 8 (by decide) (by decide), p_wr_5_l _ _ _ _ _ _ hx]; exact h3
      · rw [a2 14 (by decide) (by decide), p_wr_5_k _ _ _ _ _ _ (by omega)]; exact h4
  · intro d' hd'
    rw [b1 22 (by decide)] at hd'
    rw [nb, if_neg (by omega)]
    obtain ⟨g9, h1, h2, h3, h4⟩ := h.G.g' d' hd'
    refine ⟨g9, h1, h2, ?_, ?_⟩
    · rw [a1 16 (by decide)]; exact h3
    · rw [a1 20 (by decide)]; exact h4

theorem Rl.send15 {A B : ew_R} {q : Nat} (h : Rl A B) (I : RfI B q) {d g n w lg : Nat} (hd : ¬ B 22 0 d = 0) (h192 : d < 192) (en : n = p_n B (2 * d + 1)) (ew : w = wtB B) (elg : lg = lgB B) (hg : p_ls 16 20 A d g n) (hn : n < 512) (kn tl : Int32) : Rl (z_L_send_15 A d g n w kn tl) (s_write B (2 * d + 1) kn tl w lg) := by
  have hlg : lg ≤ 3000 := by have := I.S.lg.2; have := I.S.hq; omega
  have hw : w ≤ 64 := by have := I.S.w.2; omega
  have h0 : g = 0 → n = 0 ∨ n < capG g := fun h => by left; have := hg.2.1; rw [h] at this; exact Nat.le_zero.mp this
  have a1 : ∀ c, c ∉ [7, 12, 19, 16, 20] → z_L_send_15 A d g n w kn tl c = A c := by
    intro c hc
    simp only [List.mem_cons, List.not_mem_nil, or_false, not_or] at hc
    obtain ⟨h7, h12, h6, h8, h14⟩ := hc
    unfold z_L_send_15
    rw [p_radd_15_19, p_radd_oth _ _ _ _ _ _ _ _ _ h12 h7, p_wr_15_oth _ _ _ _ _ _ h6 h8 h14]
  have a2 : ∀ c, c ≠ 7 → c ≠ 12 → z_L_send_15 A d g n w kn tl c = z_Side_write_15 A d g n kn tl c := by
    intro c h7 h12
    unfold z_L_send_15
    rw [p_radd_15_19, p_radd_oth _ _ _ _ _ _ _ _ _ h12 h7]
  have b1 : ∀ c, c ∉ [0, 29, 32, 33, 34, 35, 36, 37, 38, 39] → s_write B (2 * d + 1) kn tl w lg c = B c := fun c hc => s_write_oth _ _ _ _ _ _ hc
  have hN : B 29 0 (2 * d + 1) = nI n := by rw [en]; exact (I.E.n _).1
  have nb := s_write_n B (2 * d + 1) kn tl (w := w) (lg := lg) hN (by omega)
  have elg' := s_write_lg B (2 * d + 1) kn tl (w := w) hlg
  refine ⟨?_, ?_, ?_, ⟨?_, ?_⟩, ?_, ⟨?_, ?_⟩⟩
  · refine h.C.cg (fun c hc => a1 c (fun z => by revert c; decide)) (fun c hc => by rw [b1 c (fun z => by revert c; decide)]) (fun k _ _ => by rw [a1 0 (by decide)]) (fun k _ _ => s_write_0k _ _ _ _ _ _ (by omega) (by omega)) ?_
    · rw [s_write_0, va_up_ne _ _ (by decide), va_up_self]
      unfold z_L_send_15
      rw [p_radd_15_19, p_radd_7 _ hw]
  · have c8 : p_col (z_L_send_15 A d g n w kn tl) 16 2 = va_up (p_col A 16 2) d (nI (n + 1)) := by
      funext i; unfold p_col; rw [a2 16 (by decide) (by decide)]
      by_cases hi : i = d
      · subst hi; rw [va_up_self, (p_wr_15_ls A i g n kn tl hg hn).2]
      · rw [va_up_ne _ _ hi, p_wr_15_l _ _ _ _ _ _ hi]
    refine ⟨?_, ?_, ?_, ?_, ?_, ?_⟩
    · rw [p_col_kd (a1 5 (by decide)), b1 30 (by decide)]; exact h.E.s
    · rw [p_col_kd (a1 5 (by decide)), b1 31 (by decide)]; exact h.E.a
    · rw [p_col_kd (a1 8 (by decide)), s_write_29]
      funext x
      rw [va_up_ne _ _ (by omega), h.E.n]
    · rw [p_col_kd (a1 15 (by decide)), b1 30 (by decide)]; exact h.E.s'
    · rw [p_col_kd (a1 15 (by decide)), b1 31 (by decide)]; exact h.E.a'
    · rw [c8, s_write_29]
      funext x
      by_cases hx : x = d
      · subst hx; rw [va_up_self, va_up_self, hN, nI_1]
      · rw [va_up_ne _ _ hx, va_up_ne _ _ (by omega), h.E.n']
  · exact h.D.cg (fun c hc i => by rw [a1 c (fun z => by revert c; decide)]) (fun c hc => by rw [b1 c (fun z => by revert c; decide)]) (fun k _ _ => s_write_0k _ _ _ _ _ _ (by omega) (by omega))
  · intro j d' k hj hk h32 h33 hd'
    rw [elg'] at hj
    rw [s_write_32] at h32
    rw [s_write_33] at h33
    rw [s_write_s, s_write_36, a1 6 (by decide)]
    unfold p_lt
    rw [s_write_33, s_write_34, s_write_35, a1 6 (by decide)]
    by_cases hj2 : j = lg
    · subst hj2
      rw [va_up_self] at h32
      have e1 := (nI_eq (by omega) (by omega)).mp h32
      omega
    · rw [va_up_ne _ _ hj2] at h32 h33
      rw [va_up_ne _ _ hj2, va_up_ne _ _ hj2, va_up_ne _ _ hj2, va_up_ne _ _ hj2]
      exact h.T.t j d' k (by omega) hk h32 h33 hd'
  · intro j d' k hj hk h32 h33 hd'
    rw [elg'] at hj
    rw [s_write_32] at h32
    rw [s_write_33] at h33
    rw [s_write_s, s_write_36, a2 19 (by decide) (by decide), p_wr_15_t A d g n kn tl h0]
    unfold p_lt
    rw [s_write_33, s_write_34, s_write_35, a2 19 (by decide) (by decide), p_wr_15_t A d g n kn tl h0]
    by_cases hj2 : j = lg
    · subst hj2
      rw [va_up_self] at h32 h33
      rw [hN, nI_1] at h33
      have e1 := (nI_eq (by omega) (by omega)).mp h32
      have e2 := (nI_eq (by omega) (by omega)).mp h33
      have : d' = d := by omega
      subst this
      have : k = n := by omega
      subst this
      simp only [va_up_self]
      refine ⟨⟨?_, rfl, rfl⟩, fun _ => rfl⟩
      rw [hN, nI_1]; rfl
    · rw [va_up_ne _ _ hj2] at h32 h33
      have ne : 512 * d' + k ≠ 512 * d + n := by
        intro z
        have : d' = d := by omega
        subst this
        obtain ⟨e9, k9, h6, h7, h8, h9⟩ := I.G.i j (by omega)
        have b9 := (I.E.n e9).2
        have b8 := I.S.hq
        rw [h32] at h8
        rw [h33] at h9
        have := (nI_eq (by omega) (by omega)).mp h8
        subst this
        have := (nI_eq (by omega) (by omega)).mp h9
        omega
      rw [va_up_ne _ _ hj2, va_up_ne _ _ hj2, va_up_ne _ _ hj2, va_up_ne _ _ hj2, va_up_ne _ _ ne]
      exact h.T.t' j d' k (by omega) hk h32 h33 hd'
  · intro i hi
    rw [s_write_wt _ _ _ _ hw] at hi
    have e12 : z_L_send_15 A d g n w kn tl 12 0 = p_radd (z_Side_write_15 A d g n kn tl) w (A 15 d 0) (A 15 d 1) (A 15 d 2) (nI (n + 1)) (A 15 d 4) kn tl 12 0 := by
      unfold z_L_send_15
      rw [p_radd_15_19, p_wr_15_t A d g n kn tl h0, p_wr_15_oth A d g n kn tl (c := 15) (by decide) (by decide) (by decide), va_up_self]
      rfl
    rw [e12, s_write_row _ _ _ _ _ _ (by decide), s_write_row _ _ _ _ _ _ (by decide), s_write_row _ _ _ _ _ _ (by decide)]
    have eb : ∀ c, c = 37 ∨ c = 38 ∨ c = 39 → p_wb B (2 * d + 1) kn tl lg c 0 = B c 0 := fun c hc => by rcases hc with rfl | rfl | rfl <;> simp [p_wb, p_row_up]
    have e30 : p_wb B (2 * d + 1) kn tl lg 30 0 = B 30 0 := by simp [p_wb, p_row_up]
    refine RlR.lay hw (fun i hi k hk => ?_) (fun k hk => ?_) i hi
    · rw [eb _ (by simp), eb _ (by simp), eb _ (by simp), p_wr_15_oth _ _ _ _ _ _ (by decide) (by decide) (by decide)]
      rw [p_let_cg (I.W i (by omega)) I.L (fun l _ => by rw [b1 11 (by decide)]) (fun c hc j hj => ?_) (by omega), h.R i (by omega) k hk]
      rcases hc with rfl | rfl | rfl
      · rw [s_write_33, va_up_ne _ _ (by omega)]
      · rw [s_write_34, va_up_ne _ _ (by omega)]
      · rw [s_write_35, va_up_ne _ _ (by omega)]
    · have D := h.D.dl d hd
      have e1 : (nI (2 * d + 1)).toNatClampNeg = 2 * d + 1 := nI_clamp (by omega)
      have e2 : (nI lg).toNatClampNeg = lg := nI_clamp (by omega)
      have e3 : ¬ nI lg = (-1) := nI_m1 (by omega)
      rw [e30]
      unfold p_let p_v7
      rw [e1, e2, if_neg e3, if_neg e3, if_neg e3, b1 11 (by decide), s_write_33, s_write_34, s_write_35, va_up_self, va_up_self, va_up_self, hN, nI_1, D.h4, D.h5, D.h6, show (2 * d + 1) / 12 = d / 6 by omega, show (2 * d + 1) / 2 % 6 = d % 6 by omega, if_neg (show ¬ (2 * d + 1) % 2 = 0 by omega), if_neg (show ¬ (2 * d + 1) % 2 = 0 by omega)]
      have := congrFun h.E.s' d
      rw [show A 15 d 4 = B 30 0 (2 * d + 1) from this]
  · intro d' hd'
    rw [b1 22 (by decide)] at hd'
    rw [nb, if_neg (by omega)]
    obtain ⟨g9, h1, h2, h3, h4⟩ := h.G.g d' hd'
    refine ⟨g9, h1, h2, ?_, ?_⟩
    · rw [a1 8 (by decide)]; exact h3
    · rw [a1 14 (by decide)]; exact h4
  · intro d' hd'
    rw [b1 22 (by decide)] at hd'
    rw [nb]
    by_cases hx : d' = d
    · subst hx
      rw [if_pos rfl]
      refine ⟨p_g1 g n, ?_⟩
      have := (p_wr_15_ls A d' g n kn tl hg hn).1
      unfold p_ls at this ⊢
      rw [a2 16 (by decide) (by decide), a2 20 (by decide) (by decide)]; exact this
    · rw [if_neg (by omega)]
      obtain ⟨g9, h1, h2, h3, h4⟩ := h.G.g' d' hd'
      have hg1 : p_g1 g n ≤ 12 := by have := hg.1; unfold p_g1; split <;> omega
      refine ⟨g9, h1, h2, ?_, ?_⟩
      · rw [a2 16 (by decide) (by decide), p_wr_15_l _ _ _ _ _ _ hx]; exact h3
      · rw [a2 20 (by decide) (by decide), p_wr_15_k _ _ _ _ _ _ (by omega)]; exact h4
