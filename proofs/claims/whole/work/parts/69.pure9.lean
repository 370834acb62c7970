/-! Rows laid again, taken out; letters found -/
theorem Rl.row {A A' B B' : ew_R} (h : Rl A B) (ha : ∀ c, c ≠ 7 → c ≠ 12 → A' c = A c) (hb : ∀ c, c ≠ 37 → c ≠ 38 → c ≠ 39 → c ≠ 0 → B' c = B c) (b0 : ∀ k, k ≠ 4 → B' 0 0 k = B 0 0 k) (hw : A' 7 0 1 = B' 0 0 4) (R : RlR A' B') : Rl A' B' := by
  refine ⟨h.C.cg (fun c hc => ha c (by revert c; decide) (by revert c; decide)) (fun c hc => by rw [hb c (by revert c; decide) (by revert c; decide) (by revert c; decide) (by revert c; decide)]) (fun k _ _ => by rw [ha 0 (by decide) (by decide)]) (fun k _ _ => b0 k (by omega)) hw, h.E.cg (fun c hc => ha c (by revert c; decide) (by revert c; decide)) (fun c hc => by rw [hb c (by revert c; decide) (by revert c; decide) (by revert c; decide) (by revert c; decide)]), h.D.cg (fun c hc i => by rw [ha c (by revert c; decide) (by revert c; decide)]) (fun c hc => by rw [hb c (by revert c; decide) (by revert c; decide) (by revert c; decide) (by revert c; decide)]) (fun k _ _ => b0 k (by omega)),
    h.T.cg (ha 6 (by decide) (by decide)) (ha 19 (by decide) (by decide)) (fun c hc => by rw [hb c (by revert c; decide) (by revert c; decide) (by revert c; decide) (by revert c; decide)]) (b0 5 (by decide)) (fun e => by simp only [p_s, hb 30 (by decide) (by decide) (by decide) (by decide)]; exact Nat.le_refl _), R, h.G.cg (fun c hc => ha c (by revert c; decide) (by revert c; decide)) (by rw [hb 22 (by decide) (by decide) (by decide) (by decide)]) (by rw [hb 29 (by decide) (by decide) (by decide) (by decide)])⟩
theorem Rl.radd {A B : ew_R} {q : Nat} (h : Rl A B) (I : RfI B q) {w en : Nat} (ew : w = wtB B) {lt v0 v1 v2 v3 v4 v5 v6 : Int32} (hn : ∀ k, k < 7 → p_v7 v0 v1 v2 v3 v4 v5 v6 k = p_let B lt (nI en) (B 30 0 en) k) : Rl (p_radd A w v0 v1 v2 v3 v4 v5 v6) (s_lay B lt en w) := by
  have hw : w ≤ 64 := by have := I.S.w.2; omega
  refine h.row (fun c h7 h12 => p_radd_oth _ _ _ _ _ _ _ _ _ h12 h7) (fun c a b d e => s_lay_oth _ _ _ _ a b d e) (fun k hk => s_lay_0k _ _ _ _ hk) (by rw [p_radd_7 _ hw, s_lay_0, va_up_self]) ?_
  intro i hi
  rw [s_lay_wt _ _ _ hw] at hi
  have hl : ∀ x y z k, p_let (s_lay B lt en w) x y z k = p_let B x y z k := fun x y z k => by
    unfold p_let; rw [s_lay_oth _ _ _ _ (by decide) (by decide) (by decide) (by decide), s_lay_oth _ _ _ _ (by decide) (by decide) (by decide) (by decide), s_lay_oth _ _ _ _ (by decide) (by decide) (by decide) (by decide), s_lay_oth _ _ _ _ (by decide) (by decide) (by decide) (by decide)]
  intro k hk
  rw [hl]
  exact RlR.lay hw (fun i hi k hk => h.R i (by omega) k hk) hn i hi k hk
theorem Rl.drop {A B : ew_R} {q : Nat} (h : Rl A B) (I : RfI B q) {w i : Nat} (ew : w = wtB B) (hi : i < w) : Rl (z_Row_remove_ok A i w).2 (s_takeOut B i w) := by
  have hw : w ≤ 64 := by have := I.S.w.2; omega
  have ew' : wtB (s_takeOut B i w) = w - 1 := by unfold wtB; rw [s_takeOut_0, va_up_self, nI_clamp (by omega)]
  show Rl (upr (up3 A 7 0 1 (nI (w - 1))) 12 0 (va_cpy ((up3 A 7 0 1 (nI (w - 1))) 12 0) ((up3 A 7 0 1 (nI (w - 1))) 12 0) ((i + 1) * 7) (i * 7) (((w - 1) - i) * 7))) _
  refine h.row (fun c h7 h12 => by rw [p_kd_upr _ _ _ h12, p_kd_up _ _ _ _ h7]) (fun c a b d e => s_takeOut_oth _ _ _ a b d e) (fun k hk => by rw [s_takeOut_0, va_up_ne _ _ hk]) (by rw [s_takeOut_0, va_up_self, p_kd_upr _ _ _ (by decide), up3_self]) ?_
  intro k hk m hm
  rw [ew'] at hk
  have hl : ∀ x y z k, p_let (s_takeOut B i w) x y z k = p_let B x y z k := fun x y z k => by
    unfold p_let; rw [s_takeOut_oth _ _ _ (by decide) (by decide) (by decide) (by decide), s_takeOut_oth _ _ _ (by decide) (by decide) (by decide) (by decide), s_takeOut_oth _ _ _ (by decide) (by decide) (by decide) (by decide), s_takeOut_oth _ _ _ (by decide) (by decide) (by decide) (by decide)]
  rw [hl, s_takeOut_row _ _ _ (by simp) k hk hi, s_takeOut_row _ _ _ (by simp) k hk hi, s_takeOut_row _ _ _ (by simp) k hk hi, ← h.R _ (by split <;> omega) m hm]
  show upr _ 12 0 _ 12 0 _ = _
  simp only [upr, va_up_self, va_cpy]
  rw [p_kd_up _ _ _ _ (by decide)]
  by_cases hik : i ≤ k
  · rw [if_pos (by omega), if_pos hik]; congr 1; omega
  · rw [if_neg (by omega), if_neg hik]
/-- find -/
theorem s_fd_yes {A : ew_R} {en nn : Int32} {j : Nat} (h1 : A 32 0 j = en) (h2 : A 33 0 j = nn) : ∀ r k, k ≤ j → j < k + r → (∀ i, k ≤ i → i < j → ¬ (A 32 0 i = en ∧ A 33 0 i = nn)) → s_fd A en nn r k = nI j
  | 0, k, hk, hj, _ => by omega
  | r + 1, k, hk, hj, hi => by
    show (if A 32 0 k = en then (if A 33 0 k = nn then nI k else s_fd A en nn r (k + 1)) else s_fd A en nn r (k + 1)) = _
    by_cases hkj : k = j
    · subst hkj; rw [if_pos h1, if_pos h2]
    · have ih := s_fd_yes h1 h2 r (k + 1) (by omega) (by omega) (fun i a b => hi i (by omega) b)
      have := hi k (Nat.le_refl _) (by omega)
      split
      · split
        · rename_i a b; exact absurd ⟨a, b⟩ this
        · exact ih
      · exact ih
theorem s_fd_no {A : ew_R} {en nn : Int32} : ∀ r k, (∀ i, k ≤ i → i < k + r → ¬ (A 32 0 i = en ∧ A 33 0 i = nn)) → s_fd A en nn r k = (-1)
  | 0, k, _ => rfl
  | r + 1, k, hi => by
    show (if A 32 0 k = en then (if A 33 0 k = nn then nI k else s_fd A en nn r (k + 1)) else s_fd A en nn r (k + 1)) = _
    have ih := s_fd_no (A := A) (en := en) (nn := nn) r (k + 1) (fun i a b => hi i (by omega) (by omega))
    have := hi k (Nat.le_refl _) (by omega)
    split
    · split
      · rename_i a b; exact absurd ⟨a, b⟩ this
      · exact ih
    · exact ih
theorem RfI.find {B : ew_R} {q : Nat} (h : RfI B q) {e k : Nat} (hk : k < p_n B e) : ∃ j, j < lgB B ∧ B 32 0 j = nI e ∧ B 33 0 j = nI (k + 1) ∧ s_find B (nI e) (nI (k + 1)) (lgB B) = nI j := by
  obtain ⟨j, h1, h2, h3⟩ := h.G.e e k hk
  refine ⟨j, h1, h2, h3, s_fd_yes h2 h3 _ 0 (by omega) (by omega) (fun i _ hi hh => ?_)⟩
  have := h.G.u i j (by omega) h1 (hh.1.trans h2.symm) (hh.2.trans h3.symm)
  omega
theorem RfI.nofind {B : ew_R} {q : Nat} (h : RfI B q) {e k : Nat} (he : e < 384) (hk : p_n B e ≤ k) (hk2 : k < 3000) : s_find B (nI e) (nI (k + 1)) (lgB B) = (-1) := by
  refine s_fd_no _ 0 (fun i _ hi hh => ?_)
  obtain ⟨e', k', h1, h2, h3, h4⟩ := h.G.i i (by omega)
  have hq := h.S.hq
  have hn := (h.E.n e').2
  rw [hh.1] at h3
  rw [hh.2] at h4
  have := (nI_eq (by omega) (by omega)).mp h3
  subst this
  have := (nI_eq (by omega) (by omega)).mp h4
  omega

/-- letters laid again -/
theorem p_let_5 {A B : ew_R} {q : Nat} (h : Rl A B) (I : RfI B q) {d k j : Nat} (hd : ¬ B 22 0 d = 0) (h192 : d < 192) (hk : k < 512) (hj : j < lgB B) (h32 : B 32 0 j = nI (2 * d)) (h33 : B 33 0 j = nI (k + 1)) : ∀ m, m < 7 → p_v7 (A 5 d 0) (A 5 d 1) (A 5 d 2) (A 6 (512 * d + k) 0) (A 5 d 4) (A 6 (512 * d + k) 1) (A 6 (512 * d + k) 2) m = p_let B (nI j) (nI (2 * d)) (B 30 0 (2 * d)) m := by
  intro m hm
  have hlg : lgB B ≤ 3000 := by have := I.S.lg.2; have := I.S.hq; omega
  have D := h.D.dl d hd
  obtain ⟨t0, t1, t2⟩ := (h.T.t j d k hj hk h32 h33 h192).1
  have e1 : (nI (2 * d)).toNatClampNeg = 2 * d := nI_clamp (by omega)
  have e2 : (nI j).toNatClampNeg = j := nI_clamp (by omega)
  have e3 : ¬ nI j = (-1) := nI_m1 (by omega)
  unfold p_let p_v7
  rw [e1, e2, if_neg e3, if_neg e3, if_neg e3, t0, t1, t2, D.h1, D.h2, D.h3, show (2 * d) / 12 = d / 6 by omega, show (2 * d) / 2 % 6 = d % 6 by omega, if_pos (show (2 * d) % 2 = 0 by omega), if_pos (show (2 * d) % 2 = 0 by omega), show A 5 d 4 = B 30 0 (2 * d) from congrFun h.E.s d]
theorem p_bare_5 {A B : ew_R} (h : Rl A B) {d : Nat} (hd : ¬ B 22 0 d = 0) (h192 : d < 192) : ∀ m, m < 7 → p_v7 (A 5 d 0) (A 5 d 1) (A 5 d 2) (A 18 0 0) (A 5 d 4) (A 18 0 1) (A 18 0 2) m = p_let B (-1) (nI (2 * d)) (B 30 0 (2 * d)) m := by
  intro m hm
  have D := h.D.dl d hd
  have e1 : (nI (2 * d)).toNatClampNeg = 2 * d := nI_clamp (by omega)
  unfold p_let p_v7
  simp only [if_true]
  rw [e1, h.C.bare.1, h.C.bare.2.1, h.C.bare.2.2, D.h1, D.h2, D.h3, show (2 * d) / 12 = d / 6 by omega, show (2 * d) / 2 % 6 = d % 6 by omega, if_pos (show (2 * d) % 2 = 0 by omega), if_pos (show (2 * d) % 2 = 0 by omega), show A 5 d 4 = B 30 0 (2 * d) from congrFun h.E.s d]
/-- one more letter seen -/
theorem Rl.seen5 {A B : ew_R} {q : Nat} (h : Rl A B) (I : RfI B q) {d : Nat} (hb : p_s B (2 * d) < 600) : Rl (up3 A 5 d 4 (A 5 d 4 + 1)) (up3 B 30 0 (2 * d) (B 30 0 (2 * d) + 1)) := by
  have a1 : ∀ c, c ≠ 5 → up3 A 5 d 4 (A 5 d 4 + 1) c = A c := fun c hc => p_kd_up _ _ _ _ hc
  have b1 : ∀ c, c ≠ 30 → up3 B 30 0 (2 * d) (B 30 0 (2 * d) + 1) c = B c := fun c hc => p_kd_up _ _ _ _ hc
  have es : ∀ e, p_s B e ≤ p_s (up3 B 30 0 (2 * d) (B 30 0 (2 * d) + 1)) e := by
    intro e; unfold p_s; rw [p_row_up, if_pos ⟨rfl, rfl⟩]
    by_cases he : e = 2 * d
    · subst he
      have := I.E.s (2 * d)
      rw [va_up_self, this, nI_1]
      unfold p_s at *
      rw [nI_clamp (by omega), nI_clamp (by omega)]; omega
    · rw [va_up_ne _ _ he]; exact Nat.le_refl _
  refine ⟨h.C.cg (fun c hc => a1 c (by revert c; decide)) (fun c hc => by rw [b1 c (by revert c; decide)]) (fun k _ _ => by rw [a1 0 (by decide)]) (fun k _ _ => by rw [b1 0 (by decide)]) (by rw [a1 7 (by decide), b1 0 (by decide)]; exact h.C.w), ⟨?_, ?_, ?_, ?_, ?_, ?_⟩, ⟨fun l hl => ?_, fun d' hd' => ?_, fun c hc => ?_, fun l hl => ?_⟩, h.T.cg (a1 6 (by decide)) (a1 19 (by decide)) (fun c hc => by rw [b1 c (by revert c; decide)]) (by rw [b1 0 (by decide)]) es, h.R.cg (by rw [a1 12 (by decide)]) (fun c hc => by rw [b1 c (by revert c; decide)]) (by rw [b1 0 (by decide)]), h.G.cg (fun c hc => a1 c (by revert c; decide)) (by rw [b1 22 (by decide)]) (by rw [b1 29 (by decide)])⟩
  · rw [p_col_up, if_pos ⟨rfl, rfl⟩, p_row_up, if_pos ⟨rfl, rfl⟩]
    funext x
    by_cases hx : x = d
    · subst hx; rw [va_up_self, va_up_self]; rw [show A 5 x 4 = B 30 0 (2 * x) from congrFun h.E.s x]
    · rw [va_up_ne _ _ hx, va_up_ne _ _ (by omega), h.E.s]
  · rw [p_col_up, if_neg (by decide), b1 31 (by decide)]; exact h.E.a
  · rw [p_col_kd (a1 8 (by decide)), b1 29 (by decide)]; exact h.E.n
  · rw [p_col_kd (a1 15 (by decide)), p_row_up, if_pos ⟨rfl, rfl⟩]
    funext x
    rw [va_up_ne _ _ (by omega), h.E.s']
  · rw [p_col_kd (a1 15 (by decide)), b1 31 (by decide)]; exact h.E.a'
  · rw [p_col_kd (a1 16 (by decide)), b1 29 (by decide)]; exact h.E.n'
  · rw [a1 2 (by decide)]; simp only [p_k]; rw [b1 16 (by decide)]; exact h.D.ln l (by simpa [p_l, b1] using hl)
  · rw [b1 22 (by decide)] at hd'
    have := h.D.dl d' hd'
    exact ⟨by rw [a1 4 (by decide)]; exact this.h0, by rw [up3_ne _ _ (by omega)]; exact this.h1, by rw [up3_ne _ _ (by omega), b1 11 (by decide)]; exact this.h2, by rw [up3_ne _ _ (by omega)]; exact this.h3, by rw [up3_ne _ _ (by omega)]; exact this.h4, by rw [up3_ne _ _ (by omega)]; exact this.h5, by rw [up3_ne _ _ (by omega), b1 11 (by decide)]; exact this.h6⟩
  · rw [a1 9 (by decide)]; simp only [p_c]; rw [b1 0 (by decide)]; exact h.D.f9 c hc
  · rw [a1 10 (by decide)]; simp only [p_l]; rw [b1 0 (by decide)]; exact h.D.f10 l hl
theorem Rl.acked5 {A B : ew_R} (h : Rl A B) {d : Nat} (v : Int32) : Rl (up3 A 5 d 5 v) (up3 B 31 0 (2 * d) v) := by
  have a1 : ∀ c, c ≠ 5 → up3 A 5 d 5 v c = A c := fun c hc => p_kd_up _ _ _ _ hc
  have b1 : ∀ c, c ≠ 31 → up3 B 31 0 (2 * d) v c = B c := fun c hc => p_kd_up _ _ _ _ hc
  refine ⟨h.C.cg (fun c hc => a1 c (by revert c; decide)) (fun c hc => by rw [b1 c (by revert c; decide)]) (fun k _ _ => by rw [a1 0 (by decide)]) (fun k _ _ => by rw [b1 0 (by decide)]) (by rw [a1 7 (by decide), b1 0 (by decide)]; exact h.C.w), ⟨?_, ?_, ?_, ?_, ?_, ?_⟩, ⟨fun l hl => ?_, fun d' hd' => ?_, fun c hc => ?_, fun l hl => ?_⟩, h.T.cg (a1 6 (by decide)) (a1 19 (by decide)) (fun c hc => by rw [b1 c (by revert c; decide)]) (by rw [b1 0 (by decide)]) (fun e => by unfold p_s; rw [b1 30 (by decide)]; exact Nat.le_refl _), h.R.cg (by rw [a1 12 (by decide)]) (fun c hc => by rw [b1 c (by revert c; decide)]) (by rw [b1 0 (by decide)]), h.G.cg (fun c hc => a1 c (by revert c; decide)) (by rw [b1 22 (by decide)]) (by rw [b1 29 (by decide)])⟩
  · rw [p_col_up, if_neg (by decide), b1 30 (by decide)]; exact h.E.s
  · rw [p_col_up, if_pos ⟨rfl, rfl⟩, p_row_up, if_pos ⟨rfl, rfl⟩]
    funext x
    by_cases hx : x = d
    · subst hx; rw [va_up_self, va_up_self]
    · rw [va_up_ne _ _ hx, va_up_ne _ _ (by omega), h.E.a]
  · rw [p_col_kd (a1 8 (by decide)), b1 29 (by decide)]; exact h.E.n
  · rw [p_col_kd (a1 15 (by decide)), b1 30 (by decide)]; exact h.E.s'
  · rw [p_col_kd (a1 15 (by decide)), p_row_up, if_pos ⟨rfl, rfl⟩]
    funext x
    rw [va_up_ne _ _ (by omega), h.E.a']
  · rw [p_col_kd (a1 16 (by decide)), b1 29 (by decide)]; exact h.E.n'
  · rw [a1 2 (by decide)]; simp only [p_k]; rw [b1 16 (by decide)]; exact h.D.ln l (by simpa [p_l, b1] using hl)
  · rw [b1 22 (by decide)] at hd'
    have := h.D.dl d' hd'
    exact ⟨by rw [a1 4 (by decide)]; exact this.h0, by rw [up3_ne _ _ (by omega)]; exact this.h1, by rw [up3_ne _ _ (by omega), b1 11 (by decide)]; exact this.h2, by rw [up3_ne _ _ (by omega)]; exact this.h3, by rw [up3_ne _ _ (by omega)]; exact this.h4, by rw [up3_ne _ _ (by omega)]; exact this.h5, by rw [up3_ne _ _ (by omega), b1 11 (by decide)]; exact this.h6⟩
  · rw [a1 9 (by decide)]; simp only [p_c]; rw [b1 0 (by decide)]; exact h.D.f9 c hc
  · rw [a1 10 (by decide)]; simp only [p_l]; rw [b1 0 (by decide)]; exact h.D.f10 l hl
/-- a letter of this side is held at its goal: it was taken before / it is new there -/
theorem Rl.held5o {A B : ew_R} (h : Rl A B) {d k : Nat} (hk : k < p_s B (2 * d + 1)) (hk2 : k < 512) : Rl (up3 A 6 (512 * d + k) 3 1) B := by
  have a1 : ∀ c, c ≠ 6 → up3 A 6 (512 * d + k) 3 1 c = A c := fun c hc => p_kd_up _ _ _ _ hc
  refine ⟨h.C.cg (fun c hc => a1 c (by revert c; decide)) (fun _ _ => rfl) (fun k _ _ => by rw [a1 0 (by decide)]) (fun _ _ _ => rfl) (by rw [a1 7 (by decide)]; exact h.C.w), h.E.cg (fun c hc => a1 c (by revert c; decide)) (fun _ _ => rfl), h.D.cg (fun c hc i => by rw [a1 c (by revert c; decide)]) (fun _ _ => rfl) (fun _ _ _ => rfl), ⟨fun j d' k' hj hk' h1 h2 h3 => ?_, fun j d' k' hj hk' h1 h2 h3 => ?_⟩, h.R.cg (by rw [a1 12 (by decide)]) (fun _ _ => rfl) rfl, h.G.cg (fun c hc => a1 c (by revert c; decide)) rfl rfl⟩
  · have := h.T.t j d' k' hj hk' h1 h2 h3
    unfold p_lt at this ⊢
    rw [up3_ne _ _ (by omega), up3_ne _ _ (by omega), up3_ne _ _ (by omega)]
    refine ⟨this.1, fun z => ?_⟩
    rw [up3_ne _ _ (fun y => ?_)]
    · exact this.2 z
    · have : d' = d := by omega
      subst this
      omega
  · have := h.T.t' j d' k' hj hk' h1 h2 h3
    unfold p_lt at this ⊢
    rw [a1 19 (by decide)]; exact this
theorem Rl.held5n {A B : ew_R} {q : Nat} (h : Rl A B) (I : RfI B q) {d k j : Nat} (h192 : d < 192) (hj : j < lgB B) (hk2 : k < 512) (h32 : B 32 0 j = nI (2 * d)) (h33 : B 33 0 j = nI (k + 1)) : Rl (up3 A 6 (512 * d + k) 3 1) (up3 B 36 0 j 1) := by
  have a1 : ∀ c, c ≠ 6 → up3 A 6 (512 * d + k) 3 1 c = A c := fun c hc => p_kd_up _ _ _ _ hc
  have b1 : ∀ c, c ≠ 36 → up3 B 36 0 j 1 c = B c := fun c hc => p_kd_up _ _ _ _ hc
  have el : lgB (up3 B 36 0 j 1) = lgB B := by unfold lgB; rw [b1 0 (by decide)]
  have es : p_s (up3 B 36 0 j 1) = p_s B := by funext e; unfold p_s; rw [b1 30 (by decide)]
  refine ⟨h.C.cg (fun c hc => a1 c (by revert c; decide)) (fun c hc => by rw [b1 c (by revert c; decide)]) (fun k _ _ => by rw [a1 0 (by decide)]) (fun k _ _ => by rw [b1 0 (by decide)]) (by rw [a1 7 (by decide), b1 0 (by decide)]; exact h.C.w), h.E.cg (fun c hc => a1 c (by revert c; decide)) (fun c hc => by rw [b1 c (by revert c; decide)]), h.D.cg (fun c hc i => by rw [a1 c (by revert c; decide)]) (fun c hc => by rw [b1 c (by revert c; decide)]) (fun k _ _ => by rw [b1 0 (by decide)]), ⟨fun j' d' k' hj' hk' h1 h2 h3 => ?_, fun j' d' k' hj' hk' h1 h2 h3 => ?_⟩, h.R.cg (by rw [a1 12 (by decide)]) (fun c hc => by rw [b1 c (by revert c; decide)]) (by rw [b1 0 (by decide)]), h.G.cg (fun c hc => a1 c (by revert c; decide)) (by rw [b1 22 (by decide)]) (by rw [b1 29 (by decide)])⟩
  · rw [b1 32 (by decide)] at h1
    rw [b1 33 (by decide)] at h2
    rw [el] at hj'
    have := h.T.t j' d' k' hj' hk' h1 h2 h3
    unfold p_lt at this ⊢
    rw [up3_ne A (k' := 0) _ (by omega), up3_ne A (k' := 1) _ (by omega), up3_ne A (k' := 2) _ (by omega), b1 33 (by decide), b1 34 (by decide), b1 35 (by decide), es]
    refine ⟨this.1, fun z => ?_⟩
    rw [p_row_up B 36 0 j 1 36 0, if_pos ⟨rfl, rfl⟩]
    by_cases hjj : j' = j
    · subst hjj
      rw [h32] at h1
      rw [h33] at h2
      have e1 := (nI_eq (by omega) (by omega)).mp h1
      have e2 := (nI_eq (by omega) (by omega)).mp h2
      have : d' = d := by omega
      subst this
      have : k' = k := by omega
      subst this
      rw [up3_self, va_up_self]
    · rw [va_up_ne _ _ hjj, up3_ne _ _ (fun y => hjj ?_)]
      · exact this.2 z
      · have : d' = d := by omega
        subst this
        have : k' = k := by omega
        subst this
        exact I.G.u j' j hj' hj (h1.trans h32.symm) (h2.trans h33.symm)
  · rw [b1 32 (by decide)] at h1
    rw [b1 33 (by decide)] at h2
    rw [el] at hj'
    have := h.T.t' j' d' k' hj' hk' h1 h2 h3
    unfold p_lt at this ⊢
    rw [a1 19 (by decide), b1 33 (by decide), b1 34 (by decide), b1 35 (by decide), es, p_row_up, if_pos ⟨rfl, rfl⟩]
    refine ⟨this.1, fun z => ?_⟩
    rw [va_up_ne _ _ (fun y => ?_)]
    · exact this.2 z
    · subst y
      rw [h32] at h1
      have e1 := (nI_eq (by omega) (by omega)).mp h1
      omega

/-- letters laid again -/
theorem p_let_15 {A B : ew_R} {q : Nat} (h : Rl A B) (I : RfI B q) {d k j : Nat} (hd : ¬ B 22 0 d = 0) (h192 : d < 192) (hk : k < 512) (hj : j < lgB B) (h32 : B 32 0 j = nI (2 * d + 1)) (h33 : B 33 0 j = nI (k + 1)) : ∀ m, m < 7 → p_v7 (A 15 d 0) (A 15 d 1) (A 15 d 2) (A 19 (512 * d + k) 0) (A 15 d 4) (A 19 (512 * d + k) 1) (A 19 (512 * d + k) 2) m = p_let B (nI j) (nI (2 * d + 1)) (B 30 0 (2 * d + 1)) m := by
  intro m hm
  have hlg : lgB B ≤ 3000 := by have := I.S.lg.2; have := I.S.hq; omega
  have D := h.D.dl d hd
  obtain ⟨t0, t1, t2⟩ := (h.T.t' j d k hj hk h32 h33 h192).1
  have e1 : (nI (2 * d + 1)).toNatClampNeg = 2 * d + 1 := nI_clamp (by omega)
  have e2 : (nI j).toNatClampNeg = j := nI_clamp (by omega)
  have e3 : ¬ nI j = (-1) := nI_m1 (by omega)
  unfold p_let p_v7
  rw [e1, e2, if_neg e3, if_neg e3, if_neg e3, t0, t1, t2, D.h4, D.h5, D.h6, show (2 * d + 1) / 12 = d / 6 by omega, show (2 * d + 1) / 2 % 6 = d % 6 by omega, if_neg (show ¬ (2 * d + 1) % 2 = 0 by omega), if_neg (show ¬ (2 * d + 1) % 2 = 0 by omega), show A 15 d 4 = B 30 0 (2 * d + 1) from congrFun h.E.s' d]
theorem p_bare_15 {A B : ew_R} (h : Rl A B) {d : Nat} (hd : ¬ B 22 0 d = 0) (h192 : d < 192) : ∀ m, m < 7 → p_v7 (A 15 d 0) (A 15 d 1) (A 15 d 2) (A 18 0 0) (A 15 d 4) (A 18 0 1) (A 18 0 2) m = p_let B (-1) (nI (2 * d + 1)) (B 30 0 (2 * d + 1)) m := by
  intro m hm
  have D := h.D.dl d hd
  have e1 : (nI (2 * d + 1)).toNatClampNeg = 2 * d + 1 := nI_clamp (by omega)
  unfold p_let p_v7
  simp only [if_true]
  rw [e1, h.C.bare.1, h.C.bare.2.1, h.C.bare.2.2, D.h4, D.h5, D.h6, show (2 * d + 1) / 12 = d / 6 by omega, show (2 * d + 1) / 2 % 6 = d % 6 by omega, if_neg (show ¬ (2 * d + 1) % 2 = 0 by omega), if_neg (show ¬ (2 * d + 1) % 2 = 0 by omega), show A 15 d 4 = B 30 0 (2 * d + 1) from congrFun h.E.s' d]
/-- one more letter seen -/
theorem Rl.seen15 {A B : ew_R} {q : Nat} (h : Rl A B) (I : RfI B q) {d : Nat} (hb : p_s B (2 * d + 1) < 600) : Rl (up3 A 15 d 4 (A 15 d 4 + 1)) (up3 B 30 0 (2 * d + 1) (B 30 0 (2 * d + 1) + 1)) := by
  have a1 : ∀ c, c ≠ 15 → up3 A 15 d 4 (A 15 d 4 + 1) c = A c := fun c hc => p_kd_up _ _ _ _ hc
  have b1 : ∀ c, c ≠ 30 → up3 B 30 0 (2 * d + 1) (B 30 0 (2 * d + 1) + 1) c = B c := fun c hc => p_kd_up _ _ _ _ hc
  have es : ∀ e, p_s B e ≤ p_s (up3 B 30 0 (2 * d + 1) (B 30 0 (2 * d + 1) + 1)) e := by
    intro e; unfold p_s; rw [p_row_up, if_pos ⟨rfl, rfl⟩]
    by_cases he : e = 2 * d + 1
    · subst he
      have := I.E.s (2 * d + 1)
      rw [va_up_self, this, nI_1]
      unfold p_s at *
      rw [nI_clamp (by omega), nI_clamp (by omega)]; omega
    · rw [va_up_ne _ _ he]; exact Nat.le_refl _
  refine ⟨h.C.cg (fun c hc => a1 c (by revert c; decide)) (fun c hc => by rw [b1 c (by revert c; decide)]) (fun k _ _ => by rw [a1 0 (by decide)]) (fun k _ _ => by rw [b1 0 (by decide)]) (by rw [a1 7 (by decide), b1 0 (by decide)]; exact h.C.w), ⟨?_, ?_, ?_, ?_, ?_, ?_⟩, ⟨fun l hl => ?_, fun d' hd' => ?_, fun c hc => ?_, fun l hl => ?_⟩, h.T.cg (a1 6 (by decide)) (a1 19 (by decide)) (fun c hc => by rw [b1 c (by revert c; decide)]) (by rw [b1 0 (by decide)]) es, h.R.cg (by rw [a1 12 (by decide)]) (fun c hc => by rw [b1 c (by revert c; decide)]) (by rw [b1 0 (by decide)]), h.G.cg (fun c hc => a1 c (by revert c; decide)) (by rw [b1 22 (by decide)]) (by rw [b1 29 (by decide)])⟩
  · rw [p_col_kd (a1 5 (by decide)), p_row_up, if_pos ⟨rfl, rfl⟩]
    funext x
    rw [va_up_ne _ _ (by omega), h.E.s]
  · rw [p_col_kd (a1 5 (by decide)), b1 31 (by decide)]; exact h.E.a
  · rw [p_col_kd (a1 8 (by decide)), b1 29 (by decide)]; exact h.E.n
  · rw [p_col_up, if_pos ⟨rfl, rfl⟩, p_row_up, if_pos ⟨rfl, rfl⟩]
    funext x
    by_cases hx : x = d
    · subst hx; rw [va_up_self, va_up_self]; rw [show A 15 x 4 = B 30 0 (2 * x + 1) from congrFun h.E.s' x]
    · rw [va_up_ne _ _ hx, va_up_ne _ _ (by omega), h.E.s']
  · rw [p_col_up, if_neg (by decide), b1 31 (by decide)]; exact h.E.a'
  · rw [p_col_kd (a1 16 (by decide)), b1 29 (by decide)]; exact h.E.n'
  · rw [a1 2 (by decide)]; simp only [p_k]; rw [b1 16 (by decide)]; exact h.D.ln l (by simpa [p_l, b1] using hl)
  · rw [b1 22 (by decide)] at hd'
    have := h.D.dl d' hd'
    exact ⟨by rw [a1 4 (by decide)]; exact this.h0, by rw [up3_ne _ _ (by omega)]; exact this.h1, by rw [up3_ne _ _ (by omega), b1 11 (by decide)]; exact this.h2, by rw [up3_ne _ _ (by omega)]; exact this.h3, by rw [up3_ne _ _ (by omega)]; exact this.h4, by rw [up3_ne _ _ (by omega)]; exact this.h5, by rw [up3_ne _ _ (by omega), b1 11 (by decide)]; exact this.h6⟩
  · rw [a1 9 (by decide)]; simp only [p_c]; rw [b1 0 (by decide)]; exact h.D.f9 c hc
  · rw [a1 10 (by decide)]; simp only [p_l]; rw [b1 0 (by decide)]; exact h.D.f10 l hl
theorem Rl.acked15 {A B : ew_R} (h : Rl A B) {d : Nat} (v : Int32) : Rl (up3 A 15 d 5 v) (up3 B 31 0 (2 * d + 1) v) := by
  have a1 : ∀ c, c ≠ 15 → up3 A 15 d 5 v c = A c := fun c hc => p_kd_up _ _ _ _ hc
  have b1 : ∀ c, c ≠ 31 → up3 B 31 0 (2 * d + 1) v c = B c := fun c hc => p_kd_up _ _ _ _ hc
  refine ⟨h.C.cg (fun c hc => a1 c (by revert c; decide)) (fun c hc => by rw [b1 c (by revert c; decide)]) (fun k _ _ => by rw [a1 0 (by decide)]) (fun k _ _ => by rw [b1 0 (by decide)]) (by rw [a1 7 (by decide), b1 0 (by decide)]; exact h.C.w), ⟨?_, ?_, ?_, ?_, ?_, ?_⟩, ⟨fun l hl => ?_, fun d' hd' => ?_, fun c hc => ?_, fun l hl => ?_⟩, h.T.cg (a1 6 (by decide)) (a1 19 (by decide)) (fun c hc => by rw [b1 c (by revert c; decide)]) (by rw [b1 0 (by decide)]) (fun e => by unfold p_s; rw [b1 30 (by decide)]; exact Nat.le_refl _), h.R.cg (by rw [a1 12 (by decide)]) (fun c hc => by rw [b1 c (by revert c; decide)]) (by rw [b1 0 (by decide)]), h.G.cg (fun c hc => a1 c (by revert c; decide)) (by rw [b1 22 (by decide)]) (by rw [b1 29 (by decide)])⟩
  · rw [p_col_kd (a1 5 (by decide)), b1 30 (by decide)]; exact h.E.s
  · rw [p_col_kd (a1 5 (by decide)), p_row_up, if_pos ⟨rfl, rfl⟩]
    funext x
    rw [va_up_ne _ _ (by omega), h.E.a]
  · rw [p_col_kd (a1 8 (by decide)), b1 29 (by decide)]; exact h.E.n
  · rw [p_col_up, if_neg (by decide), b1 30 (by decide)]; exact h.E.s'
  · rw [p_col_up, if_pos ⟨rfl, rfl⟩, p_row_up, if_pos ⟨rfl, rfl⟩]
    funext x
    by_cases hx : x = d
    · subst hx; rw [va_up_self, va_up_self]
    · rw [va_up_ne _ _ hx, va_up_ne _ _ (by omega), h.E.a']
  · rw [p_col_kd (a1 16 (by decide)), b1 29 (by decide)]; exact h.E.n'
  · rw [a1 2 (by decide)]; simp only [p_k]; rw [b1 16 (by decide)]; exact h.D.ln l (by simpa [p_l, b1] using hl)
  · rw [b1 22 (by decide)] at hd'
    have := h.D.dl d' hd'
    exact ⟨by rw [a1 4 (by decide)]; exact this.h0, by rw [up3_ne _ _ (by omega)]; exact this.h1, by rw [up3_ne _ _ (by omega), b1 11 (by decide)]; exact this.h2, by rw [up3_ne _ _ (by omega)]; exact this.h3, by rw [up3_ne _ _ (by omega)]; exact this.h4, by rw [up3_ne _ _ (by omega)]; exact this.h5, by rw [up3_ne _ _ (by omega), b1 11 (by decide)]; exact this.h6⟩
  · rw [a1 9 (by decide)]; simp only [p_c]; rw [b1 0 (by decide)]; exact h.D.f9 c hc
  · rw [a1 10 (by decide)]; simp only [p_l]; rw [b1 0 (by decide)]; exact h.D.f10 l hl
/-- a letter of this side is held at its goal: it was taken before / it is new there -/
theorem Rl.held15o {A B : ew_R} (h : Rl A B) {d k : Nat} (hk : k < p_s B (2 * d)) (hk2 : k < 512) : Rl (up3 A 19 (512 * d + k) 3 1) B := by
  have a1 : ∀ c, c ≠ 19 → up3 A 19 (512 * d + k) 3 1 c = A c := fun c hc => p_kd_up _ _ _ _ hc
  refine ⟨h.C.cg (fun c hc => a1 c (by revert c; decide)) (fun _ _ => rfl) (fun k _ _ => by rw [a1 0 (by decide)]) (fun _ _ _ => rfl) (by rw [a1 7 (by decide)]; exact h.C.w), h.E.cg (fun c hc => a1 c (by revert c; decide)) (fun _ _ => rfl), h.D.cg (fun c hc i => by rw [a1 c (by revert c; decide)]) (fun _ _ => rfl) (fun _ _ _ => rfl), ⟨fun j d' k' hj hk' h1 h2 h3 => ?_, fun j d' k' hj hk' h1 h2 h3 => ?_⟩, h.R.cg (by rw [a1 12 (by decide)]) (fun _ _ => rfl) rfl, h.G.cg (fun c hc => a1 c (by revert c; decide)) rfl rfl⟩
  · have := h.T.t j d' k' hj hk' h1 h2 h3
    unfold p_lt at this ⊢
    rw [a1 6 (by decide)]; exact this
  · have := h.T.t' j d' k' hj hk' h1 h2 h3
    unfold p_lt at this ⊢
    rw [up3_ne _ _ (by omega), up3_ne _ _ (by omega), up3_ne _ _ (by omega)]
    refine ⟨this.1, fun z => ?_⟩
    rw [up3_ne _ _ (fun y => ?_)]
    · exact this.2 z
    · have : d' = d := by omega
      subst this
      omega
theorem Rl.held15n {A B : ew_R} {q : Nat} (h : Rl A B) (I : RfI B q) {d k j : Nat} (h192 : d < 192) (hj : j < lgB B) (hk2 : k < 512) (h32 : B 32 0 j = nI (2 * d + 1)) (h33 : B 33 0 j = nI (k + 1)) : Rl (up3 A 19 (512 * d + k) 3 1) (up3 B 36 0 j 1) := by
  have a1 : ∀ c, c ≠ 19 → up3 A 19 (512 * d + k) 3 1 c = A c := fun c hc => p_kd_up _ _ _ _ hc
  have b1 : ∀ c, c ≠ 36 → up3 B 36 0 j 1 c = B c := fun c hc => p_kd_up _ _ _ _ hc
  have el : lgB (up3 B 36 0 j 1) = lgB B := by unfold lgB; rw [b1 0 (by decide)]
  have es : p_s (up3 B 36 0 j 1) = p_s B := by funext e; unfold p_s; rw [b1 30 (by decide)]
  refine ⟨h.C.cg (fun c hc => a1 c (by revert c; decide)) (fun c hc => by rw [b1 c (by revert c; decide)]) (fun k _ _ => by rw [a1 0 (by decide)]) (fun k _ _ => by rw [b1 0 (by decide)]) (by rw [a1 7 (by decide), b1 0 (by decide)]; exact h.C.w), h.E.cg (fun c hc => a1 c (by revert c; decide)) (fun c hc => by rw [b1 c (by revert c; decide)]), h.D.cg (fun c hc i => by rw [a1 c (by revert c; decide)]) (fun c hc => by rw [b1 c (by revert c; decide)]) (fun k _ _ => by rw [b1 0 (by decide)]), ⟨fun j' d' k' hj' hk' h1 h2 h3 => ?_, fun j' d' k' hj' hk' h1 h2 h3 => ?_⟩, h.R.cg (by rw [a1 12 (by decide)]) (fun c hc => by rw [b1 c (by revert c; decide)]) (by rw [b1 0 (by decide)]), h.G.cg (fun c hc => a1 c (by revert c; decide)) (by rw [b1 22 (by decide)]) (by rw [b1 29 (by decide)])⟩
  · rw [b1 32 (by decide)] at h1
    rw [b1 33 (by decide)] at h2
    rw [el] at hj'
    have := h.T.t j' d' k' hj' hk' h1 h2 h3
    unfold p_lt at this ⊢
    rw [a1 6 (by decide), b1 33 (by decide), b1 34 (by decide), b1 35 (by decide), es, p_row_up, if_pos ⟨rfl, rfl⟩]
    refine ⟨this.1, fun z => ?_⟩
    rw [va_up_ne _ _ (fun y => ?_)]
    · exact this.2 z
    · subst y
      rw [h32] at h1
      have e1 := (nI_eq (by omega) (by omega)).mp h1
      omega
  · rw [b1 32 (by decide)] at h1
    rw [b1 33 (by decide)] at h2
    rw [el] at hj'
    have := h.T.t' j' d' k' hj' hk' h1 h2 h3
    unfold p_lt at this ⊢
    rw [up3_ne A (k' := 0) _ (by omega), up3_ne A (k' := 1) _ (by omega), up3_ne A (k' := 2) _ (by omega), b1 33 (by decide), b1 34 (by decide), b1 35 (by decide), es]
    refine ⟨this.1, fun z => ?_⟩
    rw [p_row_up B 36 0 j 1 36 0, if_pos ⟨rfl, rfl⟩]
    by_cases hjj : j' = j
    · subst hjj
      rw [h32] at h1
      rw [h33] at h2
      have e1 := (nI_eq (by omega) (by omega)).mp h1
      have e2 := (nI_eq (by omega) (by omega)).mp h2
      have : d' = d := by omega
      subst this
      have : k' = k := by omega
      subst this
      rw [up3_self, va_up_self]
    · rw [va_up_ne _ _ hjj, up3_ne _ _ (fun y => hjj ?_)]
      · exact this.2 z
      · have : d' = d := by omega
        subst this
        have : k' = k := by omega
        subst this
        exact I.G.u j' j hj' hj (h1.trans h32.symm) (h2.trans h33.symm)
