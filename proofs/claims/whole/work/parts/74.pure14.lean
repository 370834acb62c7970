/-! One deal is changed, and a letter is written or not -/
def p_f0 (A A' B B' : ew_R) (d0 : Nat) : Prop :=
  (B' 22 0 = B 22 0) ∧
  (B' 16 0 = B 16 0) ∧
  (∀ d, d ≠ d0 → B' 23 0 d = B 23 0 d) ∧
  (∀ d, d ≠ d0 → B' 24 0 d = B 24 0 d) ∧
  (∀ d, d ≠ d0 → B' 25 0 d = B 25 0 d) ∧
  (∀ d, d ≠ d0 → B' 27 0 d = B 27 0 d) ∧
  (∀ d, d ≠ d0 → B' 28 0 d = B 28 0 d) ∧
  (∀ d, d ≠ d0 → A' 4 d 4 = A 4 d 4) ∧
  (∀ l, l ≠ d0 / 6 → B' 18 0 l = B 18 0 l) ∧
  (B' 18 0 (d0 / 6) = B 18 0 (d0 / 6) ∨ p_k B (d0 / 6) = d0 % 6) ∧
  (∀ l, l ≠ d0 / 6 → B' 17 0 l = B 17 0 l) ∧
  (B' 17 0 (d0 / 6) = B 17 0 (d0 / 6) ∨ (p_k B (d0 / 6) = d0 % 6)) ∧
  (∀ k, 1 ≤ k → k ≠ 4 → B' 0 0 k = B 0 0 k) ∧
  (∀ c, c ∈ [32, 33, 34, 35] → B' c 0 = B c 0) ∧
  (∀ e, e ≠ 2 * d0 → e ≠ 2 * d0 + 1 → B' 30 0 e = B 30 0 e)
theorem p_f0.e22 {A A' B B' : ew_R} {d0 : Nat} (h9 : p_f0 A A' B B' d0) : B' 22 0 = B 22 0 := h9.1
theorem p_f0.e16 {A A' B B' : ew_R} {d0 : Nat} (h9 : p_f0 A A' B B' d0) : B' 16 0 = B 16 0 := h9.2.1
theorem p_f0.o23 {A A' B B' : ew_R} {d0 : Nat} (h9 : p_f0 A A' B B' d0) : ∀ d, d ≠ d0 → B' 23 0 d = B 23 0 d := h9.2.2.1
theorem p_f0.o24 {A A' B B' : ew_R} {d0 : Nat} (h9 : p_f0 A A' B B' d0) : ∀ d, d ≠ d0 → B' 24 0 d = B 24 0 d := h9.2.2.2.1
theorem p_f0.o25 {A A' B B' : ew_R} {d0 : Nat} (h9 : p_f0 A A' B B' d0) : ∀ d, d ≠ d0 → B' 25 0 d = B 25 0 d := h9.2.2.2.2.1
theorem p_f0.o27 {A A' B B' : ew_R} {d0 : Nat} (h9 : p_f0 A A' B B' d0) : ∀ d, d ≠ d0 → B' 27 0 d = B 27 0 d := h9.2.2.2.2.2.1
theorem p_f0.o28 {A A' B B' : ew_R} {d0 : Nat} (h9 : p_f0 A A' B B' d0) : ∀ d, d ≠ d0 → B' 28 0 d = B 28 0 d := h9.2.2.2.2.2.2.1
theorem p_f0.o4 {A A' B B' : ew_R} {d0 : Nat} (h9 : p_f0 A A' B B' d0) : ∀ d, d ≠ d0 → A' 4 d 4 = A 4 d 4 := h9.2.2.2.2.2.2.2.1
theorem p_f0.o18 {A A' B B' : ew_R} {d0 : Nat} (h9 : p_f0 A A' B B' d0) : ∀ l, l ≠ d0 / 6 → B' 18 0 l = B 18 0 l := h9.2.2.2.2.2.2.2.2.1
theorem p_f0.r18 {A A' B B' : ew_R} {d0 : Nat} (h9 : p_f0 A A' B B' d0) : B' 18 0 (d0 / 6) = B 18 0 (d0 / 6) ∨ p_k B (d0 / 6) = d0 % 6 := h9.2.2.2.2.2.2.2.2.2.1
theorem p_f0.o17 {A A' B B' : ew_R} {d0 : Nat} (h9 : p_f0 A A' B B' d0) : ∀ l, l ≠ d0 / 6 → B' 17 0 l = B 17 0 l := h9.2.2.2.2.2.2.2.2.2.2.1
theorem p_f0.r17 {A A' B B' : ew_R} {d0 : Nat} (h9 : p_f0 A A' B B' d0) : B' 17 0 (d0 / 6) = B 17 0 (d0 / 6) ∨ (p_k B (d0 / 6) = d0 % 6) := h9.2.2.2.2.2.2.2.2.2.2.2.1
theorem p_f0.e0 {A A' B B' : ew_R} {d0 : Nat} (h9 : p_f0 A A' B B' d0) : ∀ k, 1 ≤ k → k ≠ 4 → B' 0 0 k = B 0 0 k := h9.2.2.2.2.2.2.2.2.2.2.2.2.1
theorem p_f0.eL {A A' B B' : ew_R} {d0 : Nat} (h9 : p_f0 A A' B B' d0) : ∀ c, c ∈ [32, 33, 34, 35] → B' c 0 = B c 0 := h9.2.2.2.2.2.2.2.2.2.2.2.2.2.1
theorem p_f0.o30 {A A' B B' : ew_R} {d0 : Nat} (h9 : p_f0 A A' B B' d0) : ∀ e, e ≠ 2 * d0 → e ≠ 2 * d0 + 1 → B' 30 0 e = B 30 0 e := h9.2.2.2.2.2.2.2.2.2.2.2.2.2.2
theorem p_f0.has {A A' B B' : ew_R} {d0 : Nat} (F : p_f0 A A' B B' d0) (e : Nat) (k : Int32) : p_has B' e k ↔ p_has B e k := p_has_cg (F.e0 5 (by decide) (by decide)) (F.eL 32 (by decide)) (F.eL 34 (by decide)) e k
theorem p_f0.saw {A A' B B' : ew_R} {d0 : Nat} (F : p_f0 A A' B B' d0) (d : Nat) (hd : d ≠ d0) : p_saw B' d ↔ p_saw B d := p_saw_cg (F.e0 5 (by decide) (by decide)) (F.eL 32 (by decide)) (F.eL 33 (by decide)) (F.eL 34 (by decide)) d (by simp only [p_s]; rw [F.o30 _ (by omega) (by omega)])
theorem p_f0.lg {A A' B B' : ew_R} {d0 : Nat} (F : p_f0 A A' B B' d0) : lgB B' = lgB B := by simp only [lgB, F.e0 5 (by decide) (by decide)]
theorem p_f0.fr {A A' B B' : ew_R} {d0 : Nat} (F : p_f0 A A' B B' d0) : p_fr A A' B B' d0 :=
  ⟨F.e22, F.e16, F.o23, F.o24, F.o25, F.o27, F.o28, F.o4, F.o18, F.r18, F.o17, F.r17, fun k hk => F.e0 k (by omega) (by omega), fun d _ _ k => F.has _ k, fun d _ _ k => F.has _ k, fun d hd _ => F.saw d hd⟩
theorem Pv.no {A A' B B' : ew_R} {q q' d0 : Nat} (h : Pv A B q) (Z : RfZ B) (hc : p_c B ≤ 32) (hq : q ≤ q') (F : p_f0 A A' B B' d0) (P : p_ph A' B' d0) (C : p_cd A' B' q' d0) (rs : ¬ B' 18 0 (d0 / 6) < 0) : Pv A' B' q' := by
  refine h.step Z hc hq F.fr P C ?_ ?_ rs ?_
  · rw [F.lg, F.eL 32 (by decide), F.eL 34 (by decide)]; exact h.u3
  · rw [F.lg, F.eL 34 (by decide), F.eL 35 (by decide)]; exact h.tl
  · rw [F.e0 1 (by decide) (by decide)]; obtain ⟨t, h1, h2⟩ := h.day; exact ⟨t, by omega, h2⟩
theorem Pv.wrx {A A' A1 B B1 : ew_R} {q q' d0 e w lg : Nat} {k t : Int32} (h : Pv A B q) (Z : RfZ B) (hc : p_c B ≤ 32) (hq : q ≤ q') (F : p_f0 A A1 B B1 d0) (I1 : RfI B1 q') (el : lg = lgB B) (h192 : d0 < 192) (he : e = 2 * d0 ∨ e = 2 * d0 + 1) (a4 : A' 4 = A1 4)
    (h3 : k = 3 → ¬ p_has B e 3) (h7 : k = 7 ∨ k = 11 → ¬ t = 0) (C : p_cd A' (s_write B1 e k t w lg) q' d0) (rs : ¬ B1 18 0 (d0 / 6) < 0) : Pvx A' (s_write B1 e k t w lg) q' d0 := by
  have o : ∀ c, c ∉ [0, 29, 32, 33, 34, 35, 36, 37, 38, 39] → s_write B1 e k t w lg c 0 = B1 c 0 := fun c hc => by rw [s_write_oth _ _ _ _ _ _ hc]
  have el1 : lg = lgB B1 := by rw [F.lg, el]
  have hl : lg ≤ 3000 := by have := I1.S.lg.2; have := I1.S.hq; omega
  have H : ∀ e' k', e' < 384 → (p_has (s_write B1 e k t w lg) e' k' ↔ (e' = e ∧ k' = k) ∨ p_has B e' k') := fun e' k' he' => by rw [p_has_write el1 hl e k t w (by omega) he' k', F.has]
  refine h.stepx Z hc hq ⟨?_, ?_, fun d hd => ?_, fun d hd => ?_, fun d hd => ?_, fun d hd => ?_, fun d hd => ?_, fun d hd => ?_, fun l hl => ?_, ?_, fun l hl => ?_, ?_, fun k' hk' => ?_, fun d hd h19 k' => ?_, fun d hd h19 k' => ?_, fun d hd h19 => ?_⟩ C ?_ ?_ ?_ ?_
  · rw [o 22 (by decide), F.e22]
  · rw [o 16 (by decide), F.e16]
  · rw [o 23 (by decide), F.o23 d hd]
  · rw [o 24 (by decide), F.o24 d hd]
  · rw [o 25 (by decide), F.o25 d hd]
  · rw [o 27 (by decide), F.o27 d hd]
  · rw [o 28 (by decide), F.o28 d hd]
  · rw [a4, F.o4 d hd]
  · rw [o 18 (by decide), F.o18 l hl]
  · rw [o 18 (by decide)]; exact F.r18
  · rw [o 17 (by decide), F.o17 l hl]
  · rw [o 17 (by decide)]; exact F.r17
  · rw [s_write_0k _ _ _ _ _ _ (by omega) (by omega), F.e0 k' (by omega) (by omega)]
  · rw [H _ _ (by omega)]; constructor
    · rintro (⟨h1, -⟩ | h1)
      · omega
      · exact h1
    · exact Or.inr
  · rw [H _ _ (by omega)]; constructor
    · rintro (⟨h1, -⟩ | h1)
      · omega
      · exact h1
    · exact Or.inr
  · rw [p_saw_write I1 el1 e (by omega) k t w d h19, F.saw d hd]
  · rw [s_write_lg _ _ _ _ hl, s_write_32, s_write_34, F.eL 32 (by decide), F.eL 34 (by decide)]
    intro j j' hj hj' h1 h2 h4
    by_cases a : j = lg <;> by_cases b : j' = lg
    · omega
    · subst a
      rw [va_up_self] at h1 h2
      rw [va_up_ne _ _ b] at h1 h4
      exact (h3 h2 ⟨j', by omega, h1.symm, h4⟩).elim
    · subst b
      rw [va_up_self] at h1 h4
      rw [va_up_ne _ _ a] at h1 h2
      exact (h3 h4 ⟨j, by omega, h1, h2⟩).elim
    · rw [va_up_ne _ _ a] at h1 h2
      rw [va_up_ne _ _ b] at h1 h4
      exact h.u3 j j' (by omega) (by omega) h1 h2 h4
  · rw [s_write_lg _ _ _ _ hl, s_write_34, s_write_35, F.eL 34 (by decide), F.eL 35 (by decide)]
    intro j hj h1
    by_cases a : j = lg
    · subst a; rw [va_up_self] at h1 ⊢; exact h7 h1
    · rw [va_up_ne _ _ a] at h1 ⊢; exact h.tl j (by omega) h1
  · rw [o 18 (by decide)]; exact rs
  · rw [s_write_0k _ _ _ _ _ _ (by decide) (by decide), F.e0 1 (by decide) (by decide)]; obtain ⟨t, h1, h2⟩ := h.day; exact ⟨t, by omega, h2⟩
theorem Pv.wr {A A' A1 B B1 : ew_R} {q q' d0 e w lg : Nat} {k t : Int32} (h : Pv A B q) (Z : RfZ B) (hc : p_c B ≤ 32) (hq : q ≤ q') (F : p_f0 A A1 B B1 d0) (I1 : RfI B1 q') (el : lg = lgB B) (h192 : d0 < 192) (he : e = 2 * d0 ∨ e = 2 * d0 + 1) (a4 : A' 4 = A1 4)
    (h3 : k = 3 → ¬ p_has B e 3) (h7 : k = 7 ∨ k = 11 → ¬ t = 0) (P : p_ph A' (s_write B1 e k t w lg) d0) (C : p_cd A' (s_write B1 e k t w lg) q' d0) (rs : ¬ B1 18 0 (d0 / 6) < 0) : Pv A' (s_write B1 e k t w lg) q' := by
  have h9 := h.wrx Z hc hq F I1 el h192 he a4 h3 h7 C rs
  refine ⟨fun d hd => ?_, h9.cd, h9.u3, h9.tl, h9.rs, h9.day⟩
  by_cases hdd : d = d0
  · subst hdd; exact P
  · exact h9.ph d hd hdd
/-- the deal's own view, before and after -/
theorem p_ph.wr {A A' A1 B B1 : ew_R} {q' d0 e w lg : Nat} {k t : Int32} (F : p_f0 A A1 B B1 d0) (I1 : RfI B1 q') (el : lg = lgB B) (h192 : d0 < 192) (he : e = 2 * d0 ∨ e = 2 * d0 + 1) (a4 : A' 4 = A1 4)
    (P : Ph (B1 23 0 d0) (B1 18 0 (d0 / 6)) (p_k B (d0 / 6) = d0 % 6) ((e = 2 * d0 + 1 ∧ k = 3) ∨ p_has B (2 * d0 + 1) 3) (p_saw B1 d0) ((e = 2 * d0 + 1 ∧ k = 4) ∨ p_has B (2 * d0 + 1) 4) ((e = 2 * d0 + 1 ∧ k = 7) ∨ p_has B (2 * d0 + 1) 7) ((e = 2 * d0 ∧ k = 5) ∨ p_has B (2 * d0) 5) ((e = 2 * d0 ∧ k = 6) ∨ p_has B (2 * d0) 6) ((e = 2 * d0 ∧ k = 15) ∨ p_has B (2 * d0) 15) (A1 4 d0 4 = (-1)) (B1 25 0 d0 = 0)) : p_ph A' (s_write B1 e k t w lg) d0 := by
  have o : ∀ c, c ∉ [0, 29, 32, 33, 34, 35, 36, 37, 38, 39] → s_write B1 e k t w lg c 0 = B1 c 0 := fun c hc => by rw [s_write_oth _ _ _ _ _ _ hc]
  have el1 : lg = lgB B1 := by rw [F.lg, el]
  have hl : lg ≤ 3000 := by have := I1.S.lg.2; have := I1.S.hq; omega
  have H : ∀ e' k', e' < 384 → (p_has (s_write B1 e k t w lg) e' k' ↔ (e = e' ∧ k = k') ∨ p_has B e' k') := fun e' k' he' => by rw [p_has_write el1 hl e k t w (by omega) he' k', F.has, eq_comm (a := e'), eq_comm (a := k')]
  unfold p_ph
  refine P.iff (by rw [o 23 (by decide)]) (by rw [o 18 (by decide)]) (by simp only [p_k]; rw [o 16 (by decide), F.e16]) (H _ _ (by omega)) (p_saw_write I1 el1 e (by omega) k t w d0 h192) (H _ _ (by omega)) (H _ _ (by omega)) (H _ _ (by omega)) (H _ _ (by omega)) (H _ _ (by omega)) (by rw [a4]) (by rw [o 25 (by decide)])
theorem p_cd.wr {A' A1 B1 : ew_R} {q d0 : Nat} {e w lg : Nat} {k t : Int32} (C : p_cd A1 B1 q d0) (a4 : A' 4 = A1 4) : p_cd A' (s_write B1 e k t w lg) q d0 := by
  have o : ∀ c, c ∉ [0, 29, 32, 33, 34, 35, 36, 37, 38, 39] → s_write B1 e k t w lg c 0 = B1 c 0 := fun c hc => by rw [s_write_oth _ _ _ _ _ _ hc]
  have ec : p_c (s_write B1 e k t w lg) = p_c B1 := by simp only [p_c]; rw [s_write_0k _ _ _ _ _ _ (by decide) (by decide)]
  obtain ⟨c1, c2, c3, c4, c5⟩ := C
  refine ⟨?_, ?_, ?_, ?_, ?_⟩
  · rw [a4, ec, o 17 (by decide)]; exact c1
  · rw [a4, o 23 (by decide), o 28 (by decide)]; exact c2
  · rw [o 23 (by decide), o 28 (by decide)]; exact c3
  · rw [o 28 (by decide), ec]; exact c4
  · rw [o 27 (by decide), o 24 (by decide), o 23 (by decide)]; exact c5
