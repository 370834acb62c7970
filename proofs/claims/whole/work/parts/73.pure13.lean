/-! The protocol over the reference's ints (and where the class's deals have a copy) -/
def p_has (B : ew_R) (e : Nat) (k : Int32) : Prop := ∃ j, j < lgB B ∧ B 32 0 j = nI e ∧ B 34 0 j = k
def p_saw (B : ew_R) (d : Nat) : Prop := ∃ j k, j < lgB B ∧ B 32 0 j = nI (2 * d + 1) ∧ B 33 0 j = nI (k + 1) ∧ B 34 0 j = 3 ∧ k < p_s B (2 * d)
def p_ph (A B : ew_R) (d : Nat) : Prop := Ph (B 23 0 d) (B 18 0 (d / 6)) (p_k B (d / 6) = d % 6) (p_has B (2 * d + 1) 3) (p_saw B d) (p_has B (2 * d + 1) 4) (p_has B (2 * d + 1) 7) (p_has B (2 * d) 5) (p_has B (2 * d) 6) (p_has B (2 * d) 15) (A 4 d 4 = (-1)) (B 25 0 d = 0)
/-- the copy and the days of one deal -/
def p_cd (A B : ew_R) (q d : Nat) : Prop :=
  (A 4 d 4 = (-1) ∨ ∃ c, c < p_c B ∧ A 4 d 4 = nI c ∧ B 17 0 (d / 6) = nI c) ∧
  (B 23 0 d = 3 ∨ B 23 0 d = 4 ∨ B 23 0 d = 5 ∨ B 23 0 d = 6 ∨ B 23 0 d = 7 ∨ B 23 0 d = 8 → B 28 0 d = A 4 d 4) ∧
  (B 23 0 d = 0 ∨ B 23 0 d = 1 ∨ B 23 0 d = 2 → B 28 0 d = (-1)) ∧
  (B 28 0 d = (-1) ∨ ∃ c, c < p_c B ∧ B 28 0 d = nI c) ∧
  (∃ u g : Nat, g ≤ 3 ∧ B 27 0 d = nI g ∧ B 24 0 d = nI u ∧ u ≤ 1000 * q + 99 * (1 + g) ∧ (B 23 0 d = 4 ∨ B 23 0 d = 5 ∨ B 23 0 d = 6 ∨ B 23 0 d = 7 ∨ B 23 0 d = 8 → 1 ≤ u))
theorem p_cd.cp {A B : ew_R} {q d : Nat} (h9 : p_cd A B q d) : A 4 d 4 = (-1) ∨ ∃ c, c < p_c B ∧ A 4 d 4 = nI c ∧ B 17 0 (d / 6) = nI c := h9.1
theorem p_cd.ic {A B : ew_R} {q d : Nat} (h9 : p_cd A B q d) : B 23 0 d = 3 ∨ B 23 0 d = 4 ∨ B 23 0 d = 5 ∨ B 23 0 d = 6 ∨ B 23 0 d = 7 ∨ B 23 0 d = 8 → B 28 0 d = A 4 d 4 := h9.2.1
theorem p_cd.ic0 {A B : ew_R} {q d : Nat} (h9 : p_cd A B q d) : B 23 0 d = 0 ∨ B 23 0 d = 1 ∨ B 23 0 d = 2 → B 28 0 d = (-1) := h9.2.2.1
theorem p_cd.icr {A B : ew_R} {q d : Nat} (h9 : p_cd A B q d) : B 28 0 d = (-1) ∨ ∃ c, c < p_c B ∧ B 28 0 d = nI c := h9.2.2.2.1
theorem p_cd.du {A B : ew_R} {q d : Nat} (h9 : p_cd A B q d) : ∃ u g : Nat, g ≤ 3 ∧ B 27 0 d = nI g ∧ B 24 0 d = nI u ∧ u ≤ 1000 * q + 99 * (1 + g) ∧ (B 23 0 d = 4 ∨ B 23 0 d = 5 ∨ B 23 0 d = 6 ∨ B 23 0 d = 7 ∨ B 23 0 d = 8 → 1 ≤ u) := h9.2.2.2.2
def Pv (A B : ew_R) (q : Nat) : Prop :=
  (∀ d, ¬ B 22 0 d = 0 → p_ph A B d) ∧
  (∀ d, ¬ B 22 0 d = 0 → p_cd A B q d) ∧
  (∀ j j', j < lgB B → j' < lgB B → B 32 0 j = B 32 0 j' → B 34 0 j = 3 → B 34 0 j' = 3 → j = j') ∧
  (∀ j, j < lgB B → B 34 0 j = 7 ∨ B 34 0 j = 11 → ¬ B 35 0 j = 0) ∧
  (∀ l, l < p_l B → ¬ B 18 0 l < 0) ∧
  (∃ t : Nat, t ≤ 1000 * q ∧ B 0 0 1 = nI t)
theorem Pv.ph {A B : ew_R} {q : Nat} (h9 : Pv A B q) : ∀ d, ¬ B 22 0 d = 0 → p_ph A B d := h9.1
theorem Pv.cd {A B : ew_R} {q : Nat} (h9 : Pv A B q) : ∀ d, ¬ B 22 0 d = 0 → p_cd A B q d := h9.2.1
theorem Pv.u3 {A B : ew_R} {q : Nat} (h9 : Pv A B q) : ∀ j j', j < lgB B → j' < lgB B → B 32 0 j = B 32 0 j' → B 34 0 j = 3 → B 34 0 j' = 3 → j = j' := h9.2.2.1
theorem Pv.tl {A B : ew_R} {q : Nat} (h9 : Pv A B q) : ∀ j, j < lgB B → B 34 0 j = 7 ∨ B 34 0 j = 11 → ¬ B 35 0 j = 0 := h9.2.2.2.1
theorem Pv.rs {A B : ew_R} {q : Nat} (h9 : Pv A B q) : ∀ l, l < p_l B → ¬ B 18 0 l < 0 := h9.2.2.2.2.1
theorem Pv.day {A B : ew_R} {q : Nat} (h9 : Pv A B q) : ∃ t : Nat, t ≤ 1000 * q ∧ B 0 0 1 = nI t := h9.2.2.2.2.2
theorem p_has_cg {B B' : ew_R} (e0 : B' 0 0 5 = B 0 0 5) (e32 : B' 32 0 = B 32 0) (e34 : B' 34 0 = B 34 0) (e : Nat) (k : Int32) : p_has B' e k ↔ p_has B e k := by
  simp only [p_has, lgB, e0, e32, e34]
theorem p_saw_cg {B B' : ew_R} (e0 : B' 0 0 5 = B 0 0 5) (e32 : B' 32 0 = B 32 0) (e33 : B' 33 0 = B 33 0) (e34 : B' 34 0 = B 34 0) (d : Nat) (es : p_s B' (2 * d) = p_s B (2 * d)) : p_saw B' d ↔ p_saw B d := by
  simp only [p_saw, lgB, e0, e32, e33, e34, es]
theorem p_has_write {B : ew_R} {lg : Nat} (el : lg = lgB B) (hl : lg ≤ 3000) (e : Nat) (k t : Int32) (w : Nat) {e' : Nat} (he : e < 384) (he' : e' < 384) (k' : Int32) : p_has (s_write B e k t w lg) e' k' ↔ (e' = e ∧ k' = k) ∨ p_has B e' k' := by
  subst el
  unfold p_has
  rw [s_write_lg _ _ _ _ hl, s_write_32, s_write_34]
  constructor
  · rintro ⟨j, h1, h2, h3⟩
    by_cases hj : j = lgB B
    · subst hj
      rw [va_up_self] at h2 h3
      exact Or.inl ⟨((nI_eq (by omega) (by omega)).mp h2).symm, h3.symm⟩
    · rw [va_up_ne _ _ hj] at h2 h3
      exact Or.inr ⟨j, by omega, h2, h3⟩
  · rintro (⟨rfl, rfl⟩ | ⟨j, h1, h2, h3⟩)
    · exact ⟨lgB B, by omega, va_up_self _ _ _, va_up_self _ _ _⟩
    · exact ⟨j, by omega, by rw [va_up_ne _ _ (by omega)]; exact h2, by rw [va_up_ne _ _ (by omega)]; exact h3⟩
theorem p_saw_write {B : ew_R} {q lg : Nat} (I : RfI B q) (el : lg = lgB B) (e : Nat) (he : e < 384) (k t : Int32) (w d : Nat) (hd : d < 192) : p_saw (s_write B e k t w lg) d ↔ p_saw B d := by
  subst el
  have hl : lgB B ≤ 3000 := by have := I.S.lg.2; have := I.S.hq; omega
  unfold p_saw
  rw [s_write_lg _ _ _ _ hl, s_write_32, s_write_33, s_write_34, s_write_s]
  constructor
  · rintro ⟨j, m, h1, h2, h3, h4, h5⟩
    by_cases hj : j = lgB B
    · subst hj
      rw [va_up_self] at h2 h3
      have := (nI_eq (by omega) (by omega)).mp h2
      subst this
      have a := (I.E.n (2 * d + 1)); have b := (I.E.so d).1; have := I.S.hq
      rw [a.1, nI_1] at h3
      have := (nI_eq (by omega) (by omega)).mp h3
      omega
    · rw [va_up_ne _ _ hj] at h2 h3 h4
      exact ⟨j, m, by omega, h2, h3, h4, h5⟩
  · rintro ⟨j, m, h1, h2, h3, h4, h5⟩
    exact ⟨j, m, by omega, by rw [va_up_ne _ _ (by omega)]; exact h2, by rw [va_up_ne _ _ (by omega)]; exact h3, by rw [va_up_ne _ _ (by omega)]; exact h4, h5⟩
theorem Ph.iff {st rs st' rs' : Int32} {p1 p2 p3 p4 p5 p6 p7 p8 p9 p10 q1 q2 q3 q4 q5 q6 q7 q8 q9 q10 : Prop} (H : Ph st rs p1 p2 p3 p4 p5 p6 p7 p8 p9 p10) (es : st' = st) (er : rs' = rs) (e1 : q1 ↔ p1) (e2 : q2 ↔ p2) (e3 : q3 ↔ p3) (e4 : q4 ↔ p4) (e5 : q5 ↔ p5) (e6 : q6 ↔ p6) (e7 : q7 ↔ p7) (e8 : q8 ↔ p8) (e9 : q9 ↔ p9) (e10 : q10 ↔ p10) : Ph st' rs' q1 q2 q3 q4 q5 q6 q7 q8 q9 q10 := by
  rw [es, er, propext e1, propext e2, propext e3, propext e4, propext e5, propext e6, propext e7, propext e8, propext e9, propext e10]; exact H
/-- one deal alone is changed -/
def p_fr (A A' B B' : ew_R) (d0 : Nat) : Prop :=
  (B' 22 0 = B 22 0) ∧
  (B' 16 0 = B 16 0) ∧
  (∀ d, d ≠ d0 → B' 23 0 d = B 23 0 d) ∧
  (∀ d, d ≠ d0 → B' 24 0 d = B 24 0 d) ∧
  (∀ d, d ≠ d0 → B' 25 0 d = B 25 0 d) ∧
  (∀ d, d ≠ d0 → B' 27 0 d = B 27 0 d) ∧
  (∀ d, d ≠ d0 → B' 28 0 d = B 28 0 d) ∧
  (∀ d, d ≠ d0 → A' 4 d 4 = A 4 d 4) ∧
  (∀ l, l ≠ d0 / 6 → B' 18 0 l = B 18 0 l) ∧
  (B' 18 0 (d0 / 6) = B 18 0 (d0 / 6) ∨ p_k B (d0 / 6) = d0 % 6) ∧
  (∀ l, l ≠ d0 / 6 → B' 17 0 l = B 17 0 l) ∧
  (B' 17 0 (d0 / 6) = B 17 0 (d0 / 6) ∨ (p_k B (d0 / 6) = d0 % 6)) ∧
  (∀ k, k = 2 ∨ k = 3 → B' 0 0 k = B 0 0 k) ∧
  (∀ d, d ≠ d0 → d < 192 → ∀ k, p_has B' (2 * d + 1) k ↔ p_has B (2 * d + 1) k) ∧
  (∀ d, d ≠ d0 → d < 192 → ∀ k, p_has B' (2 * d) k ↔ p_has B (2 * d) k) ∧
  (∀ d, d ≠ d0 → d < 192 → (p_saw B' d ↔ p_saw B d))
theorem p_fr.e22 {A A' B B' : ew_R} {d0 : Nat} (h9 : p_fr A A' B B' d0) : B' 22 0 = B 22 0 := h9.1
theorem p_fr.e16 {A A' B B' : ew_R} {d0 : Nat} (h9 : p_fr A A' B B' d0) : B' 16 0 = B 16 0 := h9.2.1
theorem p_fr.o23 {A A' B B' : ew_R} {d0 : Nat} (h9 : p_fr A A' B B' d0) : ∀ d, d ≠ d0 → B' 23 0 d = B 23 0 d := h9.2.2.1
theorem p_fr.o24 {A A' B B' : ew_R} {d0 : Nat} (h9 : p_fr A A' B B' d0) : ∀ d, d ≠ d0 → B' 24 0 d = B 24 0 d := h9.2.2.2.1
theorem p_fr.o25 {A A' B B' : ew_R} {d0 : Nat} (h9 : p_fr A A' B B' d0) : ∀ d, d ≠ d0 → B' 25 0 d = B 25 0 d := h9.2.2.2.2.1
theorem p_fr.o27 {A A' B B' : ew_R} {d0 : Nat} (h9 : p_fr A A' B B' d0) : ∀ d, d ≠ d0 → B' 27 0 d = B 27 0 d := h9.2.2.2.2.2.1
theorem p_fr.o28 {A A' B B' : ew_R} {d0 : Nat} (h9 : p_fr A A' B B' d0) : ∀ d, d ≠ d0 → B' 28 0 d = B 28 0 d := h9.2.2.2.2.2.2.1
theorem p_fr.o4 {A A' B B' : ew_R} {d0 : Nat} (h9 : p_fr A A' B B' d0) : ∀ d, d ≠ d0 → A' 4 d 4 = A 4 d 4 := h9.2.2.2.2.2.2.2.1
theorem p_fr.o18 {A A' B B' : ew_R} {d0 : Nat} (h9 : p_fr A A' B B' d0) : ∀ l, l ≠ d0 / 6 → B' 18 0 l = B 18 0 l := h9.2.2.2.2.2.2.2.2.1
theorem p_fr.r18 {A A' B B' : ew_R} {d0 : Nat} (h9 : p_fr A A' B B' d0) : B' 18 0 (d0 / 6) = B 18 0 (d0 / 6) ∨ p_k B (d0 / 6) = d0 % 6 := h9.2.2.2.2.2.2.2.2.2.1
theorem p_fr.o17 {A A' B B' : ew_R} {d0 : Nat} (h9 : p_fr A A' B B' d0) : ∀ l, l ≠ d0 / 6 → B' 17 0 l = B 17 0 l := h9.2.2.2.2.2.2.2.2.2.2.1
theorem p_fr.r17 {A A' B B' : ew_R} {d0 : Nat} (h9 : p_fr A A' B B' d0) : B' 17 0 (d0 / 6) = B 17 0 (d0 / 6) ∨ (p_k B (d0 / 6) = d0 % 6) := h9.2.2.2.2.2.2.2.2.2.2.2.1
theorem p_fr.e0 {A A' B B' : ew_R} {d0 : Nat} (h9 : p_fr A A' B B' d0) : ∀ k, k = 2 ∨ k = 3 → B' 0 0 k = B 0 0 k := h9.2.2.2.2.2.2.2.2.2.2.2.2.1
theorem p_fr.hs {A A' B B' : ew_R} {d0 : Nat} (h9 : p_fr A A' B B' d0) : ∀ d, d ≠ d0 → d < 192 → ∀ k, p_has B' (2 * d + 1) k ↔ p_has B (2 * d + 1) k := h9.2.2.2.2.2.2.2.2.2.2.2.2.2.1
theorem p_fr.hq {A A' B B' : ew_R} {d0 : Nat} (h9 : p_fr A A' B B' d0) : ∀ d, d ≠ d0 → d < 192 → ∀ k, p_has B' (2 * d) k ↔ p_has B (2 * d) k := h9.2.2.2.2.2.2.2.2.2.2.2.2.2.2.1
theorem p_fr.hw {A A' B B' : ew_R} {d0 : Nat} (h9 : p_fr A A' B B' d0) : ∀ d, d ≠ d0 → d < 192 → (p_saw B' d ↔ p_saw B d) := h9.2.2.2.2.2.2.2.2.2.2.2.2.2.2.2
/-- all but the view of the deal x -/
def Pvx (A B : ew_R) (q x : Nat) : Prop :=
  (∀ d, ¬ B 22 0 d = 0 → d ≠ x → p_ph A B d) ∧
  (∀ d, ¬ B 22 0 d = 0 → p_cd A B q d) ∧
  (∀ j j', j < lgB B → j' < lgB B → B 32 0 j = B 32 0 j' → B 34 0 j = 3 → B 34 0 j' = 3 → j = j') ∧
  (∀ j, j < lgB B → B 34 0 j = 7 ∨ B 34 0 j = 11 → ¬ B 35 0 j = 0) ∧
  (∀ l, l < p_l B → ¬ B 18 0 l < 0) ∧
  (∃ t : Nat, t ≤ 1000 * q ∧ B 0 0 1 = nI t)
theorem Pvx.ph {A B : ew_R} {q x : Nat} (h9 : Pvx A B q x) : ∀ d, ¬ B 22 0 d = 0 → d ≠ x → p_ph A B d := h9.1
theorem Pvx.cd {A B : ew_R} {q x : Nat} (h9 : Pvx A B q x) : ∀ d, ¬ B 22 0 d = 0 → p_cd A B q d := h9.2.1
theorem Pvx.u3 {A B : ew_R} {q x : Nat} (h9 : Pvx A B q x) : ∀ j j', j < lgB B → j' < lgB B → B 32 0 j = B 32 0 j' → B 34 0 j = 3 → B 34 0 j' = 3 → j = j' := h9.2.2.1
theorem Pvx.tl {A B : ew_R} {q x : Nat} (h9 : Pvx A B q x) : ∀ j, j < lgB B → B 34 0 j = 7 ∨ B 34 0 j = 11 → ¬ B 35 0 j = 0 := h9.2.2.2.1
theorem Pvx.rs {A B : ew_R} {q x : Nat} (h9 : Pvx A B q x) : ∀ l, l < p_l B → ¬ B 18 0 l < 0 := h9.2.2.2.2.1
theorem Pvx.day {A B : ew_R} {q x : Nat} (h9 : Pvx A B q x) : ∃ t : Nat, t ≤ 1000 * q ∧ B 0 0 1 = nI t := h9.2.2.2.2.2
theorem Pv.stepx {A A' B B' : ew_R} {q q' d0 : Nat} (h : Pv A B q) (Z : RfZ B) (hc : p_c B ≤ 32) (hq : q ≤ q') (F : p_fr A A' B B' d0) (C : p_cd A' B' q' d0)
    (u3 : ∀ j j', j < lgB B' → j' < lgB B' → B' 32 0 j = B' 32 0 j' → B' 34 0 j = 3 → B' 34 0 j' = 3 → j = j') (tl : ∀ j, j < lgB B' → B' 34 0 j = 7 ∨ B' 34 0 j = 11 → ¬ B' 35 0 j = 0) (rs : ¬ B' 18 0 (d0 / 6) < 0) (day : ∃ t : Nat, t ≤ 1000 * q' ∧ B' 0 0 1 = nI t) : Pvx A' B' q' d0 := by
  have ek : p_k B' = p_k B := by funext l; simp only [p_k, F.e16]
  have el : p_l B' = p_l B := by simp only [p_l, F.e0 2 (by simp)]
  have ec : p_c B' = p_c B := by simp only [p_c, F.e0 3 (by simp)]
  refine ⟨fun d hd hdd => ?_, fun d hd => ?_, u3, tl, fun l hl => ?_, day⟩
  · · rw [F.e22] at hd
      have h192 := Z.lt d hd
      have H := h.ph d hd
      unfold p_ph at H ⊢
      have H' : Ph (B' 23 0 d) (B 18 0 (d / 6)) (p_k B' (d / 6) = d % 6) (p_has B' (2 * d + 1) 3) (p_saw B' d) (p_has B' (2 * d + 1) 4) (p_has B' (2 * d + 1) 7) (p_has B' (2 * d) 5) (p_has B' (2 * d) 6) (p_has B' (2 * d) 15) (A' 4 d 4 = (-1)) (B' 25 0 d = 0) := H.iff (F.o23 d hdd) rfl (by rw [ek]) (F.hs d hdd h192 3) (F.hw d hdd h192) (F.hs d hdd h192 4) (F.hs d hdd h192 7) (F.hq d hdd h192 5) (F.hq d hdd h192 6) (F.hq d hdd h192 15) (by rw [F.o4 d hdd]) (by rw [F.o25 d hdd])
      by_cases hl : d / 6 = d0 / 6
      · rcases F.r18 with r | r
        · rw [hl, r, ← hl]; exact H'
        · exact H'.other (fun z => by rw [ek, hl] at z; omega)
      · rw [F.o18 _ hl]; exact H'
  · by_cases hdd : d = d0
    · subst hdd; exact C
    · rw [F.e22] at hd
      obtain ⟨c1, c2, c3, c4, u, g, c5, c6, c7, c8, c9⟩ := h.cd d hd
      refine ⟨?_, ?_, ?_, ?_, u, g, c5, ?_, ?_, by omega, ?_⟩
      · rw [F.o4 d hdd, ec]
        rcases c1 with c1 | ⟨c, x1, x2, x3⟩
        · exact Or.inl c1
        · refine Or.inr ⟨c, x1, x2, ?_⟩
          by_cases hl : d / 6 = d0 / 6
          · rcases F.r17 with r | r
            · rw [hl, r, ← hl]; exact x3
            · have := (h.ph d hd).b (fun z => by rw [z] at x2; exact nI_m1 (by omega) x2.symm)
              rw [hl] at this; omega
          · rw [F.o17 _ hl]; exact x3
      · rw [F.o23 d hdd, F.o28 d hdd, F.o4 d hdd]; exact c2
      · rw [F.o23 d hdd, F.o28 d hdd]; exact c3
      · rw [F.o28 d hdd, ec]; exact c4
      · rw [F.o27 d hdd]; exact c6
      · rw [F.o24 d hdd]; exact c7
      · rw [F.o23 d hdd]; exact c9
  · by_cases hl2 : l = d0 / 6
    · subst hl2; exact rs
    · rw [F.o18 l hl2]; exact h.rs l (by omega)
theorem Pv.step {A A' B B' : ew_R} {q q' d0 : Nat} (h : Pv A B q) (Z : RfZ B) (hc : p_c B ≤ 32) (hq : q ≤ q') (F : p_fr A A' B B' d0) (P : p_ph A' B' d0) (C : p_cd A' B' q' d0)
    (u3 : ∀ j j', j < lgB B' → j' < lgB B' → B' 32 0 j = B' 32 0 j' → B' 34 0 j = 3 → B' 34 0 j' = 3 → j = j') (tl : ∀ j, j < lgB B' → B' 34 0 j = 7 ∨ B' 34 0 j = 11 → ¬ B' 35 0 j = 0) (rs : ¬ B' 18 0 (d0 / 6) < 0) (day : ∃ t : Nat, t ≤ 1000 * q' ∧ B' 0 0 1 = nI t) : Pv A' B' q' := by
  have h9 := h.stepx Z hc hq F C u3 tl rs day
  refine ⟨fun d hd => ?_, h9.cd, h9.u3, h9.tl, h9.rs, h9.day⟩
  by_cases hdd : d = d0
  · subst hdd; exact P
  · exact h9.ph d hd hdd
