/-! A new deal, a new loan, a new copy: both sides -/
/-- the class's ints after a new deal d of loan ln -/
def p_nd (A A' : ew_R) (ln d : Nat) (b rq : Int32) : Prop :=
  (∀ c, c ∉ [2, 3, 4, 5, 8, 13, 15, 16, 17] → A' c = A c) ∧
  (∀ l k, A' 2 l k = if l = ln ∧ k = 7 then nI d else A 2 l k) ∧
  (∀ l k, k < 4 → A' 3 l k = if l = ln then 0 else A 3 l k) ∧
  (A' 4 = va_up (A 4) d (p_r4 b)) ∧
  (A' 5 = va_up (A 5) d (p_r5 (nI ln) rq b)) ∧
  (A' 8 = va_up (A 8) d (p_r8 d)) ∧
  (∀ l k, k < 6 → A' 13 l k = if l = ln ∧ nI k = b then 1 else A 13 l k) ∧
  (A' 15 = va_up (A 15) d (p_r5 (nI ln) b rq)) ∧
  (A' 16 = va_up (A 16) d (p_r8 d)) ∧
  (A' 17 = va_up (A 17) d (fun _ => 0))
theorem p_nd.o {A A' : ew_R} {ln d : Nat} {b rq : Int32} (h9 : p_nd A A' ln d b rq) : ∀ c, c ∉ [2, 3, 4, 5, 8, 13, 15, 16, 17] → A' c = A c := h9.1
theorem p_nd.a2 {A A' : ew_R} {ln d : Nat} {b rq : Int32} (h9 : p_nd A A' ln d b rq) : ∀ l k, A' 2 l k = if l = ln ∧ k = 7 then nI d else A 2 l k := h9.2.1
theorem p_nd.a3 {A A' : ew_R} {ln d : Nat} {b rq : Int32} (h9 : p_nd A A' ln d b rq) : ∀ l k, k < 4 → A' 3 l k = if l = ln then 0 else A 3 l k := h9.2.2.1
theorem p_nd.a4 {A A' : ew_R} {ln d : Nat} {b rq : Int32} (h9 : p_nd A A' ln d b rq) : A' 4 = va_up (A 4) d (p_r4 b) := h9.2.2.2.1
theorem p_nd.a5 {A A' : ew_R} {ln d : Nat} {b rq : Int32} (h9 : p_nd A A' ln d b rq) : A' 5 = va_up (A 5) d (p_r5 (nI ln) rq b) := h9.2.2.2.2.1
theorem p_nd.a8 {A A' : ew_R} {ln d : Nat} {b rq : Int32} (h9 : p_nd A A' ln d b rq) : A' 8 = va_up (A 8) d (p_r8 d) := h9.2.2.2.2.2.1
theorem p_nd.a13 {A A' : ew_R} {ln d : Nat} {b rq : Int32} (h9 : p_nd A A' ln d b rq) : ∀ l k, k < 6 → A' 13 l k = if l = ln ∧ nI k = b then 1 else A 13 l k := h9.2.2.2.2.2.2.1
theorem p_nd.a15 {A A' : ew_R} {ln d : Nat} {b rq : Int32} (h9 : p_nd A A' ln d b rq) : A' 15 = va_up (A 15) d (p_r5 (nI ln) b rq) := h9.2.2.2.2.2.2.2.1
theorem p_nd.a16 {A A' : ew_R} {ln d : Nat} {b rq : Int32} (h9 : p_nd A A' ln d b rq) : A' 16 = va_up (A 16) d (p_r8 d) := h9.2.2.2.2.2.2.2.2.1
theorem p_nd.a17 {A A' : ew_R} {ln d : Nat} {b rq : Int32} (h9 : p_nd A A' ln d b rq) : A' 17 = va_up (A 17) d (fun _ => 0) := h9.2.2.2.2.2.2.2.2.2
/-- what is wanted of the loans but that the present one of ln may be wanting -/
def RlDx (A B : ew_R) (ln : Nat) : Prop :=
  (∀ l, l < p_l B → A 2 l 0 = nI l ∧ (l ≠ ln → A 2 l 7 = nI (6 * l + p_k B l))) ∧
  (∀ d, ¬ B 22 0 d = 0 → p_dl A B d) ∧
  (∀ c, c < 32 → (A 9 0 c = 0 ↔ p_c B ≤ c)) ∧
  (∀ l, l < 32 → (A 10 0 l = 0 ↔ p_l B ≤ l))
theorem RlDx.ln {A B : ew_R} {ln : Nat} (h9 : RlDx A B ln) : ∀ l, l < p_l B → A 2 l 0 = nI l ∧ (l ≠ ln → A 2 l 7 = nI (6 * l + p_k B l)) := h9.1
theorem RlDx.dl {A B : ew_R} {ln : Nat} (h9 : RlDx A B ln) : ∀ d, ¬ B 22 0 d = 0 → p_dl A B d := h9.2.1
theorem RlDx.f9 {A B : ew_R} {ln : Nat} (h9 : RlDx A B ln) : ∀ c, c < 32 → (A 9 0 c = 0 ↔ p_c B ≤ c) := h9.2.2.1
theorem RlDx.f10 {A B : ew_R} {ln : Nat} (h9 : RlDx A B ln) : ∀ l, l < 32 → (A 10 0 l = 0 ↔ p_l B ≤ l) := h9.2.2.2
theorem RlD.x {A B : ew_R} (h : RlD A B) (ln : Nat) : RlDx A B ln := ⟨fun l hl => ⟨(h.ln l hl).1, fun _ => (h.ln l hl).2⟩, h.dl, h.f9, h.f10⟩
theorem p_col_row {A A' : ew_R} {c d : Nat} {r : Nat → Int32} (h : A' c = va_up (A c) d r) (k : Nat) : p_col A' c k = va_up (p_col A c k) d (r k) := by
  funext i; unfold p_col; rw [h]
  by_cases hi : i = d
  · subst hi; rw [va_up_self, va_up_self]
  · rw [va_up_ne _ _ hi, va_up_ne _ _ hi]
theorem RfE.z0 {B : ew_R} {q : Nat} (h : RfE B q) {d : Nat} (hd : B 22 0 d = 0) : B 29 0 (2 * d) = 0 ∧ B 29 0 (2 * d + 1) = 0 ∧ B 30 0 (2 * d) = 0 ∧ B 30 0 (2 * d + 1) = 0 ∧ B 31 0 (2 * d) = 0 ∧ B 31 0 (2 * d + 1) = 0 := by
  have h1 := h.z (2 * d) (by rw [show 2 * d / 2 = d by omega]; exact hd)
  have h2 := h.z (2 * d + 1) (by rw [show (2 * d + 1) / 2 = d by omega]; exact hd)
  have h3 := h.so d
  have h4 := h.ao d
  have a1 := (h.n (2 * d)).1; have a2 := (h.n (2 * d + 1)).1; have a3 := h.s (2 * d); have a4 := h.s (2 * d + 1); have a5 := h.a (2 * d); have a6 := h.a (2 * d + 1)
  rw [h1] at a1; rw [h2] at a2
  rw [show p_s B (2 * d) = 0 by omega] at a3; rw [show p_s B (2 * d + 1) = 0 by omega] at a4
  rw [show p_a B (2 * d) = 0 by omega] at a5; rw [show p_a B (2 * d + 1) = 0 by omega] at a6
  exact ⟨a1, a2, a3, a4, a5, a6⟩
theorem Rl.deal {A A' B B' : ew_R} {q ln x b : Nat} (C : RlC A B) (E : RlE A B) (D : RlDx A B ln) (T : RlT A B) (R : RlR A B) (G : RlG A B) (hE : RfE B q) (hZ : RfZ B) (hln : ln < p_l B) (nb : b < 6) (eb : (p_t B ln + x) % 6 = b) (h0 : B 22 0 (6 * ln + b) = 0) (n : p_nx B B' ln x) (m : p_nd A A' ln (6 * ln + b) (nI b) (B 11 0 ln)) : Rl A' B' := by
  have r : ∀ c, c ∉ [0, 15, 16, 18, 19, 20, 21, 22, 28] → B' c 0 = B c 0 := fun c hc => by rw [n.o c hc]
  have e16 := n.e16; have e22 := n.e22; rw [eb] at e16 e22
  have Z := hE.z0 h0
  have z3 := hZ.z3 _ h0
  have k17 : ∀ k, p_col A' 17 k = va_up (p_col A 17 k) (6 * ln + b) 0 := fun k => p_col_row m.a17 k
  have c3 : ∀ k, k < 4 → p_col A' 3 k = va_up (p_col A 3 k) ln 0 := fun k hk => by
    funext i; unfold p_col; rw [m.a3 i k hk]
    by_cases hi : i = ln
    · subst hi; rw [if_pos rfl, va_up_self]
    · rw [if_neg hi, va_up_ne _ _ hi]
  have c2 : ∀ k, k ≠ 7 → p_col A' 2 k = p_col A 2 k := fun k hk => by funext i; unfold p_col; rw [m.a2, if_neg (fun z => hk z.2)]
  have el : p_l B' = p_l B := by simp only [p_l, n.e0 2 (by decide)]
  have ec : p_c B' = p_c B := by simp only [p_c, n.e0 3 (by decide)]
  have en : p_n B' = p_n B := by funext e; simp only [p_n, r 29 (by decide)]
  refine ⟨⟨?_, ?_, ?_, ?_, ?_, ?_, ?_, ?_, ?_, ?_, ?_, ?_, ?_, ?_, ?_, ?_, ?_, ?_, ?_, ?_, ?_, ?_, ?_, ?_⟩, ⟨?_, ?_, ?_, ?_, ?_, ?_⟩, ⟨?_, ?_, ?_, ?_⟩, ?_, ?_, ⟨?_, ?_⟩⟩
  · rw [m.o 0 (by decide), n.e0 1 (by decide)]; exact C.day
  · rw [m.o 0 (by decide), n.e0 2 (by decide)]; exact C.nl
  · rw [m.o 0 (by decide), n.e0 3 (by decide)]; exact C.nc
  · rw [m.o 7 (by decide), n.e0 4 (by decide)]; exact C.w
  · rw [m.o 11 (by decide), r 6 (by decide)]; exact C.bal
  · rw [p_col_kd (m.o 1 (by decide)), r 8 (by decide)]; exact C.c0
  · rw [p_col_kd (m.o 1 (by decide)), r 7 (by decide)]; exact C.c1
  · rw [p_col_kd (m.o 1 (by decide)), r 9 (by decide)]; exact C.c2
  · rw [p_col_kd (m.o 1 (by decide)), r 10 (by decide)]; exact C.c3
  · rw [c2 1 (by decide), r 11 (by decide)]; exact C.l1
  · rw [c2 2 (by decide), r 12 (by decide)]; exact C.l2
  · rw [c2 3 (by decide), r 14 (by decide)]; exact C.l3
  · rw [c2 4 (by decide), r 13 (by decide)]; exact C.l4
  · rw [c3 0 (by decide), n.e18, C.g0]
  · rw [c3 1 (by decide), n.e19, C.g1]
  · rw [c3 2 (by decide), n.e20, C.g2]
  · rw [c3 3 (by decide), n.e21, C.g3]
  · rw [k17, r 23 (by decide), C.d0, va_up_same z3.1]
  · rw [k17, r 24 (by decide), C.d1, va_up_same z3.2.1]
  · rw [k17, r 25 (by decide), C.d2, va_up_same z3.2.2.1]
  · rw [k17, r 26 (by decide), C.d3, va_up_same z3.2.2.2.1]
  · rw [p_col_row m.a4, r 27 (by decide), C.gr]; exact va_up_same z3.2.2.2.2
  · intro l k hk
    rw [m.a13 l k hk, e22]
    by_cases h : l = ln ∧ nI k = nI b
    · rw [if_pos h]
      have := (nI_eq (by omega) (by omega)).mp h.2
      rw [h.1, this, va_up_self]
    · rw [if_neg h, va_up_ne _ _ (fun z => h ⟨by omega, by rw [show k = b by omega]⟩)]; exact C.th l k hk
  · rw [m.o 18 (by decide)]; exact C.bare
  · rw [p_col_row m.a5, r 30 (by decide), E.s]; exact va_up_same Z.2.2.1
  · rw [p_col_row m.a5, r 31 (by decide), E.a]; exact va_up_same Z.2.2.2.2.1
  · rw [p_col_row m.a8, r 29 (by decide), E.n]; exact va_up_same Z.1
  · rw [p_col_row m.a15, r 30 (by decide), E.s']; exact va_up_same Z.2.2.2.1
  · rw [p_col_row m.a15, r 31 (by decide), E.a']; exact va_up_same Z.2.2.2.2.2
  · rw [p_col_row m.a16, r 29 (by decide), E.n']; exact va_up_same Z.2.1
  · intro l hl
    rw [el] at hl
    have := D.ln l hl
    rw [m.a2, m.a2, if_neg (by omega)]
    refine ⟨this.1, ?_⟩
    simp only [p_k, e16]
    by_cases hll : l = ln
    · subst hll; rw [if_pos (by simp), va_up_self, nI_clamp (by omega)]
    · rw [if_neg (by simp [hll]), va_up_ne _ _ hll]; exact this.2 hll
  · intro d hd
    rw [e22] at hd
    by_cases h : d = 6 * ln + b
    · subst h
      refine ⟨?_, ?_, ?_, ?_, ?_, ?_, ?_⟩
      · rw [m.a4, va_up_self, show (6 * ln + b) % 6 = b by omega]; rfl
      · rw [m.a5, va_up_self, show (6 * ln + b) / 6 = ln by omega]; rfl
      · rw [m.a5, va_up_self, show (6 * ln + b) / 6 = ln by omega, r 11 (by decide)]; rfl
      · rw [m.a5, va_up_self, show (6 * ln + b) % 6 = b by omega]; rfl
      · rw [m.a15, va_up_self, show (6 * ln + b) / 6 = ln by omega]; rfl
      · rw [m.a15, va_up_self, show (6 * ln + b) % 6 = b by omega]; rfl
      · rw [m.a15, va_up_self, show (6 * ln + b) / 6 = ln by omega, r 11 (by decide)]; rfl
    · rw [va_up_ne _ _ h] at hd
      obtain ⟨h0, h1, h2, h3, h4, h5, h6⟩ := D.dl d hd
      refine ⟨?_, ?_, ?_, ?_, ?_, ?_, ?_⟩
      · rw [m.a4, va_up_ne _ _ h]; exact h0
      · rw [m.a5, va_up_ne _ _ h]; exact h1
      · rw [m.a5, va_up_ne _ _ h, r 11 (by decide)]; exact h2
      · rw [m.a5, va_up_ne _ _ h]; exact h3
      · rw [m.a15, va_up_ne _ _ h]; exact h4
      · rw [m.a15, va_up_ne _ _ h]; exact h5
      · rw [m.a15, va_up_ne _ _ h, r 11 (by decide)]; exact h6
  · rw [m.o 9 (by decide), ec]; exact D.f9
  · rw [m.o 10 (by decide), el]; exact D.f10
  · exact T.cg (m.o 6 (by decide)) (m.o 19 (by decide)) (fun c hc => r c (by revert c; decide)) (n.e0 5 (by decide)) (fun e => by simp only [p_s, r 30 (by decide)]; exact Nat.le_refl _)
  · exact R.cg (by rw [m.o 12 (by decide)]) (fun c hc => r c (by revert c; decide)) (n.e0 4 (by decide))
  · intro d hd
    rw [e22] at hd
    rw [en]
    by_cases h : d = 6 * ln + b
    · subst h
      refine ⟨0, by omega, ?_, ?_, by omega⟩
      · unfold p_n; rw [Z.1]; exact Nat.le_refl 0
      · rw [m.a8, va_up_self]; rfl
    · rw [va_up_ne _ _ h] at hd
      obtain ⟨g9, h1, h2, h3, h4⟩ := G.g d hd
      exact ⟨g9, h1, h2, by rw [m.a8, va_up_ne _ _ h]; exact h3, by rw [m.o 14 (by decide)]; exact h4⟩
  · intro d hd
    rw [e22] at hd
    rw [en]
    by_cases h : d = 6 * ln + b
    · subst h
      refine ⟨0, by omega, ?_, ?_, by omega⟩
      · unfold p_n; rw [Z.2.1]; exact Nat.le_refl 0
      · rw [m.a16, va_up_self]; rfl
    · rw [va_up_ne _ _ h] at hd
      obtain ⟨g9, h1, h2, h3, h4⟩ := G.g' d hd
      exact ⟨g9, h1, h2, by rw [m.a16, va_up_ne _ _ h]; exact h3, by rw [m.o 20 (by decide)]; exact h4⟩
/-- a new copy -/
theorem Rl.copy {A B : ew_R} {q nc : Nat} (h : Rl A B) (hq : RfS B q) (ec : nc = p_c B) (hc : nc < 32) (b t : Int32) : Rl (up3 (up3 (upr A 1 nc (fun k => if k = 0 then b else if k = 1 then t else if k = 2 then b else if k = 3 then (-1) else 0)) 9 0 nc 1) 0 0 5 (nI (nc + 1))) (up3 (up3 (up3 (up3 (up3 B 7 0 nc t) 8 0 nc b) 9 0 nc b) 10 0 nc (-1)) 0 0 3 (nI (nc + 1))) := by
  have hl : p_l (up3 (up3 (up3 (up3 (up3 B 7 0 nc t) 8 0 nc b) 9 0 nc b) 10 0 nc (-1)) 0 0 3 (nI (nc + 1))) = p_l B := by unfold p_l; simp [p_row_up, va_up]
  have hcc : p_c (up3 (up3 (up3 (up3 (up3 B 7 0 nc t) 8 0 nc b) 9 0 nc b) 10 0 nc (-1)) 0 0 3 (nI (nc + 1))) = nc + 1 := by unfold p_c; rw [up3_self, nI_clamp (by omega)]
  have ra : ∀ c, c ∉ [0, 1, 9] → (up3 (up3 (upr A 1 nc (fun k => if k = 0 then b else if k = 1 then t else if k = 2 then b else if k = 3 then (-1) else 0)) 9 0 nc 1) 0 0 5 (nI (nc + 1))) c = A c := fun c hc => by
    simp only [List.mem_cons, List.not_mem_nil, or_false, not_or] at hc
    rw [p_kd_up _ _ _ _ hc.1, p_kd_up _ _ _ _ hc.2.2, p_kd_upr _ _ _ hc.2.1]
  have rb : ∀ c, c ∉ [0, 7, 8, 9, 10] → (up3 (up3 (up3 (up3 (up3 B 7 0 nc t) 8 0 nc b) 9 0 nc b) 10 0 nc (-1)) 0 0 3 (nI (nc + 1))) c = B c := fun c hc => by
    simp only [List.mem_cons, List.not_mem_nil, or_false, not_or] at hc
    rw [p_kd_up _ _ _ _ hc.1, p_kd_up _ _ _ _ hc.2.2.2.2, p_kd_up _ _ _ _ hc.2.2.2.1, p_kd_up _ _ _ _ hc.2.2.1, p_kd_up _ _ _ _ hc.2.1]
  have b0 : ∀ k, k ≠ 3 → (up3 (up3 (up3 (up3 (up3 B 7 0 nc t) 8 0 nc b) 9 0 nc b) 10 0 nc (-1)) 0 0 3 (nI (nc + 1))) 0 0 k = B 0 0 k := fun k hk => by simp [p_row_up, va_up, hk]
  refine ⟨?_, h.E.cg (fun c hc => ra c (by revert c; decide)) (fun c hc => by rw [rb c (by revert c; decide)]), ⟨fun l hl9 => ?_, fun d hd => ?_, fun c hc9 => ?_, fun l hl9 => ?_⟩, h.T.cg (ra 6 (by decide)) (ra 19 (by decide)) (fun c hc => by rw [rb c (by revert c; decide)]) (b0 5 (by decide)) (fun e => by simp only [p_s]; rw [rb 30 (by decide)]; exact Nat.le_refl _), h.R.cg (by rw [ra 12 (by decide)]) (fun c hc => by rw [rb c (by revert c; decide)]) (b0 4 (by decide)), h.G.cg (fun c hc => ra c (by revert c; decide)) (by rw [rb 22 (by decide)]) (by rw [rb 29 (by decide)])⟩
  · have H := h.C
    refine ⟨?_, ?_, ?_, ?_, ?_, ?_, ?_, ?_, ?_, ?_, ?_, ?_, ?_, ?_, ?_, ?_, ?_, ?_, ?_, ?_, ?_, ?_, ?_, ?_⟩ <;> first
      | (simp only [p_col_up, p_col_upr, p_row_up]; simp [H.c0, H.c1, H.c2, H.c3, H.l1, H.l2, H.l3, H.l4, H.g0, H.g1, H.g2, H.g3, H.d0, H.d1, H.d2, H.d3, H.gr]; done)
      | (rw [ra _ (by decide), rb _ (by decide)]; first | exact H.bal | exact H.th)
      | (rw [ra _ (by decide)]; exact H.bare)
      | (rw [ra _ (by decide), b0 _ (by decide)]; exact H.w)
      | (rw [b0 _ (by decide), up3_ne _ _ (by decide), p_kd_up _ _ _ _ (by decide), p_kd_upr _ _ _ (by decide)]; first | exact H.day | exact H.nl)
      | (rw [up3_self, up3_self])
  · rw [hl] at hl9
    rw [ra 2 (by decide)]; simp only [p_k]; rw [rb 16 (by decide)]; exact h.D.ln l hl9
  · rw [rb 22 (by decide)] at hd
    have := h.D.dl d hd
    exact ⟨by rw [ra 4 (by decide)]; exact this.h0, by rw [ra 5 (by decide)]; exact this.h1, by rw [ra 5 (by decide), rb 11 (by decide)]; exact this.h2, by rw [ra 5 (by decide)]; exact this.h3, by rw [ra 15 (by decide)]; exact this.h4, by rw [ra 15 (by decide)]; exact this.h5, by rw [ra 15 (by decide), rb 11 (by decide)]; exact this.h6⟩
  · rw [hcc, p_kd_up _ _ _ _ (by decide)]
    have := h.D.f9 c hc9
    by_cases hcn : c = nc
    · rw [hcn, up3_self]; constructor
      · intro z; exact absurd z (by decide)
      · intro z; omega
    · rw [up3_ne _ _ (by omega), p_kd_upr _ _ _ (by decide), this]; omega
  · rw [hl, ra 10 (by decide)]; exact h.D.f10 l hl9
/-- a new loan that asks nobody yet -/
def p_nl (A A' : ew_R) (nl : Nat) (b t f n : Int32) : Prop :=
  (∀ c, c ∉ [0, 2, 10] → A' c = A c) ∧
  (∀ k, A' 0 0 k = if k = 6 then nI (nl + 1) else A 0 0 k) ∧
  (∀ l k, A' 2 l k = if l = nl then (if k = 0 then nI nl else if k = 1 then b else if k = 2 then t else if k = 3 then f else if k = 4 then n else A' 2 l k) else A 2 l k) ∧
  (∀ l, A' 10 0 l = if l = nl then 1 else A 10 0 l)
theorem p_nl.o {A A' : ew_R} {nl : Nat} {b t f n : Int32} (h9 : p_nl A A' nl b t f n) : ∀ c, c ∉ [0, 2, 10] → A' c = A c := h9.1
theorem p_nl.a0 {A A' : ew_R} {nl : Nat} {b t f n : Int32} (h9 : p_nl A A' nl b t f n) : ∀ k, A' 0 0 k = if k = 6 then nI (nl + 1) else A 0 0 k := h9.2.1
theorem p_nl.a2 {A A' : ew_R} {nl : Nat} {b t f n : Int32} (h9 : p_nl A A' nl b t f n) : ∀ l k, A' 2 l k = if l = nl then (if k = 0 then nI nl else if k = 1 then b else if k = 2 then t else if k = 3 then f else if k = 4 then n else A' 2 l k) else A 2 l k := h9.2.2.1
theorem p_nl.a10 {A A' : ew_R} {nl : Nat} {b t f n : Int32} (h9 : p_nl A A' nl b t f n) : ∀ l, A' 10 0 l = if l = nl then 1 else A 10 0 l := h9.2.2.2
def p_b1 (B : ew_R) (nl : Nat) (b t f n : Int32) : ew_R := up3 (up3 (up3 (up3 (up3 (up3 (up3 B 0 0 0 0) 11 0 nl b) 12 0 nl t) 14 0 nl f) 13 0 nl n) 17 0 nl (-1)) 0 0 2 (nI (nl + 1))
