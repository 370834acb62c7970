/-! The reference's invariant -/
def p_n (B : ew_R) (e : Nat) : Nat := (B 29 0 e).toNatClampNeg
def p_s (B : ew_R) (e : Nat) : Nat := (B 30 0 e).toNatClampNeg
def p_a (B : ew_R) (e : Nat) : Nat := (B 31 0 e).toNatClampNeg
def p_q (B : ew_R) (l : Nat) : Nat := (B 11 0 l).toNatClampNeg
def p_t (B : ew_R) (l : Nat) : Nat := (B 14 0 l).toNatClampNeg
def p_x (B : ew_R) (l : Nat) : Nat := (B 15 0 l).toNatClampNeg
def p_k (B : ew_R) (l : Nat) : Nat := (B 16 0 l).toNatClampNeg
def p_l (B : ew_R) : Nat := (B 0 0 2).toNatClampNeg
def p_c (B : ew_R) : Nat := (B 0 0 3).toNatClampNeg
/-- the sizes -/
def RfS (B : ew_R) (q : Nat) : Prop :=
  (q ≤ 512) ∧
  (B 0 0 2 = nI (p_l B) ∧ p_l B ≤ 32) ∧
  (B 0 0 3 = nI (p_c B) ∧ p_c B ≤ 32) ∧
  (B 0 0 4 = nI (wtB B) ∧ wtB B ≤ 64) ∧
  (B 0 0 5 = nI (lgB B) ∧ lgB B ≤ 2 * q)
theorem RfS.hq {B : ew_R} {q : Nat} (h9 : RfS B q) : q ≤ 512 := h9.1
theorem RfS.nl {B : ew_R} {q : Nat} (h9 : RfS B q) : B 0 0 2 = nI (p_l B) ∧ p_l B ≤ 32 := h9.2.1
theorem RfS.nc {B : ew_R} {q : Nat} (h9 : RfS B q) : B 0 0 3 = nI (p_c B) ∧ p_c B ≤ 32 := h9.2.2.1
theorem RfS.w {B : ew_R} {q : Nat} (h9 : RfS B q) : B 0 0 4 = nI (wtB B) ∧ wtB B ≤ 64 := h9.2.2.2.1
theorem RfS.lg {B : ew_R} {q : Nat} (h9 : RfS B q) : B 0 0 5 = nI (lgB B) ∧ lgB B ≤ 2 * q := h9.2.2.2.2
/-- a loan: its requester, its days, who of its rota is there -/
def RfK (B : ew_R) (l : Nat) : Prop :=
  (B 11 0 l = nI (p_q B l) ∧ p_q B l < 6) ∧
  (B 14 0 l = nI (p_t B l) ∧ p_t B l < 6) ∧
  (B 15 0 l = nI (p_x B l) ∧ p_x B l ≤ 7) ∧
  (p_x B l = 7 → p_t B l = p_q B l) ∧
  (∃ t : Nat, 1 ≤ t ∧ t ≤ 99 ∧ B 13 0 l = nI t) ∧
  (∀ j, j < 6 → B 22 0 (6 * l + (p_t B l + j) % 6) = if j < p_x B l ∧ (p_t B l + j) % 6 ≠ p_q B l then 1 else 0)
theorem RfK.rq {B : ew_R} {l : Nat} (h9 : RfK B l) : B 11 0 l = nI (p_q B l) ∧ p_q B l < 6 := h9.1
theorem RfK.st {B : ew_R} {l : Nat} (h9 : RfK B l) : B 14 0 l = nI (p_t B l) ∧ p_t B l < 6 := h9.2.1
theorem RfK.ak {B : ew_R} {l : Nat} (h9 : RfK B l) : B 15 0 l = nI (p_x B l) ∧ p_x B l ≤ 7 := h9.2.2.1
theorem RfK.a7 {B : ew_R} {l : Nat} (h9 : RfK B l) : p_x B l = 7 → p_t B l = p_q B l := h9.2.2.2.1
theorem RfK.dy {B : ew_R} {l : Nat} (h9 : RfK B l) : ∃ t : Nat, 1 ≤ t ∧ t ≤ 99 ∧ B 13 0 l = nI t := h9.2.2.2.2.1
theorem RfK.th {B : ew_R} {l : Nat} (h9 : RfK B l) : ∀ j, j < 6 → B 22 0 (6 * l + (p_t B l + j) % 6) = if j < p_x B l ∧ (p_t B l + j) % 6 ≠ p_q B l then 1 else 0 := h9.2.2.2.2.2
def RfP (B : ew_R) (l : Nat) : Prop := 1 ≤ p_x B l ∧ B 16 0 l = nI (p_k B l) ∧ p_k B l < 6 ∧ ¬ B 22 0 (6 * l + p_k B l) = 0
/-- the loans and who is asked -/
def RfL (B : ew_R) : Prop :=
  (∀ l, l < p_l B → RfK B l) ∧
  (∀ l, l < p_l B → RfP B l) ∧
  (∀ d, 6 * p_l B ≤ d → B 22 0 d = 0) ∧
  (∀ l, p_l B ≤ l → B 15 0 l = 0)
theorem RfL.k {B : ew_R} (h9 : RfL B) : ∀ l, l < p_l B → RfK B l := h9.1
theorem RfL.p {B : ew_R} (h9 : RfL B) : ∀ l, l < p_l B → RfP B l := h9.2.1
theorem RfL.nth {B : ew_R} (h9 : RfL B) : ∀ d, 6 * p_l B ≤ d → B 22 0 d = 0 := h9.2.2.1
theorem RfL.ak0 {B : ew_R} (h9 : RfL B) : ∀ l, p_l B ≤ l → B 15 0 l = 0 := h9.2.2.2
/-- the ends: sent, seen, acked -/
def RfE (B : ew_R) (q : Nat) : Prop :=
  (∀ e, B 29 0 e = nI (p_n B e) ∧ p_n B e ≤ q) ∧
  (∀ e, B 30 0 e = nI (p_s B e)) ∧
  (∀ e, B 31 0 e = nI (p_a B e)) ∧
  (∀ d, p_s B (2 * d) ≤ p_n B (2 * d + 1) ∧ p_s B (2 * d + 1) ≤ p_n B (2 * d)) ∧
  (∀ d, p_a B (2 * d) ≤ p_s B (2 * d + 1) ∧ p_a B (2 * d + 1) ≤ p_s B (2 * d)) ∧
  (∀ e, B 22 0 (e / 2) = 0 → p_n B e = 0)
theorem RfE.n {B : ew_R} {q : Nat} (h9 : RfE B q) : ∀ e, B 29 0 e = nI (p_n B e) ∧ p_n B e ≤ q := h9.1
theorem RfE.s {B : ew_R} {q : Nat} (h9 : RfE B q) : ∀ e, B 30 0 e = nI (p_s B e) := h9.2.1
theorem RfE.a {B : ew_R} {q : Nat} (h9 : RfE B q) : ∀ e, B 31 0 e = nI (p_a B e) := h9.2.2.1
theorem RfE.so {B : ew_R} {q : Nat} (h9 : RfE B q) : ∀ d, p_s B (2 * d) ≤ p_n B (2 * d + 1) ∧ p_s B (2 * d + 1) ≤ p_n B (2 * d) := h9.2.2.2.1
theorem RfE.ao {B : ew_R} {q : Nat} (h9 : RfE B q) : ∀ d, p_a B (2 * d) ≤ p_s B (2 * d + 1) ∧ p_a B (2 * d + 1) ≤ p_s B (2 * d) := h9.2.2.2.2.1
theorem RfE.z {B : ew_R} {q : Nat} (h9 : RfE B q) : ∀ e, B 22 0 (e / 2) = 0 → p_n B e = 0 := h9.2.2.2.2.2
/-- the log -/
def RfG (B : ew_R) : Prop :=
  (∀ j, j < lgB B → ∃ e k, e < 384 ∧ k < p_n B e ∧ B 32 0 j = nI e ∧ B 33 0 j = nI (k + 1)) ∧
  (∀ j j', j < lgB B → j' < lgB B → B 32 0 j = B 32 0 j' → B 33 0 j = B 33 0 j' → j = j') ∧
  (∀ e k, k < p_n B e → ∃ j, j < lgB B ∧ B 32 0 j = nI e ∧ B 33 0 j = nI (k + 1))
theorem RfG.i {B : ew_R} (h9 : RfG B) : ∀ j, j < lgB B → ∃ e k, e < 384 ∧ k < p_n B e ∧ B 32 0 j = nI e ∧ B 33 0 j = nI (k + 1) := h9.1
theorem RfG.u {B : ew_R} (h9 : RfG B) : ∀ j j', j < lgB B → j' < lgB B → B 32 0 j = B 32 0 j' → B 33 0 j = B 33 0 j' → j = j' := h9.2.1
theorem RfG.e {B : ew_R} (h9 : RfG B) : ∀ e k, k < p_n B e → ∃ j, j < lgB B ∧ B 32 0 j = nI e ∧ B 33 0 j = nI (k + 1) := h9.2.2
def p_rw (B : ew_R) (lg : Nat) (x37 x38 x39 : Int32) : Prop := ∃ e, e < 384 ∧ ¬ B 22 0 (e / 2) = 0 ∧ x38 = nI e ∧ (∃ v : Nat, v ≤ p_s B e ∧ x39 = nI v) ∧ (x37 = (-1) ∨ ∃ j, j < lg ∧ x37 = nI j ∧ B 32 0 j = nI e)
/-- the row -/
def RfW (B : ew_R) : Prop := ∀ i, i < wtB B → p_rw B (lgB B) (B 37 0 i) (B 38 0 i) (B 39 0 i)
/-- what isn't there is empty -/
def RfZ (B : ew_R) : Prop :=
  (∀ d, B 22 0 d = 0 → B 23 0 d = 0 ∧ B 24 0 d = 0 ∧ B 25 0 d = 0 ∧ B 26 0 d = 0 ∧ B 27 0 d = 0) ∧
  (∀ d, ¬ B 22 0 d = 0 → d < 192)
theorem RfZ.z3 {B : ew_R} (h9 : RfZ B) : ∀ d, B 22 0 d = 0 → B 23 0 d = 0 ∧ B 24 0 d = 0 ∧ B 25 0 d = 0 ∧ B 26 0 d = 0 ∧ B 27 0 d = 0 := h9.1
theorem RfZ.lt {B : ew_R} (h9 : RfZ B) : ∀ d, ¬ B 22 0 d = 0 → d < 192 := h9.2
def RfI (B : ew_R) (q : Nat) : Prop :=
  (RfS B q) ∧
  (RfL B) ∧
  (RfE B q) ∧
  (RfG B) ∧
  (RfW B)
theorem RfI.S {B : ew_R} {q : Nat} (h9 : RfI B q) : RfS B q := h9.1
theorem RfI.L {B : ew_R} {q : Nat} (h9 : RfI B q) : RfL B := h9.2.1
theorem RfI.E {B : ew_R} {q : Nat} (h9 : RfI B q) : RfE B q := h9.2.2.1
theorem RfI.G {B : ew_R} {q : Nat} (h9 : RfI B q) : RfG B := h9.2.2.2.1
theorem RfI.W {B : ew_R} {q : Nat} (h9 : RfI B q) : RfW B := h9.2.2.2.2
theorem RfS.cg {B B' : ew_R} {q q' : Nat} (h : RfS B q) (hq : q ≤ q') (hq' : q' ≤ 512) (e : ∀ k, 2 ≤ k → k ≤ 5 → B' 0 0 k = B 0 0 k) : RfS B' q' := by
  have e2 := e 2 (by decide) (by decide); have e3 := e 3 (by decide) (by decide); have e4 := e 4 (by decide) (by decide); have e5 := e 5 (by decide) (by decide)
  obtain ⟨h0, h1, h2, h3, h4⟩ := h
  refine ⟨hq', ?_, ?_, ?_, ?_⟩
  · simp only [p_l, e2]; exact h1
  · simp only [p_c, e3]; exact h2
  · simp only [wtB, e4]; exact h3
  · simp only [lgB, e5]; exact ⟨h4.1, Nat.le_trans h4.2 (by omega)⟩
theorem RfK.cg {B B' : ew_R} {l : Nat} (h : RfK B l) (e11 : B' 11 0 l = B 11 0 l) (e13 : B' 13 0 l = B 13 0 l) (e14 : B' 14 0 l = B 14 0 l) (e15 : B' 15 0 l = B 15 0 l) (e22 : ∀ b, b < 6 → B' 22 0 (6 * l + b) = B 22 0 (6 * l + b)) : RfK B' l := by
  obtain ⟨h1, h2, h3, h37, h4, h5⟩ := h
  refine ⟨?_, ?_, ?_, ?_, ?_, fun j hj => ?_⟩
  · simp only [p_q, e11]; exact h1
  · simp only [p_t, e14]; exact h2
  · simp only [p_x, e15]; exact h3
  · simp only [p_x, p_t, p_q, e11, e14, e15]; exact h37
  · simp only [e13]; exact h4
  · simp only [p_t, p_x, p_q, e11, e14, e15]; rw [e22 _ (by omega)]; exact h5 j hj
theorem RfP.cg {B B' : ew_R} {l : Nat} (h : RfP B l) (e15 : B' 15 0 l = B 15 0 l) (e16 : B' 16 0 l = B 16 0 l) (e22 : ∀ b, b < 6 → B' 22 0 (6 * l + b) = B 22 0 (6 * l + b)) : RfP B' l := by
  obtain ⟨h1, h2, h3, h4⟩ := h
  refine ⟨?_, ?_, ?_, ?_⟩
  · simp only [p_x, e15]; exact h1
  · simp only [p_k, e16]; exact h2
  · simp only [p_k, e16]; exact h3
  · have : p_k B' l = p_k B l := by simp only [p_k, e16]
    rw [this, e22 _ h3]; exact h4
theorem RfL.cg {B B' : ew_R} (h : RfL B) (e0 : B' 0 0 2 = B 0 0 2) (e11 : B' 11 0 = B 11 0) (e13 : B' 13 0 = B 13 0) (e14 : B' 14 0 = B 14 0) (e15 : B' 15 0 = B 15 0) (e16 : B' 16 0 = B 16 0) (e22 : B' 22 0 = B 22 0) : RfL B' := by
  have el : p_l B' = p_l B := by simp only [p_l, e0]
  refine ⟨fun l hl => (h.k l (by omega)).cg (by rw [e11]) (by rw [e13]) (by rw [e14]) (by rw [e15]) (fun b _ => by rw [e22]), fun l hl => (h.p l (by omega)).cg (by rw [e15]) (by rw [e16]) (fun b _ => by rw [e22]), ?_, ?_⟩
  · rw [el, e22]; exact h.nth
  · rw [el, e15]; exact h.ak0
theorem RfK.at {B : ew_R} {l : Nat} (h : RfK B l) {b : Nat} (hb : b < 6) : B 22 0 (6 * l + b) = if (b + 6 - p_t B l) % 6 < p_x B l ∧ b ≠ p_q B l then 1 else 0 := by
  have h1 := h.st.2
  have := h.th ((b + 6 - p_t B l) % 6) (by omega)
  have e : (p_t B l + (b + 6 - p_t B l) % 6) % 6 = b := by omega
  rw [e] at this; exact this
theorem RfL.in {B : ew_R} (h : RfL B) {d : Nat} (hd : ¬ B 22 0 d = 0) : d / 6 < p_l B ∧ d % 6 ≠ p_q B (d / 6) := by
  have h1 : d / 6 < p_l B := by
    apply Nat.lt_of_not_le; intro q; exact hd (h.nth d (by omega))
  refine ⟨h1, fun q => hd ?_⟩
  have := (h.k _ h1).at (b := d % 6) (by omega)
  rw [if_neg (fun z => z.2 q), show 6 * (d / 6) + d % 6 = d by omega] at this
  exact this
theorem RfE.cg {B B' : ew_R} {q q' : Nat} (h : RfE B q) (hq : q ≤ q') (e29 : B' 29 0 = B 29 0) (e30 : B' 30 0 = B 30 0) (e31 : B' 31 0 = B 31 0) (e22 : B' 22 0 = B 22 0) : RfE B' q' := by
  obtain ⟨h1, h2, h3, h4, h5, h6⟩ := h
  refine ⟨?_, ?_, ?_, ?_, ?_, ?_⟩ <;> simp only [p_n, p_s, p_a, e29, e30, e31, e22] <;> try assumption
  exact fun e => ⟨(h1 e).1, Nat.le_trans (h1 e).2 hq⟩
theorem RfG.cg {B B' : ew_R} (h : RfG B) (e0 : B' 0 0 5 = B 0 0 5) (e29 : B' 29 0 = B 29 0) (e32 : B' 32 0 = B 32 0) (e33 : B' 33 0 = B 33 0) : RfG B' := by
  obtain ⟨h1, h2, h3⟩ := h
  refine ⟨?_, ?_, ?_⟩ <;> simp only [p_n, lgB, e0, e29, e32, e33] <;> assumption
theorem RfW.cg {B B' : ew_R} (h : RfW B) (e0 : B' 0 0 4 = B 0 0 4) (e05 : B' 0 0 5 = B 0 0 5) (e22 : B' 22 0 = B 22 0) (e30 : B' 30 0 = B 30 0) (e32 : B' 32 0 = B 32 0) (e37 : B' 37 0 = B 37 0) (e38 : B' 38 0 = B 38 0) (e39 : B' 39 0 = B 39 0) : RfW B' := by
  simp only [RfW, p_rw, wtB, lgB, p_s, e0, e05, e22, e30, e32, e37, e38, e39] at h ⊢; exact h
/-- the rows that the invariant speaks of -/
def p_rows : List Nat := [11, 13, 14, 15, 16, 22, 29, 30, 31, 32, 33, 37, 38, 39]
theorem RfI.cg {B B' : ew_R} {q q' : Nat} (h : RfI B q) (hq : q ≤ q') (hq' : q' ≤ 512) (e : ∀ k, 2 ≤ k → k ≤ 5 → B' 0 0 k = B 0 0 k) (er : ∀ c, c ∈ p_rows → B' c 0 = B c 0) : RfI B' q' :=
  ⟨h.S.cg hq hq' e, h.L.cg (e 2 (by decide) (by decide)) (er 11 (by decide)) (er 13 (by decide)) (er 14 (by decide)) (er 15 (by decide)) (er 16 (by decide)) (er 22 (by decide)),
   h.E.cg hq (er 29 (by decide)) (er 30 (by decide)) (er 31 (by decide)) (er 22 (by decide)), h.G.cg (e 5 (by decide) (by decide)) (er 29 (by decide)) (er 32 (by decide)) (er 33 (by decide)),
   h.W.cg (e 4 (by decide) (by decide)) (e 5 (by decide) (by decide)) (er 22 (by decide)) (er 30 (by decide)) (er 32 (by decide)) (er 37 (by decide)) (er 38 (by decide)) (er 39 (by decide))⟩
theorem RfI.up {B : ew_R} {q : Nat} (h : RfI B q) (c k : Nat) (x : Int32) (hc : c ∉ p_rows) (h0 : c ≠ 0 ∨ (k < 2 ∨ 5 < k)) : RfI (up3 B c 0 k x) q := by
  refine h.cg (Nat.le_refl _) h.S.hq (fun j h1 h2 => up3_ne _ _ (by omega)) (fun c' hc' => ?_)
  rw [p_row_up, if_neg]
  rintro ⟨rfl, -⟩
  exact hc hc'
theorem RfI.mono {B : ew_R} {q : Nat} (h : RfI B q) (hq : q + 1 ≤ 512) : RfI B (q + 1) := h.cg (by omega) hq (fun _ _ _ => rfl) (fun _ _ => rfl)
/-- a letter is laid once more -/
theorem p_rw_up {B B' : ew_R} {lg lg' : Nat} {x y z : Int32} (h : p_rw B lg x y z) (e22 : ∀ d, ¬ B 22 0 d = 0 → ¬ B' 22 0 d = 0) (hs : ∀ e, p_s B e ≤ p_s B' e) (hl : lg ≤ lg') (e32 : ∀ j, j < lg → B' 32 0 j = B 32 0 j) : p_rw B' lg' x y z := by
  obtain ⟨e, h1, h2, h3, ⟨v, h4, h5⟩, h6⟩ := h
  refine ⟨e, h1, e22 _ h2, h3, ⟨v, Nat.le_trans h4 (hs e), h5⟩, ?_⟩
  rcases h6 with h6 | ⟨j, h7, h8, h9⟩
  · exact Or.inl h6
  · exact Or.inr ⟨j, by omega, h8, by rw [e32 j h7]; exact h9⟩
theorem RfW.lay {B : ew_R} {w : Nat} (hw : w ≤ 64) {P : Int32 → Int32 → Int32 → Prop} (h : ∀ i, i < w → P (B 37 0 i) (B 38 0 i) (B 39 0 i)) (lt : Int32) (en : Nat) (hn : P lt (nI en) (B 30 0 en)) : ∀ i, i < p_lw w → P (s_lay B lt en w 37 0 i) (s_lay B lt en w 38 0 i) (s_lay B lt en w 39 0 i) := by
  intro i hi
  by_cases hl : i = p_lw w - 1
  · subst hl
    obtain ⟨h1, h2, h3⟩ := s_lay_last B lt en w
    rw [h1, h2, h3]; exact hn
  · rw [s_lay_old _ _ _ hw (by omega) (by simp), s_lay_old _ _ _ hw (by omega) (by simp), s_lay_old _ _ _ hw (by omega) (by simp)]
    refine h _ ?_
    unfold p_lw at hi hl
    split <;> simp_all <;> omega
theorem p_lw_le {w : Nat} (h : w ≤ 64) : p_lw w ≤ 64 := by unfold p_lw; split <;> omega
theorem s_lay_wt (B : ew_R) (lt : Int32) (en : Nat) {w : Nat} (hw : w ≤ 64) : wtB (s_lay B lt en w) = p_lw w := by
  unfold wtB
  rw [s_lay_0, va_up_self, nI_clamp (by have := p_lw_le hw; omega)]
theorem s_lay_0k (B : ew_R) (lt : Int32) (en w : Nat) {k : Nat} (hk : k ≠ 4) : s_lay B lt en w 0 0 k = B 0 0 k := by rw [s_lay_0, va_up_ne _ _ hk]
theorem RfI.lay {B : ew_R} {q : Nat} (h : RfI B q) {w : Nat} (hw : w = wtB B) (lt : Int32) (en : Nat) (hn : p_rw B (lgB B) lt (nI en) (B 30 0 en)) : RfI (s_lay B lt en w) q := by
  subst hw
  have hw := h.S.w.2
  have o : ∀ c, c ≠ 37 → c ≠ 38 → c ≠ 39 → c ≠ 0 → s_lay B lt en (wtB B) c 0 = B c 0 := fun c a b d e => by rw [s_lay_oth _ _ _ _ a b d e]
  have k0 : ∀ k, k ≠ 4 → s_lay B lt en (wtB B) 0 0 k = B 0 0 k := fun k hk => s_lay_0k _ _ _ _ hk
  refine ⟨⟨h.S.hq, ?_, ?_, ?_, ?_⟩, h.L.cg (k0 2 (by decide)) (o _ (by decide) (by decide) (by decide) (by decide)) (o _ (by decide) (by decide) (by decide) (by decide)) (o _ (by decide) (by decide) (by decide) (by decide)) (o _ (by decide) (by decide) (by decide) (by decide)) (o _ (by decide) (by decide) (by decide) (by decide)) (o _ (by decide) (by decide) (by decide) (by decide)),
    h.E.cg (Nat.le_refl _) (o _ (by decide) (by decide) (by decide) (by decide)) (o _ (by decide) (by decide) (by decide) (by decide)) (o _ (by decide) (by decide) (by decide) (by decide)) (o _ (by decide) (by decide) (by decide) (by decide)), h.G.cg (k0 5 (by decide)) (o _ (by decide) (by decide) (by decide) (by decide)) (o _ (by decide) (by decide) (by decide) (by decide)) (o _ (by decide) (by decide) (by decide) (by decide)), ?_⟩
  · unfold p_l; rw [k0 2 (by decide)]; exact h.S.nl
  · unfold p_c; rw [k0 3 (by decide)]; exact h.S.nc
  · rw [s_lay_wt _ _ _ hw, s_lay_0, va_up_self]; exact ⟨rfl, p_lw_le hw⟩
  · unfold lgB; rw [k0 5 (by decide)]; exact h.S.lg
  · intro i hi
    rw [s_lay_wt _ _ _ hw] at hi
    have := RfW.lay hw h.W lt en hn i hi
    refine p_rw_up this (fun d hd => ?_) (fun e => ?_) ?_ (fun j _ => ?_)
    · rw [o _ (by decide) (by decide) (by decide) (by decide)]; exact hd
    · unfold p_s; rw [o _ (by decide) (by decide) (by decide) (by decide)]; exact Nat.le_refl _
    · unfold lgB; rw [k0 5 (by decide)]; exact Nat.le_refl _
    · rw [o _ (by decide) (by decide) (by decide) (by decide)]
