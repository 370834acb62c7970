/-! A new loan becomes entities -/
def p_r2 (ln : Nat) (rq t st n : Int32) (d : Nat) : Nat → Int32 := fun k => if k = 0 then nI ln else if k = 1 then rq else if k = 2 then t else if k = 3 then st else if k = 4 then n else if k = 7 then nI d else 0
def p_r13 (b : Nat) : Nat → Int32 := fun k => if k = b then 1 else 0
def z_Loan (A : ew_R) (ln b : Nat) (rq t st n : Int32) : ew_R := upr (upr (upr (z_Deal A (6 * ln + b) (nI ln) rq (nI b)) 2 ln (p_r2 ln rq t st n (6 * ln + b))) 13 ln (p_r13 b)) 3 ln (fun _ => 0)
def nw_2 (ln b : Nat) : List (Nat × Nat) := (2, ln) :: (13, ln) :: (3, ln) :: nw_4 (6 * ln + b)
theorem z_Loan_oth (A : ew_R) (ln b : Nat) (rq t st n : Int32) {c i : Nat} (h : (c, i) ∉ nw_2 ln b) : z_Loan A ln b rq t st n c i = A c i := by
  simp only [nw_2, List.mem_cons, Prod.mk.injEq, not_or] at h
  unfold z_Loan
  rw [upr_oth _ _ h.2.2.1, upr_oth _ _ h.2.1, upr_oth _ _ h.1, z_Deal_oth _ _ _ _ _ h.2.2.2]
theorem z_Loan_deal (A : ew_R) (ln b : Nat) (rq t st n : Int32) {c : Nat} (i : Nat) (h2 : c ≠ 2) (h3 : c ≠ 3) (h13 : c ≠ 13) : z_Loan A ln b rq t st n c i = z_Deal A (6 * ln + b) (nI ln) rq (nI b) c i := by
  unfold z_Loan
  rw [upr_oth _ _ (by omega), upr_oth _ _ (by omega), upr_oth _ _ (by omega)]
theorem em_loan {D : va_G} {T : Nat → ClassId} {t0 : Nat × Nat} {A0 : Nat → Prop} {X : Nat → Nat → Nat} {L : List Nat} {tg : Nat → Nat × Nat} {A : ew_R} {H1 : Heap} {ln b q2 q13 q3 q4 q17 q5 q8 q15 q16 : Nat} {rq t st n : Int32} (hln : ln < 32) (hb : b < 6) (hX : ∀ a ∈ L, X (tg a).1 (tg a).2 = a)
    (hP : va_P D vwCl (ew_w (cfC T) X L tg A [] ++ [(q2, .inr (2, [.int (nI ln), .int rq, .int t, .int st, .int n, .ref q13, .ref q3, .ref q4])), (q13, .inl (T 4, 6, .inr (.inr (.inr (.inr (va_up (fun _ => none) b (some q4))))))), (q3, .inr (3, [.int 0, .int 0, .int 0, .int 0])), (q4, .inr (4, [.int (nI b), .ref q5, .ref q15, .ref q17, .null, .int 0])), (q17, .inr (3, [.int 0, .int 0, .int 0, .int 0])), (q5, .inr (5, [.int (nI ln), .int rq, .int (nI b), .ref q8, .int 0, .int 0])), (q8, .inr (8, [.int 0, .ref t0.1, .int 0])), (q15, .inr (5, [.int (nI ln), .int (nI b), .int rq, .ref q16, .int 0, .int 0])), (q16, .inr (8, [.int 0, .ref t0.1, .int 0]))]) H1)
    (hD : va_D A0 (ew_w (cfC T) X L tg A [] ++ [(q2, .inr (2, [.int (nI ln), .int rq, .int t, .int st, .int n, .ref q13, .ref q3, .ref q4])), (q13, .inl (T 4, 6, .inr (.inr (.inr (.inr (va_up (fun _ => none) b (some q4))))))), (q3, .inr (3, [.int 0, .int 0, .int 0, .int 0])), (q4, .inr (4, [.int (nI b), .ref q5, .ref q15, .ref q17, .null, .int 0])), (q17, .inr (3, [.int 0, .int 0, .int 0, .int 0])), (q5, .inr (5, [.int (nI ln), .int rq, .int (nI b), .ref q8, .int 0, .int 0])), (q8, .inr (8, [.int 0, .ref t0.1, .int 0])), (q15, .inr (5, [.int (nI ln), .int (nI b), .int rq, .ref q16, .int 0, .int 0])), (q16, .inr (8, [.int 0, .ref t0.1, .int 0]))]))
    (h14 : X 14 (64 * (6 * ln + b)) = t0.1) (h20 : X 20 (64 * (6 * ln + b)) = t0.1) (hcl : clC X L tg A) (hnew : ∀ a ∈ L, ∀ t ∈ nw_2 ln b, t ≠ tg a) :
    ∃ (X' : Nat → Nat → Nat) (L' : List Nat) (tg' : Nat → Nat × Nat), X' 2 ln = q2 ∧ em_S (nw_2 ln b) X L tg X' L' tg' ∧ ew_V D vwCl (cfC T) A0 X' L' tg' (z_Loan A ln b rq t st n) [] H1 := by
  have hk : ((([(q2, 2, ln), (q13, 13, ln), (q3, 3, ln), (q4, 4, (6 * ln + b)), (q17, 17, (6 * ln + b)), (q5, 5, (6 * ln + b)), (q8, 8, (6 * ln + b)), (q15, 15, (6 * ln + b)), (q16, 16, (6 * ln + b))] : List (Nat × Nat × Nat)).map (fun t => t.2))).Nodup := by simp
  have x2 := ab_X_new (X := X) hk (t := (q2, 2, ln)) (by simp)
  have x13 := ab_X_new (X := X) hk (t := (q13, 13, ln)) (by simp)
  have x3 := ab_X_new (X := X) hk (t := (q3, 3, ln)) (by simp)
  have x4 := ab_X_new (X := X) hk (t := (q4, 4, (6 * ln + b))) (by simp)
  have x17 := ab_X_new (X := X) hk (t := (q17, 17, (6 * ln + b))) (by simp)
  have x5 := ab_X_new (X := X) hk (t := (q5, 5, (6 * ln + b))) (by simp)
  have x8 := ab_X_new (X := X) hk (t := (q8, 8, (6 * ln + b))) (by simp)
  have x15 := ab_X_new (X := X) hk (t := (q15, 15, (6 * ln + b))) (by simp)
  have x16 := ab_X_new (X := X) hk (t := (q16, 16, (6 * ln + b))) (by simp)
  have x14 : ab_X [(q2, 2, ln), (q13, 13, ln), (q3, 3, ln), (q4, 4, (6 * ln + b)), (q17, 17, (6 * ln + b)), (q5, 5, (6 * ln + b)), (q8, 8, (6 * ln + b)), (q15, 15, (6 * ln + b)), (q16, 16, (6 * ln + b))] X 14 (64 * (6 * ln + b)) = t0.1 := by rw [ab_X_old (by simp)]; exact h14
  have x20 : ab_X [(q2, 2, ln), (q13, 13, ln), (q3, 3, ln), (q4, 4, (6 * ln + b)), (q17, 17, (6 * ln + b)), (q5, 5, (6 * ln + b)), (q8, 8, (6 * ln + b)), (q15, 15, (6 * ln + b)), (q16, 16, (6 * ln + b))] X 20 (64 * (6 * ln + b)) = t0.1 := by rw [ab_X_old (by simp)]; exact h20
  have c8 : (p_r8 (6 * ln + b) 1).toNatClampNeg = 64 * (6 * ln + b) := nI_clamp (by omega)
  have c7 : (p_r2 ln rq t st n (6 * ln + b) 7).toNatClampNeg = 6 * ln + b := nI_clamp (by omega)
  generalize hx9 : ab_X [(q2, 2, ln), (q13, 13, ln), (q3, 3, ln), (q4, 4, (6 * ln + b)), (q17, 17, (6 * ln + b)), (q5, 5, (6 * ln + b)), (q8, 8, (6 * ln + b)), (q15, 15, (6 * ln + b)), (q16, 16, (6 * ln + b))] X = Y at x2 x13 x3 x4 x17 x5 x8 x15 x16 x14 x20
  have y2 : Y 2 ln = q2 := x2
  have y13 : Y 13 ln = q13 := x13
  have y3 : Y 3 ln = q3 := x3
  have y4 : Y 4 (6 * ln + b) = q4 := x4
  have y17 : Y 17 (6 * ln + b) = q17 := x17
  have y5 : Y 5 (6 * ln + b) = q5 := x5
  have y8 : Y 8 (6 * ln + b) = q8 := x8
  have y15 : Y 15 (6 * ln + b) = q15 := x15
  have y16 : Y 16 (6 * ln + b) = q16 := x16
  have r2 : z_Loan A ln b rq t st n 2 ln = p_r2 ln rq t st n (6 * ln + b) := by simp [z_Loan, z_Deal, upr, va_up]
  have r13 : z_Loan A ln b rq t st n 13 ln = p_r13 b := by simp [z_Loan, z_Deal, upr, va_up]
  have r3 : z_Loan A ln b rq t st n 3 ln = fun _ => 0 := by simp [z_Loan, z_Deal, upr, va_up]
  have r4 : z_Loan A ln b rq t st n 4 (6 * ln + b) = p_r4 (nI b) := by simp [z_Loan, z_Deal, upr, va_up]
  have r17 : z_Loan A ln b rq t st n 17 (6 * ln + b) = fun _ => 0 := by simp [z_Loan, z_Deal, upr, va_up]
  have r5 : z_Loan A ln b rq t st n 5 (6 * ln + b) = p_r5 (nI ln) rq (nI b) := by simp [z_Loan, z_Deal, upr, va_up]
  have r8 : z_Loan A ln b rq t st n 8 (6 * ln + b) = p_r8 (6 * ln + b) := by simp [z_Loan, z_Deal, upr, va_up]
  have r15 : z_Loan A ln b rq t st n 15 (6 * ln + b) = p_r5 (nI ln) (nI b) rq := by simp [z_Loan, z_Deal, upr, va_up]
  have r16 : z_Loan A ln b rq t st n 16 (6 * ln + b) = p_r8 (6 * ln + b) := by simp [z_Loan, z_Deal, upr, va_up]
  have e13 : (fun j => if p_r13 b j = 0 then none else some (Y 4 (6 * ln + j))) = va_up (fun _ => none) b (some q4) := by
    funext j
    by_cases h : j = b
    · subst h; rw [va_up_self, y4]; simp [p_r13]
    · rw [va_up_ne _ _ h]; simp [p_r13, h]
  obtain ⟨X', L', tg', h1, h2, h3⟩ := em_absN [(q2, 2, ln), (q13, 13, ln), (q3, 3, ln), (q4, 4, (6 * ln + b)), (q17, 17, (6 * ln + b)), (q5, 5, (6 * ln + b)), (q8, 8, (6 * ln + b)), (q15, 15, (6 * ln + b)), (q16, 16, (6 * ln + b))] hX hP hD (z_Loan A ln b rq t st n) (by
    rw [hx9]
    show _ = [(q2, cfC T Y 2 ln (z_Loan A ln b rq t st n 2 ln)), (q13, cfC T Y 13 ln (z_Loan A ln b rq t st n 13 ln)), (q3, cfC T Y 3 ln (z_Loan A ln b rq t st n 3 ln)), (q4, cfC T Y 4 (6 * ln + b) (z_Loan A ln b rq t st n 4 (6 * ln + b))), (q17, cfC T Y 17 (6 * ln + b) (z_Loan A ln b rq t st n 17 (6 * ln + b))), (q5, cfC T Y 5 (6 * ln + b) (z_Loan A ln b rq t st n 5 (6 * ln + b))), (q8, cfC T Y 8 (6 * ln + b) (z_Loan A ln b rq t st n 8 (6 * ln + b))), (q15, cfC T Y 15 (6 * ln + b) (z_Loan A ln b rq t st n 15 (6 * ln + b))), (q16, cfC T Y 16 (6 * ln + b) (z_Loan A ln b rq t st n 16 (6 * ln + b)))]
    rw [r2, r13, r3, r4, r17, r5, r8, r15, r16, cC_2, cC_13, cC_3, cC_4, cC_17, cC_5, cC_8, cC_15, cC_16, e13]
    simp only [oC_2, oC_3, oC_4, oC_17, oC_5, oC_8, oC_15, oC_16, y2, y13, y3, y4, y17, y5, y8, y15, y16, c7, c8, x14, x20]
    simp [p_r2, p_r4, p_r5, p_r8]
    rfl) hk hcl (fun t ht => by
    simp only [List.mem_cons, List.not_mem_nil, or_false] at ht
    unfold stC
    rcases ht with rfl | rfl | rfl | rfl | rfl | rfl | rfl | rfl | rfl <;> simp) (fun a ha t ht => hnew a ha t.2 (by
    simp only [List.mem_cons, List.not_mem_nil, or_false] at ht
    unfold nw_2 nw_4
    rcases ht with rfl | rfl | rfl | rfl | rfl | rfl | rfl | rfl | rfl <;> simp)) (fun c i h => z_Loan_oth _ _ _ _ _ _ _ (fun z => by
    simp only [nw_2, nw_4, List.mem_cons, Prod.mk.injEq, List.not_mem_nil, or_false] at z
    rcases z with ⟨rfl, rfl⟩ | ⟨rfl, rfl⟩ | ⟨rfl, rfl⟩ | ⟨rfl, rfl⟩ | ⟨rfl, rfl⟩ | ⟨rfl, rfl⟩ | ⟨rfl, rfl⟩ | ⟨rfl, rfl⟩ | ⟨rfl, rfl⟩
    · exact h (q2, 2, _) (by simp) rfl
    · exact h (q13, 13, _) (by simp) rfl
    · exact h (q3, 3, _) (by simp) rfl
    · exact h (q4, 4, _) (by simp) rfl
    · exact h (q17, 17, _) (by simp) rfl
    · exact h (q5, 5, _) (by simp) rfl
    · exact h (q8, 8, _) (by simp) rfl
    · exact h (q15, 15, _) (by simp) rfl
    · exact h (q16, 16, _) (by simp) rfl))
  exact ⟨X', L', tg', h1 (q2, 2, ln) (by simp), h2, h3⟩
theorem clC_loan {ln b : Nat} {rq t st n : Int32} {X X' : Nat → Nat → Nat} {L L' : List Nat} {tg tg' : Nat → Nat × Nat} {A : ew_R} (hln : ln < 32) (hb : b < 6) (hcl : clC X L tg A) (h : em_S (nw_2 ln b) X L tg X' L' tg') : clC X' L' tg' (z_Loan A ln b rq t st n) := by
  have r2 : z_Loan A ln b rq t st n 2 ln = p_r2 ln rq t st n (6 * ln + b) := by simp [z_Loan, z_Deal, upr, va_up]
  have r13 : z_Loan A ln b rq t st n 13 ln = p_r13 b := by simp [z_Loan, z_Deal, upr, va_up]
  have r3 : z_Loan A ln b rq t st n 3 ln = fun _ => 0 := by simp [z_Loan, z_Deal, upr, va_up]
  have r4 : z_Loan A ln b rq t st n 4 (6 * ln + b) = p_r4 (nI b) := by simp [z_Loan, z_Deal, upr, va_up]
  have r17 : z_Loan A ln b rq t st n 17 (6 * ln + b) = fun _ => 0 := by simp [z_Loan, z_Deal, upr, va_up]
  have r5 : z_Loan A ln b rq t st n 5 (6 * ln + b) = p_r5 (nI ln) rq (nI b) := by simp [z_Loan, z_Deal, upr, va_up]
  have r8 : z_Loan A ln b rq t st n 8 (6 * ln + b) = p_r8 (6 * ln + b) := by simp [z_Loan, z_Deal, upr, va_up]
  have r15 : z_Loan A ln b rq t st n 15 (6 * ln + b) = p_r5 (nI ln) (nI b) rq := by simp [z_Loan, z_Deal, upr, va_up]
  have r16 : z_Loan A ln b rq t st n 16 (6 * ln + b) = p_r8 (6 * ln + b) := by simp [z_Loan, z_Deal, upr, va_up]
  have c8 : (p_r8 (6 * ln + b) 1).toNatClampNeg = 64 * (6 * ln + b) := nI_clamp (by omega)
  have c7 : (p_r2 ln rq t st n (6 * ln + b) 7).toNatClampNeg = 6 * ln + b := nI_clamp (by omega)
  have lv : ∀ t ∈ nw_2 ln b, ew_in X' L' tg' t.1 t.2 (X' t.1 t.2) := h.2.2.1
  refine clC_S hcl h (fun a ha c i hr => ?_) (fun t9 ht c i hr => ?_)
  · by_cases hq : tg a ∈ nw_2 ln b
    · exact Or.inl hq
    · rw [z_Loan_oth _ _ _ _ _ _ _ (show ((tg a).1, (tg a).2) ∉ nw_2 ln b from hq)] at hr
      exact Or.inr (Or.inl hr)
  · have ht' := ht
    simp only [nw_2, nw_4, List.mem_cons, List.not_mem_nil, or_false] at ht'
    rcases ht' with rfl | rfl | rfl | rfl | rfl | rfl | rfl | rfl | rfl
    · simp only [r2] at hr
      right
      rcases hr with ⟨rfl, rfl⟩ | ⟨rfl, rfl⟩ | ⟨rfl, h2⟩
      · exact lv (13, i) (by simp [nw_2])
      · exact lv (3, i) (by simp [nw_2])
      · rw [c7] at h2; subst h2; exact lv (4, 6 * ln + b) (by simp [nw_2, nw_4])
    · simp only [r13] at hr
      obtain ⟨rfl, j, hj, rfl⟩ := hr
      have : j = b := Classical.byContradiction (fun z => hj (by simp [p_r13, z]))
      subst this
      exact Or.inr (lv (4, 6 * ln + j) (by simp [nw_2, nw_4]))
    · exact False.elim hr
    · simp only [r4] at hr
      rcases hr with ⟨h1, h2⟩ | ⟨h1, h2, h3⟩
      · subst h2
        right
        rcases h1 with rfl | rfl | rfl
        · exact lv (5, 6 * ln + b) (by simp [nw_2, nw_4])
        · exact lv (15, 6 * ln + b) (by simp [nw_2, nw_4])
        · exact lv (17, 6 * ln + b) (by simp [nw_2, nw_4])
      · exact absurd (show p_r4 (nI b) 4 = (-1) from rfl) h2
    · exact False.elim hr
    · obtain ⟨rfl, rfl⟩ := hr
      exact Or.inr (lv (8, 6 * ln + b) (by simp [nw_2, nw_4]))
    · simp only [r8] at hr
      obtain ⟨rfl, h2⟩ := hr
      rw [c8] at h2
      exact Or.inl ⟨Or.inl rfl, by omega⟩
    · obtain ⟨rfl, rfl⟩ := hr
      exact Or.inr (lv (16, 6 * ln + b) (by simp [nw_2, nw_4]))
    · simp only [r16] at hr
      obtain ⟨rfl, h2⟩ := hr
      rw [c8] at h2
      exact Or.inl ⟨Or.inr rfl, by omega⟩
