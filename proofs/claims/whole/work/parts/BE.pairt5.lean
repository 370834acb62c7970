/-! request, side by side -/
/-- the ints after the class made the loan, before it writes -/
def z_ln (A : ew_R) (nl bb b t f n : Nat) : ew_R := up3 (up3 (z_Loan A nl bb (nI b) (nI t) (nI f) (nI n)) 10 0 nl 1) 0 0 6 (nI (nl + 1))
section PT5
variable {l : Launch} {D : va_G} {T : Nat → ClassId} {t0 : Nat × Nat} {X : Nat → Nat → Nat} {L : List Nat} {tg : Nat → Nat × Nat} {A : ew_R} {XR : Nat → Nat → Nat} {LR : List Nat} {tgR : Nat → Nat × Nat} {B : ew_R} {q : Nat}
theorem z_ln_oth (A : ew_R) (nl bb b t f n : Nat) {c i : Nat} (h : (c, i) ∉ nw_2 nl bb) (h0 : c ≠ 0) (h10 : c ≠ 10) : z_ln A nl bb b t f n c i = A c i := by
  unfold z_ln
  rw [p_kd_up _ _ _ _ h0, p_kd_up _ _ _ _ h10]
  exact z_Loan_oth A nl bb _ _ _ _ h
theorem z_ln_00 (A : ew_R) (nl bb b t f n : Nat) : z_ln A nl bb b t f n 0 0 = va_up (A 0 0) 6 (nI (nl + 1)) := by
  unfold z_ln up3
  rw [va_up_self, va_up_self]
  congr 1
theorem z_ln_row (A : ew_R) (nl bb b t f n : Nat) : z_ln A nl bb b t f n 2 nl = p_r2 nl (nI b) (nI t) (nI f) (nI n) (6 * nl + bb) ∧ z_ln A nl bb b t f n 13 nl = p_r13 bb ∧ z_ln A nl bb b t f n 3 nl = (fun _ => 0) := by
  unfold z_ln z_Loan
  refine ⟨?_, ?_, ?_⟩
  · rw [p_kd_up _ _ _ _ (by decide), p_kd_up _ _ _ _ (by decide), upr_kd _ (by decide), upr_kd _ (by decide), upr_row]
  · rw [p_kd_up _ _ _ _ (by decide), p_kd_up _ _ _ _ (by decide), upr_kd _ (by decide), upr_row]
  · rw [p_kd_up _ _ _ _ (by decide), p_kd_up _ _ _ _ (by decide), upr_row]
theorem z_ln_deal (A : ew_R) (nl bb b t f n : Nat) {c : Nat} (h2 : c ≠ 2) (h3 : c ≠ 3) (h13 : c ≠ 13) (h0 : c ≠ 0) (h10 : c ≠ 10) : z_ln A nl bb b t f n c = z_Deal A (6 * nl + bb) (nI nl) (nI b) (nI bb) c := by
  unfold z_ln
  rw [p_kd_up _ _ _ _ h0, p_kd_up _ _ _ _ h10]
  funext i
  exact z_Loan_deal A nl bb _ _ _ _ i h2 h3 h13
theorem p_live_ln {A : ew_R} {nl bb b t f n : Nat} (hnl : nl < 32) (hbb : bb < 6) (q6 : A 0 0 6 = nI nl) (kd id : Nat) : p_live (z_ln A nl bb b t f n) kd id ↔ p_live A kd id ∨ (kd, id) ∈ nw_2 nl bb := by
  have c6 : (A 0 0 6).toNatClampNeg = nl := by rw [q6, nI_clamp (by omega)]
  have z5 : z_ln A nl bb b t f n 0 0 5 = A 0 0 5 := by rw [z_ln_00, va_up_ne _ _ (by decide)]
  have z6 : (z_ln A nl bb b t f n 0 0 6).toNatClampNeg = nl + 1 := by rw [z_ln_00, va_up_self, nI_clamp (by omega)]
  have r13 := (z_ln_row A nl bb b t f n).2.1
  have z13 : ∀ x, x ≠ nl → z_ln A nl bb b t f n 13 x = A 13 x := fun x hx => z_ln_oth A nl bb b t f n (by simp [nw_2, nw_4, hx]) (by decide) (by decide)
  have z8 : ∀ x, x ≠ 6 * nl + bb → z_ln A nl bb b t f n 8 x = A 8 x ∧ z_ln A nl bb b t f n 16 x = A 16 x := fun x hx => ⟨z_ln_oth A nl bb b t f n (by simp [nw_2, nw_4, hx]) (by decide) (by decide), z_ln_oth A nl bb b t f n (by simp [nw_2, nw_4, hx]) (by decide) (by decide)⟩
  have y8 : z_ln A nl bb b t f n 8 (6 * nl + bb) = p_r8 (6 * nl + bb) ∧ z_ln A nl bb b t f n 16 (6 * nl + bb) = p_r8 (6 * nl + bb) := by
    constructor
    · rw [z_ln_deal A nl bb b t f n (by decide) (by decide) (by decide) (by decide) (by decide), z_Deal_8, va_up_self]
    · rw [z_ln_deal A nl bb b t f n (by decide) (by decide) (by decide) (by decide) (by decide), z_Deal_16, va_up_self]
  have nth : ∀ x, x / 6 = nl → ¬ p_th A x := fun x hx z => by
    have := z.2
    rw [c6] at this
    omega
  have th : ∀ x, p_th (z_ln A nl bb b t f n) x ↔ p_th A x ∨ x = 6 * nl + bb := by
    intro x
    by_cases hx : x / 6 = nl
    · constructor
      · intro h
        have h1 := h.1
        rw [hx, r13] at h1
        unfold p_r13 at h1
        by_cases hb : x % 6 = bb
        · exact Or.inr (by omega)
        · rw [if_neg hb] at h1; exact absurd rfl h1
      · rintro (h | h)
        · exact absurd h (nth x hx)
        · refine ⟨?_, ?_⟩
          · rw [hx, r13]; unfold p_r13; rw [if_pos (by omega)]; decide
          · rw [z6]; omega
    · unfold p_th
      rw [z13 _ hx, z6, c6]
      constructor
      · rintro ⟨h1, h2⟩; exact Or.inl ⟨h1, by omega⟩
      · rintro (⟨h1, h2⟩ | h)
        · exact ⟨h1, by omega⟩
        · omega
  have ntd : ¬ p_th A (6 * nl + bb) := nth _ (by omega)
  have c1 : (p_r8 (6 * nl + bb) 2).toNatClampNeg = 0 := rfl
  have c2 : (p_r8 (6 * nl + bb) 1).toNatClampNeg = 64 * (6 * nl + bb) := nI_clamp (by omega)
  have m4 : (kd, id) ∈ nw_2 nl bb ↔ ((kd = 2 ∨ kd = 3 ∨ kd = 13) ∧ id = nl) ∨ ((kd = 4 ∨ kd = 5 ∨ kd = 8 ∨ kd = 15 ∨ kd = 16 ∨ kd = 17) ∧ id = 6 * nl + bb) := by
    simp only [nw_2, nw_4, List.mem_cons, Prod.mk.injEq, List.not_mem_nil, or_false]; omega
  rw [m4]
  have f6 : (p_th (z_ln A nl bb b t f n) (id / 512) ∧ id % 512 < (z_ln A nl bb b t f n 8 (id / 512) 2).toNatClampNeg) ↔ (p_th A (id / 512) ∧ id % 512 < (A 8 (id / 512) 2).toNatClampNeg) := by
    by_cases hx : id / 512 = 6 * nl + bb
    · rw [hx, y8.1, c1]; exact ⟨fun z => absurd z.2 (by omega), fun z => absurd z.1 ntd⟩
    · rw [th, (z8 _ hx).1]; simp [hx]
  have f19 : (p_th (z_ln A nl bb b t f n) (id / 512) ∧ id % 512 < (z_ln A nl bb b t f n 16 (id / 512) 2).toNatClampNeg) ↔ (p_th A (id / 512) ∧ id % 512 < (A 16 (id / 512) 2).toNatClampNeg) := by
    by_cases hx : id / 512 = 6 * nl + bb
    · rw [hx, y8.2, c1]; exact ⟨fun z => absurd z.2 (by omega), fun z => absurd z.1 ntd⟩
    · rw [th, (z8 _ hx).2]; simp [hx]
  have f14 : (p_th (z_ln A nl bb b t f n) (id / 64) ∧ 1 ≤ id % 64 ∧ 64 * (id / 64) + id % 64 ≤ (z_ln A nl bb b t f n 8 (id / 64) 1).toNatClampNeg) ↔ (p_th A (id / 64) ∧ 1 ≤ id % 64 ∧ 64 * (id / 64) + id % 64 ≤ (A 8 (id / 64) 1).toNatClampNeg) := by
    by_cases hx : id / 64 = 6 * nl + bb
    · rw [hx, y8.1, c2]; exact ⟨fun z => absurd z.2 (by omega), fun z => absurd z.1 ntd⟩
    · rw [th, (z8 _ hx).1]; simp [hx]
  have f20 : (p_th (z_ln A nl bb b t f n) (id / 64) ∧ 1 ≤ id % 64 ∧ 64 * (id / 64) + id % 64 ≤ (z_ln A nl bb b t f n 16 (id / 64) 1).toNatClampNeg) ↔ (p_th A (id / 64) ∧ 1 ≤ id % 64 ∧ 64 * (id / 64) + id % 64 ≤ (A 16 (id / 64) 1).toNatClampNeg) := by
    by_cases hx : id / 64 = 6 * nl + bb
    · rw [hx, y8.2, c2]; exact ⟨fun z => absurd z.2 (by omega), fun z => absurd z.1 ntd⟩
    · rw [th, (z8 _ hx).2]; simp [hx]
  have f2 : ((kd = 2 ∨ kd = 3 ∨ kd = 13) ∧ id < nl + 1) ↔ ((kd = 2 ∨ kd = 3 ∨ kd = 13) ∧ id < nl) ∨ ((kd = 2 ∨ kd = 3 ∨ kd = 13) ∧ id = nl) := by omega
  unfold p_live
  rw [f6, f19, f14, f20, th, z5, z6, c6, f2]
  generalize p_th A (id / 512) = P1
  generalize p_th A (id / 64) = P2
  generalize p_th A id = P3
  constructor
  · rintro (h | h | (h | h) | ⟨h, h9 | h9⟩ | h | h | h | h)
    · exact Or.inl (Or.inl h)
    · exact Or.inl (Or.inr (Or.inl h))
    · exact Or.inl (Or.inr (Or.inr (Or.inl h)))
    · exact Or.inr (Or.inl h)
    · exact Or.inl (Or.inr (Or.inr (Or.inr (Or.inl ⟨h, h9⟩))))
    · exact Or.inr (Or.inr ⟨h, h9⟩)
    · exact Or.inl (Or.inr (Or.inr (Or.inr (Or.inr (Or.inl h)))))
    · exact Or.inl (Or.inr (Or.inr (Or.inr (Or.inr (Or.inr (Or.inl h))))))
    · exact Or.inl (Or.inr (Or.inr (Or.inr (Or.inr (Or.inr (Or.inr (Or.inl h)))))))
    · exact Or.inl (Or.inr (Or.inr (Or.inr (Or.inr (Or.inr (Or.inr (Or.inr h)))))))
  · rintro ((h | h | h | ⟨h, h9⟩ | h | h | h | h) | h | h)
    · exact Or.inl h
    · exact Or.inr (Or.inl h)
    · exact Or.inr (Or.inr (Or.inl (Or.inl h)))
    · exact Or.inr (Or.inr (Or.inr (Or.inl ⟨h, Or.inl h9⟩)))
    · exact Or.inr (Or.inr (Or.inr (Or.inr (Or.inl h))))
    · exact Or.inr (Or.inr (Or.inr (Or.inr (Or.inr (Or.inl h)))))
    · exact Or.inr (Or.inr (Or.inr (Or.inr (Or.inr (Or.inr (Or.inl h))))))
    · exact Or.inr (Or.inr (Or.inr (Or.inr (Or.inr (Or.inr (Or.inr h))))))
    · exact Or.inr (Or.inr (Or.inl (Or.inr h)))
    · exact Or.inr (Or.inr (Or.inr (Or.inl ⟨h.1, Or.inr h.2⟩)))
theorem WI.fr2 (W : WI t0 X L tg A) {nl bb : Nat} (hbb : bb < 6) (hnl : nl < 32) (q6 : A 0 0 6 = nI nl) : (∀ a ∈ L, ∀ t ∈ nw_2 nl bb, t ≠ tg a) ∧ (∀ a ∈ L, (6, 512 * (6 * nl + bb)) ≠ tg a) ∧ (∀ a ∈ L, (14, 64 * (6 * nl + bb) + 1) ≠ tg a) := by
  have c6 : (A 0 0 6).toNatClampNeg = nl := by rw [q6, nI_clamp (by omega)]
  have nth : ¬ p_th A (6 * nl + bb) := fun z => by have := z.2; rw [c6] at this; omega
  obtain ⟨f1, f2, f3⟩ := W.fr4 nth
  refine ⟨fun a ha t ht => ?_, f2, f3⟩
  have hlow : ∀ kd, (kd = 2 ∨ kd = 3 ∨ kd = 13) → ¬ p_live A kd nl := fun kd hk z => by
    unfold p_live at z
    rw [c6] at z
    omega
  simp only [nw_2, List.mem_cons] at ht
  rcases ht with rfl | rfl | rfl | ht
  · exact W.fresh (hlow 2 (by simp)) a ha
  · exact W.fresh (hlow 13 (by simp)) a ha
  · exact W.fresh (hlow 3 (by simp)) a ha
  · exact f1 a ha t ht
theorem WI.ln (W : WI t0 X L tg A) {nl bb b t f n w : Nat} {v k x : Int32} (hnl : nl < 32) (hbb : bb < 6) (q6 : A 0 0 6 = nI nl) {X' : Nat → Nat → Nat} {L' : List Nat} {tg' : Nat → Nat × Nat} (hS : em_S (nw_2 nl bb ++ nw_5 (6 * nl + bb) 0 0) X L tg X' L' tg') : WI t0 X' L' tg' (z_L_requesterWrites (z_ln A nl bb b t f n) nl (6 * nl + bb) 0 0 w v k x) := by
  obtain ⟨f1, f2, f3⟩ := W.fr2 hbb hnl q6
  obtain ⟨X1, L1, tg1, h1, h2⟩ := hS.split (fun a ha z => by
      rcases nw5_0 _ _ z with z | z
      · exact f2 a ha z.symm
      · exact f3 a ha z.symm) (fun t ht z => by
      rcases nw5_0 _ _ z with z | z <;> rw [z] at ht <;> simp [nw_2, nw_4] at ht)
  have hcl1 := clC_loan (rq := nI b) (t := nI t) (st := nI f) (n := nI n) hnl hbb W.cl h1
  have W1 : WI t0 X1 L1 tg1 (z_ln A nl bb b t f n) := by
    refine W.mk h1 (p_live_ln hnl hbb q6) ?_
    unfold z_ln
    refine clC_set (clC_set hcl1 (fun c i hr => ?_)) (fun c i hr => ?_)
    · obtain ⟨rfl, hr⟩ := hr
      by_cases hi : i = nl
      · subst hi; exact Or.inr (Or.inr (h1.2.2.1 (2, i) (by simp [nw_2])))
      · rw [va_up_ne _ _ hi] at hr
        exact Or.inl ⟨rfl, hr⟩
    · have hr2 : (c = 9 ∨ c = 10 ∨ c = 11 ∨ c = 7 ∨ c = 18) ∧ i = 0 := hr
      exact Or.inl hr2
  have W2 : WI t0 X1 L1 tg1 (up3 (z_ln A nl bb b t f n) 3 nl 0 v) := W1.up (by rw [p_kd_up _ _ _ _ (by decide)]) (by rw [p_kd_up _ _ _ _ (by decide)]) (fun c hc => p_kd_up _ _ _ _ (by omega))
  have e8 : up3 (z_ln A nl bb b t f n) 3 nl 0 v 8 (6 * nl + bb) = p_r8 (6 * nl + bb) := by
    rw [p_kd_up _ _ _ _ (by decide), z_ln_deal A nl bb b t f n (by decide) (by decide) (by decide) (by decide) (by decide), z_Deal_8, va_up_self]
  unfold z_L_requesterWrites
  refine W2.send5 ⟨?_, ?_⟩ (by omega) (by decide) ?_ ⟨by omega, by decide, ?_, by omega⟩ h2
  · rw [p_kd_up _ _ _ _ (by decide), show (6 * nl + bb) / 6 = nl by omega, show (6 * nl + bb) % 6 = bb by omega, (z_ln_row A nl bb b t f n).2.1]
    unfold p_r13
    rw [if_pos rfl]; decide
  · rw [p_kd_up _ _ _ _ (by decide), z_ln_00, va_up_self, nI_clamp (by omega)]; omega
  · rw [e8]; rfl
  · rw [e8]; rfl
/-- the loan alone, its deal not yet -/
def z_l1 (A : ew_R) (nl d b t f n : Nat) : ew_R := up3 (up3 (upr A 2 nl (p_r2 nl (nI b) (nI t) (nI f) (nI n) d)) 10 0 nl 1) 0 0 6 (nI (nl + 1))
theorem p_nl_l1 (A : ew_R) (nl d b t f n : Nat) : p_nl A (z_l1 A nl d b t f n) nl (nI b) (nI t) (nI f) (nI n) := by
  refine ⟨fun c hc => ?_, fun k => ?_, fun l k => ?_, fun l => ?_⟩
  · simp only [List.mem_cons, List.not_mem_nil, or_false, not_or] at hc
    unfold z_l1
    rw [p_kd_up _ _ _ _ hc.1, p_kd_up _ _ _ _ hc.2.2, p_kd_upr _ _ _ hc.2.1]
  · unfold z_l1
    by_cases h : k = 6
    · rw [if_pos h, h, up3_self]
    · rw [if_neg h, up3_ne _ _ (by omega), p_kd_up _ _ _ _ (by decide), p_kd_upr _ _ _ (by decide)]
  · by_cases h : l = nl
    · subst h
      rw [if_pos rfl]
      have e : z_l1 A l d b t f n 2 l = p_r2 l (nI b) (nI t) (nI f) (nI n) d := by
        unfold z_l1
        rw [p_kd_up _ _ _ _ (by decide), p_kd_up _ _ _ _ (by decide), upr_row]
      rw [e]
      unfold p_r2
      by_cases h0 : k = 0 <;> by_cases h1 : k = 1 <;> by_cases h2 : k = 2 <;> by_cases h3 : k = 3 <;> by_cases h4 : k = 4 <;> simp [h0, h1, h2, h3, h4]
    · rw [if_neg h]
      unfold z_l1
      rw [p_kd_up _ _ _ _ (by decide), p_kd_up _ _ _ _ (by decide), upr_oth _ _ (by omega)]
  · unfold z_l1
    rw [p_kd_up _ _ _ _ (by decide)]
    by_cases h : l = nl
    · rw [if_pos h, h, up3_self]
    · rw [if_neg h, up3_ne _ _ (by omega), p_kd_upr _ _ _ (by decide)]
theorem p_nd_ln {A : ew_R} {nl bb b t f n : Nat} (hbb : bb < 6) (hz : ∀ k, k < 6 → A 13 nl k = 0) : p_nd (z_l1 A nl (6 * nl + bb) b t f n) (up3 (z_ln A nl bb b t f n) 3 nl 0 0) nl (6 * nl + bb) (nI bb) (nI b) := by
  have o1 : ∀ c, c ≠ 0 → c ≠ 2 → c ≠ 10 → z_l1 A nl (6 * nl + bb) b t f n c = A c := fun c h0 h2 h10 => by
    unfold z_l1
    rw [p_kd_up _ _ _ _ h0, p_kd_up _ _ _ _ h10, p_kd_upr _ _ _ h2]
  obtain ⟨y2, y13, y3⟩ := z_ln_row A nl bb b t f n
  have yd : ∀ c, c ≠ 2 → c ≠ 3 → c ≠ 13 → c ≠ 0 → c ≠ 10 → up3 (z_ln A nl bb b t f n) 3 nl 0 0 c = z_Deal A (6 * nl + bb) (nI nl) (nI b) (nI bb) c := fun c h2 h3 h13 h0 h10 => by
    rw [p_kd_up _ _ _ _ h3]; exact z_ln_deal A nl bb b t f n h2 h3 h13 h0 h10
  have e2 : z_l1 A nl (6 * nl + bb) b t f n 2 = z_ln A nl bb b t f n 2 := by
    funext l
    by_cases h : l = nl
    · subst h
      rw [y2]
      unfold z_l1
      rw [p_kd_up _ _ _ _ (by decide), p_kd_up _ _ _ _ (by decide), upr_row]
    · rw [z_ln_oth A nl bb b t f n (by simp [nw_2, nw_4, h]) (by decide) (by decide)]
      unfold z_l1
      rw [p_kd_up _ _ _ _ (by decide), p_kd_up _ _ _ _ (by decide), upr_oth _ _ (by omega)]
  refine ⟨fun c hc => ?_, fun l k => ?_, fun l k hk => ?_, ?_, ?_, ?_, fun l k hk => ?_, ?_, ?_, ?_⟩
  · simp only [List.mem_cons, List.not_mem_nil, or_false, not_or] at hc
    by_cases h0 : c = 0
    · subst h0
      rw [p_kd_up _ _ _ _ (by decide)]
      unfold z_ln z_l1
      show va_up _ 0 _ 0 = va_up _ 0 _ 0
      rw [va_up_self, va_up_self]
      have e9 : up3 (z_Loan A nl bb (nI b) (nI t) (nI f) (nI n)) 10 0 nl 1 0 = up3 (upr A 2 nl (p_r2 nl (nI b) (nI t) (nI f) (nI n) (6 * nl + bb))) 10 0 nl 1 0 := by
        rw [p_kd_up _ _ _ _ (by decide), p_kd_up _ _ _ _ (by decide), p_kd_upr _ _ _ (by decide)]
        funext i
        exact z_Loan_oth A nl bb _ _ _ _ (by simp [nw_2, nw_4])
      rw [e9]
    · by_cases h10 : c = 10
      · subst h10
        rw [p_kd_up _ _ _ _ (by decide)]
        unfold z_ln z_l1
        rw [p_kd_up _ 0 6 _ (show (10 : Nat) ≠ 0 by decide), p_kd_up _ 0 6 _ (show (10 : Nat) ≠ 0 by decide)]
        show va_up _ 10 _ 10 = va_up _ 10 _ 10
        rw [va_up_self, va_up_self]
        have e9 : z_Loan A nl bb (nI b) (nI t) (nI f) (nI n) 10 = upr A 2 nl (p_r2 nl (nI b) (nI t) (nI f) (nI n) (6 * nl + bb)) 10 := by
          rw [p_kd_upr _ _ _ (by decide)]
          funext i
          exact z_Loan_oth A nl bb _ _ _ _ (by simp [nw_2, nw_4])
        rw [e9]
      · rw [yd c (by omega) (by omega) (by omega) h0 h10, o1 c h0 (by omega) h10, z_Deal_kd _ _ _ _ _ (by simp; omega)]
  · rw [p_kd_up _ _ _ _ (by decide), e2]
    by_cases h : l = nl ∧ k = 7
    · rw [if_pos h, h.1, h.2, y2]; rfl
    · rw [if_neg h]
  · by_cases h : l = nl
    · subst h
      rw [if_pos rfl]
      by_cases hk0 : k = 0
      · rw [hk0, up3_self]
      · rw [up3_ne _ _ (by omega), y3]
    · rw [if_neg h, up3_ne _ _ (by omega), o1 3 (by decide) (by decide) (by decide), z_ln_oth A nl bb b t f n (by simp [nw_2, nw_4, h]) (by decide) (by decide)]
  · rw [yd 4 (by decide) (by decide) (by decide) (by decide) (by decide), z_Deal_4, o1 4 (by decide) (by decide) (by decide)]
  · rw [yd 5 (by decide) (by decide) (by decide) (by decide) (by decide), z_Deal_5, o1 5 (by decide) (by decide) (by decide)]
  · rw [yd 8 (by decide) (by decide) (by decide) (by decide) (by decide), z_Deal_8, o1 8 (by decide) (by decide) (by decide)]
  · rw [p_kd_up _ _ _ _ (by decide), o1 13 (by decide) (by decide) (by decide)]
    have hbk : nI k = nI bb ↔ k = bb := ⟨fun h => by have := congrArg Int32.toNatClampNeg h; rw [nI_clamp (by omega), nI_clamp (by omega)] at this; exact this, fun h => by rw [h]⟩
    by_cases h : l = nl
    · subst h
      rw [y13]
      unfold p_r13
      by_cases hb : k = bb
      · rw [if_pos hb, if_pos ⟨rfl, hbk.mpr hb⟩]
      · rw [if_neg hb, if_neg (fun z => hb (hbk.mp z.2)), hz k hk]
    · rw [if_neg (fun z => h z.1), z_ln_oth A nl bb b t f n (by simp [nw_2, nw_4, h]) (by decide) (by decide)]
  · rw [yd 15 (by decide) (by decide) (by decide) (by decide) (by decide), z_Deal_15, o1 15 (by decide) (by decide) (by decide)]
  · rw [yd 16 (by decide) (by decide) (by decide) (by decide) (by decide), z_Deal_16, o1 16 (by decide) (by decide) (by decide)]
  · rw [yd 17 (by decide) (by decide) (by decide) (by decide) (by decide), z_Deal_17, o1 17 (by decide) (by decide) (by decide)]
theorem pr_request (hfl : l.flags = pinnedFlags ++ [noTraceFlag]) (P : PX t0 X L tg A XR LR tgR B q) (x y z v : Int32) : PairT l D T t0 X L tg A XR LR tgR B q yL_request wsL_request yM_request wsM_request [.int x, .int y, .int z, .int v] := by
  obtain ⟨hq, S, W, E⟩ := P
  have hn := S.nl32
  have hlg := S.I.S.lg
  have i0 := W.v0 0 (by simp)
  rcases lib_two x with h | ⟨b, hb, rfl⟩
  · exact PairT.bad ⟨hq, S, W, E⟩ (fun sz => t_request_bl l hfl D T t0 X L tg sz A _ i0 x y z v h) (fun sz => r_request_bl l D T XR LR tgR sz E B x y z v h) (by decide) (by unfold s_request_bl; rw [ite_self])
  rcases tit_two y with h | ⟨t, ht, rfl⟩
  · exact PairT.bad ⟨hq, S, W, E⟩ (fun sz => t_request_bt l hfl D T t0 X L tg sz A _ i0 b y z v hb h) (fun sz => r_request_bt l D T XR LR tgR sz E B b y z v hb h) (by decide) (by unfold s_request_bt; rw [ite_self])
  rcases lib_two z with h | ⟨f, hf, rfl⟩
  · exact PairT.bad ⟨hq, S, W, E⟩ (fun sz => t_request_bf l hfl D T t0 X L tg sz A _ i0 b t z v hb ht h) (fun sz => r_request_bf l D T XR LR tgR sz E B b t z v hb ht h) (by decide) (by unfold s_request_bf; rw [ite_self])
  by_cases h1 : v < 1
  · exact PairT.bad ⟨hq, S, W, E⟩ (fun sz => t_request_b1 l hfl D T t0 X L tg sz A _ i0 b t f v hb ht hf h1) (fun sz => r_request_b1 l D T XR LR tgR sz E B b t f v hb ht hf h1) (by decide) (by unfold s_request_b1; rw [ite_self])
  by_cases h9 : ¬ v ≤ 99
  · exact PairT.bad ⟨hq, S, W, E⟩ (fun sz => t_request_b9 l hfl D T t0 X L tg sz A _ i0 b t f v hb ht hf h1 h9) (fun sz => r_request_b9 l D T XR LR tgR sz E B b t f v hb ht hf h1 (Int32.not_le.mp h9)) (by decide) (by unfold s_request_b9; rw [ite_self])
  have h9 := Classical.not_not.mp h9
  have a0 : B 15 0 (p_l B) = nI 0 := S.I.L.ak0 _ (Nat.le_refl _)
  have R := fun sz => r_request_ok l D T XR LR tgR sz E B b t f v (p_l B) 0 (wtB B) (lgB B) hb ht hf h1 (Int32.not_lt.mpr h9) hn S.I.S.nl.1 (by decide) a0 S.w64 S.I.S.w.1 (by omega) hlg.1
  rcases (Nat.lt_or_ge (p_l B) 32).symm with h32 | h32
  · have e32 : p_l B = 32 := by omega
    exact PairT.no ⟨hq, S, W, E⟩ (fun sz => t_request_full l hfl D T t0 X L tg sz A _ i0 b t f v hb ht hf h1 h9 (by rw [S.nlA, e32]; rfl)) R (by decide) (by unfold s_request_ok; rw [if_pos e32])
  obtain ⟨n, hn99, rfl⟩ := nI_of2 (M := 99) (n := 99) (by decide) (fun z => h1 (by rw [Int32.lt_iff_toInt_lt] at *; have : (0 : Int32).toInt = 0 := rfl; have : (1 : Int32).toInt = 1 := rfl; omega)) h9
  have hn1 : 1 ≤ n := by
    rcases Nat.eq_zero_or_pos n with h | h
    · subst h; exact absurd (by decide) h1
    · exact h
  have z13 : ∀ k, k < 6 → A 13 (p_l B) k = 0 := fun k hk => by rw [S.R.C.th _ k hk]; exact S.I.L.nth _ (by omega)
  have eR : s_request_ok B b t f (nI n) (p_l B) 0 (wtB B) (lgB B) = (nI (p_l B), s_askNext (p_b1 B (p_l B) (nI b) (nI t) (nI f) (nI n)) (p_l B) f 0 b (wtB B) (lgB B)) := by
    unfold s_request_ok
    rw [if_neg (by omega)]
    rfl
  have h0 : s_askNext (p_b1 B (p_l B) (nI b) (nI t) (nI f) (nI n)) (p_l B) f 0 b (wtB B) (lgB B) 0 0 0 = 0 := by
    rw [s_askNext_00]
    unfold p_b1
    rw [up3_ne _ _ (by omega)]
    repeat rw [p_kd_up _ _ _ _ (by decide)]
    rw [up3_self]
  by_cases hfb : f = b
  · subst hfb
    have en : p_nxt f 0 f = 1 := by unfold p_nxt; rw [if_pos (by omega)]
    have hbb : (f + 1) % 6 < 6 := Nat.mod_lt _ (by decide)
    obtain ⟨f1, f2, f3⟩ := W.fr2 hbb h32 S.nlA
    have S' : Sim (z_req_e A (p_l B) f t f n (wtB B)) (s_askNext (p_b1 B (p_l B) (nI f) (nI t) (nI f) (nI n)) (p_l B) f 0 f (wtB B) (lgB B)) (q + 1) := by
      have h8 := S.request (A' := up3 (z_ln A (p_l B) ((f + 1) % 6) f t f n) 3 (p_l B) 0 0) hq rfl h32 hf hf hn1 hn99 rfl rfl (p_nl_l1 A (p_l B) (6 * p_l B + (f + 1) % 6) f t f n) (by rw [en]; exact p_nd_ln hbb z13)
      rw [en] at h8
      exact h8
    exact PairT.ok (Z := z_req_e A (p_l B) f t f n (wtB B)) (fun sz => c_L_request_e l D T t0 X L tg sz A _ i0 f t f n (p_l B) (wtB B) (W.v0 10 (by simp)) (W.v0 7 (by simp)) (W.v0 12 (by simp)) hf ht hf hn1 hn99 h32 S.nlA rfl S.w64 S.wA (W.1 _).1 (W.1 _).2 W.cl f1 f2 f3) (by decide) (by decide) R (by decide) eR rfl S' (fun X' L' tg' h => W.ln h32 hbb S.nlA h) h0
  · have en : (f + p_nxt f 0 b) % 6 = f := by unfold p_nxt; rw [if_neg (by omega)]; omega
    obtain ⟨f1, f2, f3⟩ := W.fr2 hf h32 S.nlA
    have S' : Sim (z_req_n A (p_l B) b t f n (wtB B)) (s_askNext (p_b1 B (p_l B) (nI b) (nI t) (nI f) (nI n)) (p_l B) f 0 b (wtB B) (lgB B)) (q + 1) := by
      have h8 := S.request (A' := up3 (z_ln A (p_l B) f b t f n) 3 (p_l B) 0 0) hq rfl h32 hb hf hn1 hn99 rfl rfl (p_nl_l1 A (p_l B) (6 * p_l B + f) b t f n) (by rw [en]; exact p_nd_ln hf z13)
      rw [en] at h8
      exact h8
    exact PairT.ok (Z := z_req_n A (p_l B) b t f n (wtB B)) (fun sz => c_L_request_n l D T t0 X L tg sz A _ i0 b t f n (p_l B) (wtB B) (W.v0 10 (by simp)) (W.v0 7 (by simp)) (W.v0 12 (by simp)) hb ht hf hn1 hn99 h32 S.nlA hfb S.w64 S.wA (W.1 _).1 (W.1 _).2 W.cl f1 f2 f3) (by decide) (by decide) R (by decide) eR rfl S' (fun X' L' tg' h => W.ln h32 hf S.nlA h) h0
end PT5
