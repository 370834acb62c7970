/-! What lives of the class's world -/
def p_th (A : ew_R) (d : Nat) : Prop := ¬ A 13 (d / 6) (d % 6) = 0 ∧ d / 6 < (A 0 0 6).toNatClampNeg
def p_live (A : ew_R) (kd id : Nat) : Prop :=
  ((kd = 0 ∨ kd = 7 ∨ kd = 9 ∨ kd = 10 ∨ kd = 11 ∨ kd = 12 ∨ kd = 18) ∧ id = 0) ∨ (kd = 1 ∧ id < (A 0 0 5).toNatClampNeg) ∨ ((kd = 2 ∨ kd = 3 ∨ kd = 13) ∧ id < (A 0 0 6).toNatClampNeg) ∨ ((kd = 4 ∨ kd = 5 ∨ kd = 8 ∨ kd = 15 ∨ kd = 16 ∨ kd = 17) ∧ p_th A id)
    ∨ (kd = 6 ∧ p_th A (id / 512) ∧ id % 512 < (A 8 (id / 512) 2).toNatClampNeg) ∨ (kd = 19 ∧ p_th A (id / 512) ∧ id % 512 < (A 16 (id / 512) 2).toNatClampNeg)
    ∨ (kd = 14 ∧ p_th A (id / 64) ∧ 1 ≤ id % 64 ∧ 64 * (id / 64) + id % 64 ≤ (A 8 (id / 64) 1).toNatClampNeg) ∨ (kd = 20 ∧ p_th A (id / 64) ∧ 1 ≤ id % 64 ∧ 64 * (id / 64) + id % 64 ≤ (A 16 (id / 64) 1).toNatClampNeg)
theorem p_live_cg {A A' : ew_R} (e5 : A' 0 0 5 = A 0 0 5) (e6 : A' 0 0 6 = A 0 0 6) (e13 : A' 13 = A 13) (e8 : ∀ d, A' 8 d 1 = A 8 d 1 ∧ A' 8 d 2 = A 8 d 2) (e16 : ∀ d, A' 16 d 1 = A 16 d 1 ∧ A' 16 d 2 = A 16 d 2) (kd id : Nat) : p_live A' kd id ↔ p_live A kd id := by
  simp only [p_live, p_th, e5, e6, e13, (e8 _).1, (e8 _).2, (e16 _).1, (e16 _).2]

theorem p_live_send5 {A : ew_R} {d g n w : Nat} {kn tl : Int32} (hd : p_th A d) (h192 : d < 192) (hn : n < 512) (hg : p_ls 8 14 A d g n) (h2 : A 8 d 2 = nI n) (kd id : Nat) : p_live (z_L_send_5 A d g n w kn tl) kd id ↔ p_live A kd id ∨ (kd, id) ∈ nw_5 d g n := by
  have a1 : ∀ c, c ∉ [7, 12, 6, 8, 14] → z_L_send_5 A d g n w kn tl c = A c := fun c hc => p_send5_4 _ _ _ _ _ _ _ hc
  have a2 : ∀ c, c ≠ 7 → c ≠ 12 → z_L_send_5 A d g n w kn tl c = z_Side_write_5 A d g n kn tl c := fun c h7 h12 => by
    unfold z_L_send_5; rw [p_radd_5_6, p_radd_oth _ _ _ _ _ _ _ _ _ h12 h7]
  obtain ⟨⟨g11', ncap', p1, pg⟩, p2⟩ := p_wr_5_ls A d g n kn tl hg hn
  obtain ⟨g11, ncap, q1, qg⟩ := hg
  have o8 : ∀ x, x ≠ d → z_L_send_5 A d g n w kn tl 8 x = A 8 x := fun x hx => by rw [a2 8 (by decide) (by decide), p_wr_5_l _ _ _ _ _ _ hx]
  have n1 : z_L_send_5 A d g n w kn tl 8 d 1 = nI (64 * d + p_g1 g n) := by rw [a2 8 (by decide) (by decide)]; exact p1
  have n2 : z_L_send_5 A d g n w kn tl 8 d 2 = nI (n + 1) := by rw [a2 8 (by decide) (by decide)]; exact p2
  have th : ∀ x, p_th (z_L_send_5 A d g n w kn tl) x ↔ p_th A x := fun x => by simp only [p_th, a1 13 (by decide), a1 0 (by decide)]
  have m6 : (6, id) ∈ nw_5 d g n ↔ id = 512 * d + n := by unfold nw_5; split <;> simp
  have m14 : (14, id) ∈ nw_5 d g n ↔ ¬ n < capG g ∧ id = 64 * d + g + 1 := by unfold nw_5; split <;> rename_i h <;> simp [h]
  have mo : ∀ k, k ≠ 6 → k ≠ 14 → ¬ (k, id) ∈ nw_5 d g n := fun k h1 h2 => by unfold nw_5; split <;> simp [h1, h2]
  by_cases k6 : kd = 6
  · subst k6
    have key : ∀ Y : ew_R, p_live Y 6 id ↔ (p_th Y (id / 512) ∧ id % 512 < (Y 8 (id / 512) 2).toNatClampNeg) := fun Y => by simp [p_live]
    rw [m6, key, key, th]
    by_cases hx : id / 512 = d
    · rw [hx, n2, h2, nI_clamp (by omega), nI_clamp (by omega)]
      constructor
      · rintro ⟨h1, h3⟩
        by_cases h4 : id % 512 < n
        · exact Or.inl ⟨h1, h4⟩
        · exact Or.inr (by omega)
      · rintro (⟨h1, h3⟩ | h3)
        · exact ⟨h1, by omega⟩
        · exact ⟨hd, by omega⟩
    · rw [o8 _ hx]
      exact ⟨Or.inl, fun z => z.elim (fun y => y) (fun h => absurd h (by omega))⟩
  by_cases k14 : kd = 14
  · subst k14
    have key : ∀ Y : ew_R, p_live Y 14 id ↔ (p_th Y (id / 64) ∧ 1 ≤ id % 64 ∧ 64 * (id / 64) + id % 64 ≤ (Y 8 (id / 64) 1).toNatClampNeg) := fun Y => by simp [p_live]
    rw [m14, key, key, th]
    by_cases hx : id / 64 = d
    · rw [hx, n1, q1, nI_clamp (by unfold p_g1; split <;> omega), nI_clamp (by omega)]
      unfold p_g1
      constructor
      · rintro ⟨h1, h3, h4⟩
        by_cases h5 : id % 64 ≤ g
        · exact Or.inl ⟨h1, h3, by omega⟩
        · split at h4
          · omega
          · rename_i hc; exact Or.inr ⟨hc, by omega⟩
      · rintro (⟨h1, h3, h4⟩ | ⟨h3, h4⟩)
        · exact ⟨h1, h3, by split <;> omega⟩
        · exact ⟨hd, by omega, by rw [if_neg h3]; omega⟩
    · rw [o8 _ hx]
      exact ⟨Or.inl, fun z => z.elim (fun y => y) (fun h => absurd h.2 (by omega))⟩
  · have hm := mo kd k6 k14
    simp only [p_live, th, a1 0 (by decide), a1 16 (by decide), hm, or_false, k6, k14, false_and, false_or, or_false]

theorem p_live_send15 {A : ew_R} {d g n w : Nat} {kn tl : Int32} (hd : p_th A d) (h192 : d < 192) (hn : n < 512) (hg : p_ls 16 20 A d g n) (h2 : A 16 d 2 = nI n) (kd id : Nat) : p_live (z_L_send_15 A d g n w kn tl) kd id ↔ p_live A kd id ∨ (kd, id) ∈ nw_15 d g n := by
  have a1 : ∀ c, c ∉ [7, 12, 19, 16, 20] → z_L_send_15 A d g n w kn tl c = A c := fun c hc => p_send15_4 _ _ _ _ _ _ _ hc
  have a2 : ∀ c, c ≠ 7 → c ≠ 12 → z_L_send_15 A d g n w kn tl c = z_Side_write_15 A d g n kn tl c := fun c h7 h12 => by
    unfold z_L_send_15; rw [p_radd_15_19, p_radd_oth _ _ _ _ _ _ _ _ _ h12 h7]
  obtain ⟨⟨g11', ncap', p1, pg⟩, p2⟩ := p_wr_15_ls A d g n kn tl hg hn
  obtain ⟨g11, ncap, q1, qg⟩ := hg
  have o8 : ∀ x, x ≠ d → z_L_send_15 A d g n w kn tl 16 x = A 16 x := fun x hx => by rw [a2 16 (by decide) (by decide), p_wr_15_l _ _ _ _ _ _ hx]
  have n1 : z_L_send_15 A d g n w kn tl 16 d 1 = nI (64 * d + p_g1 g n) := by rw [a2 16 (by decide) (by decide)]; exact p1
  have n2 : z_L_send_15 A d g n w kn tl 16 d 2 = nI (n + 1) := by rw [a2 16 (by decide) (by decide)]; exact p2
  have th : ∀ x, p_th (z_L_send_15 A d g n w kn tl) x ↔ p_th A x := fun x => by simp only [p_th, a1 13 (by decide), a1 0 (by decide)]
  have m6 : (19, id) ∈ nw_15 d g n ↔ id = 512 * d + n := by unfold nw_15; split <;> simp
  have m14 : (20, id) ∈ nw_15 d g n ↔ ¬ n < capG g ∧ id = 64 * d + g + 1 := by unfold nw_15; split <;> rename_i h <;> simp [h]
  have mo : ∀ k, k ≠ 19 → k ≠ 20 → ¬ (k, id) ∈ nw_15 d g n := fun k h1 h2 => by unfold nw_15; split <;> simp [h1, h2]
  by_cases k6 : kd = 19
  · subst k6
    have key : ∀ Y : ew_R, p_live Y 19 id ↔ (p_th Y (id / 512) ∧ id % 512 < (Y 16 (id / 512) 2).toNatClampNeg) := fun Y => by simp [p_live]
    rw [m6, key, key, th]
    by_cases hx : id / 512 = d
    · rw [hx, n2, h2, nI_clamp (by omega), nI_clamp (by omega)]
      constructor
      · rintro ⟨h1, h3⟩
        by_cases h4 : id % 512 < n
        · exact Or.inl ⟨h1, h4⟩
        · exact Or.inr (by omega)
      · rintro (⟨h1, h3⟩ | h3)
        · exact ⟨h1, by omega⟩
        · exact ⟨hd, by omega⟩
    · rw [o8 _ hx]
      exact ⟨Or.inl, fun z => z.elim (fun y => y) (fun h => absurd h (by omega))⟩
  by_cases k14 : kd = 20
  · subst k14
    have key : ∀ Y : ew_R, p_live Y 20 id ↔ (p_th Y (id / 64) ∧ 1 ≤ id % 64 ∧ 64 * (id / 64) + id % 64 ≤ (Y 16 (id / 64) 1).toNatClampNeg) := fun Y => by simp [p_live]
    rw [m14, key, key, th]
    by_cases hx : id / 64 = d
    · rw [hx, n1, q1, nI_clamp (by unfold p_g1; split <;> omega), nI_clamp (by omega)]
      unfold p_g1
      constructor
      · rintro ⟨h1, h3, h4⟩
        by_cases h5 : id % 64 ≤ g
        · exact Or.inl ⟨h1, h3, by omega⟩
        · split at h4
          · omega
          · rename_i hc; exact Or.inr ⟨hc, by omega⟩
      · rintro (⟨h1, h3, h4⟩ | ⟨h3, h4⟩)
        · exact ⟨h1, h3, by split <;> omega⟩
        · exact ⟨hd, by omega, by rw [if_neg h3]; omega⟩
    · rw [o8 _ hx]
      exact ⟨Or.inl, fun z => z.elim (fun y => y) (fun h => absurd h.2 (by omega))⟩
  · have hm := mo kd k6 k14
    simp only [p_live, th, a1 0 (by decide), a1 8 (by decide), hm, or_false, k6, k14, false_and, false_or, or_false]

theorem p_taut {a b c K T E r : Prop} : (a ∨ b ∨ c ∨ (K ∧ (T ∨ E)) ∨ r) ↔ (a ∨ b ∨ c ∨ (K ∧ T) ∨ r) ∨ (K ∧ E) := by grind
theorem p_live_turn {A : ew_R} {ln b : Nat} {rq : Int32} (hln : ln < 32) (hb : b < 6) (hl : ln < (A 0 0 6).toNatClampNeg) (hz : A 13 ln b = 0) (kd id : Nat) : p_live (z_turn A ln b (6 * ln + b) rq) kd id ↔ p_live A kd id ∨ (kd, id) ∈ nw_4 (6 * ln + b) := by
  have hoth : ∀ c i, (c, i) ∉ nw_4 (6 * ln + b) → ¬ (c = 2 ∧ i = ln) → ¬ (c = 13 ∧ i = ln) → z_turn A ln b (6 * ln + b) rq c i = A c i := by
    intro c i h h2 h13
    unfold z_turn
    rw [up3_oth _ _ _ h13, up3_oth _ _ _ h2, z_Deal_oth _ _ _ _ _ h]
  have z0 : z_turn A ln b (6 * ln + b) rq 0 0 = A 0 0 := hoth 0 0 (by simp [nw_4]) (by omega) (by omega)
  have z13 : ∀ l k, z_turn A ln b (6 * ln + b) rq 13 l k = if l = ln ∧ k = b then 1 else A 13 l k := by
    intro l k
    by_cases hl9 : l = ln
    · subst hl9
      have : z_turn A l b (6 * l + b) rq 13 l = va_up (A 13 l) b 1 := by
        unfold z_turn
        rw [up3_row, up3_oth _ _ _ (by omega)]
        unfold z_Deal
        simp [upr, va_up]
      rw [this]
      by_cases hk : k = b
      · subst hk; rw [va_up_self]; simp
      · rw [va_up_ne _ _ hk]; simp [hk]
    · rw [hoth 13 l (by simp [nw_4]) (by omega) (by omega)]; simp [hl9]
  have z8 : ∀ x, x ≠ 6 * ln + b → z_turn A ln b (6 * ln + b) rq 8 x = A 8 x ∧ z_turn A ln b (6 * ln + b) rq 16 x = A 16 x := fun x hx => ⟨hoth 8 x (by simp [nw_4, hx]) (by omega) (by omega), hoth 16 x (by simp [nw_4, hx]) (by omega) (by omega)⟩
  have y8 : z_turn A ln b (6 * ln + b) rq 8 (6 * ln + b) = p_r8 (6 * ln + b) ∧ z_turn A ln b (6 * ln + b) rq 16 (6 * ln + b) = p_r8 (6 * ln + b) := by
    unfold z_turn
    constructor <;> rw [up3_oth _ _ _ (by omega), up3_oth _ _ _ (by omega)] <;> simp [z_Deal, upr, va_up]
  have th : ∀ x, p_th (z_turn A ln b (6 * ln + b) rq) x ↔ p_th A x ∨ x = 6 * ln + b := by
    intro x
    simp only [p_th, z0, z13]
    by_cases hx : x / 6 = ln ∧ x % 6 = b
    · have e : x = 6 * ln + b := by omega
      rw [if_pos hx]
      constructor
      · intro _; exact Or.inr e
      · intro _; exact ⟨by decide, by omega⟩
    · have e : ¬ x = 6 * ln + b := by omega
      rw [if_neg hx]; simp [e]
  have nth : ¬ p_th A (6 * ln + b) := fun z => z.1 (by rw [show (6 * ln + b) / 6 = ln by omega, show (6 * ln + b) % 6 = b by omega]; exact hz)
  have c1 : (p_r8 (6 * ln + b) 2).toNatClampNeg = 0 := rfl
  have c2 : (p_r8 (6 * ln + b) 1).toNatClampNeg = 64 * (6 * ln + b) := nI_clamp (by omega)
  have m4 : (kd, id) ∈ nw_4 (6 * ln + b) ↔ (kd = 4 ∨ kd = 5 ∨ kd = 8 ∨ kd = 15 ∨ kd = 16 ∨ kd = 17) ∧ id = 6 * ln + b := by
    simp only [nw_4, List.mem_cons, Prod.mk.injEq, List.not_mem_nil, or_false]; omega
  rw [m4]
  have f6 : (p_th (z_turn A ln b (6 * ln + b) rq) (id / 512) ∧ id % 512 < (z_turn A ln b (6 * ln + b) rq 8 (id / 512) 2).toNatClampNeg) ↔ (p_th A (id / 512) ∧ id % 512 < (A 8 (id / 512) 2).toNatClampNeg) := by
    by_cases hx : id / 512 = 6 * ln + b
    · rw [hx, y8.1, c1]; exact ⟨fun z => absurd z.2 (by omega), fun z => absurd z.1 nth⟩
    · rw [th, (z8 _ hx).1]; simp [hx]
  have f19 : (p_th (z_turn A ln b (6 * ln + b) rq) (id / 512) ∧ id % 512 < (z_turn A ln b (6 * ln + b) rq 16 (id / 512) 2).toNatClampNeg) ↔ (p_th A (id / 512) ∧ id % 512 < (A 16 (id / 512) 2).toNatClampNeg) := by
    by_cases hx : id / 512 = 6 * ln + b
    · rw [hx, y8.2, c1]; exact ⟨fun z => absurd z.2 (by omega), fun z => absurd z.1 nth⟩
    · rw [th, (z8 _ hx).2]; simp [hx]
  have f14 : (p_th (z_turn A ln b (6 * ln + b) rq) (id / 64) ∧ 1 ≤ id % 64 ∧ 64 * (id / 64) + id % 64 ≤ (z_turn A ln b (6 * ln + b) rq 8 (id / 64) 1).toNatClampNeg) ↔ (p_th A (id / 64) ∧ 1 ≤ id % 64 ∧ 64 * (id / 64) + id % 64 ≤ (A 8 (id / 64) 1).toNatClampNeg) := by
    by_cases hx : id / 64 = 6 * ln + b
    · rw [hx, y8.1, c2]; exact ⟨fun z => absurd z.2 (by omega), fun z => absurd z.1 nth⟩
    · rw [th, (z8 _ hx).1]; simp [hx]
  have f20 : (p_th (z_turn A ln b (6 * ln + b) rq) (id / 64) ∧ 1 ≤ id % 64 ∧ 64 * (id / 64) + id % 64 ≤ (z_turn A ln b (6 * ln + b) rq 16 (id / 64) 1).toNatClampNeg) ↔ (p_th A (id / 64) ∧ 1 ≤ id % 64 ∧ 64 * (id / 64) + id % 64 ≤ (A 16 (id / 64) 1).toNatClampNeg) := by
    by_cases hx : id / 64 = 6 * ln + b
    · rw [hx, y8.2, c2]; exact ⟨fun z => absurd z.2 (by omega), fun z => absurd z.1 nth⟩
    · rw [th, (z8 _ hx).2]; simp [hx]
  unfold p_live
  rw [f6, f19, f14, f20, th, z0]
  exact p_taut
