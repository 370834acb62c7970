/-! The closed world after new entities -/
theorem clC_S {S : List (Nat × Nat)} {X X' : Nat → Nat → Nat} {L L' : List Nat} {tg tg' : Nat → Nat × Nat} {A A' : ew_R} (hcl : clC X L tg A) (h : em_S S X L tg X' L' tg') (hA : ∀ b ∈ L, ∀ c i, rfC (tg b).1 (tg b).2 (A' (tg b).1 (tg b).2) c i → tg b ∈ S ∨ rfC (tg b).1 (tg b).2 (A (tg b).1 (tg b).2) c i ∨ stC c i ∨ ew_in X' L' tg' c i (X' c i))
    (href : ∀ t ∈ S, ∀ c i, rfC t.1 t.2 (A' t.1 t.2) c i → stC c i ∨ ew_in X' L' tg' c i (X' c i)) : clC X' L' tg' A' := by
  intro b hb c i hr
  rcases h.2.2.2 b hb with h1 | ⟨h1, h2⟩
  · exact href _ h1 c i hr
  · rw [h2] at hr
    rcases hA b h1 c i hr with h3 | h3 | h3
    · exact href _ h3 c i hr
    · rcases hcl b h1 c i h3 with h4 | h4
      · exact Or.inl h4
      · exact Or.inr (h.ad h4).self
    · exact h3
theorem clC_deal {d : Nat} {ln rq b : Int32} {X X' : Nat → Nat → Nat} {L L' : List Nat} {tg tg' : Nat → Nat × Nat} {A : ew_R} (hd : d < 192) (hcl : clC X L tg A) (h : em_S (nw_4 d) X L tg X' L' tg') : clC X' L' tg' (z_Deal A d ln rq b) := by
  have r4 : z_Deal A d ln rq b 4 d = p_r4 b := by simp [z_Deal, upr, va_up]
  have r17 : z_Deal A d ln rq b 17 d = fun _ => 0 := by simp [z_Deal, upr, va_up]
  have r5 : z_Deal A d ln rq b 5 d = p_r5 ln rq b := by simp [z_Deal, upr, va_up]
  have r8 : z_Deal A d ln rq b 8 d = p_r8 d := by simp [z_Deal, upr, va_up]
  have r15 : z_Deal A d ln rq b 15 d = p_r5 ln b rq := by simp [z_Deal, upr, va_up]
  have r16 : z_Deal A d ln rq b 16 d = p_r8 d := by simp [z_Deal, upr, va_up]
  have c8 : (p_r8 d 1).toNatClampNeg = 64 * d := nI_clamp (by omega)
  have lv : ∀ t ∈ nw_4 d, ew_in X' L' tg' t.1 t.2 (X' t.1 t.2) := h.2.2.1
  refine clC_S hcl h (fun a ha c i hr => ?_) (fun t ht c i hr => ?_)
  · by_cases hq : tg a ∈ nw_4 d
    · exact Or.inl hq
    · rw [z_Deal_oth _ _ _ _ _ (show ((tg a).1, (tg a).2) ∉ nw_4 d from hq)] at hr
      exact Or.inr (Or.inl hr)
  · have ht' := ht
    simp only [nw_4, List.mem_cons, List.not_mem_nil, or_false] at ht'
    rcases ht' with rfl | rfl | rfl | rfl | rfl | rfl
    · simp only [r4] at hr
      rcases hr with ⟨h1, h2⟩ | ⟨h1, h2, h3⟩
      · subst h2
        right
        rcases h1 with rfl | rfl | rfl
        · exact lv (5, i) (by simp [nw_4])
        · exact lv (15, i) (by simp [nw_4])
        · exact lv (17, i) (by simp [nw_4])
      · exact absurd (show p_r4 b 4 = (-1) from rfl) h2
    · exact False.elim hr
    · obtain ⟨rfl, rfl⟩ := hr
      exact Or.inr (lv (8, i) (by simp [nw_4]))
    · simp only [r8] at hr
      obtain ⟨rfl, h2⟩ := hr
      rw [c8] at h2
      exact Or.inl ⟨Or.inl rfl, by omega⟩
    · obtain ⟨rfl, rfl⟩ := hr
      exact Or.inr (lv (16, i) (by simp [nw_4]))
    · simp only [r16] at hr
      obtain ⟨rfl, h2⟩ := hr
      rw [c8] at h2
      exact Or.inl ⟨Or.inr rfl, by omega⟩
theorem clC_turn {ln b : Nat} {rq : Int32} {X X' : Nat → Nat → Nat} {L L' : List Nat} {tg tg' : Nat → Nat × Nat} {A : ew_R} (hln : ln < 32) (hb : b < 6) (hcl : clC X L tg A) (h : em_S (nw_4 (6 * ln + b)) X L tg X' L' tg') : clC X' L' tg' (z_turn A ln b (6 * ln + b) rq) := by
  have h1 := clC_deal (ln := A 2 ln 0) (rq := rq) (b := nI b) (d := 6 * ln + b) (by omega) hcl h
  have e4 := h.2.2.1 (4, 6 * ln + b) (by simp [nw_4])
  unfold z_turn
  refine clC_set (clC_set h1 (fun c i hr => ?_)) (fun c i hr => ?_)
  · rcases hr with hr | hr | ⟨rfl, hr⟩
    · exact Or.inl (Or.inl hr)
    · exact Or.inl (Or.inr (Or.inl hr))
    · rw [va_up_self, nI_clamp (by omega)] at hr
      subst hr; exact Or.inr (Or.inr e4)
  · obtain ⟨rfl, j, hj, rfl⟩ := hr
    by_cases hjb : j = b
    · subst hjb; exact Or.inr (Or.inr e4)
    · rw [va_up_ne _ _ hjb] at hj
      exact Or.inl ⟨rfl, j, hj, rfl⟩
/-- after a letter was written -/
theorem clC_wr5 {d g n w : Nat} {kn tl : Int32} {t0 : Nat × Nat} {X X' : Nat → Nat → Nat} {L L' : List Nat} {tg tg' : Nat → Nat × Nat} {A : ew_R} (hd : d < 192) (hn : n < 512) (hcl : clC X L tg A) (hLS : lsC 8 14 t0 X L tg A d g n) (h : em_S (nw_5 d g n) X L tg X' L' tg') : clC X' L' tg' (z_L_send_5 A d g n w kn tl) := by
  obtain ⟨g11, ncap, q1, q2, q0, qg⟩ := hLS
  have h0 : g = 0 → n = 0 ∨ n < capG g := fun h => by left; rw [h] at ncap; exact Nat.le_zero.mp ncap
  have pls : p_ls 8 14 A d g n := ⟨g11, ncap, q1, fun h => ⟨(qg h).1, (qg h).2.1⟩⟩
  have a2 : ∀ c, c ≠ 7 → c ≠ 12 → z_L_send_5 A d g n w kn tl c = z_Side_write_5 A d g n kn tl c := fun c h7 h12 => by
    unfold z_L_send_5; rw [p_radd_5_6, p_radd_oth _ _ _ _ _ _ _ _ _ h12 h7]
  obtain ⟨⟨g11', ncap', p1, pg⟩, p2⟩ := p_wr_5_ls A d g n kn tl pls hn
  have lt : ∀ j, j < n + 1 → ew_in X' L' tg' 6 (512 * d + j) (X' 6 (512 * d + j)) := by
    intro j hj
    by_cases hjn : j = n
    · subst hjn
      exact h.2.2.1 (6, 512 * d + j) (by unfold nw_5; split <;> simp)
    · have hg : 1 ≤ g := by
        rcases Nat.eq_zero_or_pos g with hz | hz
        · have := h0 hz; rw [hz] at this ncap; simp [capG] at this ncap; omega
        · exact hz
      obtain ⟨g1, g2, g3⟩ := qg hg
      have hb := hcl _ g3.2.1 6 (512 * d + j) (by
        rw [g3.2.2]
        refine ⟨rfl, j, ?_, ?_⟩
        · show j < (A 14 (64 * d + g) 1001).toNatClampNeg
          rw [g2, nI_clamp (by omega)]; omega
        · show 512 * d + j = 512 * ((64 * d + g) / 64) + j
          omega)
      rcases hb with hb | hb
      · exact absurd hb.1 (by decide)
      · exact (h.ad hb).self
  have hg1 : 1 ≤ p_g1 g n := by
    unfold p_g1; split
    · rename_i hc
      rcases Nat.eq_zero_or_pos g with hz | hz
      · rw [hz] at hc; exact absurd hc (by simp [capG])
      · exact hz
    · omega
  have la : ew_in X' L' tg' 14 (64 * d + p_g1 g n) (X' 14 (64 * d + p_g1 g n)) := by
    unfold p_g1; split
    · rename_i hc
      have hg : 1 ≤ g := by
        rcases Nat.eq_zero_or_pos g with hz | hz
        · rw [hz] at hc; exact absurd hc (by simp [capG])
        · exact hz
      exact (h.ad (qg hg).2.2).self
    · rename_i hc
      exact h.2.2.1 (14, 64 * d + g + 1) (by unfold nw_5; rw [if_neg hc]; simp)
  have rK : ∀ c i, rfC 14 (64 * d + p_g1 g n) (z_L_send_5 A d g n w kn tl 14 (64 * d + p_g1 g n)) c i → stC c i ∨ ew_in X' L' tg' c i (X' c i) := by
    intro c i hr
    obtain ⟨rfl, j, hj, rfl⟩ := hr
    rw [a2 14 (by decide) (by decide), (pg hg1).2, nI_clamp (by omega)] at hj
    have := lt j hj
    rw [show (64 * d + p_g1 g n) / 64 = d by omega]
    exact Or.inr this
  have rT : ∀ k c i r, rfC 6 k r c i → stC c i ∨ ew_in X' L' tg' c i (X' c i) := fun k c i r hr => False.elim hr
  have rL : ∀ c i, rfC 8 d (z_L_send_5 A d g n w kn tl 8 d) c i → stC c i ∨ ew_in X' L' tg' c i (X' c i) := by
    intro c i hr
    obtain ⟨rfl, hr⟩ := hr
    rw [a2 8 (by decide) (by decide), p1, nI_clamp (by omega)] at hr
    subst hr; exact Or.inr la
  refine clC_S hcl h (fun a ha c i hr => ?_) (fun t ht c i hr => ?_)
  · generalize tg a = t at hr
    obtain ⟨k, x⟩ := t
    by_cases k7 : k = 7
    · subst k7
      have h7 : c = 12 ∧ i = 0 := hr
      exact Or.inr (Or.inl h7)
    by_cases k12 : k = 12
    · subst k12; exact False.elim hr
    by_cases kT : k = 6
    · subst kT; exact False.elim hr
    by_cases kL : k = 8
    · subst kL
      by_cases hx : x = d
      · subst hx; exact Or.inr (Or.inr (rL c i hr))
      · rw [a2 8 (by decide) (by decide), p_wr_5_l _ _ _ _ _ _ hx] at hr
        exact Or.inr (Or.inl hr)
    by_cases kK : k = 14
    · subst kK
      by_cases hx : x = 64 * d + p_g1 g n
      · subst hx; exact Or.inr (Or.inr (rK c i hr))
      · rw [a2 14 (by decide) (by decide), p_wr_5_k _ _ _ _ _ _ hx] at hr
        exact Or.inr (Or.inl hr)
    · rw [p_send5_4 _ _ _ _ _ _ _ (by simp; omega)] at hr
      exact Or.inr (Or.inl hr)
  · unfold nw_5 at ht
    split at ht
    · simp only [List.mem_singleton] at ht
      subst ht; exact False.elim hr
    · rename_i hc
      simp only [List.mem_cons, List.not_mem_nil, or_false] at ht
      rcases ht with rfl | rfl
      · exact False.elim hr
      · have e : 64 * d + g + 1 = 64 * d + p_g1 g n := by unfold p_g1; rw [if_neg hc]; omega
        rw [e] at hr
        exact rK c i hr
/-- the list after a letter was written -/
theorem lsC_wr5 {d g n w : Nat} {kn tl : Int32} {t0 : Nat × Nat} {X X' : Nat → Nat → Nat} {L L' : List Nat} {tg tg' : Nat → Nat × Nat} {A : ew_R} (hn : n < 512) (hLS : lsC 8 14 t0 X L tg A d g n) (h : em_S (nw_5 d g n) X L tg X' L' tg') : lsC 8 14 t0 X' L' tg' (z_L_send_5 A d g n w kn tl) d (p_g1 g n) (n + 1) := by
  obtain ⟨g11, ncap, q1, q2, q0, qg⟩ := hLS
  have pls : p_ls 8 14 A d g n := ⟨g11, ncap, q1, fun h => ⟨(qg h).1, (qg h).2.1⟩⟩
  have a2 : ∀ c, c ≠ 7 → c ≠ 12 → z_L_send_5 A d g n w kn tl c = z_Side_write_5 A d g n kn tl c := fun c h7 h12 => by
    unfold z_L_send_5; rw [p_radd_5_6, p_radd_oth _ _ _ _ _ _ _ _ _ h12 h7]
  obtain ⟨⟨g11', ncap', p1, pg⟩, p2⟩ := p_wr_5_ls A d g n kn tl pls hn
  have hg1 : 1 ≤ p_g1 g n := by
    unfold p_g1; split
    · rename_i hc
      rcases Nat.eq_zero_or_pos g with hz | hz
      · rw [hz] at hc; exact absurd hc (by simp [capG])
      · exact hz
    · omega
  refine ⟨g11', ncap', ?_, ?_, fun hz => by omega, fun _ => ⟨?_, ?_, ?_⟩⟩
  · rw [a2 8 (by decide) (by decide)]; exact p1
  · rw [a2 8 (by decide) (by decide)]; exact p2
  · rw [a2 14 (by decide) (by decide)]; exact (pg hg1).1
  · rw [a2 14 (by decide) (by decide)]; exact (pg hg1).2
  · unfold p_g1; split
    · rename_i hc
      have hg : 1 ≤ g := by
        rcases Nat.eq_zero_or_pos g with hz | hz
        · rw [hz] at hc; exact absurd hc (by simp [capG])
        · exact hz
      exact (h.ad (qg hg).2.2).self
    · rename_i hc
      exact h.2.2.1 (14, 64 * d + g + 1) (by unfold nw_5; rw [if_neg hc]; simp)
/-- after a letter was written -/
theorem clC_wr15 {d g n w : Nat} {kn tl : Int32} {t0 : Nat × Nat} {X X' : Nat → Nat → Nat} {L L' : List Nat} {tg tg' : Nat → Nat × Nat} {A : ew_R} (hd : d < 192) (hn : n < 512) (hcl : clC X L tg A) (hLS : lsC 16 20 t0 X L tg A d g n) (h : em_S (nw_15 d g n) X L tg X' L' tg') : clC X' L' tg' (z_L_send_15 A d g n w kn tl) := by
  obtain ⟨g11, ncap, q1, q2, q0, qg⟩ := hLS
  have h0 : g = 0 → n = 0 ∨ n < capG g := fun h => by left; rw [h] at ncap; exact Nat.le_zero.mp ncap
  have pls : p_ls 16 20 A d g n := ⟨g11, ncap, q1, fun h => ⟨(qg h).1, (qg h).2.1⟩⟩
  have a2 : ∀ c, c ≠ 7 → c ≠ 12 → z_L_send_15 A d g n w kn tl c = z_Side_write_15 A d g n kn tl c := fun c h7 h12 => by
    unfold z_L_send_15; rw [p_radd_15_19, p_radd_oth _ _ _ _ _ _ _ _ _ h12 h7]
  obtain ⟨⟨g11', ncap', p1, pg⟩, p2⟩ := p_wr_15_ls A d g n kn tl pls hn
  have lt : ∀ j, j < n + 1 → ew_in X' L' tg' 19 (512 * d + j) (X' 19 (512 * d + j)) := by
    intro j hj
    by_cases hjn : j = n
    · subst hjn
      exact h.2.2.1 (19, 512 * d + j) (by unfold nw_15; split <;> simp)
    · have hg : 1 ≤ g := by
        rcases Nat.eq_zero_or_pos g with hz | hz
        · have := h0 hz; rw [hz] at this ncap; simp [capG] at this ncap; omega
        · exact hz
      obtain ⟨g1, g2, g3⟩ := qg hg
      have hb := hcl _ g3.2.1 19 (512 * d + j) (by
        rw [g3.2.2]
        refine ⟨rfl, j, ?_, ?_⟩
        · show j < (A 20 (64 * d + g) 1001).toNatClampNeg
          rw [g2, nI_clamp (by omega)]; omega
        · show 512 * d + j = 512 * ((64 * d + g) / 64) + j
          omega)
      rcases hb with hb | hb
      · exact absurd hb.1 (by decide)
      · exact (h.ad hb).self
  have hg1 : 1 ≤ p_g1 g n := by
    unfold p_g1; split
    · rename_i hc
      rcases Nat.eq_zero_or_pos g with hz | hz
      · rw [hz] at hc; exact absurd hc (by simp [capG])
      · exact hz
    · omega
  have la : ew_in X' L' tg' 20 (64 * d + p_g1 g n) (X' 20 (64 * d + p_g1 g n)) := by
    unfold p_g1; split
    · rename_i hc
      have hg : 1 ≤ g := by
        rcases Nat.eq_zero_or_pos g with hz | hz
        · rw [hz] at hc; exact absurd hc (by simp [capG])
        · exact hz
      exact (h.ad (qg hg).2.2).self
    · rename_i hc
      exact h.2.2.1 (20, 64 * d + g + 1) (by unfold nw_15; rw [if_neg hc]; simp)
  have rK : ∀ c i, rfC 20 (64 * d + p_g1 g n) (z_L_send_15 A d g n w kn tl 20 (64 * d + p_g1 g n)) c i → stC c i ∨ ew_in X' L' tg' c i (X' c i) := by
    intro c i hr
    obtain ⟨rfl, j, hj, rfl⟩ := hr
    rw [a2 20 (by decide) (by decide), (pg hg1).2, nI_clamp (by omega)] at hj
    have := lt j hj
    rw [show (64 * d + p_g1 g n) / 64 = d by omega]
    exact Or.inr this
  have rT : ∀ k c i r, rfC 19 k r c i → stC c i ∨ ew_in X' L' tg' c i (X' c i) := fun k c i r hr => False.elim hr
  have rL : ∀ c i, rfC 16 d (z_L_send_15 A d g n w kn tl 16 d) c i → stC c i ∨ ew_in X' L' tg' c i (X' c i) := by
    intro c i hr
    obtain ⟨rfl, hr⟩ := hr
    rw [a2 16 (by decide) (by decide), p1, nI_clamp (by omega)] at hr
    subst hr; exact Or.inr la
  refine clC_S hcl h (fun a ha c i hr => ?_) (fun t ht c i hr => ?_)
  · generalize tg a = t at hr
    obtain ⟨k, x⟩ := t
    by_cases k7 : k = 7
    · subst k7
      have h7 : c = 12 ∧ i = 0 := hr
      exact Or.inr (Or.inl h7)
    by_cases k12 : k = 12
    · subst k12; exact False.elim hr
    by_cases kT : k = 19
    · subst kT; exact False.elim hr
    by_cases kL : k = 16
    · subst kL
      by_cases hx : x = d
      · subst hx; exact Or.inr (Or.inr (rL c i hr))
      · rw [a2 16 (by decide) (by decide), p_wr_15_l _ _ _ _ _ _ hx] at hr
        exact Or.inr (Or.inl hr)
    by_cases kK : k = 20
    · subst kK
      by_cases hx : x = 64 * d + p_g1 g n
      · subst hx; exact Or.inr (Or.inr (rK c i hr))
      · rw [a2 20 (by decide) (by decide), p_wr_15_k _ _ _ _ _ _ hx] at hr
        exact Or.inr (Or.inl hr)
    · rw [p_send15_4 _ _ _ _ _ _ _ (by simp; omega)] at hr
      exact Or.inr (Or.inl hr)
  · unfold nw_15 at ht
    split at ht
    · simp only [List.mem_singleton] at ht
      subst ht; exact False.elim hr
    · rename_i hc
      simp only [List.mem_cons, List.not_mem_nil, or_false] at ht
      rcases ht with rfl | rfl
      · exact False.elim hr
      · have e : 64 * d + g + 1 = 64 * d + p_g1 g n := by unfold p_g1; rw [if_neg hc]; omega
        rw [e] at hr
        exact rK c i hr
/-- the list after a letter was written -/
theorem lsC_wr15 {d g n w : Nat} {kn tl : Int32} {t0 : Nat × Nat} {X X' : Nat → Nat → Nat} {L L' : List Nat} {tg tg' : Nat → Nat × Nat} {A : ew_R} (hn : n < 512) (hLS : lsC 16 20 t0 X L tg A d g n) (h : em_S (nw_15 d g n) X L tg X' L' tg') : lsC 16 20 t0 X' L' tg' (z_L_send_15 A d g n w kn tl) d (p_g1 g n) (n + 1) := by
  obtain ⟨g11, ncap, q1, q2, q0, qg⟩ := hLS
  have pls : p_ls 16 20 A d g n := ⟨g11, ncap, q1, fun h => ⟨(qg h).1, (qg h).2.1⟩⟩
  have a2 : ∀ c, c ≠ 7 → c ≠ 12 → z_L_send_15 A d g n w kn tl c = z_Side_write_15 A d g n kn tl c := fun c h7 h12 => by
    unfold z_L_send_15; rw [p_radd_15_19, p_radd_oth _ _ _ _ _ _ _ _ _ h12 h7]
  obtain ⟨⟨g11', ncap', p1, pg⟩, p2⟩ := p_wr_15_ls A d g n kn tl pls hn
  have hg1 : 1 ≤ p_g1 g n := by
    unfold p_g1; split
    · rename_i hc
      rcases Nat.eq_zero_or_pos g with hz | hz
      · rw [hz] at hc; exact absurd hc (by simp [capG])
      · exact hz
    · omega
  refine ⟨g11', ncap', ?_, ?_, fun hz => by omega, fun _ => ⟨?_, ?_, ?_⟩⟩
  · rw [a2 16 (by decide) (by decide)]; exact p1
  · rw [a2 16 (by decide) (by decide)]; exact p2
  · rw [a2 20 (by decide) (by decide)]; exact (pg hg1).1
  · rw [a2 20 (by decide) (by decide)]; exact (pg hg1).2
  · unfold p_g1; split
    · rename_i hc
      have hg : 1 ≤ g := by
        rcases Nat.eq_zero_or_pos g with hz | hz
        · rw [hz] at hc; exact absurd hc (by simp [capG])
        · exact hz
      exact (h.ad (qg hg).2.2).self
    · rename_i hc
      exact h.2.2.1 (20, 64 * d + g + 1) (by unfold nw_15; rw [if_neg hc]; simp)
