/-! The start: both sides empty -/
def z0 : ew_R := fun _ _ _ => 0
theorem z0_pl : p_l z0 = 0 := rfl
theorem z0_pc : p_c z0 = 0 := rfl
theorem z0_wt : wtB z0 = 0 := rfl
theorem z0_lg : lgB z0 = 0 := rfl
theorem z0_n (e : Nat) : p_n z0 e = 0 := rfl
theorem z0_s (e : Nat) : p_s z0 e = 0 := rfl
theorem z0_a (e : Nat) : p_a z0 e = 0 := rfl
theorem z0_RfI : RfI z0 0 := by
  refine ⟨⟨by decide, ⟨rfl, by decide⟩, ⟨rfl, by decide⟩, ⟨rfl, by decide⟩, ⟨rfl, by decide⟩⟩, ⟨fun l h => absurd h (by rw [z0_pl]; omega), fun l h => absurd h (by rw [z0_pl]; omega), fun _ _ => rfl, fun _ _ => rfl⟩, ⟨fun e => ⟨rfl, Nat.le_refl _⟩, fun e => rfl, fun e => rfl, fun d => ⟨Nat.le_refl _, Nat.le_refl _⟩, fun d => ⟨Nat.le_refl _, Nat.le_refl _⟩, fun e _ => rfl⟩, ⟨fun j h => absurd h (by rw [z0_lg]; omega), fun j j' h => absurd h (by rw [z0_lg]; omega), fun e k h => absurd h (by rw [z0_n]; omega)⟩, fun i h => absurd h (by rw [z0_wt]; omega)⟩
theorem z0_Rl : Rl z0 z0 := by
  refine ⟨⟨rfl, rfl, rfl, rfl, rfl, rfl, rfl, rfl, rfl, rfl, rfl, rfl, rfl, rfl, rfl, rfl, rfl, rfl, rfl, rfl, rfl, rfl, fun _ _ _ => rfl, rfl, rfl, rfl⟩, ⟨rfl, rfl, rfl, rfl, rfl, rfl⟩, ⟨fun l h => absurd h (by rw [z0_pl]; omega), fun d h => absurd rfl h, fun c _ => ⟨fun _ => Nat.zero_le _, fun _ => rfl⟩, fun c _ => ⟨fun _ => Nat.zero_le _, fun _ => rfl⟩⟩, ⟨fun j d k h => absurd h (by rw [z0_lg]; omega), fun j d k h => absurd h (by rw [z0_lg]; omega)⟩, fun i h => absurd h (by rw [z0_wt]; omega), fun d h => absurd rfl h, fun d h => absurd rfl h⟩
theorem z0_Sim : Sim z0 z0 0 := by
  refine ⟨z0_RfI, ⟨fun d _ => ⟨rfl, rfl, rfl, rfl, rfl⟩, fun d h => absurd rfl h⟩, z0_Rl, fun d h => absurd rfl h, fun d h => absurd rfl h, fun j j' h => absurd h (by rw [z0_lg]; omega), fun j h => absurd h (by rw [z0_lg]; omega), fun l h => absurd h (by rw [z0_pl]; omega), ⟨0, Nat.le_refl _, rfl⟩⟩
/-- the class's first entities -/
def nw_0 : List (Nat × Nat) := [(0, 0), (9, 0), (10, 0), (11, 0), (7, 0), (12, 0), (18, 0)]
theorem nw_0_live {kd id : Nat} : (kd, id) ∈ nw_0 ↔ p_live z0 kd id := by
  have hth : ∀ d, ¬ p_th z0 d := fun d h => h.1 rfl
  constructor
  · intro h
    simp only [nw_0, List.mem_cons, Prod.mk.injEq, List.not_mem_nil, or_false] at h
    exact Or.inl ⟨by omega, by omega⟩
  · rintro (h | h | h | h | h | h | h | h)
    · simp only [nw_0, List.mem_cons, Prod.mk.injEq, List.not_mem_nil, or_false]; omega
    · exact absurd h.2 (Nat.not_lt_zero _)
    · exact absurd h.2 (Nat.not_lt_zero _)
    · exact absurd h.2 (hth _)
    · exact absurd h.2.1 (hth _)
    · exact absurd h.2.1 (hth _)
    · exact absurd h.2.1 (hth _)
    · exact absurd h.2.1 (hth _)
theorem WI.start {t0 : Nat × Nat} {X0 X : Nat → Nat → Nat} {L : List Nat} {tg tg0 : Nat → Nat × Nat} (h14 : ∀ d, X0 14 (64 * d) = t0.1 ∧ X0 20 (64 * d) = t0.1) (hS : em_S nw_0 X0 [] tg0 X L tg) : WI t0 X L tg z0 := by
  have hlv : ∀ b ∈ L, tg b ∈ nw_0 := fun b hb => by
    rcases hS.2.2.2 b hb with h | h
    · exact h
    · exact absurd h.1 (by simp)
  have hin : ∀ kd id, (kd, id) ∈ nw_0 → ew_in X L tg kd id (X kd id) := fun kd id h => hS.2.2.1 (kd, id) h
  refine ⟨fun d => ⟨?_, ?_⟩, fun b hb => nw_0_live.mp (hlv b hb), fun kd id h => hin kd id (nw_0_live.mpr h), fun b hb c i hr => ?_⟩
  · rw [hS.1 14 (64 * d) (by simp [nw_0])]; exact (h14 d).1
  · rw [hS.1 20 (64 * d) (by simp [nw_0])]; exact (h14 d).2
  · right
    have hm := hlv b hb
    generalize tg b = t at hm hr
    simp only [nw_0, List.mem_cons, List.not_mem_nil, or_false] at hm
    rcases hm with rfl | rfl | rfl | rfl | rfl | rfl | rfl
    · have hr2 : (c = 9 ∨ c = 10 ∨ c = 11 ∨ c = 7 ∨ c = 18) ∧ i = 0 := hr
      obtain ⟨h1, rfl⟩ := hr2
      rcases h1 with rfl | rfl | rfl | rfl | rfl <;> exact hin _ _ (by simp [nw_0])
    · have hr2 : c = 1 ∧ ¬ z0 9 0 i = 0 := hr
      exact absurd rfl hr2.2
    · have hr2 : c = 2 ∧ ¬ z0 10 0 i = 0 := hr
      exact absurd rfl hr2.2
    · exact False.elim hr
    · have hr2 : c = 12 ∧ i = 0 := hr
      obtain ⟨rfl, rfl⟩ := hr2
      exact hin _ _ (by simp [nw_0])
    · exact False.elim hr
    · exact False.elim hr
