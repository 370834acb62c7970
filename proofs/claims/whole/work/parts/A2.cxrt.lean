/-! The requester takes a letter: the contract in the relation's words -/
theorem em_S.split {S1 S2 : List (Nat × Nat)} {X X' : Nat → Nat → Nat} {L L' : List Nat} {tg tg' : Nat → Nat × Nat} (h : em_S (S1 ++ S2) X L tg X' L' tg') (h2 : ∀ b ∈ L, tg b ∉ S2) (h12 : ∀ t ∈ S1, t ∉ S2) : ∃ (X1 : Nat → Nat → Nat) (L1 : List Nat) (tg1 : Nat → Nat × Nat), em_S S1 X L tg X1 L1 tg1 ∧ em_S S2 X1 L1 tg1 X' L' tg' := by
  obtain ⟨a1, a2, a3, a4⟩ := h
  refine ⟨fun c i => if (c, i) ∈ S2 then X c i else X' c i, L'.filter (fun b => decide (tg' b ∉ S2)), tg', ⟨fun c i hn => ?_, fun c i a hi => ?_, fun t ht => ?_, fun b hb => ?_⟩, ⟨fun c i hn => ?_, fun c i a hi => ?_, fun t ht => ?_, fun b hb => ?_⟩⟩
  · dsimp only
    split
    · rfl
    · rename_i h; exact a1 c i (fun z => (List.mem_append.mp z).elim hn h)
  · have h9 := a2 c i a hi
    have hm : (c, i) ∉ S2 := fun z => h2 a hi.2.1 (by rw [hi.2.2]; exact z)
    refine ⟨?_, List.mem_filter.mpr ⟨h9.2.1, ?_⟩, h9.2.2⟩
    · dsimp only; rw [if_neg hm]; exact h9.1
    · rw [h9.2.2]; simp [hm]
  · have h9 := a3 t (List.mem_append_left _ ht)
    have hm : (t.1, t.2) ∉ S2 := h12 t ht
    dsimp only
    rw [if_neg hm]
    refine ⟨?_, List.mem_filter.mpr ⟨h9.2.1, ?_⟩, h9.2.2⟩
    · dsimp only; rw [if_neg hm]
    · rw [h9.2.2]; simp [hm]
  · obtain ⟨hb1, hb2⟩ := List.mem_filter.mp hb
    rcases a4 b hb1 with z | z
    · rcases List.mem_append.mp z with z | z
      · exact Or.inl z
      · exact absurd z (by simpa using hb2)
    · exact Or.inr z
  · dsimp only; rw [if_neg hn]
  · obtain ⟨h1, h3, h4⟩ := hi
    obtain ⟨h5, h6⟩ := List.mem_filter.mp h3
    have hm : (c, i) ∉ S2 := by rw [← h4]; simpa using h6
    dsimp only at h1
    rw [if_neg hm] at h1
    exact ⟨h1, h5, h4⟩
  · exact a3 t (List.mem_append_right _ ht)
  · by_cases hm : tg' b ∈ S2
    · exact Or.inl hm
    · exact Or.inr ⟨List.mem_filter.mpr ⟨hb, by simp [hm]⟩, rfl⟩
section RTS
variable {t0 : Nat × Nat} {X X' : Nat → Nat → Nat} {L L' : List Nat} {tg tg' : Nat → Nat × Nat} {A B : ew_R} {q : Nat}
theorem nl4 {kd d : Nat} (h : ¬ p_th A d) (hk : kd = 4 ∨ kd = 5 ∨ kd = 8 ∨ kd = 15 ∨ kd = 16 ∨ kd = 17) : ¬ p_live A kd d := by
  rintro (z | z | z | z | z | z | z | z)
  · omega
  · omega
  · omega
  · exact h z.2
  · omega
  · omega
  · omega
  · omega
theorem nl6t {d k : Nat} (h : ¬ p_th A d) (hk : k < 512) : ¬ p_live A 6 (512 * d + k) := by
  have e1 : (512 * d + k) / 512 = d := by omega
  rintro (z | z | z | z | z | z | z | z) <;> try omega
  rw [e1] at z; exact h z.2.1
theorem nl14t {d k : Nat} (h : ¬ p_th A d) (hk : k < 64) : ¬ p_live A 14 (64 * d + k) := by
  have e1 : (64 * d + k) / 64 = d := by omega
  rintro (z | z | z | z | z | z | z | z) <;> try omega
  rw [e1] at z; exact h z.2.1
theorem WI.fr4 (W : WI t0 X L tg A) {d : Nat} (h : ¬ p_th A d) : (∀ b ∈ L, ∀ t ∈ nw_4 d, t ≠ tg b) ∧ (∀ b ∈ L, (6, 512 * d) ≠ tg b) ∧ (∀ b ∈ L, (14, 64 * d + 1) ≠ tg b) := by
  refine ⟨fun b hb t ht e => ?_, W.fresh (nl6t (k := 0) h (by decide)), W.fresh (nl14t h (by decide))⟩
  simp only [nw_4, List.mem_cons, List.not_mem_nil, or_false] at ht
  have hl := W.2.1 b hb
  rw [← e] at hl
  rcases ht with rfl | rfl | rfl | rfl | rfl | rfl <;> exact nl4 h (by simp) hl
theorem nw5_0 (d : Nat) (t : Nat × Nat) (h : t ∈ nw_5 d 0 0) : t = (6, 512 * d) ∨ t = (14, 64 * d + 1) := by
  unfold nw_5 at h
  split at h <;> simp at h
  · rename_i hc; exact absurd hc (by decide)
  · rcases h with h | h
    · exact Or.inl (by rw [h])
    · exact Or.inr (by rw [h])
theorem WI.ask (W : WI t0 X L tg A) {ln b w : Nat} {rq : Int32} (hln : ln < 32) (hb : b < 6) (hl : ln < (A 0 0 6).toNatClampNeg) (hz : A 13 ln b = 0) (hS : em_S (nw_4 (6 * ln + b) ++ nw_5 (6 * ln + b) 0 0) X L tg X' L' tg') : WI t0 X' L' tg' (z_ask A ln b w rq) := by
  have nth : ¬ p_th A (6 * ln + b) := fun z => z.1 (by rw [show (6 * ln + b) / 6 = ln by omega, show (6 * ln + b) % 6 = b by omega]; exact hz)
  obtain ⟨f1, f2, f3⟩ := W.fr4 nth
  obtain ⟨X1, L1, tg1, h1, h2⟩ := hS.split (fun a ha z => by
      rcases nw5_0 _ _ z with z | z
      · exact f2 a ha z.symm
      · exact f3 a ha z.symm) (fun t ht z => by
      rcases nw5_0 _ _ z with z | z <;> rw [z] at ht <;> simp [nw_4] at ht)
  have zc : ∀ c, c ≠ 3 → z_Page_clear A ln c = A c := fun c h => z_clear_kd A ln h
  have W1 : WI t0 X L tg (z_Page_clear A ln) := W.up (by rw [zc 0 (by decide)]) (by rw [zc 0 (by decide)]) (fun c hc => zc c (by omega))
  have W2 : WI t0 X1 L1 tg1 (z_turn (z_Page_clear A ln) ln b (6 * ln + b) rq) := W1.mk h1 (p_live_turn hln hb (by rw [zc 0 (by decide)]; exact hl) (by rw [zc 13 (by decide)]; exact hz)) (clC_turn hln hb W1.cl h1)
  have W3 : WI t0 X1 L1 tg1 (up3 (z_turn (z_Page_clear A ln) ln b (6 * ln + b) rq) 3 ln 0 0) := W2.up (by rw [p_kd_up _ _ _ _ (by decide)]) (by rw [p_kd_up _ _ _ _ (by decide)]) (fun c hc => p_kd_up _ _ _ _ (by omega))
  have e8 : up3 (z_turn (z_Page_clear A ln) ln b (6 * ln + b) rq) 3 ln 0 0 8 (6 * ln + b) = p_r8 (6 * ln + b) := by
    rw [p_kd_up _ _ _ _ (by decide), z_turn_kd _ _ _ _ _ (by decide) (by decide), z_Deal_8, va_up_self]
  have e0 : up3 (z_turn (z_Page_clear A ln) ln b (6 * ln + b) rq) 3 ln 0 0 0 = A 0 := by
    rw [p_kd_up _ _ _ _ (by decide), z_turn_kd _ _ _ _ _ (by decide) (by decide), z_Deal_kd _ _ _ _ _ (by decide), zc 0 (by decide)]
  have e13 : up3 (z_turn (z_Page_clear A ln) ln b (6 * ln + b) rq) 3 ln 0 0 13 ln b = 1 := by
    rw [p_kd_up _ _ _ _ (by decide)]; unfold z_turn; rw [up3_self]
  unfold z_ask
  refine W3.send5 ⟨?_, ?_⟩ (by omega) (by decide) ?_ ⟨by omega, by decide, ?_, by omega⟩ h2
  · rw [show (6 * ln + b) / 6 = ln by omega, show (6 * ln + b) % 6 = b by omega, e13]; decide
  · rw [e0, show (6 * ln + b) / 6 = ln by omega]; exact hl
  · rw [e8]; rfl
  · rw [e8]; rfl
end RTS
def PeO (q ln b : Nat) (A B : ew_R) : Prop := Sim A B q ∨ (Sim A B (q + 1) ∧ ¬ p_k B ln = b)
