/-! The next supplier is asked: the class's ints -/
theorem upr_kd (A : ew_R) {c c' i : Nat} {r : Nat → Int32} (h : c' ≠ c) : upr A c i r c' = A c' := by unfold upr; rw [va_up_ne _ _ h]
theorem upr_self (A : ew_R) (c i : Nat) (r : Nat → Int32) : upr A c i r c = va_up (A c) i r := by unfold upr; rw [va_up_self]
theorem z_Deal_kd (A : ew_R) (d : Nat) (ln rq b : Int32) {c : Nat} (h : c ∉ [4, 5, 8, 15, 16, 17]) : z_Deal A d ln rq b c = A c := by
  simp only [List.mem_cons, List.not_mem_nil, or_false, not_or] at h
  unfold z_Deal
  rw [upr_kd _ h.2.2.2.2.1, upr_kd _ h.2.2.2.1, upr_kd _ h.2.2.1, upr_kd _ h.2.1, upr_kd _ h.2.2.2.2.2, upr_kd _ h.1]
theorem z_Deal_4 (A : ew_R) (d : Nat) (ln rq b : Int32) : z_Deal A d ln rq b 4 = va_up (A 4) d (p_r4 b) := by
  unfold z_Deal
  rw [upr_kd _ (by decide), upr_kd _ (by decide), upr_kd _ (by decide), upr_kd _ (by decide), upr_kd _ (by decide), upr_self]
theorem z_Deal_17 (A : ew_R) (d : Nat) (ln rq b : Int32) : z_Deal A d ln rq b 17 = va_up (A 17) d (fun _ => 0) := by
  unfold z_Deal
  rw [upr_kd _ (by decide), upr_kd _ (by decide), upr_kd _ (by decide), upr_kd _ (by decide), upr_self, upr_kd _ (by decide)]
theorem z_Deal_5 (A : ew_R) (d : Nat) (ln rq b : Int32) : z_Deal A d ln rq b 5 = va_up (A 5) d (p_r5 ln rq b) := by
  unfold z_Deal
  rw [upr_kd _ (by decide), upr_kd _ (by decide), upr_kd _ (by decide), upr_self, upr_kd _ (by decide), upr_kd _ (by decide)]
theorem z_Deal_8 (A : ew_R) (d : Nat) (ln rq b : Int32) : z_Deal A d ln rq b 8 = va_up (A 8) d (p_r8 d) := by
  unfold z_Deal
  rw [upr_kd _ (by decide), upr_kd _ (by decide), upr_self, upr_kd _ (by decide), upr_kd _ (by decide), upr_kd _ (by decide)]
theorem z_Deal_15 (A : ew_R) (d : Nat) (ln rq b : Int32) : z_Deal A d ln rq b 15 = va_up (A 15) d (p_r5 ln b rq) := by
  unfold z_Deal
  rw [upr_kd _ (by decide), upr_self, upr_kd _ (by decide), upr_kd _ (by decide), upr_kd _ (by decide), upr_kd _ (by decide)]
theorem z_Deal_16 (A : ew_R) (d : Nat) (ln rq b : Int32) : z_Deal A d ln rq b 16 = va_up (A 16) d (p_r8 d) := by
  unfold z_Deal
  rw [upr_self, upr_kd _ (by decide), upr_kd _ (by decide), upr_kd _ (by decide), upr_kd _ (by decide), upr_kd _ (by decide)]
theorem z_turn_kd (A : ew_R) (ln b d : Nat) (rq : Int32) {c : Nat} (h : c ≠ 2) (h13 : c ≠ 13) : z_turn A ln b d rq c = z_Deal A d (A 2 ln 0) rq (nI b) c := by
  unfold z_turn
  rw [p_kd_up _ _ _ _ h13, p_kd_up _ _ _ _ h]
theorem z_clear_kd (A : ew_R) (ln : Nat) {c : Nat} (h : c ≠ 3) : z_Page_clear A ln c = A c := by
  unfold z_Page_clear
  rw [p_kd_up _ _ _ _ h, p_kd_up _ _ _ _ h, p_kd_up _ _ _ _ h]
theorem p_nd_ask {A : ew_R} {ln b : Nat} {rq : Int32} (q0 : A 2 ln 0 = nI ln) (hb : b < 6) : p_nd A (up3 (z_turn (z_Page_clear A ln) ln b (6 * ln + b) rq) 3 ln 0 0) ln (6 * ln + b) (nI b) rq := by
  have e2 : z_Page_clear A ln 2 ln 0 = nI ln := by rw [z_clear_kd _ _ (by decide)]; exact q0
  refine ⟨fun c hc => ?_, fun l k => ?_, fun l k hk => ?_, ?_, ?_, ?_, fun l k hk => ?_, ?_, ?_, ?_⟩
  · simp only [List.mem_cons, List.not_mem_nil, or_false, not_or] at hc
    rw [p_kd_up _ _ _ _ (by omega), z_turn_kd _ _ _ _ _ (by omega) (by omega), z_Deal_kd _ _ _ _ _ (by simp; omega), z_clear_kd _ _ (by omega)]
  · rw [p_kd_up _ _ _ _ (by decide)]
    unfold z_turn
    rw [p_kd_up _ _ _ _ (by decide)]
    by_cases h : l = ln ∧ k = 7
    · rw [if_pos h, h.1, h.2, up3_self]
    · rw [if_neg h, up3_ne _ _ (by omega), z_Deal_kd _ _ _ _ _ (by decide), z_clear_kd _ _ (by decide)]
  · by_cases h : l = ln
    · subst h
      rw [if_pos rfl]
      have hz : z_turn (z_Page_clear A l) l b (6 * l + b) rq 3 = z_Page_clear A l 3 := by rw [z_turn_kd _ _ _ _ _ (by decide) (by decide), z_Deal_kd _ _ _ _ _ (by decide)]
      by_cases hk0 : k = 0
      · rw [hk0, up3_self]
      · rw [up3_ne _ _ (by omega), hz]
        unfold z_Page_clear
        by_cases hk3 : k = 3
        · rw [hk3, up3_self]
        · rw [up3_ne _ _ (by omega)]
          by_cases hk2 : k = 2
          · rw [hk2, up3_self]
          · rw [up3_ne _ _ (by omega), show k = 1 by omega, up3_self]
    · rw [if_neg h, up3_ne _ _ (by omega), z_turn_kd _ _ _ _ _ (by decide) (by decide), z_Deal_kd _ _ _ _ _ (by decide)]
      unfold z_Page_clear
      rw [up3_ne _ _ (by omega), up3_ne _ _ (by omega), up3_ne _ _ (by omega)]
  · rw [p_kd_up _ _ _ _ (by decide), z_turn_kd _ _ _ _ _ (by decide) (by decide), z_Deal_4, z_clear_kd _ _ (by decide)]
  · rw [p_kd_up _ _ _ _ (by decide), z_turn_kd _ _ _ _ _ (by decide) (by decide), z_Deal_5, z_clear_kd _ _ (by decide), z_clear_kd _ _ (by decide), q0]
  · rw [p_kd_up _ _ _ _ (by decide), z_turn_kd _ _ _ _ _ (by decide) (by decide), z_Deal_8, z_clear_kd _ _ (by decide)]
  · rw [p_kd_up _ _ _ _ (by decide)]
    unfold z_turn
    have hbk : nI k = nI b ↔ k = b := ⟨fun h => by have := congrArg Int32.toNatClampNeg h; rw [nI_clamp (by omega), nI_clamp (by omega)] at this; exact this, fun h => by rw [h]⟩
    by_cases h : l = ln ∧ k = b
    · rw [if_pos ⟨h.1, hbk.mpr h.2⟩, h.1, h.2, up3_self]
    · rw [if_neg (fun z => h ⟨z.1, hbk.mp z.2⟩), up3_ne _ _ (by omega), p_kd_up _ _ _ _ (by decide), z_Deal_kd _ _ _ _ _ (by decide), z_clear_kd _ _ (by decide)]
  · rw [p_kd_up _ _ _ _ (by decide), z_turn_kd _ _ _ _ _ (by decide) (by decide), z_Deal_15, z_clear_kd _ _ (by decide), z_clear_kd _ _ (by decide), q0]
  · rw [p_kd_up _ _ _ _ (by decide), z_turn_kd _ _ _ _ _ (by decide) (by decide), z_Deal_16, z_clear_kd _ _ (by decide)]
  · rw [p_kd_up _ _ _ _ (by decide), z_turn_kd _ _ _ _ _ (by decide) (by decide), z_Deal_17, z_clear_kd _ _ (by decide)]
theorem p_ea_ask (A : ew_R) (ln : Nat) : p_ea A (z_askEnd A ln) ln := by
  unfold z_askEnd
  refine ⟨fun c h => by rw [p_kd_up _ _ _ _ h, z_clear_kd _ _ h], fun l k hk => ?_⟩
  by_cases h : l = ln
  · subst h
    rw [if_pos rfl]
    by_cases hk0 : k = 0
    · rw [hk0, up3_self, if_pos rfl]
    · rw [up3_ne _ _ (by omega), if_neg hk0]
      unfold z_Page_clear
      by_cases hk3 : k = 3
      · rw [hk3, up3_self]
      · rw [up3_ne _ _ (by omega)]
        by_cases hk2 : k = 2
        · rw [hk2, up3_self]
        · rw [up3_ne _ _ (by omega), show k = 1 by omega, up3_self]
  · rw [if_neg h, up3_ne _ _ (by omega)]
    unfold z_Page_clear
    rw [up3_ne _ _ (by omega), up3_ne _ _ (by omega), up3_ne _ _ (by omega)]
/-- whom the class finds next is whom the reference asks next -/
theorem Sim.rota {A B : ew_R} {q ln : Nat} (S : Sim A B q) (hl : ln < p_l B) : (∀ k, 1 ≤ k → k < p_nxt (p_t B ln) (p_x B ln) (p_q B ln) → k < 6 → (p_t B ln + k) % 6 = p_q B ln ∨ ¬ A 13 ln ((p_t B ln + k) % 6) = 0) ∧ 1 ≤ p_nxt (p_t B ln) (p_x B ln) (p_q B ln) ∧
    (p_nxt (p_t B ln) (p_x B ln) (p_q B ln) < 6 → ¬ (p_t B ln + p_nxt (p_t B ln) (p_x B ln) (p_q B ln)) % 6 = p_q B ln ∧ A 13 ln ((p_t B ln + p_nxt (p_t B ln) (p_x B ln) (p_q B ln)) % 6) = 0) := by
  obtain ⟨⟨-, q6⟩, ⟨-, t6⟩, ⟨-, x7⟩, hx7, -, h22⟩ := S.I.L.1 ln hl
  have hx1 := (S.I.L.2.1 ln hl).1
  have e13 : ∀ b, b < 6 → A 13 ln b = B 22 0 (6 * ln + b) := fun b hb => S.R.C.th ln b hb
  generalize p_t B ln = st at *
  generalize p_x B ln = ak at *
  generalize p_q B ln = rq at *
  refine ⟨fun k h1 h2 h6 => ?_, ?_, fun h6 => ?_⟩
  · by_cases hr : (st + k) % 6 = rq
    · exact Or.inl hr
    · right
      have hka : k < ak := by
        unfold p_nxt at h2
        split at h2
        · rename_i h
          have : k ≠ ak := fun z => hr (by rw [z]; exact h)
          omega
        · exact h2
      rw [e13 _ (Nat.mod_lt _ (by decide)), h22 k h6, if_pos ⟨hka, hr⟩]
      decide
  · unfold p_nxt; split <;> omega
  · have hne : ¬ (st + p_nxt st ak rq) % 6 = rq := by unfold p_nxt; split <;> omega
    refine ⟨hne, ?_⟩
    rw [e13 _ (Nat.mod_lt _ (by decide)), h22 _ h6, if_neg (fun z => absurd z.1 (by unfold p_nxt; split <;> omega))]
