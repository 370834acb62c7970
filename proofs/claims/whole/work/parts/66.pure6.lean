/-! The class writes a letter -/
def p_l4 (n : Nat) (kn tl : Int32) : Nat → Int32 := va_up (va_up (va_up (fun _ => 0) 0 (nI (n + 1))) 1 kn) 2 tl
def p_g1 (g n : Nat) : Nat := if n < capG g then g else g + 1

theorem p_wr_5_oth (A : ew_R) (d g n : Nat) (kn tl : Int32) {c : Nat} (h1 : c ≠ 6) (h2 : c ≠ 8) (h3 : c ≠ 14) : z_Side_write_5 A d g n kn tl c = A c := by
  unfold z_Side_write_5 z_Side_write_5n z_Side_write_5f z_Side_write_5s z_AL_add_8 z_AL_add_8f z_AL_add_8s z_AL_add3_8 z_AL_add3_8f z_AL_add3_8s z_gr z_ga z_wl_6 z_Letter_init_6
  split
  · simp only [p_kd_up _ _ _ _ h1, p_kd_up _ _ _ _ h2, p_kd_up _ _ _ _ h3, p_kd_upr _ _ _ h1]
  · split <;> simp only [p_kd_up _ _ _ _ h1, p_kd_up _ _ _ _ h2, p_kd_up _ _ _ _ h3, p_kd_upr _ _ _ h1]
theorem p_wr_5_t (A : ew_R) (d g n : Nat) (kn tl : Int32) (hg : g = 0 → n = 0 ∨ n < capG g) : z_Side_write_5 A d g n kn tl 6 = va_up (A 6) (512 * d + n) (p_l4 n kn tl) := by
  have k : z_wl_6 A d n kn tl 6 = va_up (A 6) (512 * d + n) (p_l4 n kn tl) := by
    funext i
    unfold z_wl_6 z_Letter_init_6 p_l4
    by_cases hi : i = 512 * d + n
    · subst hi; simp only [p_row_up, and_self, if_true, va_up_self]; simp only [upr, va_up_self]
    · rw [va_up_ne _ _ hi]; simp only [p_row_up, hi, and_false, if_false]; simp only [upr, va_up_self, va_up_ne _ _ hi]
  unfold z_Side_write_5 z_Side_write_5n z_Side_write_5f z_Side_write_5s z_AL_add_8 z_AL_add_8f z_AL_add_8s z_AL_add3_8 z_AL_add3_8f z_AL_add3_8s z_gr z_ga
  split
  · simp only [p_kd_up _ _ _ _ (show 6 ≠ 8 by decide), p_kd_up _ _ _ _ (show 6 ≠ 14 by decide)]; exact k
  · split
    · have : n = 0 := by rename_i h1 h2; rcases hg h2 with h | h; exact h; exact absurd h h1
      subst this
      simp only [p_kd_up _ _ _ _ (show 6 ≠ 8 by decide), p_kd_up _ _ _ _ (show 6 ≠ 14 by decide)]; exact k
    · simp only [p_kd_up _ _ _ _ (show 6 ≠ 8 by decide), p_kd_up _ _ _ _ (show 6 ≠ 14 by decide)]; exact k
theorem p_wr_5_l (A : ew_R) (d g n : Nat) (kn tl : Int32) {i : Nat} (hi : i ≠ d) : z_Side_write_5 A d g n kn tl 8 i = A 8 i := by
  unfold z_Side_write_5 z_Side_write_5n z_Side_write_5f z_Side_write_5s z_AL_add_8 z_AL_add_8f z_AL_add_8s z_AL_add3_8 z_AL_add3_8f z_AL_add3_8s z_gr z_ga z_wl_6 z_Letter_init_6
  split
  · simp [p_row_up, hi, p_kd_upr _ _ _ (show 8 ≠ 6 by decide)]
  · split <;> simp [p_row_up, hi, p_kd_upr _ _ _ (show 8 ≠ 6 by decide)]
theorem p_wr_5_k (A : ew_R) (d g n : Nat) (kn tl : Int32) {i : Nat} (hi : i ≠ 64 * d + p_g1 g n) : z_Side_write_5 A d g n kn tl 14 i = A 14 i := by
  unfold p_g1 at hi
  unfold z_Side_write_5 z_Side_write_5n z_Side_write_5f z_Side_write_5s z_AL_add_8 z_AL_add_8f z_AL_add_8s z_AL_add3_8 z_AL_add3_8f z_AL_add3_8s z_gr z_ga z_wl_6 z_Letter_init_6
  split
  · rename_i h; rw [if_pos h] at hi
    simp [p_row_up, hi, p_kd_upr _ _ _ (show 14 ≠ 6 by decide)]
  · rename_i h; rw [if_neg h] at hi
    have hi : i ≠ 64 * d + g + 1 := by omega
    split <;> simp [p_row_up, hi, p_kd_upr _ _ _ (show 14 ≠ 6 by decide)]
theorem p_wr_5_ls (A : ew_R) (d g n : Nat) (kn tl : Int32) (h : p_ls 8 14 A d g n) (hn : n < 512) : p_ls 8 14 (z_Side_write_5 A d g n kn tl) d (p_g1 g n) (n + 1) ∧ z_Side_write_5 A d g n kn tl 8 d 2 = nI (n + 1) := by
  obtain ⟨h1, h2, h3, h4⟩ := h
  unfold p_g1 z_Side_write_5
  by_cases hc : n < capG g
  · rw [if_pos hc, if_pos hc]
    have hg : 1 ≤ g := by
      rcases Nat.eq_zero_or_pos g with rfl | h
      · exact absurd hc (by simp [capG])
      · exact h
    refine ⟨⟨h1, hc, ?_, fun _ => ⟨?_, ?_⟩⟩, ?_⟩ <;> unfold z_Side_write_5n z_AL_add_8 z_AL_add3_8 z_wl_6 z_Letter_init_6 <;> simp [p_row_up, va_up, p_kd_upr _ _ _ (show 8 ≠ 6 by decide), p_kd_upr _ _ _ (show 14 ≠ 6 by decide)]
    · exact h3
    · exact (h4 hg).1
  · rw [if_neg hc, if_neg hc]
    have hg : g ≤ 10 := capG_10 g h1 (by omega)
    have e : n = capG g := by omega
    by_cases h0 : g = 0
    · subst h0
      have : n = 0 := by simpa [capG] using e
      subst this
      refine ⟨⟨by omega, by decide, ?_, fun _ => ⟨?_, ?_⟩⟩, ?_⟩ <;> simp only [if_true] <;> unfold z_Side_write_5s z_AL_add_8s z_AL_add3_8s z_ga z_wl_6 z_Letter_init_6 <;> simp [p_row_up, va_up, p_kd_upr _ _ _ (show 8 ≠ 6 by decide), p_kd_upr _ _ _ (show 14 ≠ 6 by decide)]
      rfl
    · have hs := capG_s g (by omega)
      have hb := capG_bd g h1 (by omega)
      refine ⟨⟨by omega, by omega, ?_, fun _ => ⟨?_, ?_⟩⟩, ?_⟩ <;> simp only [if_neg h0] <;> unfold z_Side_write_5f z_AL_add_8f z_AL_add3_8f z_gr z_wl_6 z_Letter_init_6 <;> simp [p_row_up, va_up, p_kd_upr _ _ _ (show 8 ≠ 6 by decide), p_kd_upr _ _ _ (show 14 ≠ 6 by decide), ← Nat.add_assoc]
      rw [hs, e]

theorem p_wr_15_oth (A : ew_R) (d g n : Nat) (kn tl : Int32) {c : Nat} (h1 : c ≠ 19) (h2 : c ≠ 16) (h3 : c ≠ 20) : z_Side_write_15 A d g n kn tl c = A c := by
  unfold z_Side_write_15 z_Side_write_15n z_Side_write_15f z_Side_write_15s z_AL_add_16 z_AL_add_16f z_AL_add_16s z_AL_add3_16 z_AL_add3_16f z_AL_add3_16s z_gr z_ga z_wl_19 z_Letter_init_19
  split
  · simp only [p_kd_up _ _ _ _ h1, p_kd_up _ _ _ _ h2, p_kd_up _ _ _ _ h3, p_kd_upr _ _ _ h1]
  · split <;> simp only [p_kd_up _ _ _ _ h1, p_kd_up _ _ _ _ h2, p_kd_up _ _ _ _ h3, p_kd_upr _ _ _ h1]
theorem p_wr_15_t (A : ew_R) (d g n : Nat) (kn tl : Int32) (hg : g = 0 → n = 0 ∨ n < capG g) : z_Side_write_15 A d g n kn tl 19 = va_up (A 19) (512 * d + n) (p_l4 n kn tl) := by
  have k : z_wl_19 A d n kn tl 19 = va_up (A 19) (512 * d + n) (p_l4 n kn tl) := by
    funext i
    unfold z_wl_19 z_Letter_init_19 p_l4
    by_cases hi : i = 512 * d + n
    · subst hi; simp only [p_row_up, and_self, if_true, va_up_self]; simp only [upr, va_up_self]
    · rw [va_up_ne _ _ hi]; simp only [p_row_up, hi, and_false, if_false]; simp only [upr, va_up_self, va_up_ne _ _ hi]
  unfold z_Side_write_15 z_Side_write_15n z_Side_write_15f z_Side_write_15s z_AL_add_16 z_AL_add_16f z_AL_add_16s z_AL_add3_16 z_AL_add3_16f z_AL_add3_16s z_gr z_ga
  split
  · simp only [p_kd_up _ _ _ _ (show 19 ≠ 16 by decide), p_kd_up _ _ _ _ (show 19 ≠ 20 by decide)]; exact k
  · split
    · have : n = 0 := by rename_i h1 h2; rcases hg h2 with h | h; exact h; exact absurd h h1
      subst this
      simp only [p_kd_up _ _ _ _ (show 19 ≠ 16 by decide), p_kd_up _ _ _ _ (show 19 ≠ 20 by decide)]; exact k
    · simp only [p_kd_up _ _ _ _ (show 19 ≠ 16 by decide), p_kd_up _ _ _ _ (show 19 ≠ 20 by decide)]; exact k
theorem p_wr_15_l (A : ew_R) (d g n : Nat) (kn tl : Int32) {i : Nat} (hi : i ≠ d) : z_Side_write_15 A d g n kn tl 16 i = A 16 i := by
  unfold z_Side_write_15 z_Side_write_15n z_Side_write_15f z_Side_write_15s z_AL_add_16 z_AL_add_16f z_AL_add_16s z_AL_add3_16 z_AL_add3_16f z_AL_add3_16s z_gr z_ga z_wl_19 z_Letter_init_19
  split
  · simp [p_row_up, hi, p_kd_upr _ _ _ (show 16 ≠ 19 by decide)]
  · split <;> simp [p_row_up, hi, p_kd_upr _ _ _ (show 16 ≠ 19 by decide)]
theorem p_wr_15_k (A : ew_R) (d g n : Nat) (kn tl : Int32) {i : Nat} (hi : i ≠ 64 * d + p_g1 g n) : z_Side_write_15 A d g n kn tl 20 i = A 20 i := by
  unfold p_g1 at hi
  unfold z_Side_write_15 z_Side_write_15n z_Side_write_15f z_Side_write_15s z_AL_add_16 z_AL_add_16f z_AL_add_16s z_AL_add3_16 z_AL_add3_16f z_AL_add3_16s z_gr z_ga z_wl_19 z_Letter_init_19
  split
  · rename_i h; rw [if_pos h] at hi
    simp [p_row_up, hi, p_kd_upr _ _ _ (show 20 ≠ 19 by decide)]
  · rename_i h; rw [if_neg h] at hi
    have hi : i ≠ 64 * d + g + 1 := by omega
    split <;> simp [p_row_up, hi, p_kd_upr _ _ _ (show 20 ≠ 19 by decide)]
theorem p_wr_15_ls (A : ew_R) (d g n : Nat) (kn tl : Int32) (h : p_ls 16 20 A d g n) (hn : n < 512) : p_ls 16 20 (z_Side_write_15 A d g n kn tl) d (p_g1 g n) (n + 1) ∧ z_Side_write_15 A d g n kn tl 16 d 2 = nI (n + 1) := by
  obtain ⟨h1, h2, h3, h4⟩ := h
  unfold p_g1 z_Side_write_15
  by_cases hc : n < capG g
  · rw [if_pos hc, if_pos hc]
    have hg : 1 ≤ g := by
      rcases Nat.eq_zero_or_pos g with rfl | h
      · exact absurd hc (by simp [capG])
      · exact h
    refine ⟨⟨h1, hc, ?_, fun _ => ⟨?_, ?_⟩⟩, ?_⟩ <;> unfold z_Side_write_15n z_AL_add_16 z_AL_add3_16 z_wl_19 z_Letter_init_19 <;> simp [p_row_up, va_up, p_kd_upr _ _ _ (show 16 ≠ 19 by decide), p_kd_upr _ _ _ (show 20 ≠ 19 by decide)]
    · exact h3
    · exact (h4 hg).1
  · rw [if_neg hc, if_neg hc]
    have hg : g ≤ 10 := capG_10 g h1 (by omega)
    have e : n = capG g := by omega
    by_cases h0 : g = 0
    · subst h0
      have : n = 0 := by simpa [capG] using e
      subst this
      refine ⟨⟨by omega, by decide, ?_, fun _ => ⟨?_, ?_⟩⟩, ?_⟩ <;> simp only [if_true] <;> unfold z_Side_write_15s z_AL_add_16s z_AL_add3_16s z_ga z_wl_19 z_Letter_init_19 <;> simp [p_row_up, va_up, p_kd_upr _ _ _ (show 16 ≠ 19 by decide), p_kd_upr _ _ _ (show 20 ≠ 19 by decide)]
      rfl
    · have hs := capG_s g (by omega)
      have hb := capG_bd g h1 (by omega)
      refine ⟨⟨by omega, by omega, ?_, fun _ => ⟨?_, ?_⟩⟩, ?_⟩ <;> simp only [if_neg h0] <;> unfold z_Side_write_15f z_AL_add_16f z_AL_add3_16f z_gr z_wl_19 z_Letter_init_19 <;> simp [p_row_up, va_up, p_kd_upr _ _ _ (show 16 ≠ 19 by decide), p_kd_upr _ _ _ (show 20 ≠ 19 by decide), ← Nat.add_assoc]
      rw [hs, e]
