/-! Columns: what an update does to a column of the class's ints, and to a row of the reference's -/
def p_col (A : ew_R) (c k : Nat) : Nat → Int32 := fun i => A c i k
theorem p_col_up (A : ew_R) (c i k : Nat) (x : Int32) (c' k' : Nat) : p_col (up3 A c i k x) c' k' = if c' = c ∧ k' = k then va_up (p_col A c' k') i x else p_col A c' k' := by
  funext j
  unfold p_col
  by_cases h : c' = c ∧ k' = k
  · obtain ⟨rfl, rfl⟩ := h
    rw [if_pos ⟨rfl, rfl⟩]
    by_cases hj : j = i
    · subst hj; rw [up3_self, va_up_self]
    · rw [va_up_ne _ _ hj, up3_ne _ _ (fun q => hj q.2.1)]
  · rw [if_neg h, up3_ne _ _ (fun q => h ⟨q.1, q.2.2⟩)]
theorem p_row_up (A : ew_R) (c i k : Nat) (x : Int32) (c' i' : Nat) : up3 A c i k x c' i' = if c' = c ∧ i' = i then va_up (A c' i') k x else A c' i' := by
  by_cases h : c' = c ∧ i' = i
  · obtain ⟨rfl, rfl⟩ := h
    rw [if_pos ⟨rfl, rfl⟩, up3_row]
  · rw [if_neg h, up3_oth _ _ _ h]
theorem p_kd_up (A : ew_R) {c c' : Nat} (i k : Nat) (x : Int32) (h : c' ≠ c) : up3 A c i k x c' = A c' := by
  unfold up3
  rw [va_up_ne _ _ h]
theorem p_col_upr (A : ew_R) (c i : Nat) (r : Nat → Int32) (c' k' : Nat) : p_col (upr A c i r) c' k' = if c' = c then va_up (p_col A c' k') i (r k') else p_col A c' k' := by
  funext j
  unfold p_col upr
  by_cases h : c' = c
  · subst h
    rw [if_pos rfl, va_up_self]
    by_cases hj : j = i
    · subst hj; rw [va_up_self, va_up_self]
    · rw [va_up_ne _ _ hj, va_up_ne _ _ hj]
  · rw [if_neg h, va_up_ne _ _ h]
theorem p_kd_upr (A : ew_R) {c c' : Nat} (i : Nat) (r : Nat → Int32) (h : c' ≠ c) : upr A c i r c' = A c' := by
  unfold upr
  rw [va_up_ne _ _ h]
theorem va_up_same {α : Type} {f : Nat → α} {k : Nat} {v : α} (h : f k = v) : va_up f k v = f := by
  funext j
  by_cases hj : j = k
  · subst hj; rw [va_up_self, h]
  · rw [va_up_ne _ _ hj]
/-! The reference's row of letters -/
theorem p_sh_oth (A : ew_R) (i : Nat) {c : Nat} (h : c ≠ 37) (h2 : c ≠ 38) (h3 : c ≠ 39) : ∀ n, s_sh A i n c = A c
  | 0 => rfl
  | n + 1 => by
    show up3 _ _ _ _ _ c = _
    rw [p_kd_up _ _ _ _ h3, p_kd_up _ _ _ _ h2, p_kd_up _ _ _ _ h, p_sh_oth A i h h2 h3 n]
theorem s_sh_row (A : ew_R) (i : Nat) {c : Nat} (hc : c = 37 ∨ c = 38 ∨ c = 39) : ∀ n k, s_sh A i n c 0 k = if i ≤ k ∧ k < i + n then A c 0 (k + 1) else A c 0 k
  | 0, k => by rw [if_neg (by omega)]; rfl
  | n + 1, k => by
    have ih := s_sh_row A i hc n
    have e1 : s_sh A i (n + 1) c 0 = va_up (s_sh A i n c 0) (i + n) (s_sh A i n c 0 (i + n + 1)) := by
      rcases hc with rfl | rfl | rfl <;> simp [s_sh, p_row_up]
    rw [e1]
    by_cases hk : k = i + n
    · subst hk
      rw [va_up_self, ih, if_neg (by omega), if_pos (by omega)]
    · rw [va_up_ne _ _ hk, ih]
      by_cases h2 : i ≤ k ∧ k < i + n
      · rw [if_pos h2, if_pos (by omega)]
      · rw [if_neg h2, if_neg (by omega)]
theorem s_takeOut_oth (A : ew_R) (i w : Nat) {c : Nat} (h : c ≠ 37) (h2 : c ≠ 38) (h3 : c ≠ 39) (h0 : c ≠ 0) : s_takeOut A i w c = A c := by
  unfold s_takeOut
  rw [p_sh_oth _ _ h h2 h3, p_kd_up _ _ _ _ h0]
theorem s_takeOut_row (A : ew_R) (i w : Nat) {c : Nat} (hc : c = 37 ∨ c = 38 ∨ c = 39) (k : Nat) (hk : k < w - 1) (hi : i < w) : s_takeOut A i w c 0 k = A c 0 (if i ≤ k then k + 1 else k) := by
  unfold s_takeOut
  rw [s_sh_row _ _ hc, p_kd_up _ _ _ _ (by omega)]
  by_cases h : i ≤ k
  · rw [if_pos (by omega), if_pos h]
  · rw [if_neg (by omega), if_neg h]
theorem s_takeOut_0 (A : ew_R) (i w : Nat) : s_takeOut A i w 0 0 = va_up (A 0 0) 4 (nI (w - 1)) := by
  unfold s_takeOut
  rw [p_sh_oth _ _ (by decide) (by decide) (by decide), p_row_up, if_pos ⟨rfl, rfl⟩]
/-- lay: the other kinds stay -/
theorem s_lay_oth (A : ew_R) (lt : Int32) (en w : Nat) {c : Nat} (h : c ≠ 37) (h2 : c ≠ 38) (h3 : c ≠ 39) (h0 : c ≠ 0) : s_lay A lt en w c = A c := by
  unfold s_lay
  split <;> simp only [p_kd_up _ _ _ _ h, p_kd_up _ _ _ _ h2, p_kd_up _ _ _ _ h3, p_kd_up _ _ _ _ h0, s_takeOut_oth _ _ _ h h2 h3 h0]
def p_lw (w : Nat) : Nat := if w = 64 then 64 else w + 1
theorem s_lay_0 (A : ew_R) (lt : Int32) (en w : Nat) : s_lay A lt en w 0 0 = va_up (A 0 0) 4 (nI (p_lw w)) := by
  unfold s_lay p_lw
  split
  · simp only [p_row_up, s_takeOut_0]; simp
    funext j; by_cases hj : j = 4
    · subst hj; simp [va_up]
    · simp [va_up, hj]
  · simp only [p_row_up]; simp
/-- lay: the row's last place is the new one, the others are the old ones (moved by one where it was full) -/
theorem s_lay_last (A : ew_R) (lt : Int32) (en w : Nat) : s_lay A lt en w 37 0 (p_lw w - 1) = lt ∧ s_lay A lt en w 38 0 (p_lw w - 1) = nI en ∧ s_lay A lt en w 39 0 (p_lw w - 1) = A 30 0 en := by
  unfold s_lay p_lw
  split
  · refine ⟨?_, ?_, ?_⟩ <;> simp [p_row_up, va_up]
    rw [s_takeOut_oth _ _ _ (by decide) (by decide) (by decide) (by decide)]
  · refine ⟨?_, ?_, ?_⟩ <;> simp [p_row_up, va_up]
theorem s_lay_old (A : ew_R) (lt : Int32) (en : Nat) {w i : Nat} (hw : w ≤ 64) (hi : i < p_lw w - 1) {c : Nat} (hc : c = 37 ∨ c = 38 ∨ c = 39) : s_lay A lt en w c 0 i = A c 0 (if w = 64 then i + 1 else i) := by
  unfold p_lw at hi
  unfold s_lay
  by_cases h : w = 64
  · subst h
    simp only [if_true] at hi ⊢
    have hi' : i ≠ 63 := by omega
    have := s_takeOut_row A 0 64 hc i (by omega) (by omega)
    rcases hc with rfl | rfl | rfl <;> simp [p_row_up, va_up, hi', this]
  · rw [if_neg h] at hi
    simp only [if_neg h]
    have hi' : i ≠ w := by omega
    rcases hc with rfl | rfl | rfl <;> simp [p_row_up, va_up, hi']
