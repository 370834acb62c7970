abbrev tysA (T : Nat → ClassId) : List (ClassId × FieldType) := [(T 0, .int), (T 1, .boolean), (T 2, .object "LoanLetters$Copy"), (T 3, .object "LoanLetters$Loan"), (T 4, .object "LoanLetters$Deal"), (T 5, .object "java/lang/Object"), (T 6, .long)]
/-- the reference: entity 0 is the object (its six ints), entity k (6 to 39) the array of its field k -/
def oR (X : Nat → Nat → Nat) (r : Nat → Int32) : List Value := [.int (r 0), .int (r 1), .int (r 2), .int (r 3), .int (r 4), .int (r 5), .ref (X 6 0), .ref (X 7 0), .ref (X 8 0), .ref (X 9 0), .ref (X 10 0), .ref (X 11 0), .ref (X 12 0), .ref (X 13 0), .ref (X 14 0), .ref (X 15 0), .ref (X 16 0), .ref (X 17 0), .ref (X 18 0), .ref (X 19 0), .ref (X 20 0), .ref (X 21 0), .ref (X 22 0), .ref (X 23 0), .ref (X 24 0), .ref (X 25 0), .ref (X 26 0), .ref (X 27 0), .ref (X 28 0), .ref (X 29 0), .ref (X 30 0), .ref (X 31 0), .ref (X 32 0), .ref (X 33 0), .ref (X 34 0), .ref (X 35 0), .ref (X 36 0), .ref (X 37 0), .ref (X 38 0), .ref (X 39 0)]
def lenR : List Nat := [0, 0, 0, 0, 0, 0, 6, 32, 32, 32, 32, 32, 32, 32, 32, 32, 32, 32, 32, 32, 32, 32, 192, 192, 192, 192, 192, 192, 192, 384, 384, 384, 3000, 3000, 3000, 3000, 3000, 64, 64, 64]
def cfR (T : Nat → ClassId) : ew_C := fun X kd _ r => if kd = 0 then .inr (9, oR X r) else .inl (T (if kd = 22 ∨ kd = 36 then 1 else 0), lenR.getD kd 0, .inl r)
def eR_E (X : Nat → Nat → Nat) (L : List Nat) (tg : Nat → Nat × Nat) : Prop := ∀ k, (k = 0 ∨ (6 ≤ k ∧ k < 40)) → ew_in X L tg k 0 (X k 0)
theorem cR_0 (T : Nat → ClassId) (X : Nat → Nat → Nat) (r : Nat → Int32) : cfR T X 0 0 r = .inr (9, oR X r) := rfl
theorem pR_0 (T : Nat → ClassId) (X : Nat → Nat → Nat) (r : Nat → Int32) (x : Int32) : cfR T X 0 0 (va_up r 0 x) = .inr (9, (oR X r).set 0 (.int x)) := rfl
theorem pR_1 (T : Nat → ClassId) (X : Nat → Nat → Nat) (r : Nat → Int32) (x : Int32) : cfR T X 0 0 (va_up r 1 x) = .inr (9, (oR X r).set 1 (.int x)) := rfl
theorem pR_2 (T : Nat → ClassId) (X : Nat → Nat → Nat) (r : Nat → Int32) (x : Int32) : cfR T X 0 0 (va_up r 2 x) = .inr (9, (oR X r).set 2 (.int x)) := rfl
theorem pR_3 (T : Nat → ClassId) (X : Nat → Nat → Nat) (r : Nat → Int32) (x : Int32) : cfR T X 0 0 (va_up r 3 x) = .inr (9, (oR X r).set 3 (.int x)) := rfl
theorem pR_4 (T : Nat → ClassId) (X : Nat → Nat → Nat) (r : Nat → Int32) (x : Int32) : cfR T X 0 0 (va_up r 4 x) = .inr (9, (oR X r).set 4 (.int x)) := rfl
theorem pR_5 (T : Nat → ClassId) (X : Nat → Nat → Nat) (r : Nat → Int32) (x : Int32) : cfR T X 0 0 (va_up r 5 x) = .inr (9, (oR X r).set 5 (.int x)) := rfl
theorem cR_6 (T : Nat → ClassId) (X : Nat → Nat → Nat) (r : Nat → Int32) : cfR T X 6 0 r = .inl (T 0, 6, .inl r) := rfl
theorem qR_6 (T : Nat → ClassId) (X : Nat → Nat → Nat) (r : Nat → Int32) (j : Nat) (x : Int32) : cfR T X 6 0 (va_up r j x) = .inl (T 0, 6, .inl (upd r j x)) := rfl
theorem cR_7 (T : Nat → ClassId) (X : Nat → Nat → Nat) (r : Nat → Int32) : cfR T X 7 0 r = .inl (T 0, 32, .inl r) := rfl
theorem qR_7 (T : Nat → ClassId) (X : Nat → Nat → Nat) (r : Nat → Int32) (j : Nat) (x : Int32) : cfR T X 7 0 (va_up r j x) = .inl (T 0, 32, .inl (upd r j x)) := rfl
theorem cR_8 (T : Nat → ClassId) (X : Nat → Nat → Nat) (r : Nat → Int32) : cfR T X 8 0 r = .inl (T 0, 32, .inl r) := rfl
theorem qR_8 (T : Nat → ClassId) (X : Nat → Nat → Nat) (r : Nat → Int32) (j : Nat) (x : Int32) : cfR T X 8 0 (va_up r j x) = .inl (T 0, 32, .inl (upd r j x)) := rfl
theorem cR_9 (T : Nat → ClassId) (X : Nat → Nat → Nat) (r : Nat → Int32) : cfR T X 9 0 r = .inl (T 0, 32, .inl r) := rfl
theorem qR_9 (T : Nat → ClassId) (X : Nat → Nat → Nat) (r : Nat → Int32) (j : Nat) (x : Int32) : cfR T X 9 0 (va_up r j x) = .inl (T 0, 32, .inl (upd r j x)) := rfl
theorem cR_10 (T : Nat → ClassId) (X : Nat → Nat → Nat) (r : Nat → Int32) : cfR T X 10 0 r = .inl (T 0, 32, .inl r) := rfl
theorem qR_10 (T : Nat → ClassId) (X : Nat → Nat → Nat) (r : Nat → Int32) (j : Nat) (x : Int32) : cfR T X 10 0 (va_up r j x) = .inl (T 0, 32, .inl (upd r j x)) := rfl
theorem cR_11 (T : Nat → ClassId) (X : Nat → Nat → Nat) (r : Nat → Int32) : cfR T X 11 0 r = .inl (T 0, 32, .inl r) := rfl
theorem qR_11 (T : Nat → ClassId) (X : Nat → Nat → Nat) (r : Nat → Int32) (j : Nat) (x : Int32) : cfR T X 11 0 (va_up r j x) = .inl (T 0, 32, .inl (upd r j x)) := rfl
theorem cR_12 (T : Nat → ClassId) (X : Nat → Nat → Nat) (r : Nat → Int32) : cfR T X 12 0 r = .inl (T 0, 32, .inl r) := rfl
theorem qR_12 (T : Nat → ClassId) (X : Nat → Nat → Nat) (r : Nat → Int32) (j : Nat) (x : Int32) : cfR T X 12 0 (va_up r j x) = .inl (T 0, 32, .inl (upd r j x)) := rfl
theorem cR_13 (T : Nat → ClassId) (X : Nat → Nat → Nat) (r : Nat → Int32) : cfR T X 13 0 r = .inl (T 0, 32, .inl r) := rfl
theorem qR_13 (T : Nat → ClassId) (X : Nat → Nat → Nat) (r : Nat → Int32) (j : Nat) (x : Int32) : cfR T X 13 0 (va_up r j x) = .inl (T 0, 32, .inl (upd r j x)) := rfl
theorem cR_14 (T : Nat → ClassId) (X : Nat → Nat → Nat) (r : Nat → Int32) : cfR T X 14 0 r = .inl (T 0, 32, .inl r) := rfl
theorem qR_14 (T : Nat → ClassId) (X : Nat → Nat → Nat) (r : Nat → Int32) (j : Nat) (x : Int32) : cfR T X 14 0 (va_up r j x) = .inl (T 0, 32, .inl (upd r j x)) := rfl
theorem cR_15 (T : Nat → ClassId) (X : Nat → Nat → Nat) (r : Nat → Int32) : cfR T X 15 0 r = .inl (T 0, 32, .inl r) := rfl
theorem qR_15 (T : Nat → ClassId) (X : Nat → Nat → Nat) (r : Nat → Int32) (j : Nat) (x : Int32) : cfR T X 15 0 (va_up r j x) = .inl (T 0, 32, .inl (upd r j x)) := rfl
theorem cR_16 (T : Nat → ClassId) (X : Nat → Nat → Nat) (r : Nat → Int32) : cfR T X 16 0 r = .inl (T 0, 32, .inl r) := rfl
theorem qR_16 (T : Nat → ClassId) (X : Nat → Nat → Nat) (r : Nat → Int32) (j : Nat) (x : Int32) : cfR T X 16 0 (va_up r j x) = .inl (T 0, 32, .inl (upd r j x)) := rfl
theorem cR_17 (T : Nat → ClassId) (X : Nat → Nat → Nat) (r : Nat → Int32) : cfR T X 17 0 r = .inl (T 0, 32, .inl r) := rfl
theorem qR_17 (T : Nat → ClassId) (X : Nat → Nat → Nat) (r : Nat → Int32) (j : Nat) (x : Int32) : cfR T X 17 0 (va_up r j x) = .inl (T 0, 32, .inl (upd r j x)) := rfl
theorem cR_18 (T : Nat → ClassId) (X : Nat → Nat → Nat) (r : Nat → Int32) : cfR T X 18 0 r = .inl (T 0, 32, .inl r) := rfl
theorem qR_18 (T : Nat → ClassId) (X : Nat → Nat → Nat) (r : Nat → Int32) (j : Nat) (x : Int32) : cfR T X 18 0 (va_up r j x) = .inl (T 0, 32, .inl (upd r j x)) := rfl
theorem cR_19 (T : Nat → ClassId) (X : Nat → Nat → Nat) (r : Nat → Int32) : cfR T X 19 0 r = .inl (T 0, 32, .inl r) := rfl
theorem qR_19 (T : Nat → ClassId) (X : Nat → Nat → Nat) (r : Nat → Int32) (j : Nat) (x : Int32) : cfR T X 19 0 (va_up r j x) = .inl (T 0, 32, .inl (upd r j x)) := rfl
theorem cR_20 (T : Nat → ClassId) (X : Nat → Nat → Nat) (r : Nat → Int32) : cfR T X 20 0 r = .inl (T 0, 32, .inl r) := rfl
theorem qR_20 (T : Nat → ClassId) (X : Nat → Nat → Nat) (r : Nat → Int32) (j : Nat) (x : Int32) : cfR T X 20 0 (va_up r j x) = .inl (T 0, 32, .inl (upd r j x)) := rfl
theorem cR_21 (T : Nat → ClassId) (X : Nat → Nat → Nat) (r : Nat → Int32) : cfR T X 21 0 r = .inl (T 0, 32, .inl r) := rfl
theorem qR_21 (T : Nat → ClassId) (X : Nat → Nat → Nat) (r : Nat → Int32) (j : Nat) (x : Int32) : cfR T X 21 0 (va_up r j x) = .inl (T 0, 32, .inl (upd r j x)) := rfl
theorem cR_22 (T : Nat → ClassId) (X : Nat → Nat → Nat) (r : Nat → Int32) : cfR T X 22 0 r = .inl (T 1, 192, .inl r) := rfl
theorem qR_22 (T : Nat → ClassId) (X : Nat → Nat → Nat) (r : Nat → Int32) (j : Nat) (x : Int32) : cfR T X 22 0 (va_up r j x) = .inl (T 1, 192, .inl (upd r j x)) := rfl
theorem cR_23 (T : Nat → ClassId) (X : Nat → Nat → Nat) (r : Nat → Int32) : cfR T X 23 0 r = .inl (T 0, 192, .inl r) := rfl
theorem qR_23 (T : Nat → ClassId) (X : Nat → Nat → Nat) (r : Nat → Int32) (j : Nat) (x : Int32) : cfR T X 23 0 (va_up r j x) = .inl (T 0, 192, .inl (upd r j x)) := rfl
theorem cR_24 (T : Nat → ClassId) (X : Nat → Nat → Nat) (r : Nat → Int32) : cfR T X 24 0 r = .inl (T 0, 192, .inl r) := rfl
theorem qR_24 (T : Nat → ClassId) (X : Nat → Nat → Nat) (r : Nat → Int32) (j : Nat) (x : Int32) : cfR T X 24 0 (va_up r j x) = .inl (T 0, 192, .inl (upd r j x)) := rfl
theorem cR_25 (T : Nat → ClassId) (X : Nat → Nat → Nat) (r : Nat → Int32) : cfR T X 25 0 r = .inl (T 0, 192, .inl r) := rfl
theorem qR_25 (T : Nat → ClassId) (X : Nat → Nat → Nat) (r : Nat → Int32) (j : Nat) (x : Int32) : cfR T X 25 0 (va_up r j x) = .inl (T 0, 192, .inl (upd r j x)) := rfl
theorem cR_26 (T : Nat → ClassId) (X : Nat → Nat → Nat) (r : Nat → Int32) : cfR T X 26 0 r = .inl (T 0, 192, .inl r) := rfl
theorem qR_26 (T : Nat → ClassId) (X : Nat → Nat → Nat) (r : Nat → Int32) (j : Nat) (x : Int32) : cfR T X 26 0 (va_up r j x) = .inl (T 0, 192, .inl (upd r j x)) := rfl
theorem cR_27 (T : Nat → ClassId) (X : Nat → Nat → Nat) (r : Nat → Int32) : cfR T X 27 0 r = .inl (T 0, 192, .inl r) := rfl
theorem qR_27 (T : Nat → ClassId) (X : Nat → Nat → Nat) (r : Nat → Int32) (j : Nat) (x : Int32) : cfR T X 27 0 (va_up r j x) = .inl (T 0, 192, .inl (upd r j x)) := rfl
theorem cR_28 (T : Nat → ClassId) (X : Nat → Nat → Nat) (r : Nat → Int32) : cfR T X 28 0 r = .inl (T 0, 192, .inl r) := rfl
theorem qR_28 (T : Nat → ClassId) (X : Nat → Nat → Nat) (r : Nat → Int32) (j : Nat) (x : Int32) : cfR T X 28 0 (va_up r j x) = .inl (T 0, 192, .inl (upd r j x)) := rfl
theorem cR_29 (T : Nat → ClassId) (X : Nat → Nat → Nat) (r : Nat → Int32) : cfR T X 29 0 r = .inl (T 0, 384, .inl r) := rfl
theorem qR_29 (T : Nat → ClassId) (X : Nat → Nat → Nat) (r : Nat → Int32) (j : Nat) (x : Int32) : cfR T X 29 0 (va_up r j x) = .inl (T 0, 384, .inl (upd r j x)) := rfl
theorem cR_30 (T : Nat → ClassId) (X : Nat → Nat → Nat) (r : Nat → Int32) : cfR T X 30 0 r = .inl (T 0, 384, .inl r) := rfl
theorem qR_30 (T : Nat → ClassId) (X : Nat → Nat → Nat) (r : Nat → Int32) (j : Nat) (x : Int32) : cfR T X 30 0 (va_up r j x) = .inl (T 0, 384, .inl (upd r j x)) := rfl
theorem cR_31 (T : Nat → ClassId) (X : Nat → Nat → Nat) (r : Nat → Int32) : cfR T X 31 0 r = .inl (T 0, 384, .inl r) := rfl
theorem qR_31 (T : Nat → ClassId) (X : Nat → Nat → Nat) (r : Nat → Int32) (j : Nat) (x : Int32) : cfR T X 31 0 (va_up r j x) = .inl (T 0, 384, .inl (upd r j x)) := rfl
theorem cR_32 (T : Nat → ClassId) (X : Nat → Nat → Nat) (r : Nat → Int32) : cfR T X 32 0 r = .inl (T 0, 3000, .inl r) := rfl
theorem qR_32 (T : Nat → ClassId) (X : Nat → Nat → Nat) (r : Nat → Int32) (j : Nat) (x : Int32) : cfR T X 32 0 (va_up r j x) = .inl (T 0, 3000, .inl (upd r j x)) := rfl
theorem cR_33 (T : Nat → ClassId) (X : Nat → Nat → Nat) (r : Nat → Int32) : cfR T X 33 0 r = .inl (T 0, 3000, .inl r) := rfl
theorem qR_33 (T : Nat → ClassId) (X : Nat → Nat → Nat) (r : Nat → Int32) (j : Nat) (x : Int32) : cfR T X 33 0 (va_up r j x) = .inl (T 0, 3000, .inl (upd r j x)) := rfl
theorem cR_34 (T : Nat → ClassId) (X : Nat → Nat → Nat) (r : Nat → Int32) : cfR T X 34 0 r = .inl (T 0, 3000, .inl r) := rfl
theorem qR_34 (T : Nat → ClassId) (X : Nat → Nat → Nat) (r : Nat → Int32) (j : Nat) (x : Int32) : cfR T X 34 0 (va_up r j x) = .inl (T 0, 3000, .inl (upd r j x)) := rfl
theorem cR_35 (T : Nat → ClassId) (X : Nat → Nat → Nat) (r : Nat → Int32) : cfR T X 35 0 r = .inl (T 0, 3000, .inl r) := rfl
theorem qR_35 (T : Nat → ClassId) (X : Nat → Nat → Nat) (r : Nat → Int32) (j : Nat) (x : Int32) : cfR T X 35 0 (va_up r j x) = .inl (T 0, 3000, .inl (upd r j x)) := rfl
theorem cR_36 (T : Nat → ClassId) (X : Nat → Nat → Nat) (r : Nat → Int32) : cfR T X 36 0 r = .inl (T 1, 3000, .inl r) := rfl
theorem qR_36 (T : Nat → ClassId) (X : Nat → Nat → Nat) (r : Nat → Int32) (j : Nat) (x : Int32) : cfR T X 36 0 (va_up r j x) = .inl (T 1, 3000, .inl (upd r j x)) := rfl
theorem cR_37 (T : Nat → ClassId) (X : Nat → Nat → Nat) (r : Nat → Int32) : cfR T X 37 0 r = .inl (T 0, 64, .inl r) := rfl
theorem qR_37 (T : Nat → ClassId) (X : Nat → Nat → Nat) (r : Nat → Int32) (j : Nat) (x : Int32) : cfR T X 37 0 (va_up r j x) = .inl (T 0, 64, .inl (upd r j x)) := rfl
theorem cR_38 (T : Nat → ClassId) (X : Nat → Nat → Nat) (r : Nat → Int32) : cfR T X 38 0 r = .inl (T 0, 64, .inl r) := rfl
theorem qR_38 (T : Nat → ClassId) (X : Nat → Nat → Nat) (r : Nat → Int32) (j : Nat) (x : Int32) : cfR T X 38 0 (va_up r j x) = .inl (T 0, 64, .inl (upd r j x)) := rfl
theorem cR_39 (T : Nat → ClassId) (X : Nat → Nat → Nat) (r : Nat → Int32) : cfR T X 39 0 r = .inl (T 0, 64, .inl r) := rfl
theorem qR_39 (T : Nat → ClassId) (X : Nat → Nat → Nat) (r : Nat → Int32) (j : Nat) (x : Int32) : cfR T X 39 0 (va_up r j x) = .inl (T 0, 64, .inl (upd r j x)) := rfl
theorem er_ix {f : Nat → Int32} {k : Nat} {v : Int32} (hk : k < 2 ^ 31) (h : f k = v) : f (nI k).toNatClampNeg = v := by rw [nI_clamp hk]; exact h
theorem i3_nle {x y : Int32} (h : x < y) : ¬ y ≤ x := by rw [Int32.le_iff_toInt_le]; rw [Int32.lt_iff_toInt_lt] at h; omega
theorem i3_le {x y : Int32} (h : ¬ x < y) : y ≤ x := by rw [Int32.le_iff_toInt_le]; rw [Int32.lt_iff_toInt_lt] at h; omega
theorem i3_nlt {x y : Int32} (h : x ≤ y) : ¬ y < x := by rw [Int32.lt_iff_toInt_lt]; rw [Int32.le_iff_toInt_le] at h; omega
theorem i3_lt {x y : Int32} (h : ¬ x ≤ y) : y < x := by rw [Int32.lt_iff_toInt_lt]; rw [Int32.le_iff_toInt_le] at h; omega
theorem i3_ne2 {x a b : Int32} (h : x = a) (hn : ¬ a = b) : ¬ x = b := fun q => hn (h.symm.trans q)
