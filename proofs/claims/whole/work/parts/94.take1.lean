/-! A letter taken by the supplier: the two trees, leaf by leaf -/
theorem i3_123 {x : Int32} (h1 : ¬ x ≤ 0) (h2 : ¬ 4 ≤ x) : x = 1 ∨ x = 2 ∨ x = 3 := by
  rw [Int32.le_iff_toInt_le, show (0 : Int32).toInt = 0 by decide] at h1
  rw [Int32.le_iff_toInt_le, show (4 : Int32).toInt = 4 by decide] at h2
  have h3 : x.toInt = 1 ∨ x.toInt = 2 ∨ x.toInt = 3 := by omega
  rcases h3 with h | h | h
  · exact Or.inl (Int32.toInt_inj.mp (by rw [h]; decide))
  · exact Or.inr (Or.inl (Int32.toInt_inj.mp (by rw [h]; decide)))
  · exact Or.inr (Or.inr (Int32.toInt_inj.mp (by rw [h]; decide)))
/-- which turns a letter makes -/
def tkT (st k v : Int32) : Prop := (st = 0 ∧ k = 1 ∧ v = 1) ∨ (st = 2 ∧ k = 5 ∧ v = 1) ∨ (st = 2 ∧ k = 6 ∧ v = 10) ∨ (st = 4 ∧ k = 8 ∧ v = 5) ∨ (st = 5 ∧ k = 9 ∧ v = 6) ∨ ((st = 5 ∨ st = 6 ∨ st = 7) ∧ k = 12 ∧ v = 8)
def tkR (A B : ew_R) (d ln g n w lg : Nat) (st k : Int32) (Z : List (Nat × Nat) × ew_R) (AL AC : ew_R) (R : ew_R) : Prop :=
  (Z = ([], A) ∧ R = B) ∨ (∃ v, tkT st k v ∧ Z = ([], up3 A 17 d 0 v) ∧ R = up3 B 23 0 d v) ∨ (k = 14 ∧ (st = 5 ∨ st = 6 ∨ st = 7) ∧ Z = ([], AL) ∧ R = s_letGo (up3 (up3 B 23 0 d 12) 6 0 (d - 6 * ln) (B 6 0 (d - 6 * ln) + 4000)) d) ∨ (k = 15 ∧ (st = 1 ∨ st = 2 ∨ st = 3) ∧ Z = (nw_15 d g n, z_L_supplierWrites AC d g n w 11 16 0) ∧ R = s_write (up3 (s_letGo B d) 23 0 d 11) (2 * d + 1) 16 0 w lg)
set_option maxHeartbeats 4000000 in
theorem tk_norm_n {A B : ew_R} {d ln t g n w lg : Nat} {st k : Int32} (hA : A 6 t 1 = k) (h17 : A 17 d 0 = st) (h23 : B 23 0 d = st) (hout : z_Lender_isOut st = 0) : tkR A B d ln g n w lg st k (z_L_supplierTakes_n A d t g n w) A A (s_takeSupplier B ln d k w lg) := by
  by_cases s0 : st = 0
  · subst s0
    by_cases k1 : k = 1
    · subst k1
      exact Or.inr (Or.inl ⟨1, by simp [tkT], by simp [z_L_supplierTakes_n, z_L_supplierIsCancelled_n, z_L_supplierHearsOfLoss_n, z_Deal_turn, z_Lender_isOut, hA, h17], by simp [s_takeSupplier, h23]⟩)
    by_cases k2 : k = 2
    · subst k2
      exact Or.inl ⟨by simp [z_L_supplierTakes_n, z_L_supplierIsCancelled_n, z_L_supplierHearsOfLoss_n, z_Deal_turn, z_Lender_isOut, hA, h17], by simp (decide := true) [s_takeSupplier, h23]⟩
    by_cases k3 : k = 3
    · subst k3
      exact Or.inl ⟨by simp [z_L_supplierTakes_n, z_L_supplierIsCancelled_n, z_L_supplierHearsOfLoss_n, z_Deal_turn, z_Lender_isOut, hA, h17], by simp (decide := true) [s_takeSupplier, h23]⟩
    by_cases k4 : k = 4
    · subst k4
      exact Or.inl ⟨by simp [z_L_supplierTakes_n, z_L_supplierIsCancelled_n, z_L_supplierHearsOfLoss_n, z_Deal_turn, z_Lender_isOut, hA, h17], by simp (decide := true) [s_takeSupplier, h23]⟩
    by_cases k5 : k = 5
    · subst k5
      exact Or.inl ⟨by simp [z_L_supplierTakes_n, z_L_supplierIsCancelled_n, z_L_supplierHearsOfLoss_n, z_Deal_turn, z_Lender_isOut, hA, h17], by simp (decide := true) [s_takeSupplier, h23]⟩
    by_cases k6 : k = 6
    · subst k6
      exact Or.inl ⟨by simp [z_L_supplierTakes_n, z_L_supplierIsCancelled_n, z_L_supplierHearsOfLoss_n, z_Deal_turn, z_Lender_isOut, hA, h17], by simp (decide := true) [s_takeSupplier, h23]⟩
    by_cases k7 : k = 7
    · subst k7
      exact Or.inl ⟨by simp [z_L_supplierTakes_n, z_L_supplierIsCancelled_n, z_L_supplierHearsOfLoss_n, z_Deal_turn, z_Lender_isOut, hA, h17], by simp (decide := true) [s_takeSupplier, h23]⟩
    by_cases k8 : k = 8
    · subst k8
      exact Or.inl ⟨by simp [z_L_supplierTakes_n, z_L_supplierIsCancelled_n, z_L_supplierHearsOfLoss_n, z_Deal_turn, z_Lender_isOut, hA, h17], by simp (decide := true) [s_takeSupplier, h23]⟩
    by_cases k9 : k = 9
    · subst k9
      exact Or.inl ⟨by simp [z_L_supplierTakes_n, z_L_supplierIsCancelled_n, z_L_supplierHearsOfLoss_n, z_Deal_turn, z_Lender_isOut, hA, h17], by simp (decide := true) [s_takeSupplier, h23]⟩
    by_cases k10 : k = 10
    · subst k10
      exact Or.inl ⟨by simp [z_L_supplierTakes_n, z_L_supplierIsCancelled_n, z_L_supplierHearsOfLoss_n, z_Deal_turn, z_Lender_isOut, hA, h17], by simp (decide := true) [s_takeSupplier, h23]⟩
    by_cases k11 : k = 11
    · subst k11
      exact Or.inl ⟨by simp [z_L_supplierTakes_n, z_L_supplierIsCancelled_n, z_L_supplierHearsOfLoss_n, z_Deal_turn, z_Lender_isOut, hA, h17], by simp (decide := true) [s_takeSupplier, h23]⟩
    by_cases k12 : k = 12
    · subst k12
      exact Or.inl ⟨by simp [z_L_supplierTakes_n, z_L_supplierIsCancelled_n, z_L_supplierHearsOfLoss_n, z_Deal_turn, z_Lender_isOut, hA, h17], by simp (decide := true) [s_takeSupplier, h23]⟩
    by_cases k13 : k = 13
    · subst k13
      exact Or.inl ⟨by simp [z_L_supplierTakes_n, z_L_supplierIsCancelled_n, z_L_supplierHearsOfLoss_n, z_Deal_turn, z_Lender_isOut, hA, h17], by simp (decide := true) [s_takeSupplier, h23]⟩
    by_cases k14 : k = 14
    · subst k14
      exact Or.inl ⟨by simp [z_L_supplierTakes_n, z_L_supplierIsCancelled_n, z_L_supplierHearsOfLoss_n, z_Deal_turn, z_Lender_isOut, hA, h17], by simp (decide := true) [s_takeSupplier, h23]⟩
    by_cases k15 : k = 15
    · subst k15
      exact Or.inl ⟨by simp [z_L_supplierTakes_n, z_L_supplierIsCancelled_n, z_L_supplierHearsOfLoss_n, z_Deal_turn, z_Lender_isOut, hA, h17], by simp (decide := true) [s_takeSupplier, h23]⟩
    exact Or.inl ⟨by simp [z_L_supplierTakes_n, z_L_supplierIsCancelled_n, z_L_supplierHearsOfLoss_n, z_Deal_turn, z_Lender_isOut, hA, h17, k1, k2, k3, k4, k5, k6, k7, k8, k9, k10, k11, k12, k13, k14, k15], by simp (decide := true) [s_takeSupplier, h23, k1, k2, k3, k4, k5, k6, k7, k8, k9, k10, k11, k12, k13, k14, k15]⟩
  by_cases s1 : st = 1
  · subst s1
    by_cases k1 : k = 1
    · subst k1
      exact Or.inl ⟨by simp [z_L_supplierTakes_n, z_L_supplierIsCancelled_n, z_L_supplierHearsOfLoss_n, z_Deal_turn, z_Lender_isOut, hA, h17], by simp (decide := true) [s_takeSupplier, h23]⟩
    by_cases k2 : k = 2
    · subst k2
      exact Or.inl ⟨by simp [z_L_supplierTakes_n, z_L_supplierIsCancelled_n, z_L_supplierHearsOfLoss_n, z_Deal_turn, z_Lender_isOut, hA, h17], by simp (decide := true) [s_takeSupplier, h23]⟩
    by_cases k3 : k = 3
    · subst k3
      exact Or.inl ⟨by simp [z_L_supplierTakes_n, z_L_supplierIsCancelled_n, z_L_supplierHearsOfLoss_n, z_Deal_turn, z_Lender_isOut, hA, h17], by simp (decide := true) [s_takeSupplier, h23]⟩
    by_cases k4 : k = 4
    · subst k4
      exact Or.inl ⟨by simp [z_L_supplierTakes_n, z_L_supplierIsCancelled_n, z_L_supplierHearsOfLoss_n, z_Deal_turn, z_Lender_isOut, hA, h17], by simp (decide := true) [s_takeSupplier, h23]⟩
    by_cases k5 : k = 5
    · subst k5
      exact Or.inl ⟨by simp [z_L_supplierTakes_n, z_L_supplierIsCancelled_n, z_L_supplierHearsOfLoss_n, z_Deal_turn, z_Lender_isOut, hA, h17], by simp (decide := true) [s_takeSupplier, h23]⟩
    by_cases k6 : k = 6
    · subst k6
      exact Or.inl ⟨by simp [z_L_supplierTakes_n, z_L_supplierIsCancelled_n, z_L_supplierHearsOfLoss_n, z_Deal_turn, z_Lender_isOut, hA, h17], by simp (decide := true) [s_takeSupplier, h23]⟩
    by_cases k7 : k = 7
    · subst k7
      exact Or.inl ⟨by simp [z_L_supplierTakes_n, z_L_supplierIsCancelled_n, z_L_supplierHearsOfLoss_n, z_Deal_turn, z_Lender_isOut, hA, h17], by simp (decide := true) [s_takeSupplier, h23]⟩
    by_cases k8 : k = 8
    · subst k8
      exact Or.inl ⟨by simp [z_L_supplierTakes_n, z_L_supplierIsCancelled_n, z_L_supplierHearsOfLoss_n, z_Deal_turn, z_Lender_isOut, hA, h17], by simp (decide := true) [s_takeSupplier, h23]⟩
    by_cases k9 : k = 9
    · subst k9
      exact Or.inl ⟨by simp [z_L_supplierTakes_n, z_L_supplierIsCancelled_n, z_L_supplierHearsOfLoss_n, z_Deal_turn, z_Lender_isOut, hA, h17], by simp (decide := true) [s_takeSupplier, h23]⟩
    by_cases k10 : k = 10
    · subst k10
      exact Or.inl ⟨by simp [z_L_supplierTakes_n, z_L_supplierIsCancelled_n, z_L_supplierHearsOfLoss_n, z_Deal_turn, z_Lender_isOut, hA, h17], by simp (decide := true) [s_takeSupplier, h23]⟩
    by_cases k11 : k = 11
    · subst k11
      exact Or.inl ⟨by simp [z_L_supplierTakes_n, z_L_supplierIsCancelled_n, z_L_supplierHearsOfLoss_n, z_Deal_turn, z_Lender_isOut, hA, h17], by simp (decide := true) [s_takeSupplier, h23]⟩
    by_cases k12 : k = 12
    · subst k12
      exact Or.inl ⟨by simp [z_L_supplierTakes_n, z_L_supplierIsCancelled_n, z_L_supplierHearsOfLoss_n, z_Deal_turn, z_Lender_isOut, hA, h17], by simp (decide := true) [s_takeSupplier, h23]⟩
    by_cases k13 : k = 13
    · subst k13
      exact Or.inl ⟨by simp [z_L_supplierTakes_n, z_L_supplierIsCancelled_n, z_L_supplierHearsOfLoss_n, z_Deal_turn, z_Lender_isOut, hA, h17], by simp (decide := true) [s_takeSupplier, h23]⟩
    by_cases k14 : k = 14
    · subst k14
      exact Or.inl ⟨by simp [z_L_supplierTakes_n, z_L_supplierIsCancelled_n, z_L_supplierHearsOfLoss_n, z_Deal_turn, z_Lender_isOut, hA, h17], by simp (decide := true) [s_takeSupplier, h23]⟩
    by_cases k15 : k = 15
    · subst k15
      exact Or.inr (Or.inr (Or.inr ⟨rfl, by simp, by simp [z_L_supplierTakes_n, z_L_supplierIsCancelled_n, z_L_supplierHearsOfLoss_n, z_Deal_turn, z_Lender_isOut, hA, h17], by simp (decide := true) [s_takeSupplier, h23]⟩))
    exact Or.inl ⟨by simp [z_L_supplierTakes_n, z_L_supplierIsCancelled_n, z_L_supplierHearsOfLoss_n, z_Deal_turn, z_Lender_isOut, hA, h17, k1, k2, k3, k4, k5, k6, k7, k8, k9, k10, k11, k12, k13, k14, k15], by simp (decide := true) [s_takeSupplier, h23, k1, k2, k3, k4, k5, k6, k7, k8, k9, k10, k11, k12, k13, k14, k15]⟩
  by_cases s2 : st = 2
  · subst s2
    by_cases k1 : k = 1
    · subst k1
      exact Or.inl ⟨by simp [z_L_supplierTakes_n, z_L_supplierIsCancelled_n, z_L_supplierHearsOfLoss_n, z_Deal_turn, z_Lender_isOut, hA, h17], by simp (decide := true) [s_takeSupplier, h23]⟩
    by_cases k2 : k = 2
    · subst k2
      exact Or.inl ⟨by simp [z_L_supplierTakes_n, z_L_supplierIsCancelled_n, z_L_supplierHearsOfLoss_n, z_Deal_turn, z_Lender_isOut, hA, h17], by simp (decide := true) [s_takeSupplier, h23]⟩
    by_cases k3 : k = 3
    · subst k3
      exact Or.inl ⟨by simp [z_L_supplierTakes_n, z_L_supplierIsCancelled_n, z_L_supplierHearsOfLoss_n, z_Deal_turn, z_Lender_isOut, hA, h17], by simp (decide := true) [s_takeSupplier, h23]⟩
    by_cases k4 : k = 4
    · subst k4
      exact Or.inl ⟨by simp [z_L_supplierTakes_n, z_L_supplierIsCancelled_n, z_L_supplierHearsOfLoss_n, z_Deal_turn, z_Lender_isOut, hA, h17], by simp (decide := true) [s_takeSupplier, h23]⟩
    by_cases k5 : k = 5
    · subst k5
      exact Or.inr (Or.inl ⟨1, by simp [tkT], by simp [z_L_supplierTakes_n, z_L_supplierIsCancelled_n, z_L_supplierHearsOfLoss_n, z_Deal_turn, z_Lender_isOut, hA, h17], by simp [s_takeSupplier, h23]⟩)
    by_cases k6 : k = 6
    · subst k6
      exact Or.inr (Or.inl ⟨10, by simp [tkT], by simp [z_L_supplierTakes_n, z_L_supplierIsCancelled_n, z_L_supplierHearsOfLoss_n, z_Deal_turn, z_Lender_isOut, hA, h17], by simp [s_takeSupplier, h23]⟩)
    by_cases k7 : k = 7
    · subst k7
      exact Or.inl ⟨by simp [z_L_supplierTakes_n, z_L_supplierIsCancelled_n, z_L_supplierHearsOfLoss_n, z_Deal_turn, z_Lender_isOut, hA, h17], by simp (decide := true) [s_takeSupplier, h23]⟩
    by_cases k8 : k = 8
    · subst k8
      exact Or.inl ⟨by simp [z_L_supplierTakes_n, z_L_supplierIsCancelled_n, z_L_supplierHearsOfLoss_n, z_Deal_turn, z_Lender_isOut, hA, h17], by simp (decide := true) [s_takeSupplier, h23]⟩
    by_cases k9 : k = 9
    · subst k9
      exact Or.inl ⟨by simp [z_L_supplierTakes_n, z_L_supplierIsCancelled_n, z_L_supplierHearsOfLoss_n, z_Deal_turn, z_Lender_isOut, hA, h17], by simp (decide := true) [s_takeSupplier, h23]⟩
    by_cases k10 : k = 10
    · subst k10
      exact Or.inl ⟨by simp [z_L_supplierTakes_n, z_L_supplierIsCancelled_n, z_L_supplierHearsOfLoss_n, z_Deal_turn, z_Lender_isOut, hA, h17], by simp (decide := true) [s_takeSupplier, h23]⟩
    by_cases k11 : k = 11
    · subst k11
      exact Or.inl ⟨by simp [z_L_supplierTakes_n, z_L_supplierIsCancelled_n, z_L_supplierHearsOfLoss_n, z_Deal_turn, z_Lender_isOut, hA, h17], by simp (decide := true) [s_takeSupplier, h23]⟩
    by_cases k12 : k = 12
    · subst k12
      exact Or.inl ⟨by simp [z_L_supplierTakes_n, z_L_supplierIsCancelled_n, z_L_supplierHearsOfLoss_n, z_Deal_turn, z_Lender_isOut, hA, h17], by simp (decide := true) [s_takeSupplier, h23]⟩
    by_cases k13 : k = 13
    · subst k13
      exact Or.inl ⟨by simp [z_L_supplierTakes_n, z_L_supplierIsCancelled_n, z_L_supplierHearsOfLoss_n, z_Deal_turn, z_Lender_isOut, hA, h17], by simp (decide := true) [s_takeSupplier, h23]⟩
    by_cases k14 : k = 14
    · subst k14
      exact Or.inl ⟨by simp [z_L_supplierTakes_n, z_L_supplierIsCancelled_n, z_L_supplierHearsOfLoss_n, z_Deal_turn, z_Lender_isOut, hA, h17], by simp (decide := true) [s_takeSupplier, h23]⟩
    by_cases k15 : k = 15
    · subst k15
      exact Or.inr (Or.inr (Or.inr ⟨rfl, by simp, by simp [z_L_supplierTakes_n, z_L_supplierIsCancelled_n, z_L_supplierHearsOfLoss_n, z_Deal_turn, z_Lender_isOut, hA, h17], by simp (decide := true) [s_takeSupplier, h23]⟩))
    exact Or.inl ⟨by simp [z_L_supplierTakes_n, z_L_supplierIsCancelled_n, z_L_supplierHearsOfLoss_n, z_Deal_turn, z_Lender_isOut, hA, h17, k1, k2, k3, k4, k5, k6, k7, k8, k9, k10, k11, k12, k13, k14, k15], by simp (decide := true) [s_takeSupplier, h23, k1, k2, k3, k4, k5, k6, k7, k8, k9, k10, k11, k12, k13, k14, k15]⟩
  by_cases s3 : st = 3
  · subst s3
    by_cases k1 : k = 1
    · subst k1
      exact Or.inl ⟨by simp [z_L_supplierTakes_n, z_L_supplierIsCancelled_n, z_L_supplierHearsOfLoss_n, z_Deal_turn, z_Lender_isOut, hA, h17], by simp (decide := true) [s_takeSupplier, h23]⟩
    by_cases k2 : k = 2
    · subst k2
      exact Or.inl ⟨by simp [z_L_supplierTakes_n, z_L_supplierIsCancelled_n, z_L_supplierHearsOfLoss_n, z_Deal_turn, z_Lender_isOut, hA, h17], by simp (decide := true) [s_takeSupplier, h23]⟩
    by_cases k3 : k = 3
    · subst k3
      exact Or.inl ⟨by simp [z_L_supplierTakes_n, z_L_supplierIsCancelled_n, z_L_supplierHearsOfLoss_n, z_Deal_turn, z_Lender_isOut, hA, h17], by simp (decide := true) [s_takeSupplier, h23]⟩
    by_cases k4 : k = 4
    · subst k4
      exact Or.inl ⟨by simp [z_L_supplierTakes_n, z_L_supplierIsCancelled_n, z_L_supplierHearsOfLoss_n, z_Deal_turn, z_Lender_isOut, hA, h17], by simp (decide := true) [s_takeSupplier, h23]⟩
    by_cases k5 : k = 5
    · subst k5
      exact Or.inl ⟨by simp [z_L_supplierTakes_n, z_L_supplierIsCancelled_n, z_L_supplierHearsOfLoss_n, z_Deal_turn, z_Lender_isOut, hA, h17], by simp (decide := true) [s_takeSupplier, h23]⟩
    by_cases k6 : k = 6
    · subst k6
      exact Or.inl ⟨by simp [z_L_supplierTakes_n, z_L_supplierIsCancelled_n, z_L_supplierHearsOfLoss_n, z_Deal_turn, z_Lender_isOut, hA, h17], by simp (decide := true) [s_takeSupplier, h23]⟩
    by_cases k7 : k = 7
    · subst k7
      exact Or.inl ⟨by simp [z_L_supplierTakes_n, z_L_supplierIsCancelled_n, z_L_supplierHearsOfLoss_n, z_Deal_turn, z_Lender_isOut, hA, h17], by simp (decide := true) [s_takeSupplier, h23]⟩
    by_cases k8 : k = 8
    · subst k8
      exact Or.inl ⟨by simp [z_L_supplierTakes_n, z_L_supplierIsCancelled_n, z_L_supplierHearsOfLoss_n, z_Deal_turn, z_Lender_isOut, hA, h17], by simp (decide := true) [s_takeSupplier, h23]⟩
    by_cases k9 : k = 9
    · subst k9
      exact Or.inl ⟨by simp [z_L_supplierTakes_n, z_L_supplierIsCancelled_n, z_L_supplierHearsOfLoss_n, z_Deal_turn, z_Lender_isOut, hA, h17], by simp (decide := true) [s_takeSupplier, h23]⟩
    by_cases k10 : k = 10
    · subst k10
      exact Or.inl ⟨by simp [z_L_supplierTakes_n, z_L_supplierIsCancelled_n, z_L_supplierHearsOfLoss_n, z_Deal_turn, z_Lender_isOut, hA, h17], by simp (decide := true) [s_takeSupplier, h23]⟩
    by_cases k11 : k = 11
    · subst k11
      exact Or.inl ⟨by simp [z_L_supplierTakes_n, z_L_supplierIsCancelled_n, z_L_supplierHearsOfLoss_n, z_Deal_turn, z_Lender_isOut, hA, h17], by simp (decide := true) [s_takeSupplier, h23]⟩
    by_cases k12 : k = 12
    · subst k12
      exact Or.inl ⟨by simp [z_L_supplierTakes_n, z_L_supplierIsCancelled_n, z_L_supplierHearsOfLoss_n, z_Deal_turn, z_Lender_isOut, hA, h17], by simp (decide := true) [s_takeSupplier, h23]⟩
    by_cases k13 : k = 13
    · subst k13
      exact Or.inl ⟨by simp [z_L_supplierTakes_n, z_L_supplierIsCancelled_n, z_L_supplierHearsOfLoss_n, z_Deal_turn, z_Lender_isOut, hA, h17], by simp (decide := true) [s_takeSupplier, h23]⟩
    by_cases k14 : k = 14
    · subst k14
      exact Or.inl ⟨by simp [z_L_supplierTakes_n, z_L_supplierIsCancelled_n, z_L_supplierHearsOfLoss_n, z_Deal_turn, z_Lender_isOut, hA, h17], by simp (decide := true) [s_takeSupplier, h23]⟩
    by_cases k15 : k = 15
    · subst k15
      exact Or.inr (Or.inr (Or.inr ⟨rfl, by simp, by simp [z_L_supplierTakes_n, z_L_supplierIsCancelled_n, z_L_supplierHearsOfLoss_n, z_Deal_turn, z_Lender_isOut, hA, h17], by simp (decide := true) [s_takeSupplier, h23]⟩))
    exact Or.inl ⟨by simp [z_L_supplierTakes_n, z_L_supplierIsCancelled_n, z_L_supplierHearsOfLoss_n, z_Deal_turn, z_Lender_isOut, hA, h17, k1, k2, k3, k4, k5, k6, k7, k8, k9, k10, k11, k12, k13, k14, k15], by simp (decide := true) [s_takeSupplier, h23, k1, k2, k3, k4, k5, k6, k7, k8, k9, k10, k11, k12, k13, k14, k15]⟩
  by_cases s4 : st = 4
  · subst s4
    by_cases k1 : k = 1
    · subst k1
      exact Or.inl ⟨by simp [z_L_supplierTakes_n, z_L_supplierIsCancelled_n, z_L_supplierHearsOfLoss_n, z_Deal_turn, z_Lender_isOut, hA, h17], by simp (decide := true) [s_takeSupplier, h23]⟩
    by_cases k2 : k = 2
    · subst k2
      exact Or.inl ⟨by simp [z_L_supplierTakes_n, z_L_supplierIsCancelled_n, z_L_supplierHearsOfLoss_n, z_Deal_turn, z_Lender_isOut, hA, h17], by simp (decide := true) [s_takeSupplier, h23]⟩
    by_cases k3 : k = 3
    · subst k3
      exact Or.inl ⟨by simp [z_L_supplierTakes_n, z_L_supplierIsCancelled_n, z_L_supplierHearsOfLoss_n, z_Deal_turn, z_Lender_isOut, hA, h17], by simp (decide := true) [s_takeSupplier, h23]⟩
    by_cases k4 : k = 4
    · subst k4
      exact Or.inl ⟨by simp [z_L_supplierTakes_n, z_L_supplierIsCancelled_n, z_L_supplierHearsOfLoss_n, z_Deal_turn, z_Lender_isOut, hA, h17], by simp (decide := true) [s_takeSupplier, h23]⟩
    by_cases k5 : k = 5
    · subst k5
      exact Or.inl ⟨by simp [z_L_supplierTakes_n, z_L_supplierIsCancelled_n, z_L_supplierHearsOfLoss_n, z_Deal_turn, z_Lender_isOut, hA, h17], by simp (decide := true) [s_takeSupplier, h23]⟩
    by_cases k6 : k = 6
    · subst k6
      exact Or.inl ⟨by simp [z_L_supplierTakes_n, z_L_supplierIsCancelled_n, z_L_supplierHearsOfLoss_n, z_Deal_turn, z_Lender_isOut, hA, h17], by simp (decide := true) [s_takeSupplier, h23]⟩
    by_cases k7 : k = 7
    · subst k7
      exact Or.inl ⟨by simp [z_L_supplierTakes_n, z_L_supplierIsCancelled_n, z_L_supplierHearsOfLoss_n, z_Deal_turn, z_Lender_isOut, hA, h17], by simp (decide := true) [s_takeSupplier, h23]⟩
    by_cases k8 : k = 8
    · subst k8
      exact Or.inr (Or.inl ⟨5, by simp [tkT], by simp [z_L_supplierTakes_n, z_L_supplierIsCancelled_n, z_L_supplierHearsOfLoss_n, z_Deal_turn, z_Lender_isOut, hA, h17], by simp [s_takeSupplier, h23]⟩)
    by_cases k9 : k = 9
    · subst k9
      exact Or.inl ⟨by simp [z_L_supplierTakes_n, z_L_supplierIsCancelled_n, z_L_supplierHearsOfLoss_n, z_Deal_turn, z_Lender_isOut, hA, h17], by simp (decide := true) [s_takeSupplier, h23]⟩
    by_cases k10 : k = 10
    · subst k10
      exact Or.inl ⟨by simp [z_L_supplierTakes_n, z_L_supplierIsCancelled_n, z_L_supplierHearsOfLoss_n, z_Deal_turn, z_Lender_isOut, hA, h17], by simp (decide := true) [s_takeSupplier, h23]⟩
    by_cases k11 : k = 11
    · subst k11
      exact Or.inl ⟨by simp [z_L_supplierTakes_n, z_L_supplierIsCancelled_n, z_L_supplierHearsOfLoss_n, z_Deal_turn, z_Lender_isOut, hA, h17], by simp (decide := true) [s_takeSupplier, h23]⟩
    by_cases k12 : k = 12
    · subst k12
      exact Or.inl ⟨by simp [z_L_supplierTakes_n, z_L_supplierIsCancelled_n, z_L_supplierHearsOfLoss_n, z_Deal_turn, z_Lender_isOut, hA, h17], by simp (decide := true) [s_takeSupplier, h23]⟩
    by_cases k13 : k = 13
    · subst k13
      exact Or.inl ⟨by simp [z_L_supplierTakes_n, z_L_supplierIsCancelled_n, z_L_supplierHearsOfLoss_n, z_Deal_turn, z_Lender_isOut, hA, h17], by simp (decide := true) [s_takeSupplier, h23]⟩
    by_cases k14 : k = 14
    · subst k14
      exact Or.inl ⟨by simp [z_L_supplierTakes_n, z_L_supplierIsCancelled_n, z_L_supplierHearsOfLoss_n, z_Deal_turn, z_Lender_isOut, hA, h17], by simp (decide := true) [s_takeSupplier, h23]⟩
    by_cases k15 : k = 15
    · subst k15
      exact Or.inl ⟨by simp [z_L_supplierTakes_n, z_L_supplierIsCancelled_n, z_L_supplierHearsOfLoss_n, z_Deal_turn, z_Lender_isOut, hA, h17], by simp (decide := true) [s_takeSupplier, h23]⟩
    exact Or.inl ⟨by simp [z_L_supplierTakes_n, z_L_supplierIsCancelled_n, z_L_supplierHearsOfLoss_n, z_Deal_turn, z_Lender_isOut, hA, h17, k1, k2, k3, k4, k5, k6, k7, k8, k9, k10, k11, k12, k13, k14, k15], by simp (decide := true) [s_takeSupplier, h23, k1, k2, k3, k4, k5, k6, k7, k8, k9, k10, k11, k12, k13, k14, k15]⟩
  by_cases s5 : st = 5
  · subst s5
    by_cases k1 : k = 1
    · subst k1
      exact Or.inl ⟨by simp [z_L_supplierTakes_n, z_L_supplierIsCancelled_n, z_L_supplierHearsOfLoss_n, z_Deal_turn, z_Lender_isOut, hA, h17], by simp (decide := true) [s_takeSupplier, h23]⟩
    by_cases k2 : k = 2
    · subst k2
      exact Or.inl ⟨by simp [z_L_supplierTakes_n, z_L_supplierIsCancelled_n, z_L_supplierHearsOfLoss_n, z_Deal_turn, z_Lender_isOut, hA, h17], by simp (decide := true) [s_takeSupplier, h23]⟩
    by_cases k3 : k = 3
    · subst k3
      exact Or.inl ⟨by simp [z_L_supplierTakes_n, z_L_supplierIsCancelled_n, z_L_supplierHearsOfLoss_n, z_Deal_turn, z_Lender_isOut, hA, h17], by simp (decide := true) [s_takeSupplier, h23]⟩
    by_cases k4 : k = 4
    · subst k4
      exact Or.inl ⟨by simp [z_L_supplierTakes_n, z_L_supplierIsCancelled_n, z_L_supplierHearsOfLoss_n, z_Deal_turn, z_Lender_isOut, hA, h17], by simp (decide := true) [s_takeSupplier, h23]⟩
    by_cases k5 : k = 5
    · subst k5
      exact Or.inl ⟨by simp [z_L_supplierTakes_n, z_L_supplierIsCancelled_n, z_L_supplierHearsOfLoss_n, z_Deal_turn, z_Lender_isOut, hA, h17], by simp (decide := true) [s_takeSupplier, h23]⟩
    by_cases k6 : k = 6
    · subst k6
      exact Or.inl ⟨by simp [z_L_supplierTakes_n, z_L_supplierIsCancelled_n, z_L_supplierHearsOfLoss_n, z_Deal_turn, z_Lender_isOut, hA, h17], by simp (decide := true) [s_takeSupplier, h23]⟩
    by_cases k7 : k = 7
    · subst k7
      exact Or.inl ⟨by simp [z_L_supplierTakes_n, z_L_supplierIsCancelled_n, z_L_supplierHearsOfLoss_n, z_Deal_turn, z_Lender_isOut, hA, h17], by simp (decide := true) [s_takeSupplier, h23]⟩
    by_cases k8 : k = 8
    · subst k8
      exact Or.inl ⟨by simp [z_L_supplierTakes_n, z_L_supplierIsCancelled_n, z_L_supplierHearsOfLoss_n, z_Deal_turn, z_Lender_isOut, hA, h17], by simp (decide := true) [s_takeSupplier, h23]⟩
    by_cases k9 : k = 9
    · subst k9
      exact Or.inr (Or.inl ⟨6, by simp [tkT], by simp [z_L_supplierTakes_n, z_L_supplierIsCancelled_n, z_L_supplierHearsOfLoss_n, z_Deal_turn, z_Lender_isOut, hA, h17], by simp [s_takeSupplier, h23]⟩)
    by_cases k10 : k = 10
    · subst k10
      exact Or.inl ⟨by simp [z_L_supplierTakes_n, z_L_supplierIsCancelled_n, z_L_supplierHearsOfLoss_n, z_Deal_turn, z_Lender_isOut, hA, h17], by simp (decide := true) [s_takeSupplier, h23]⟩
    by_cases k11 : k = 11
    · subst k11
      exact Or.inl ⟨by simp [z_L_supplierTakes_n, z_L_supplierIsCancelled_n, z_L_supplierHearsOfLoss_n, z_Deal_turn, z_Lender_isOut, hA, h17], by simp (decide := true) [s_takeSupplier, h23]⟩
    by_cases k12 : k = 12
    · subst k12
      exact Or.inr (Or.inl ⟨8, by simp [tkT], by simp [z_L_supplierTakes_n, z_L_supplierIsCancelled_n, z_L_supplierHearsOfLoss_n, z_Deal_turn, z_Lender_isOut, hA, h17], by simp [s_takeSupplier, h23]⟩)
    by_cases k13 : k = 13
    · subst k13
      exact Or.inl ⟨by simp [z_L_supplierTakes_n, z_L_supplierIsCancelled_n, z_L_supplierHearsOfLoss_n, z_Deal_turn, z_Lender_isOut, hA, h17], by simp (decide := true) [s_takeSupplier, h23]⟩
    by_cases k14 : k = 14
    · subst k14
      exact absurd hout (by decide)
    by_cases k15 : k = 15
    · subst k15
      exact Or.inl ⟨by simp [z_L_supplierTakes_n, z_L_supplierIsCancelled_n, z_L_supplierHearsOfLoss_n, z_Deal_turn, z_Lender_isOut, hA, h17], by simp (decide := true) [s_takeSupplier, h23]⟩
    exact Or.inl ⟨by simp [z_L_supplierTakes_n, z_L_supplierIsCancelled_n, z_L_supplierHearsOfLoss_n, z_Deal_turn, z_Lender_isOut, hA, h17, k1, k2, k3, k4, k5, k6, k7, k8, k9, k10, k11, k12, k13, k14, k15], by simp (decide := true) [s_takeSupplier, h23, k1, k2, k3, k4, k5, k6, k7, k8, k9, k10, k11, k12, k13, k14, k15]⟩
  by_cases s6 : st = 6
  · subst s6
    by_cases k1 : k = 1
    · subst k1
      exact Or.inl ⟨by simp [z_L_supplierTakes_n, z_L_supplierIsCancelled_n, z_L_supplierHearsOfLoss_n, z_Deal_turn, z_Lender_isOut, hA, h17], by simp (decide := true) [s_takeSupplier, h23]⟩
    by_cases k2 : k = 2
    · subst k2
      exact Or.inl ⟨by simp [z_L_supplierTakes_n, z_L_supplierIsCancelled_n, z_L_supplierHearsOfLoss_n, z_Deal_turn, z_Lender_isOut, hA, h17], by simp (decide := true) [s_takeSupplier, h23]⟩
    by_cases k3 : k = 3
    · subst k3
      exact Or.inl ⟨by simp [z_L_supplierTakes_n, z_L_supplierIsCancelled_n, z_L_supplierHearsOfLoss_n, z_Deal_turn, z_Lender_isOut, hA, h17], by simp (decide := true) [s_takeSupplier, h23]⟩
    by_cases k4 : k = 4
    · subst k4
      exact Or.inl ⟨by simp [z_L_supplierTakes_n, z_L_supplierIsCancelled_n, z_L_supplierHearsOfLoss_n, z_Deal_turn, z_Lender_isOut, hA, h17], by simp (decide := true) [s_takeSupplier, h23]⟩
    by_cases k5 : k = 5
    · subst k5
      exact Or.inl ⟨by simp [z_L_supplierTakes_n, z_L_supplierIsCancelled_n, z_L_supplierHearsOfLoss_n, z_Deal_turn, z_Lender_isOut, hA, h17], by simp (decide := true) [s_takeSupplier, h23]⟩
    by_cases k6 : k = 6
    · subst k6
      exact Or.inl ⟨by simp [z_L_supplierTakes_n, z_L_supplierIsCancelled_n, z_L_supplierHearsOfLoss_n, z_Deal_turn, z_Lender_isOut, hA, h17], by simp (decide := true) [s_takeSupplier, h23]⟩
    by_cases k7 : k = 7
    · subst k7
      exact Or.inl ⟨by simp [z_L_supplierTakes_n, z_L_supplierIsCancelled_n, z_L_supplierHearsOfLoss_n, z_Deal_turn, z_Lender_isOut, hA, h17], by simp (decide := true) [s_takeSupplier, h23]⟩
    by_cases k8 : k = 8
    · subst k8
      exact Or.inl ⟨by simp [z_L_supplierTakes_n, z_L_supplierIsCancelled_n, z_L_supplierHearsOfLoss_n, z_Deal_turn, z_Lender_isOut, hA, h17], by simp (decide := true) [s_takeSupplier, h23]⟩
    by_cases k9 : k = 9
    · subst k9
      exact Or.inl ⟨by simp [z_L_supplierTakes_n, z_L_supplierIsCancelled_n, z_L_supplierHearsOfLoss_n, z_Deal_turn, z_Lender_isOut, hA, h17], by simp (decide := true) [s_takeSupplier, h23]⟩
    by_cases k10 : k = 10
    · subst k10
      exact Or.inl ⟨by simp [z_L_supplierTakes_n, z_L_supplierIsCancelled_n, z_L_supplierHearsOfLoss_n, z_Deal_turn, z_Lender_isOut, hA, h17], by simp (decide := true) [s_takeSupplier, h23]⟩
    by_cases k11 : k = 11
    · subst k11
      exact Or.inl ⟨by simp [z_L_supplierTakes_n, z_L_supplierIsCancelled_n, z_L_supplierHearsOfLoss_n, z_Deal_turn, z_Lender_isOut, hA, h17], by simp (decide := true) [s_takeSupplier, h23]⟩
    by_cases k12 : k = 12
    · subst k12
      exact Or.inr (Or.inl ⟨8, by simp [tkT], by simp [z_L_supplierTakes_n, z_L_supplierIsCancelled_n, z_L_supplierHearsOfLoss_n, z_Deal_turn, z_Lender_isOut, hA, h17], by simp [s_takeSupplier, h23]⟩)
    by_cases k13 : k = 13
    · subst k13
      exact Or.inl ⟨by simp [z_L_supplierTakes_n, z_L_supplierIsCancelled_n, z_L_supplierHearsOfLoss_n, z_Deal_turn, z_Lender_isOut, hA, h17], by simp (decide := true) [s_takeSupplier, h23]⟩
    by_cases k14 : k = 14
    · subst k14
      exact absurd hout (by decide)
    by_cases k15 : k = 15
    · subst k15
      exact Or.inl ⟨by simp [z_L_supplierTakes_n, z_L_supplierIsCancelled_n, z_L_supplierHearsOfLoss_n, z_Deal_turn, z_Lender_isOut, hA, h17], by simp (decide := true) [s_takeSupplier, h23]⟩
    exact Or.inl ⟨by simp [z_L_supplierTakes_n, z_L_supplierIsCancelled_n, z_L_supplierHearsOfLoss_n, z_Deal_turn, z_Lender_isOut, hA, h17, k1, k2, k3, k4, k5, k6, k7, k8, k9, k10, k11, k12, k13, k14, k15], by simp (decide := true) [s_takeSupplier, h23, k1, k2, k3, k4, k5, k6, k7, k8, k9, k10, k11, k12, k13, k14, k15]⟩
  by_cases s7 : st = 7
  · subst s7
    by_cases k1 : k = 1
    · subst k1
      exact Or.inl ⟨by simp [z_L_supplierTakes_n, z_L_supplierIsCancelled_n, z_L_supplierHearsOfLoss_n, z_Deal_turn, z_Lender_isOut, hA, h17], by simp (decide := true) [s_takeSupplier, h23]⟩
    by_cases k2 : k = 2
    · subst k2
      exact Or.inl ⟨by simp [z_L_supplierTakes_n, z_L_supplierIsCancelled_n, z_L_supplierHearsOfLoss_n, z_Deal_turn, z_Lender_isOut, hA, h17], by simp (decide := true) [s_takeSupplier, h23]⟩
    by_cases k3 : k = 3
    · subst k3
      exact Or.inl ⟨by simp [z_L_supplierTakes_n, z_L_supplierIsCancelled_n, z_L_supplierHearsOfLoss_n, z_Deal_turn, z_Lender_isOut, hA, h17], by simp (decide := true) [s_takeSupplier, h23]⟩
    by_cases k4 : k = 4
    · subst k4
      exact Or.inl ⟨by simp [z_L_supplierTakes_n, z_L_supplierIsCancelled_n, z_L_supplierHearsOfLoss_n, z_Deal_turn, z_Lender_isOut, hA, h17], by simp (decide := true) [s_takeSupplier, h23]⟩
    by_cases k5 : k = 5
    · subst k5
      exact Or.inl ⟨by simp [z_L_supplierTakes_n, z_L_supplierIsCancelled_n, z_L_supplierHearsOfLoss_n, z_Deal_turn, z_Lender_isOut, hA, h17], by simp (decide := true) [s_takeSupplier, h23]⟩
    by_cases k6 : k = 6
    · subst k6
      exact Or.inl ⟨by simp [z_L_supplierTakes_n, z_L_supplierIsCancelled_n, z_L_supplierHearsOfLoss_n, z_Deal_turn, z_Lender_isOut, hA, h17], by simp (decide := true) [s_takeSupplier, h23]⟩
    by_cases k7 : k = 7
    · subst k7
      exact Or.inl ⟨by simp [z_L_supplierTakes_n, z_L_supplierIsCancelled_n, z_L_supplierHearsOfLoss_n, z_Deal_turn, z_Lender_isOut, hA, h17], by simp (decide := true) [s_takeSupplier, h23]⟩
    by_cases k8 : k = 8
    · subst k8
      exact Or.inl ⟨by simp [z_L_supplierTakes_n, z_L_supplierIsCancelled_n, z_L_supplierHearsOfLoss_n, z_Deal_turn, z_Lender_isOut, hA, h17], by simp (decide := true) [s_takeSupplier, h23]⟩
    by_cases k9 : k = 9
    · subst k9
      exact Or.inl ⟨by simp [z_L_supplierTakes_n, z_L_supplierIsCancelled_n, z_L_supplierHearsOfLoss_n, z_Deal_turn, z_Lender_isOut, hA, h17], by simp (decide := true) [s_takeSupplier, h23]⟩
    by_cases k10 : k = 10
    · subst k10
      exact Or.inl ⟨by simp [z_L_supplierTakes_n, z_L_supplierIsCancelled_n, z_L_supplierHearsOfLoss_n, z_Deal_turn, z_Lender_isOut, hA, h17], by simp (decide := true) [s_takeSupplier, h23]⟩
    by_cases k11 : k = 11
    · subst k11
      exact Or.inl ⟨by simp [z_L_supplierTakes_n, z_L_supplierIsCancelled_n, z_L_supplierHearsOfLoss_n, z_Deal_turn, z_Lender_isOut, hA, h17], by simp (decide := true) [s_takeSupplier, h23]⟩
    by_cases k12 : k = 12
    · subst k12
      exact Or.inr (Or.inl ⟨8, by simp [tkT], by simp [z_L_supplierTakes_n, z_L_supplierIsCancelled_n, z_L_supplierHearsOfLoss_n, z_Deal_turn, z_Lender_isOut, hA, h17], by simp [s_takeSupplier, h23]⟩)
    by_cases k13 : k = 13
    · subst k13
      exact Or.inl ⟨by simp [z_L_supplierTakes_n, z_L_supplierIsCancelled_n, z_L_supplierHearsOfLoss_n, z_Deal_turn, z_Lender_isOut, hA, h17], by simp (decide := true) [s_takeSupplier, h23]⟩
    by_cases k14 : k = 14
    · subst k14
      exact absurd hout (by decide)
    by_cases k15 : k = 15
    · subst k15
      exact Or.inl ⟨by simp [z_L_supplierTakes_n, z_L_supplierIsCancelled_n, z_L_supplierHearsOfLoss_n, z_Deal_turn, z_Lender_isOut, hA, h17], by simp (decide := true) [s_takeSupplier, h23]⟩
    exact Or.inl ⟨by simp [z_L_supplierTakes_n, z_L_supplierIsCancelled_n, z_L_supplierHearsOfLoss_n, z_Deal_turn, z_Lender_isOut, hA, h17, k1, k2, k3, k4, k5, k6, k7, k8, k9, k10, k11, k12, k13, k14, k15], by simp (decide := true) [s_takeSupplier, h23, k1, k2, k3, k4, k5, k6, k7, k8, k9, k10, k11, k12, k13, k14, k15]⟩
  by_cases k1 : k = 1
  · subst k1
    exact Or.inl ⟨by simp [z_L_supplierTakes_n, z_L_supplierIsCancelled_n, z_L_supplierHearsOfLoss_n, z_Deal_turn, z_Lender_isOut, hA, h17, s0, s1, s2, s3, s4, s5, s6, s7], by simp (decide := true) [s_takeSupplier, h23, s0, s1, s2, s3, s4, s5, s6, s7]⟩
  by_cases k2 : k = 2
  · subst k2
    exact Or.inl ⟨by simp [z_L_supplierTakes_n, z_L_supplierIsCancelled_n, z_L_supplierHearsOfLoss_n, z_Deal_turn, z_Lender_isOut, hA, h17, s0, s1, s2, s3, s4, s5, s6, s7], by simp (decide := true) [s_takeSupplier, h23, s0, s1, s2, s3, s4, s5, s6, s7]⟩
  by_cases k3 : k = 3
  · subst k3
    exact Or.inl ⟨by simp [z_L_supplierTakes_n, z_L_supplierIsCancelled_n, z_L_supplierHearsOfLoss_n, z_Deal_turn, z_Lender_isOut, hA, h17, s0, s1, s2, s3, s4, s5, s6, s7], by simp (decide := true) [s_takeSupplier, h23, s0, s1, s2, s3, s4, s5, s6, s7]⟩
  by_cases k4 : k = 4
  · subst k4
    exact Or.inl ⟨by simp [z_L_supplierTakes_n, z_L_supplierIsCancelled_n, z_L_supplierHearsOfLoss_n, z_Deal_turn, z_Lender_isOut, hA, h17, s0, s1, s2, s3, s4, s5, s6, s7], by simp (decide := true) [s_takeSupplier, h23, s0, s1, s2, s3, s4, s5, s6, s7]⟩
  by_cases k5 : k = 5
  · subst k5
    exact Or.inl ⟨by simp [z_L_supplierTakes_n, z_L_supplierIsCancelled_n, z_L_supplierHearsOfLoss_n, z_Deal_turn, z_Lender_isOut, hA, h17, s0, s1, s2, s3, s4, s5, s6, s7], by simp (decide := true) [s_takeSupplier, h23, s0, s1, s2, s3, s4, s5, s6, s7]⟩
  by_cases k6 : k = 6
  · subst k6
    exact Or.inl ⟨by simp [z_L_supplierTakes_n, z_L_supplierIsCancelled_n, z_L_supplierHearsOfLoss_n, z_Deal_turn, z_Lender_isOut, hA, h17, s0, s1, s2, s3, s4, s5, s6, s7], by simp (decide := true) [s_takeSupplier, h23, s0, s1, s2, s3, s4, s5, s6, s7]⟩
  by_cases k7 : k = 7
  · subst k7
    exact Or.inl ⟨by simp [z_L_supplierTakes_n, z_L_supplierIsCancelled_n, z_L_supplierHearsOfLoss_n, z_Deal_turn, z_Lender_isOut, hA, h17, s0, s1, s2, s3, s4, s5, s6, s7], by simp (decide := true) [s_takeSupplier, h23, s0, s1, s2, s3, s4, s5, s6, s7]⟩
  by_cases k8 : k = 8
  · subst k8
    exact Or.inl ⟨by simp [z_L_supplierTakes_n, z_L_supplierIsCancelled_n, z_L_supplierHearsOfLoss_n, z_Deal_turn, z_Lender_isOut, hA, h17, s0, s1, s2, s3, s4, s5, s6, s7], by simp (decide := true) [s_takeSupplier, h23, s0, s1, s2, s3, s4, s5, s6, s7]⟩
  by_cases k9 : k = 9
  · subst k9
    exact Or.inl ⟨by simp [z_L_supplierTakes_n, z_L_supplierIsCancelled_n, z_L_supplierHearsOfLoss_n, z_Deal_turn, z_Lender_isOut, hA, h17, s0, s1, s2, s3, s4, s5, s6, s7], by simp (decide := true) [s_takeSupplier, h23, s0, s1, s2, s3, s4, s5, s6, s7]⟩
  by_cases k10 : k = 10
  · subst k10
    exact Or.inl ⟨by simp [z_L_supplierTakes_n, z_L_supplierIsCancelled_n, z_L_supplierHearsOfLoss_n, z_Deal_turn, z_Lender_isOut, hA, h17, s0, s1, s2, s3, s4, s5, s6, s7], by simp (decide := true) [s_takeSupplier, h23, s0, s1, s2, s3, s4, s5, s6, s7]⟩
  by_cases k11 : k = 11
  · subst k11
    exact Or.inl ⟨by simp [z_L_supplierTakes_n, z_L_supplierIsCancelled_n, z_L_supplierHearsOfLoss_n, z_Deal_turn, z_Lender_isOut, hA, h17, s0, s1, s2, s3, s4, s5, s6, s7], by simp (decide := true) [s_takeSupplier, h23, s0, s1, s2, s3, s4, s5, s6, s7]⟩
  by_cases k12 : k = 12
  · subst k12
    exact Or.inl ⟨by simp [z_L_supplierTakes_n, z_L_supplierIsCancelled_n, z_L_supplierHearsOfLoss_n, z_Deal_turn, z_Lender_isOut, hA, h17, s0, s1, s2, s3, s4, s5, s6, s7], by simp (decide := true) [s_takeSupplier, h23, s0, s1, s2, s3, s4, s5, s6, s7]⟩
  by_cases k13 : k = 13
  · subst k13
    exact Or.inl ⟨by simp [z_L_supplierTakes_n, z_L_supplierIsCancelled_n, z_L_supplierHearsOfLoss_n, z_Deal_turn, z_Lender_isOut, hA, h17, s0, s1, s2, s3, s4, s5, s6, s7], by simp (decide := true) [s_takeSupplier, h23, s0, s1, s2, s3, s4, s5, s6, s7]⟩
  by_cases k14 : k = 14
  · subst k14
    exact Or.inl ⟨by simp [z_L_supplierTakes_n, z_L_supplierIsCancelled_n, z_L_supplierHearsOfLoss_n, z_Deal_turn, z_Lender_isOut, hA, h17, s0, s1, s2, s3, s4, s5, s6, s7], by simp (decide := true) [s_takeSupplier, h23, s0, s1, s2, s3, s4, s5, s6, s7]⟩
  by_cases k15 : k = 15
  · subst k15
    refine Or.inl ⟨by simp [z_L_supplierTakes_n, z_L_supplierIsCancelled_n, z_L_supplierHearsOfLoss_n, z_Deal_turn, z_Lender_isOut, hA, h17, s0, s1, s2, s3, s4, s5, s6, s7], ?_⟩
    by_cases q1 : st ≤ 0
    · simp [s_takeSupplier, h23, s0, s1, s2, s3, s4, s5, s6, s7, q1]
    · by_cases q2 : 4 ≤ st
      · simp [s_takeSupplier, h23, s0, s1, s2, s3, s4, s5, s6, s7, q1, q2]
      · rcases i3_123 q1 q2 with h | h | h
        · exact absurd h s1
        · exact absurd h s2
        · exact absurd h s3
  exact Or.inl ⟨by simp [z_L_supplierTakes_n, z_L_supplierIsCancelled_n, z_L_supplierHearsOfLoss_n, z_Deal_turn, z_Lender_isOut, hA, h17, k1, k2, k3, k4, k5, k6, k7, k8, k9, k10, k11, k12, k13, k14, k15, s0, s1, s2, s3, s4, s5, s6, s7], by simp (decide := true) [s_takeSupplier, h23, k1, k2, k3, k4, k5, k6, k7, k8, k9, k10, k11, k12, k13, k14, k15, s0, s1, s2, s3, s4, s5, s6, s7]⟩
set_option maxHeartbeats 4000000 in
theorem tk_norm_c {A B : ew_R} {d ln t g n w lg : Nat} {cp b : Nat} {st k : Int32} (hA : A 6 t 1 = k) (h17 : A 17 d 0 = st) (h23 : B 23 0 d = st) : tkR A B d ln g n w lg st k (z_L_supplierTakes_c A d t g n w cp b) (up3 (up3 (up3 A 1 cp 3 (-1)) 17 d 0 12) 11 0 b ((A 11 0 b) + 4000)) (up3 A 1 cp 3 (-1)) (s_takeSupplier B ln d k w lg) := by
  by_cases s0 : st = 0
  · subst s0
    by_cases k1 : k = 1
    · subst k1
      exact Or.inr (Or.inl ⟨1, by simp [tkT], by simp [z_L_supplierTakes_c, z_L_supplierIsCancelled_c, z_L_supplierHearsOfLoss_c, z_Deal_turn, z_Lender_isOut, hA, h17], by simp [s_takeSupplier, h23]⟩)
    by_cases k2 : k = 2
    · subst k2
      exact Or.inl ⟨by simp [z_L_supplierTakes_c, z_L_supplierIsCancelled_c, z_L_supplierHearsOfLoss_c, z_Deal_turn, z_Lender_isOut, hA, h17], by simp (decide := true) [s_takeSupplier, h23]⟩
    by_cases k3 : k = 3
    · subst k3
      exact Or.inl ⟨by simp [z_L_supplierTakes_c, z_L_supplierIsCancelled_c, z_L_supplierHearsOfLoss_c, z_Deal_turn, z_Lender_isOut, hA, h17], by simp (decide := true) [s_takeSupplier, h23]⟩
    by_cases k4 : k = 4
    · subst k4
      exact Or.inl ⟨by simp [z_L_supplierTakes_c, z_L_supplierIsCancelled_c, z_L_supplierHearsOfLoss_c, z_Deal_turn, z_Lender_isOut, hA, h17], by simp (decide := true) [s_takeSupplier, h23]⟩
    by_cases k5 : k = 5
    · subst k5
      exact Or.inl ⟨by simp [z_L_supplierTakes_c, z_L_supplierIsCancelled_c, z_L_supplierHearsOfLoss_c, z_Deal_turn, z_Lender_isOut, hA, h17], by simp (decide := true) [s_takeSupplier, h23]⟩
    by_cases k6 : k = 6
    · subst k6
      exact Or.inl ⟨by simp [z_L_supplierTakes_c, z_L_supplierIsCancelled_c, z_L_supplierHearsOfLoss_c, z_Deal_turn, z_Lender_isOut, hA, h17], by simp (decide := true) [s_takeSupplier, h23]⟩
    by_cases k7 : k = 7
    · subst k7
      exact Or.inl ⟨by simp [z_L_supplierTakes_c, z_L_supplierIsCancelled_c, z_L_supplierHearsOfLoss_c, z_Deal_turn, z_Lender_isOut, hA, h17], by simp (decide := true) [s_takeSupplier, h23]⟩
    by_cases k8 : k = 8
    · subst k8
      exact Or.inl ⟨by simp [z_L_supplierTakes_c, z_L_supplierIsCancelled_c, z_L_supplierHearsOfLoss_c, z_Deal_turn, z_Lender_isOut, hA, h17], by simp (decide := true) [s_takeSupplier, h23]⟩
    by_cases k9 : k = 9
    · subst k9
      exact Or.inl ⟨by simp [z_L_supplierTakes_c, z_L_supplierIsCancelled_c, z_L_supplierHearsOfLoss_c, z_Deal_turn, z_Lender_isOut, hA, h17], by simp (decide := true) [s_takeSupplier, h23]⟩
    by_cases k10 : k = 10
    · subst k10
      exact Or.inl ⟨by simp [z_L_supplierTakes_c, z_L_supplierIsCancelled_c, z_L_supplierHearsOfLoss_c, z_Deal_turn, z_Lender_isOut, hA, h17], by simp (decide := true) [s_takeSupplier, h23]⟩
    by_cases k11 : k = 11
    · subst k11
      exact Or.inl ⟨by simp [z_L_supplierTakes_c, z_L_supplierIsCancelled_c, z_L_supplierHearsOfLoss_c, z_Deal_turn, z_Lender_isOut, hA, h17], by simp (decide := true) [s_takeSupplier, h23]⟩
    by_cases k12 : k = 12
    · subst k12
      exact Or.inl ⟨by simp [z_L_supplierTakes_c, z_L_supplierIsCancelled_c, z_L_supplierHearsOfLoss_c, z_Deal_turn, z_Lender_isOut, hA, h17], by simp (decide := true) [s_takeSupplier, h23]⟩
    by_cases k13 : k = 13
    · subst k13
      exact Or.inl ⟨by simp [z_L_supplierTakes_c, z_L_supplierIsCancelled_c, z_L_supplierHearsOfLoss_c, z_Deal_turn, z_Lender_isOut, hA, h17], by simp (decide := true) [s_takeSupplier, h23]⟩
    by_cases k14 : k = 14
    · subst k14
      exact Or.inl ⟨by simp [z_L_supplierTakes_c, z_L_supplierIsCancelled_c, z_L_supplierHearsOfLoss_c, z_Deal_turn, z_Lender_isOut, hA, h17], by simp (decide := true) [s_takeSupplier, h23]⟩
    by_cases k15 : k = 15
    · subst k15
      exact Or.inl ⟨by simp [z_L_supplierTakes_c, z_L_supplierIsCancelled_c, z_L_supplierHearsOfLoss_c, z_Deal_turn, z_Lender_isOut, hA, h17], by simp (decide := true) [s_takeSupplier, h23]⟩
    exact Or.inl ⟨by simp [z_L_supplierTakes_c, z_L_supplierIsCancelled_c, z_L_supplierHearsOfLoss_c, z_Deal_turn, z_Lender_isOut, hA, h17, k1, k2, k3, k4, k5, k6, k7, k8, k9, k10, k11, k12, k13, k14, k15], by simp (decide := true) [s_takeSupplier, h23, k1, k2, k3, k4, k5, k6, k7, k8, k9, k10, k11, k12, k13, k14, k15]⟩
  by_cases s1 : st = 1
  · subst s1
    by_cases k1 : k = 1
    · subst k1
      exact Or.inl ⟨by simp [z_L_supplierTakes_c, z_L_supplierIsCancelled_c, z_L_supplierHearsOfLoss_c, z_Deal_turn, z_Lender_isOut, hA, h17], by simp (decide := true) [s_takeSupplier, h23]⟩
    by_cases k2 : k = 2
    · subst k2
      exact Or.inl ⟨by simp [z_L_supplierTakes_c, z_L_supplierIsCancelled_c, z_L_supplierHearsOfLoss_c, z_Deal_turn, z_Lender_isOut, hA, h17], by simp (decide := true) [s_takeSupplier, h23]⟩
    by_cases k3 : k = 3
    · subst k3
      exact Or.inl ⟨by simp [z_L_supplierTakes_c, z_L_supplierIsCancelled_c, z_L_supplierHearsOfLoss_c, z_Deal_turn, z_Lender_isOut, hA, h17], by simp (decide := true) [s_takeSupplier, h23]⟩
    by_cases k4 : k = 4
    · subst k4
      exact Or.inl ⟨by simp [z_L_supplierTakes_c, z_L_supplierIsCancelled_c, z_L_supplierHearsOfLoss_c, z_Deal_turn, z_Lender_isOut, hA, h17], by simp (decide := true) [s_takeSupplier, h23]⟩
    by_cases k5 : k = 5
    · subst k5
      exact Or.inl ⟨by simp [z_L_supplierTakes_c, z_L_supplierIsCancelled_c, z_L_supplierHearsOfLoss_c, z_Deal_turn, z_Lender_isOut, hA, h17], by simp (decide := true) [s_takeSupplier, h23]⟩
    by_cases k6 : k = 6
    · subst k6
      exact Or.inl ⟨by simp [z_L_supplierTakes_c, z_L_supplierIsCancelled_c, z_L_supplierHearsOfLoss_c, z_Deal_turn, z_Lender_isOut, hA, h17], by simp (decide := true) [s_takeSupplier, h23]⟩
    by_cases k7 : k = 7
    · subst k7
      exact Or.inl ⟨by simp [z_L_supplierTakes_c, z_L_supplierIsCancelled_c, z_L_supplierHearsOfLoss_c, z_Deal_turn, z_Lender_isOut, hA, h17], by simp (decide := true) [s_takeSupplier, h23]⟩
    by_cases k8 : k = 8
    · subst k8
      exact Or.inl ⟨by simp [z_L_supplierTakes_c, z_L_supplierIsCancelled_c, z_L_supplierHearsOfLoss_c, z_Deal_turn, z_Lender_isOut, hA, h17], by simp (decide := true) [s_takeSupplier, h23]⟩
    by_cases k9 : k = 9
    · subst k9
      exact Or.inl ⟨by simp [z_L_supplierTakes_c, z_L_supplierIsCancelled_c, z_L_supplierHearsOfLoss_c, z_Deal_turn, z_Lender_isOut, hA, h17], by simp (decide := true) [s_takeSupplier, h23]⟩
    by_cases k10 : k = 10
    · subst k10
      exact Or.inl ⟨by simp [z_L_supplierTakes_c, z_L_supplierIsCancelled_c, z_L_supplierHearsOfLoss_c, z_Deal_turn, z_Lender_isOut, hA, h17], by simp (decide := true) [s_takeSupplier, h23]⟩
    by_cases k11 : k = 11
    · subst k11
      exact Or.inl ⟨by simp [z_L_supplierTakes_c, z_L_supplierIsCancelled_c, z_L_supplierHearsOfLoss_c, z_Deal_turn, z_Lender_isOut, hA, h17], by simp (decide := true) [s_takeSupplier, h23]⟩
    by_cases k12 : k = 12
    · subst k12
      exact Or.inl ⟨by simp [z_L_supplierTakes_c, z_L_supplierIsCancelled_c, z_L_supplierHearsOfLoss_c, z_Deal_turn, z_Lender_isOut, hA, h17], by simp (decide := true) [s_takeSupplier, h23]⟩
    by_cases k13 : k = 13
    · subst k13
      exact Or.inl ⟨by simp [z_L_supplierTakes_c, z_L_supplierIsCancelled_c, z_L_supplierHearsOfLoss_c, z_Deal_turn, z_Lender_isOut, hA, h17], by simp (decide := true) [s_takeSupplier, h23]⟩
    by_cases k14 : k = 14
    · subst k14
      exact Or.inl ⟨by simp [z_L_supplierTakes_c, z_L_supplierIsCancelled_c, z_L_supplierHearsOfLoss_c, z_Deal_turn, z_Lender_isOut, hA, h17], by simp (decide := true) [s_takeSupplier, h23]⟩
    by_cases k15 : k = 15
    · subst k15
      exact Or.inr (Or.inr (Or.inr ⟨rfl, by simp, by simp [z_L_supplierTakes_c, z_L_supplierIsCancelled_c, z_L_supplierHearsOfLoss_c, z_Deal_turn, z_Lender_isOut, hA, h17], by simp (decide := true) [s_takeSupplier, h23]⟩))
    exact Or.inl ⟨by simp [z_L_supplierTakes_c, z_L_supplierIsCancelled_c, z_L_supplierHearsOfLoss_c, z_Deal_turn, z_Lender_isOut, hA, h17, k1, k2, k3, k4, k5, k6, k7, k8, k9, k10, k11, k12, k13, k14, k15], by simp (decide := true) [s_takeSupplier, h23, k1, k2, k3, k4, k5, k6, k7, k8, k9, k10, k11, k12, k13, k14, k15]⟩
  by_cases s2 : st = 2
  · subst s2
    by_cases k1 : k = 1
    · subst k1
      exact Or.inl ⟨by simp [z_L_supplierTakes_c, z_L_supplierIsCancelled_c, z_L_supplierHearsOfLoss_c, z_Deal_turn, z_Lender_isOut, hA, h17], by simp (decide := true) [s_takeSupplier, h23]⟩
    by_cases k2 : k = 2
    · subst k2
      exact Or.inl ⟨by simp [z_L_supplierTakes_c, z_L_supplierIsCancelled_c, z_L_supplierHearsOfLoss_c, z_Deal_turn, z_Lender_isOut, hA, h17], by simp (decide := true) [s_takeSupplier, h23]⟩
    by_cases k3 : k = 3
    · subst k3
      exact Or.inl ⟨by simp [z_L_supplierTakes_c, z_L_supplierIsCancelled_c, z_L_supplierHearsOfLoss_c, z_Deal_turn, z_Lender_isOut, hA, h17], by simp (decide := true) [s_takeSupplier, h23]⟩
    by_cases k4 : k = 4
    · subst k4
      exact Or.inl ⟨by simp [z_L_supplierTakes_c, z_L_supplierIsCancelled_c, z_L_supplierHearsOfLoss_c, z_Deal_turn, z_Lender_isOut, hA, h17], by simp (decide := true) [s_takeSupplier, h23]⟩
    by_cases k5 : k = 5
    · subst k5
      exact Or.inr (Or.inl ⟨1, by simp [tkT], by simp [z_L_supplierTakes_c, z_L_supplierIsCancelled_c, z_L_supplierHearsOfLoss_c, z_Deal_turn, z_Lender_isOut, hA, h17], by simp [s_takeSupplier, h23]⟩)
    by_cases k6 : k = 6
    · subst k6
      exact Or.inr (Or.inl ⟨10, by simp [tkT], by simp [z_L_supplierTakes_c, z_L_supplierIsCancelled_c, z_L_supplierHearsOfLoss_c, z_Deal_turn, z_Lender_isOut, hA, h17], by simp [s_takeSupplier, h23]⟩)
    by_cases k7 : k = 7
    · subst k7
      exact Or.inl ⟨by simp [z_L_supplierTakes_c, z_L_supplierIsCancelled_c, z_L_supplierHearsOfLoss_c, z_Deal_turn, z_Lender_isOut, hA, h17], by simp (decide := true) [s_takeSupplier, h23]⟩
    by_cases k8 : k = 8
    · subst k8
      exact Or.inl ⟨by simp [z_L_supplierTakes_c, z_L_supplierIsCancelled_c, z_L_supplierHearsOfLoss_c, z_Deal_turn, z_Lender_isOut, hA, h17], by simp (decide := true) [s_takeSupplier, h23]⟩
    by_cases k9 : k = 9
    · subst k9
      exact Or.inl ⟨by simp [z_L_supplierTakes_c, z_L_supplierIsCancelled_c, z_L_supplierHearsOfLoss_c, z_Deal_turn, z_Lender_isOut, hA, h17], by simp (decide := true) [s_takeSupplier, h23]⟩
    by_cases k10 : k = 10
    · subst k10
      exact Or.inl ⟨by simp [z_L_supplierTakes_c, z_L_supplierIsCancelled_c, z_L_supplierHearsOfLoss_c, z_Deal_turn, z_Lender_isOut, hA, h17], by simp (decide := true) [s_takeSupplier, h23]⟩
    by_cases k11 : k = 11
    · subst k11
      exact Or.inl ⟨by simp [z_L_supplierTakes_c, z_L_supplierIsCancelled_c, z_L_supplierHearsOfLoss_c, z_Deal_turn, z_Lender_isOut, hA, h17], by simp (decide := true) [s_takeSupplier, h23]⟩
    by_cases k12 : k = 12
    · subst k12
      exact Or.inl ⟨by simp [z_L_supplierTakes_c, z_L_supplierIsCancelled_c, z_L_supplierHearsOfLoss_c, z_Deal_turn, z_Lender_isOut, hA, h17], by simp (decide := true) [s_takeSupplier, h23]⟩
    by_cases k13 : k = 13
    · subst k13
      exact Or.inl ⟨by simp [z_L_supplierTakes_c, z_L_supplierIsCancelled_c, z_L_supplierHearsOfLoss_c, z_Deal_turn, z_Lender_isOut, hA, h17], by simp (decide := true) [s_takeSupplier, h23]⟩
    by_cases k14 : k = 14
    · subst k14
      exact Or.inl ⟨by simp [z_L_supplierTakes_c, z_L_supplierIsCancelled_c, z_L_supplierHearsOfLoss_c, z_Deal_turn, z_Lender_isOut, hA, h17], by simp (decide := true) [s_takeSupplier, h23]⟩
    by_cases k15 : k = 15
    · subst k15
      exact Or.inr (Or.inr (Or.inr ⟨rfl, by simp, by simp [z_L_supplierTakes_c, z_L_supplierIsCancelled_c, z_L_supplierHearsOfLoss_c, z_Deal_turn, z_Lender_isOut, hA, h17], by simp (decide := true) [s_takeSupplier, h23]⟩))
    exact Or.inl ⟨by simp [z_L_supplierTakes_c, z_L_supplierIsCancelled_c, z_L_supplierHearsOfLoss_c, z_Deal_turn, z_Lender_isOut, hA, h17, k1, k2, k3, k4, k5, k6, k7, k8, k9, k10, k11, k12, k13, k14, k15], by simp (decide := true) [s_takeSupplier, h23, k1, k2, k3, k4, k5, k6, k7, k8, k9, k10, k11, k12, k13, k14, k15]⟩
  by_cases s3 : st = 3
  · subst s3
    by_cases k1 : k = 1
    · subst k1
      exact Or.inl ⟨by simp [z_L_supplierTakes_c, z_L_supplierIsCancelled_c, z_L_supplierHearsOfLoss_c, z_Deal_turn, z_Lender_isOut, hA, h17], by simp (decide := true) [s_takeSupplier, h23]⟩
    by_cases k2 : k = 2
    · subst k2
      exact Or.inl ⟨by simp [z_L_supplierTakes_c, z_L_supplierIsCancelled_c, z_L_supplierHearsOfLoss_c, z_Deal_turn, z_Lender_isOut, hA, h17], by simp (decide := true) [s_takeSupplier, h23]⟩
    by_cases k3 : k = 3
    · subst k3
      exact Or.inl ⟨by simp [z_L_supplierTakes_c, z_L_supplierIsCancelled_c, z_L_supplierHearsOfLoss_c, z_Deal_turn, z_Lender_isOut, hA, h17], by simp (decide := true) [s_takeSupplier, h23]⟩
    by_cases k4 : k = 4
    · subst k4
      exact Or.inl ⟨by simp [z_L_supplierTakes_c, z_L_supplierIsCancelled_c, z_L_supplierHearsOfLoss_c, z_Deal_turn, z_Lender_isOut, hA, h17], by simp (decide := true) [s_takeSupplier, h23]⟩
    by_cases k5 : k = 5
    · subst k5
      exact Or.inl ⟨by simp [z_L_supplierTakes_c, z_L_supplierIsCancelled_c, z_L_supplierHearsOfLoss_c, z_Deal_turn, z_Lender_isOut, hA, h17], by simp (decide := true) [s_takeSupplier, h23]⟩
    by_cases k6 : k = 6
    · subst k6
      exact Or.inl ⟨by simp [z_L_supplierTakes_c, z_L_supplierIsCancelled_c, z_L_supplierHearsOfLoss_c, z_Deal_turn, z_Lender_isOut, hA, h17], by simp (decide := true) [s_takeSupplier, h23]⟩
    by_cases k7 : k = 7
    · subst k7
      exact Or.inl ⟨by simp [z_L_supplierTakes_c, z_L_supplierIsCancelled_c, z_L_supplierHearsOfLoss_c, z_Deal_turn, z_Lender_isOut, hA, h17], by simp (decide := true) [s_takeSupplier, h23]⟩
    by_cases k8 : k = 8
    · subst k8
      exact Or.inl ⟨by simp [z_L_supplierTakes_c, z_L_supplierIsCancelled_c, z_L_supplierHearsOfLoss_c, z_Deal_turn, z_Lender_isOut, hA, h17], by simp (decide := true) [s_takeSupplier, h23]⟩
    by_cases k9 : k = 9
    · subst k9
      exact Or.inl ⟨by simp [z_L_supplierTakes_c, z_L_supplierIsCancelled_c, z_L_supplierHearsOfLoss_c, z_Deal_turn, z_Lender_isOut, hA, h17], by simp (decide := true) [s_takeSupplier, h23]⟩
    by_cases k10 : k = 10
    · subst k10
      exact Or.inl ⟨by simp [z_L_supplierTakes_c, z_L_supplierIsCancelled_c, z_L_supplierHearsOfLoss_c, z_Deal_turn, z_Lender_isOut, hA, h17], by simp (decide := true) [s_takeSupplier, h23]⟩
    by_cases k11 : k = 11
    · subst k11
      exact Or.inl ⟨by simp [z_L_supplierTakes_c, z_L_supplierIsCancelled_c, z_L_supplierHearsOfLoss_c, z_Deal_turn, z_Lender_isOut, hA, h17], by simp (decide := true) [s_takeSupplier, h23]⟩
    by_cases k12 : k = 12
    · subst k12
      exact Or.inl ⟨by simp [z_L_supplierTakes_c, z_L_supplierIsCancelled_c, z_L_supplierHearsOfLoss_c, z_Deal_turn, z_Lender_isOut, hA, h17], by simp (decide := true) [s_takeSupplier, h23]⟩
    by_cases k13 : k = 13
    · subst k13
      exact Or.inl ⟨by simp [z_L_supplierTakes_c, z_L_supplierIsCancelled_c, z_L_supplierHearsOfLoss_c, z_Deal_turn, z_Lender_isOut, hA, h17], by simp (decide := true) [s_takeSupplier, h23]⟩
    by_cases k14 : k = 14
    · subst k14
      exact Or.inl ⟨by simp [z_L_supplierTakes_c, z_L_supplierIsCancelled_c, z_L_supplierHearsOfLoss_c, z_Deal_turn, z_Lender_isOut, hA, h17], by simp (decide := true) [s_takeSupplier, h23]⟩
    by_cases k15 : k = 15
    · subst k15
      exact Or.inr (Or.inr (Or.inr ⟨rfl, by simp, by simp [z_L_supplierTakes_c, z_L_supplierIsCancelled_c, z_L_supplierHearsOfLoss_c, z_Deal_turn, z_Lender_isOut, hA, h17], by simp (decide := true) [s_takeSupplier, h23]⟩))
    exact Or.inl ⟨by simp [z_L_supplierTakes_c, z_L_supplierIsCancelled_c, z_L_supplierHearsOfLoss_c, z_Deal_turn, z_Lender_isOut, hA, h17, k1, k2, k3, k4, k5, k6, k7, k8, k9, k10, k11, k12, k13, k14, k15], by simp (decide := true) [s_takeSupplier, h23, k1, k2, k3, k4, k5, k6, k7, k8, k9, k10, k11, k12, k13, k14, k15]⟩
  by_cases s4 : st = 4
  · subst s4
    by_cases k1 : k = 1
    · subst k1
      exact Or.inl ⟨by simp [z_L_supplierTakes_c, z_L_supplierIsCancelled_c, z_L_supplierHearsOfLoss_c, z_Deal_turn, z_Lender_isOut, hA, h17], by simp (decide := true) [s_takeSupplier, h23]⟩
    by_cases k2 : k = 2
    · subst k2
      exact Or.inl ⟨by simp [z_L_supplierTakes_c, z_L_supplierIsCancelled_c, z_L_supplierHearsOfLoss_c, z_Deal_turn, z_Lender_isOut, hA, h17], by simp (decide := true) [s_takeSupplier, h23]⟩
    by_cases k3 : k = 3
    · subst k3
      exact Or.inl ⟨by simp [z_L_supplierTakes_c, z_L_supplierIsCancelled_c, z_L_supplierHearsOfLoss_c, z_Deal_turn, z_Lender_isOut, hA, h17], by simp (decide := true) [s_takeSupplier, h23]⟩
    by_cases k4 : k = 4
    · subst k4
      exact Or.inl ⟨by simp [z_L_supplierTakes_c, z_L_supplierIsCancelled_c, z_L_supplierHearsOfLoss_c, z_Deal_turn, z_Lender_isOut, hA, h17], by simp (decide := true) [s_takeSupplier, h23]⟩
    by_cases k5 : k = 5
    · subst k5
      exact Or.inl ⟨by simp [z_L_supplierTakes_c, z_L_supplierIsCancelled_c, z_L_supplierHearsOfLoss_c, z_Deal_turn, z_Lender_isOut, hA, h17], by simp (decide := true) [s_takeSupplier, h23]⟩
    by_cases k6 : k = 6
    · subst k6
      exact Or.inl ⟨by simp [z_L_supplierTakes_c, z_L_supplierIsCancelled_c, z_L_supplierHearsOfLoss_c, z_Deal_turn, z_Lender_isOut, hA, h17], by simp (decide := true) [s_takeSupplier, h23]⟩
    by_cases k7 : k = 7
    · subst k7
      exact Or.inl ⟨by simp [z_L_supplierTakes_c, z_L_supplierIsCancelled_c, z_L_supplierHearsOfLoss_c, z_Deal_turn, z_Lender_isOut, hA, h17], by simp (decide := true) [s_takeSupplier, h23]⟩
    by_cases k8 : k = 8
    · subst k8
      exact Or.inr (Or.inl ⟨5, by simp [tkT], by simp [z_L_supplierTakes_c, z_L_supplierIsCancelled_c, z_L_supplierHearsOfLoss_c, z_Deal_turn, z_Lender_isOut, hA, h17], by simp [s_takeSupplier, h23]⟩)
    by_cases k9 : k = 9
    · subst k9
      exact Or.inl ⟨by simp [z_L_supplierTakes_c, z_L_supplierIsCancelled_c, z_L_supplierHearsOfLoss_c, z_Deal_turn, z_Lender_isOut, hA, h17], by simp (decide := true) [s_takeSupplier, h23]⟩
    by_cases k10 : k = 10
    · subst k10
      exact Or.inl ⟨by simp [z_L_supplierTakes_c, z_L_supplierIsCancelled_c, z_L_supplierHearsOfLoss_c, z_Deal_turn, z_Lender_isOut, hA, h17], by simp (decide := true) [s_takeSupplier, h23]⟩
    by_cases k11 : k = 11
    · subst k11
      exact Or.inl ⟨by simp [z_L_supplierTakes_c, z_L_supplierIsCancelled_c, z_L_supplierHearsOfLoss_c, z_Deal_turn, z_Lender_isOut, hA, h17], by simp (decide := true) [s_takeSupplier, h23]⟩
    by_cases k12 : k = 12
    · subst k12
      exact Or.inl ⟨by simp [z_L_supplierTakes_c, z_L_supplierIsCancelled_c, z_L_supplierHearsOfLoss_c, z_Deal_turn, z_Lender_isOut, hA, h17], by simp (decide := true) [s_takeSupplier, h23]⟩
    by_cases k13 : k = 13
    · subst k13
      exact Or.inl ⟨by simp [z_L_supplierTakes_c, z_L_supplierIsCancelled_c, z_L_supplierHearsOfLoss_c, z_Deal_turn, z_Lender_isOut, hA, h17], by simp (decide := true) [s_takeSupplier, h23]⟩
    by_cases k14 : k = 14
    · subst k14
      exact Or.inl ⟨by simp [z_L_supplierTakes_c, z_L_supplierIsCancelled_c, z_L_supplierHearsOfLoss_c, z_Deal_turn, z_Lender_isOut, hA, h17], by simp (decide := true) [s_takeSupplier, h23]⟩
    by_cases k15 : k = 15
    · subst k15
      exact Or.inl ⟨by simp [z_L_supplierTakes_c, z_L_supplierIsCancelled_c, z_L_supplierHearsOfLoss_c, z_Deal_turn, z_Lender_isOut, hA, h17], by simp (decide := true) [s_takeSupplier, h23]⟩
    exact Or.inl ⟨by simp [z_L_supplierTakes_c, z_L_supplierIsCancelled_c, z_L_supplierHearsOfLoss_c, z_Deal_turn, z_Lender_isOut, hA, h17, k1, k2, k3, k4, k5, k6, k7, k8, k9, k10, k11, k12, k13, k14, k15], by simp (decide := true) [s_takeSupplier, h23, k1, k2, k3, k4, k5, k6, k7, k8, k9, k10, k11, k12, k13, k14, k15]⟩
  by_cases s5 : st = 5
  · subst s5
    by_cases k1 : k = 1
    · subst k1
      exact Or.inl ⟨by simp [z_L_supplierTakes_c, z_L_supplierIsCancelled_c, z_L_supplierHearsOfLoss_c, z_Deal_turn, z_Lender_isOut, hA, h17], by simp (decide := true) [s_takeSupplier, h23]⟩
    by_cases k2 : k = 2
    · subst k2
      exact Or.inl ⟨by simp [z_L_supplierTakes_c, z_L_supplierIsCancelled_c, z_L_supplierHearsOfLoss_c, z_Deal_turn, z_Lender_isOut, hA, h17], by simp (decide := true) [s_takeSupplier, h23]⟩
    by_cases k3 : k = 3
    · subst k3
      exact Or.inl ⟨by simp [z_L_supplierTakes_c, z_L_supplierIsCancelled_c, z_L_supplierHearsOfLoss_c, z_Deal_turn, z_Lender_isOut, hA, h17], by simp (decide := true) [s_takeSupplier, h23]⟩
    by_cases k4 : k = 4
    · subst k4
      exact Or.inl ⟨by simp [z_L_supplierTakes_c, z_L_supplierIsCancelled_c, z_L_supplierHearsOfLoss_c, z_Deal_turn, z_Lender_isOut, hA, h17], by simp (decide := true) [s_takeSupplier, h23]⟩
    by_cases k5 : k = 5
    · subst k5
      exact Or.inl ⟨by simp [z_L_supplierTakes_c, z_L_supplierIsCancelled_c, z_L_supplierHearsOfLoss_c, z_Deal_turn, z_Lender_isOut, hA, h17], by simp (decide := true) [s_takeSupplier, h23]⟩
    by_cases k6 : k = 6
    · subst k6
      exact Or.inl ⟨by simp [z_L_supplierTakes_c, z_L_supplierIsCancelled_c, z_L_supplierHearsOfLoss_c, z_Deal_turn, z_Lender_isOut, hA, h17], by simp (decide := true) [s_takeSupplier, h23]⟩
    by_cases k7 : k = 7
    · subst k7
      exact Or.inl ⟨by simp [z_L_supplierTakes_c, z_L_supplierIsCancelled_c, z_L_supplierHearsOfLoss_c, z_Deal_turn, z_Lender_isOut, hA, h17], by simp (decide := true) [s_takeSupplier, h23]⟩
    by_cases k8 : k = 8
    · subst k8
      exact Or.inl ⟨by simp [z_L_supplierTakes_c, z_L_supplierIsCancelled_c, z_L_supplierHearsOfLoss_c, z_Deal_turn, z_Lender_isOut, hA, h17], by simp (decide := true) [s_takeSupplier, h23]⟩
    by_cases k9 : k = 9
    · subst k9
      exact Or.inr (Or.inl ⟨6, by simp [tkT], by simp [z_L_supplierTakes_c, z_L_supplierIsCancelled_c, z_L_supplierHearsOfLoss_c, z_Deal_turn, z_Lender_isOut, hA, h17], by simp [s_takeSupplier, h23]⟩)
    by_cases k10 : k = 10
    · subst k10
      exact Or.inl ⟨by simp [z_L_supplierTakes_c, z_L_supplierIsCancelled_c, z_L_supplierHearsOfLoss_c, z_Deal_turn, z_Lender_isOut, hA, h17], by simp (decide := true) [s_takeSupplier, h23]⟩
    by_cases k11 : k = 11
    · subst k11
      exact Or.inl ⟨by simp [z_L_supplierTakes_c, z_L_supplierIsCancelled_c, z_L_supplierHearsOfLoss_c, z_Deal_turn, z_Lender_isOut, hA, h17], by simp (decide := true) [s_takeSupplier, h23]⟩
    by_cases k12 : k = 12
    · subst k12
      exact Or.inr (Or.inl ⟨8, by simp [tkT], by simp [z_L_supplierTakes_c, z_L_supplierIsCancelled_c, z_L_supplierHearsOfLoss_c, z_Deal_turn, z_Lender_isOut, hA, h17], by simp [s_takeSupplier, h23]⟩)
    by_cases k13 : k = 13
    · subst k13
      exact Or.inl ⟨by simp [z_L_supplierTakes_c, z_L_supplierIsCancelled_c, z_L_supplierHearsOfLoss_c, z_Deal_turn, z_Lender_isOut, hA, h17], by simp (decide := true) [s_takeSupplier, h23]⟩
    by_cases k14 : k = 14
    · subst k14
      exact Or.inr (Or.inr (Or.inl ⟨rfl, by simp, by simp [z_L_supplierTakes_c, z_L_supplierIsCancelled_c, z_L_supplierHearsOfLoss_c, z_Deal_turn, z_Lender_isOut, hA, h17], by simp [s_takeSupplier, h23]⟩))
    by_cases k15 : k = 15
    · subst k15
      exact Or.inl ⟨by simp [z_L_supplierTakes_c, z_L_supplierIsCancelled_c, z_L_supplierHearsOfLoss_c, z_Deal_turn, z_Lender_isOut, hA, h17], by simp (decide := true) [s_takeSupplier, h23]⟩
    exact Or.inl ⟨by simp [z_L_supplierTakes_c, z_L_supplierIsCancelled_c, z_L_supplierHearsOfLoss_c, z_Deal_turn, z_Lender_isOut, hA, h17, k1, k2, k3, k4, k5, k6, k7, k8, k9, k10, k11, k12, k13, k14, k15], by simp (decide := true) [s_takeSupplier, h23, k1, k2, k3, k4, k5, k6, k7, k8, k9, k10, k11, k12, k13, k14, k15]⟩
  by_cases s6 : st = 6
  · subst s6
    by_cases k1 : k = 1
    · subst k1
      exact Or.inl ⟨by simp [z_L_supplierTakes_c, z_L_supplierIsCancelled_c, z_L_supplierHearsOfLoss_c, z_Deal_turn, z_Lender_isOut, hA, h17], by simp (decide := true) [s_takeSupplier, h23]⟩
    by_cases k2 : k = 2
    · subst k2
      exact Or.inl ⟨by simp [z_L_supplierTakes_c, z_L_supplierIsCancelled_c, z_L_supplierHearsOfLoss_c, z_Deal_turn, z_Lender_isOut, hA, h17], by simp (decide := true) [s_takeSupplier, h23]⟩
    by_cases k3 : k = 3
    · subst k3
      exact Or.inl ⟨by simp [z_L_supplierTakes_c, z_L_supplierIsCancelled_c, z_L_supplierHearsOfLoss_c, z_Deal_turn, z_Lender_isOut, hA, h17], by simp (decide := true) [s_takeSupplier, h23]⟩
    by_cases k4 : k = 4
    · subst k4
      exact Or.inl ⟨by simp [z_L_supplierTakes_c, z_L_supplierIsCancelled_c, z_L_supplierHearsOfLoss_c, z_Deal_turn, z_Lender_isOut, hA, h17], by simp (decide := true) [s_takeSupplier, h23]⟩
    by_cases k5 : k = 5
    · subst k5
      exact Or.inl ⟨by simp [z_L_supplierTakes_c, z_L_supplierIsCancelled_c, z_L_supplierHearsOfLoss_c, z_Deal_turn, z_Lender_isOut, hA, h17], by simp (decide := true) [s_takeSupplier, h23]⟩
    by_cases k6 : k = 6
    · subst k6
      exact Or.inl ⟨by simp [z_L_supplierTakes_c, z_L_supplierIsCancelled_c, z_L_supplierHearsOfLoss_c, z_Deal_turn, z_Lender_isOut, hA, h17], by simp (decide := true) [s_takeSupplier, h23]⟩
    by_cases k7 : k = 7
    · subst k7
      exact Or.inl ⟨by simp [z_L_supplierTakes_c, z_L_supplierIsCancelled_c, z_L_supplierHearsOfLoss_c, z_Deal_turn, z_Lender_isOut, hA, h17], by simp (decide := true) [s_takeSupplier, h23]⟩
    by_cases k8 : k = 8
    · subst k8
      exact Or.inl ⟨by simp [z_L_supplierTakes_c, z_L_supplierIsCancelled_c, z_L_supplierHearsOfLoss_c, z_Deal_turn, z_Lender_isOut, hA, h17], by simp (decide := true) [s_takeSupplier, h23]⟩
    by_cases k9 : k = 9
    · subst k9
      exact Or.inl ⟨by simp [z_L_supplierTakes_c, z_L_supplierIsCancelled_c, z_L_supplierHearsOfLoss_c, z_Deal_turn, z_Lender_isOut, hA, h17], by simp (decide := true) [s_takeSupplier, h23]⟩
    by_cases k10 : k = 10
    · subst k10
      exact Or.inl ⟨by simp [z_L_supplierTakes_c, z_L_supplierIsCancelled_c, z_L_supplierHearsOfLoss_c, z_Deal_turn, z_Lender_isOut, hA, h17], by simp (decide := true) [s_takeSupplier, h23]⟩
    by_cases k11 : k = 11
    · subst k11
      exact Or.inl ⟨by simp [z_L_supplierTakes_c, z_L_supplierIsCancelled_c, z_L_supplierHearsOfLoss_c, z_Deal_turn, z_Lender_isOut, hA, h17], by simp (decide := true) [s_takeSupplier, h23]⟩
    by_cases k12 : k = 12
    · subst k12
      exact Or.inr (Or.inl ⟨8, by simp [tkT], by simp [z_L_supplierTakes_c, z_L_supplierIsCancelled_c, z_L_supplierHearsOfLoss_c, z_Deal_turn, z_Lender_isOut, hA, h17], by simp [s_takeSupplier, h23]⟩)
    by_cases k13 : k = 13
    · subst k13
      exact Or.inl ⟨by simp [z_L_supplierTakes_c, z_L_supplierIsCancelled_c, z_L_supplierHearsOfLoss_c, z_Deal_turn, z_Lender_isOut, hA, h17], by simp (decide := true) [s_takeSupplier, h23]⟩
    by_cases k14 : k = 14
    · subst k14
      exact Or.inr (Or.inr (Or.inl ⟨rfl, by simp, by simp [z_L_supplierTakes_c, z_L_supplierIsCancelled_c, z_L_supplierHearsOfLoss_c, z_Deal_turn, z_Lender_isOut, hA, h17], by simp [s_takeSupplier, h23]⟩))
    by_cases k15 : k = 15
    · subst k15
      exact Or.inl ⟨by simp [z_L_supplierTakes_c, z_L_supplierIsCancelled_c, z_L_supplierHearsOfLoss_c, z_Deal_turn, z_Lender_isOut, hA, h17], by simp (decide := true) [s_takeSupplier, h23]⟩
    exact Or.inl ⟨by simp [z_L_supplierTakes_c, z_L_supplierIsCancelled_c, z_L_supplierHearsOfLoss_c, z_Deal_turn, z_Lender_isOut, hA, h17, k1, k2, k3, k4, k5, k6, k7, k8, k9, k10, k11, k12, k13, k14, k15], by simp (decide := true) [s_takeSupplier, h23, k1, k2, k3, k4, k5, k6, k7, k8, k9, k10, k11, k12, k13, k14, k15]⟩
  by_cases s7 : st = 7
  · subst s7
    by_cases k1 : k = 1
    · subst k1
      exact Or.inl ⟨by simp [z_L_supplierTakes_c, z_L_supplierIsCancelled_c, z_L_supplierHearsOfLoss_c, z_Deal_turn, z_Lender_isOut, hA, h17], by simp (decide := true) [s_takeSupplier, h23]⟩
    by_cases k2 : k = 2
    · subst k2
      exact Or.inl ⟨by simp [z_L_supplierTakes_c, z_L_supplierIsCancelled_c, z_L_supplierHearsOfLoss_c, z_Deal_turn, z_Lender_isOut, hA, h17], by simp (decide := true) [s_takeSupplier, h23]⟩
    by_cases k3 : k = 3
    · subst k3
      exact Or.inl ⟨by simp [z_L_supplierTakes_c, z_L_supplierIsCancelled_c, z_L_supplierHearsOfLoss_c, z_Deal_turn, z_Lender_isOut, hA, h17], by simp (decide := true) [s_takeSupplier, h23]⟩
    by_cases k4 : k = 4
    · subst k4
      exact Or.inl ⟨by simp [z_L_supplierTakes_c, z_L_supplierIsCancelled_c, z_L_supplierHearsOfLoss_c, z_Deal_turn, z_Lender_isOut, hA, h17], by simp (decide := true) [s_takeSupplier, h23]⟩
    by_cases k5 : k = 5
    · subst k5
      exact Or.inl ⟨by simp [z_L_supplierTakes_c, z_L_supplierIsCancelled_c, z_L_supplierHearsOfLoss_c, z_Deal_turn, z_Lender_isOut, hA, h17], by simp (decide := true) [s_takeSupplier, h23]⟩
    by_cases k6 : k = 6
    · subst k6
      exact Or.inl ⟨by simp [z_L_supplierTakes_c, z_L_supplierIsCancelled_c, z_L_supplierHearsOfLoss_c, z_Deal_turn, z_Lender_isOut, hA, h17], by simp (decide := true) [s_takeSupplier, h23]⟩
    by_cases k7 : k = 7
    · subst k7
      exact Or.inl ⟨by simp [z_L_supplierTakes_c, z_L_supplierIsCancelled_c, z_L_supplierHearsOfLoss_c, z_Deal_turn, z_Lender_isOut, hA, h17], by simp (decide := true) [s_takeSupplier, h23]⟩
    by_cases k8 : k = 8
    · subst k8
      exact Or.inl ⟨by simp [z_L_supplierTakes_c, z_L_supplierIsCancelled_c, z_L_supplierHearsOfLoss_c, z_Deal_turn, z_Lender_isOut, hA, h17], by simp (decide := true) [s_takeSupplier, h23]⟩
    by_cases k9 : k = 9
    · subst k9
      exact Or.inl ⟨by simp [z_L_supplierTakes_c, z_L_supplierIsCancelled_c, z_L_supplierHearsOfLoss_c, z_Deal_turn, z_Lender_isOut, hA, h17], by simp (decide := true) [s_takeSupplier, h23]⟩
    by_cases k10 : k = 10
    · subst k10
      exact Or.inl ⟨by simp [z_L_supplierTakes_c, z_L_supplierIsCancelled_c, z_L_supplierHearsOfLoss_c, z_Deal_turn, z_Lender_isOut, hA, h17], by simp (decide := true) [s_takeSupplier, h23]⟩
    by_cases k11 : k = 11
    · subst k11
      exact Or.inl ⟨by simp [z_L_supplierTakes_c, z_L_supplierIsCancelled_c, z_L_supplierHearsOfLoss_c, z_Deal_turn, z_Lender_isOut, hA, h17], by simp (decide := true) [s_takeSupplier, h23]⟩
    by_cases k12 : k = 12
    · subst k12
      exact Or.inr (Or.inl ⟨8, by simp [tkT], by simp [z_L_supplierTakes_c, z_L_supplierIsCancelled_c, z_L_supplierHearsOfLoss_c, z_Deal_turn, z_Lender_isOut, hA, h17], by simp [s_takeSupplier, h23]⟩)
    by_cases k13 : k = 13
    · subst k13
      exact Or.inl ⟨by simp [z_L_supplierTakes_c, z_L_supplierIsCancelled_c, z_L_supplierHearsOfLoss_c, z_Deal_turn, z_Lender_isOut, hA, h17], by simp (decide := true) [s_takeSupplier, h23]⟩
    by_cases k14 : k = 14
    · subst k14
      exact Or.inr (Or.inr (Or.inl ⟨rfl, by simp, by simp [z_L_supplierTakes_c, z_L_supplierIsCancelled_c, z_L_supplierHearsOfLoss_c, z_Deal_turn, z_Lender_isOut, hA, h17], by simp [s_takeSupplier, h23]⟩))
    by_cases k15 : k = 15
    · subst k15
      exact Or.inl ⟨by simp [z_L_supplierTakes_c, z_L_supplierIsCancelled_c, z_L_supplierHearsOfLoss_c, z_Deal_turn, z_Lender_isOut, hA, h17], by simp (decide := true) [s_takeSupplier, h23]⟩
    exact Or.inl ⟨by simp [z_L_supplierTakes_c, z_L_supplierIsCancelled_c, z_L_supplierHearsOfLoss_c, z_Deal_turn, z_Lender_isOut, hA, h17, k1, k2, k3, k4, k5, k6, k7, k8, k9, k10, k11, k12, k13, k14, k15], by simp (decide := true) [s_takeSupplier, h23, k1, k2, k3, k4, k5, k6, k7, k8, k9, k10, k11, k12, k13, k14, k15]⟩
  by_cases k1 : k = 1
  · subst k1
    exact Or.inl ⟨by simp [z_L_supplierTakes_c, z_L_supplierIsCancelled_c, z_L_supplierHearsOfLoss_c, z_Deal_turn, z_Lender_isOut, hA, h17, s0, s1, s2, s3, s4, s5, s6, s7], by simp (decide := true) [s_takeSupplier, h23, s0, s1, s2, s3, s4, s5, s6, s7]⟩
  by_cases k2 : k = 2
  · subst k2
    exact Or.inl ⟨by simp [z_L_supplierTakes_c, z_L_supplierIsCancelled_c, z_L_supplierHearsOfLoss_c, z_Deal_turn, z_Lender_isOut, hA, h17, s0, s1, s2, s3, s4, s5, s6, s7], by simp (decide := true) [s_takeSupplier, h23, s0, s1, s2, s3, s4, s5, s6, s7]⟩
  by_cases k3 : k = 3
  · subst k3
    exact Or.inl ⟨by simp [z_L_supplierTakes_c, z_L_supplierIsCancelled_c, z_L_supplierHearsOfLoss_c, z_Deal_turn, z_Lender_isOut, hA, h17, s0, s1, s2, s3, s4, s5, s6, s7], by simp (decide := true) [s_takeSupplier, h23, s0, s1, s2, s3, s4, s5, s6, s7]⟩
  by_cases k4 : k = 4
  · subst k4
    exact Or.inl ⟨by simp [z_L_supplierTakes_c, z_L_supplierIsCancelled_c, z_L_supplierHearsOfLoss_c, z_Deal_turn, z_Lender_isOut, hA, h17, s0, s1, s2, s3, s4, s5, s6, s7], by simp (decide := true) [s_takeSupplier, h23, s0, s1, s2, s3, s4, s5, s6, s7]⟩
  by_cases k5 : k = 5
  · subst k5
    exact Or.inl ⟨by simp [z_L_supplierTakes_c, z_L_supplierIsCancelled_c, z_L_supplierHearsOfLoss_c, z_Deal_turn, z_Lender_isOut, hA, h17, s0, s1, s2, s3, s4, s5, s6, s7], by simp (decide := true) [s_takeSupplier, h23, s0, s1, s2, s3, s4, s5, s6, s7]⟩
  by_cases k6 : k = 6
  · subst k6
    exact Or.inl ⟨by simp [z_L_supplierTakes_c, z_L_supplierIsCancelled_c, z_L_supplierHearsOfLoss_c, z_Deal_turn, z_Lender_isOut, hA, h17, s0, s1, s2, s3, s4, s5, s6, s7], by simp (decide := true) [s_takeSupplier, h23, s0, s1, s2, s3, s4, s5, s6, s7]⟩
  by_cases k7 : k = 7
  · subst k7
    exact Or.inl ⟨by simp [z_L_supplierTakes_c, z_L_supplierIsCancelled_c, z_L_supplierHearsOfLoss_c, z_Deal_turn, z_Lender_isOut, hA, h17, s0, s1, s2, s3, s4, s5, s6, s7], by simp (decide := true) [s_takeSupplier, h23, s0, s1, s2, s3, s4, s5, s6, s7]⟩
  by_cases k8 : k = 8
  · subst k8
    exact Or.inl ⟨by simp [z_L_supplierTakes_c, z_L_supplierIsCancelled_c, z_L_supplierHearsOfLoss_c, z_Deal_turn, z_Lender_isOut, hA, h17, s0, s1, s2, s3, s4, s5, s6, s7], by simp (decide := true) [s_takeSupplier, h23, s0, s1, s2, s3, s4, s5, s6, s7]⟩
  by_cases k9 : k = 9
  · subst k9
    exact Or.inl ⟨by simp [z_L_supplierTakes_c, z_L_supplierIsCancelled_c, z_L_supplierHearsOfLoss_c, z_Deal_turn, z_Lender_isOut, hA, h17, s0, s1, s2, s3, s4, s5, s6, s7], by simp (decide := true) [s_takeSupplier, h23, s0, s1, s2, s3, s4, s5, s6, s7]⟩
  by_cases k10 : k = 10
  · subst k10
    exact Or.inl ⟨by simp [z_L_supplierTakes_c, z_L_supplierIsCancelled_c, z_L_supplierHearsOfLoss_c, z_Deal_turn, z_Lender_isOut, hA, h17, s0, s1, s2, s3, s4, s5, s6, s7], by simp (decide := true) [s_takeSupplier, h23, s0, s1, s2, s3, s4, s5, s6, s7]⟩
  by_cases k11 : k = 11
  · subst k11
    exact Or.inl ⟨by simp [z_L_supplierTakes_c, z_L_supplierIsCancelled_c, z_L_supplierHearsOfLoss_c, z_Deal_turn, z_Lender_isOut, hA, h17, s0, s1, s2, s3, s4, s5, s6, s7], by simp (decide := true) [s_takeSupplier, h23, s0, s1, s2, s3, s4, s5, s6, s7]⟩
  by_cases k12 : k = 12
  · subst k12
    exact Or.inl ⟨by simp [z_L_supplierTakes_c, z_L_supplierIsCancelled_c, z_L_supplierHearsOfLoss_c, z_Deal_turn, z_Lender_isOut, hA, h17, s0, s1, s2, s3, s4, s5, s6, s7], by simp (decide := true) [s_takeSupplier, h23, s0, s1, s2, s3, s4, s5, s6, s7]⟩
  by_cases k13 : k = 13
  · subst k13
    exact Or.inl ⟨by simp [z_L_supplierTakes_c, z_L_supplierIsCancelled_c, z_L_supplierHearsOfLoss_c, z_Deal_turn, z_Lender_isOut, hA, h17, s0, s1, s2, s3, s4, s5, s6, s7], by simp (decide := true) [s_takeSupplier, h23, s0, s1, s2, s3, s4, s5, s6, s7]⟩
  by_cases k14 : k = 14
  · subst k14
    exact Or.inl ⟨by simp [z_L_supplierTakes_c, z_L_supplierIsCancelled_c, z_L_supplierHearsOfLoss_c, z_Deal_turn, z_Lender_isOut, hA, h17, s0, s1, s2, s3, s4, s5, s6, s7], by simp (decide := true) [s_takeSupplier, h23, s0, s1, s2, s3, s4, s5, s6, s7]⟩
  by_cases k15 : k = 15
  · subst k15
    refine Or.inl ⟨by simp [z_L_supplierTakes_c, z_L_supplierIsCancelled_c, z_L_supplierHearsOfLoss_c, z_Deal_turn, z_Lender_isOut, hA, h17, s0, s1, s2, s3, s4, s5, s6, s7], ?_⟩
    by_cases q1 : st ≤ 0
    · simp [s_takeSupplier, h23, s0, s1, s2, s3, s4, s5, s6, s7, q1]
    · by_cases q2 : 4 ≤ st
      · simp [s_takeSupplier, h23, s0, s1, s2, s3, s4, s5, s6, s7, q1, q2]
      · rcases i3_123 q1 q2 with h | h | h
        · exact absurd h s1
        · exact absurd h s2
        · exact absurd h s3
  exact Or.inl ⟨by simp [z_L_supplierTakes_c, z_L_supplierIsCancelled_c, z_L_supplierHearsOfLoss_c, z_Deal_turn, z_Lender_isOut, hA, h17, k1, k2, k3, k4, k5, k6, k7, k8, k9, k10, k11, k12, k13, k14, k15, s0, s1, s2, s3, s4, s5, s6, s7], by simp (decide := true) [s_takeSupplier, h23, k1, k2, k3, k4, k5, k6, k7, k8, k9, k10, k11, k12, k13, k14, k15, s0, s1, s2, s3, s4, s5, s6, s7]⟩
