/-! A letter taken by the requester: the two trees, leaf by leaf -/
def z_rt (A : ew_R) (ln d t rq : Nat) : ew_R := if A 3 ln 0 = 10 then z_L_rt_10 A ln d t rq else if A 3 ln 0 = 0 then z_L_rt_0 A ln d t rq else z_L_rt_n A ln d t rq
def rtS (rs k v : Int32) : Prop := (rs = 0 ∧ k = 2 ∧ v = 2) ∨ (rs = 10 ∧ (k = 4 ∨ k = 16) ∧ v = 11)
def rtD (rs k v : Int32) : Prop := ((rs = 2 ∨ rs = 10) ∧ k = 7 ∧ v = 3) ∨ (rs = 5 ∧ k = 10 ∧ v = 4) ∨ ((rs = 4 ∨ rs = 5) ∧ k = 11 ∧ v = 6)
def rtR (A B : ew_R) (ln rq : Nat) (rs k tl : Int32) (Z R : ew_R) : Prop :=
  (Z = A ∧ R = B) ∨ (∃ v, rtS rs k v ∧ Z = up3 A 3 ln 0 v ∧ R = up3 B 18 0 ln v) ∨ (∃ v, rtD rs k v ∧ Z = up3 (up3 A 3 ln 0 v) 3 ln 1 tl ∧ R = up3 (up3 B 18 0 ln v) 19 0 ln tl) ∨ (rs = 5 ∧ k = 10 ∧ Z = up3 (up3 A 3 ln 0 4) 3 ln 1 (A 3 ln 1) ∧ R = up3 B 18 0 ln 4)
    ∨ (rs = 0 ∧ k = 3 ∧ Z = up3 (up3 A 3 ln 0 1) 3 ln 2 tl ∧ R = up3 (up3 B 18 0 ln 1) 20 0 ln tl) ∨ (rs = 7 ∧ k = 13 ∧ Z = z_L_addToBalance (up3 (up3 A 3 ln 0 8) 3 ln 3 tl) rq (-tl) ∧ R = up3 (up3 (up3 B 18 0 ln 8) 21 0 ln tl) 6 0 rq (B 6 0 rq - tl))
set_option maxHeartbeats 4000000 in
theorem rt_norm {A B : ew_R} {ln d t st ak rq w lg : Nat} {rs k tl : Int32} (hA : A 19 t 1 = k) (ht : A 19 t 2 = tl) (h3 : A 3 ln 0 = rs) (h18 : B 18 0 ln = rs) (htl : k = 7 ∨ k = 11 → ¬ tl = 0) (hno : ¬ (rs = 0 ∧ k = 4)) : rtR A B ln rq rs k tl (z_rt A ln d t rq) (s_takeRequester B ln k tl st ak rq w lg) := by
  by_cases s0 : rs = 0
  · subst s0
    by_cases k2 : k = 2
    · subst k2
      exact Or.inr (Or.inl ⟨2, by simp [rtS], by simp [z_rt, z_L_rt_10, z_L_rt_0, z_L_rt_n, z_L_hears_10, z_L_hears_0, z_L_hears_n, z_L_requesterHearsOfDue, z_L_requesterIsCharged, hA, h3, ht], by simp [s_takeRequester, h18]⟩)
    by_cases k3 : k = 3
    · subst k3
      exact Or.inr (Or.inr (Or.inr (Or.inr (Or.inl ⟨rfl, rfl, by simp [z_rt, z_L_rt_10, z_L_rt_0, z_L_rt_n, z_L_hears_10, z_L_hears_0, z_L_hears_n, z_L_requesterHearsOfDue, z_L_requesterIsCharged, hA, h3, ht], by simp [s_takeRequester, h18]⟩))))
    by_cases k4 : k = 4
    · subst k4
      exact absurd ⟨rfl, rfl⟩ hno
    by_cases k5 : k = 5
    · subst k5
      exact Or.inl ⟨by simp [z_rt, z_L_rt_10, z_L_rt_0, z_L_rt_n, z_L_hears_10, z_L_hears_0, z_L_hears_n, z_L_requesterHearsOfDue, z_L_requesterIsCharged, hA, h3, ht], by simp [s_takeRequester, h18]⟩
    by_cases k6 : k = 6
    · subst k6
      exact Or.inl ⟨by simp [z_rt, z_L_rt_10, z_L_rt_0, z_L_rt_n, z_L_hears_10, z_L_hears_0, z_L_hears_n, z_L_requesterHearsOfDue, z_L_requesterIsCharged, hA, h3, ht], by simp [s_takeRequester, h18]⟩
    by_cases k7 : k = 7
    · subst k7
      exact Or.inl ⟨by simp [z_rt, z_L_rt_10, z_L_rt_0, z_L_rt_n, z_L_hears_10, z_L_hears_0, z_L_hears_n, z_L_requesterHearsOfDue, z_L_requesterIsCharged, hA, h3, ht], by simp [s_takeRequester, h18]⟩
    by_cases k8 : k = 8
    · subst k8
      exact Or.inl ⟨by simp [z_rt, z_L_rt_10, z_L_rt_0, z_L_rt_n, z_L_hears_10, z_L_hears_0, z_L_hears_n, z_L_requesterHearsOfDue, z_L_requesterIsCharged, hA, h3, ht], by simp [s_takeRequester, h18]⟩
    by_cases k9 : k = 9
    · subst k9
      exact Or.inl ⟨by simp [z_rt, z_L_rt_10, z_L_rt_0, z_L_rt_n, z_L_hears_10, z_L_hears_0, z_L_hears_n, z_L_requesterHearsOfDue, z_L_requesterIsCharged, hA, h3, ht], by simp [s_takeRequester, h18]⟩
    by_cases k10 : k = 10
    · subst k10
      exact Or.inl ⟨by simp [z_rt, z_L_rt_10, z_L_rt_0, z_L_rt_n, z_L_hears_10, z_L_hears_0, z_L_hears_n, z_L_requesterHearsOfDue, z_L_requesterIsCharged, hA, h3, ht], by simp [s_takeRequester, h18]⟩
    by_cases k11 : k = 11
    · subst k11
      exact Or.inl ⟨by simp [z_rt, z_L_rt_10, z_L_rt_0, z_L_rt_n, z_L_hears_10, z_L_hears_0, z_L_hears_n, z_L_requesterHearsOfDue, z_L_requesterIsCharged, hA, h3, ht], by simp [s_takeRequester, h18]⟩
    by_cases k12 : k = 12
    · subst k12
      exact Or.inl ⟨by simp [z_rt, z_L_rt_10, z_L_rt_0, z_L_rt_n, z_L_hears_10, z_L_hears_0, z_L_hears_n, z_L_requesterHearsOfDue, z_L_requesterIsCharged, hA, h3, ht], by simp [s_takeRequester, h18]⟩
    by_cases k13 : k = 13
    · subst k13
      exact Or.inl ⟨by simp [z_rt, z_L_rt_10, z_L_rt_0, z_L_rt_n, z_L_hears_10, z_L_hears_0, z_L_hears_n, z_L_requesterHearsOfDue, z_L_requesterIsCharged, hA, h3, ht], by simp [s_takeRequester, h18]⟩
    by_cases k14 : k = 14
    · subst k14
      exact Or.inl ⟨by simp [z_rt, z_L_rt_10, z_L_rt_0, z_L_rt_n, z_L_hears_10, z_L_hears_0, z_L_hears_n, z_L_requesterHearsOfDue, z_L_requesterIsCharged, hA, h3, ht], by simp [s_takeRequester, h18]⟩
    by_cases k15 : k = 15
    · subst k15
      exact Or.inl ⟨by simp [z_rt, z_L_rt_10, z_L_rt_0, z_L_rt_n, z_L_hears_10, z_L_hears_0, z_L_hears_n, z_L_requesterHearsOfDue, z_L_requesterIsCharged, hA, h3, ht], by simp [s_takeRequester, h18]⟩
    by_cases k16 : k = 16
    · subst k16
      exact Or.inl ⟨by simp [z_rt, z_L_rt_10, z_L_rt_0, z_L_rt_n, z_L_hears_10, z_L_hears_0, z_L_hears_n, z_L_requesterHearsOfDue, z_L_requesterIsCharged, hA, h3, ht], by simp [s_takeRequester, h18]⟩
    exact Or.inl ⟨by simp [z_rt, z_L_rt_10, z_L_rt_0, z_L_rt_n, z_L_hears_10, z_L_hears_0, z_L_hears_n, z_L_requesterHearsOfDue, z_L_requesterIsCharged, hA, h3, ht, k2, k3, k4, k5, k6, k7, k8, k9, k10, k11, k12, k13, k14, k15, k16], by simp [s_takeRequester, h18, k2, k3, k4, k5, k6, k7, k8, k9, k10, k11, k12, k13, k14, k15, k16]⟩
  by_cases s2 : rs = 2
  · subst s2
    by_cases k2 : k = 2
    · subst k2
      exact Or.inl ⟨by simp [z_rt, z_L_rt_10, z_L_rt_0, z_L_rt_n, z_L_hears_10, z_L_hears_0, z_L_hears_n, z_L_requesterHearsOfDue, z_L_requesterIsCharged, hA, h3, ht], by simp [s_takeRequester, h18]⟩
    by_cases k3 : k = 3
    · subst k3
      exact Or.inl ⟨by simp [z_rt, z_L_rt_10, z_L_rt_0, z_L_rt_n, z_L_hears_10, z_L_hears_0, z_L_hears_n, z_L_requesterHearsOfDue, z_L_requesterIsCharged, hA, h3, ht], by simp [s_takeRequester, h18]⟩
    by_cases k4 : k = 4
    · subst k4
      exact Or.inl ⟨by simp [z_rt, z_L_rt_10, z_L_rt_0, z_L_rt_n, z_L_hears_10, z_L_hears_0, z_L_hears_n, z_L_requesterHearsOfDue, z_L_requesterIsCharged, hA, h3, ht], by simp [s_takeRequester, h18]⟩
    by_cases k5 : k = 5
    · subst k5
      exact Or.inl ⟨by simp [z_rt, z_L_rt_10, z_L_rt_0, z_L_rt_n, z_L_hears_10, z_L_hears_0, z_L_hears_n, z_L_requesterHearsOfDue, z_L_requesterIsCharged, hA, h3, ht], by simp [s_takeRequester, h18]⟩
    by_cases k6 : k = 6
    · subst k6
      exact Or.inl ⟨by simp [z_rt, z_L_rt_10, z_L_rt_0, z_L_rt_n, z_L_hears_10, z_L_hears_0, z_L_hears_n, z_L_requesterHearsOfDue, z_L_requesterIsCharged, hA, h3, ht], by simp [s_takeRequester, h18]⟩
    by_cases k7 : k = 7
    · subst k7
      have htl := htl (by simp)
      exact Or.inr (Or.inr (Or.inl ⟨3, by simp [rtD], by simp [z_rt, z_L_rt_10, z_L_rt_0, z_L_rt_n, z_L_hears_10, z_L_hears_0, z_L_hears_n, z_L_requesterHearsOfDue, z_L_requesterIsCharged, hA, h3, ht], by simp [s_takeRequester, h18, htl]⟩))
    by_cases k8 : k = 8
    · subst k8
      exact Or.inl ⟨by simp [z_rt, z_L_rt_10, z_L_rt_0, z_L_rt_n, z_L_hears_10, z_L_hears_0, z_L_hears_n, z_L_requesterHearsOfDue, z_L_requesterIsCharged, hA, h3, ht], by simp [s_takeRequester, h18]⟩
    by_cases k9 : k = 9
    · subst k9
      exact Or.inl ⟨by simp [z_rt, z_L_rt_10, z_L_rt_0, z_L_rt_n, z_L_hears_10, z_L_hears_0, z_L_hears_n, z_L_requesterHearsOfDue, z_L_requesterIsCharged, hA, h3, ht], by simp [s_takeRequester, h18]⟩
    by_cases k10 : k = 10
    · subst k10
      exact Or.inl ⟨by simp [z_rt, z_L_rt_10, z_L_rt_0, z_L_rt_n, z_L_hears_10, z_L_hears_0, z_L_hears_n, z_L_requesterHearsOfDue, z_L_requesterIsCharged, hA, h3, ht], by simp [s_takeRequester, h18]⟩
    by_cases k11 : k = 11
    · subst k11
      exact Or.inl ⟨by simp [z_rt, z_L_rt_10, z_L_rt_0, z_L_rt_n, z_L_hears_10, z_L_hears_0, z_L_hears_n, z_L_requesterHearsOfDue, z_L_requesterIsCharged, hA, h3, ht], by simp [s_takeRequester, h18]⟩
    by_cases k12 : k = 12
    · subst k12
      exact Or.inl ⟨by simp [z_rt, z_L_rt_10, z_L_rt_0, z_L_rt_n, z_L_hears_10, z_L_hears_0, z_L_hears_n, z_L_requesterHearsOfDue, z_L_requesterIsCharged, hA, h3, ht], by simp [s_takeRequester, h18]⟩
    by_cases k13 : k = 13
    · subst k13
      exact Or.inl ⟨by simp [z_rt, z_L_rt_10, z_L_rt_0, z_L_rt_n, z_L_hears_10, z_L_hears_0, z_L_hears_n, z_L_requesterHearsOfDue, z_L_requesterIsCharged, hA, h3, ht], by simp [s_takeRequester, h18]⟩
    by_cases k14 : k = 14
    · subst k14
      exact Or.inl ⟨by simp [z_rt, z_L_rt_10, z_L_rt_0, z_L_rt_n, z_L_hears_10, z_L_hears_0, z_L_hears_n, z_L_requesterHearsOfDue, z_L_requesterIsCharged, hA, h3, ht], by simp [s_takeRequester, h18]⟩
    by_cases k15 : k = 15
    · subst k15
      exact Or.inl ⟨by simp [z_rt, z_L_rt_10, z_L_rt_0, z_L_rt_n, z_L_hears_10, z_L_hears_0, z_L_hears_n, z_L_requesterHearsOfDue, z_L_requesterIsCharged, hA, h3, ht], by simp [s_takeRequester, h18]⟩
    by_cases k16 : k = 16
    · subst k16
      exact Or.inl ⟨by simp [z_rt, z_L_rt_10, z_L_rt_0, z_L_rt_n, z_L_hears_10, z_L_hears_0, z_L_hears_n, z_L_requesterHearsOfDue, z_L_requesterIsCharged, hA, h3, ht], by simp [s_takeRequester, h18]⟩
    exact Or.inl ⟨by simp [z_rt, z_L_rt_10, z_L_rt_0, z_L_rt_n, z_L_hears_10, z_L_hears_0, z_L_hears_n, z_L_requesterHearsOfDue, z_L_requesterIsCharged, hA, h3, ht, k2, k3, k4, k5, k6, k7, k8, k9, k10, k11, k12, k13, k14, k15, k16], by simp [s_takeRequester, h18, k2, k3, k4, k5, k6, k7, k8, k9, k10, k11, k12, k13, k14, k15, k16]⟩
  by_cases s4 : rs = 4
  · subst s4
    by_cases k2 : k = 2
    · subst k2
      exact Or.inl ⟨by simp [z_rt, z_L_rt_10, z_L_rt_0, z_L_rt_n, z_L_hears_10, z_L_hears_0, z_L_hears_n, z_L_requesterHearsOfDue, z_L_requesterIsCharged, hA, h3, ht], by simp [s_takeRequester, h18]⟩
    by_cases k3 : k = 3
    · subst k3
      exact Or.inl ⟨by simp [z_rt, z_L_rt_10, z_L_rt_0, z_L_rt_n, z_L_hears_10, z_L_hears_0, z_L_hears_n, z_L_requesterHearsOfDue, z_L_requesterIsCharged, hA, h3, ht], by simp [s_takeRequester, h18]⟩
    by_cases k4 : k = 4
    · subst k4
      exact Or.inl ⟨by simp [z_rt, z_L_rt_10, z_L_rt_0, z_L_rt_n, z_L_hears_10, z_L_hears_0, z_L_hears_n, z_L_requesterHearsOfDue, z_L_requesterIsCharged, hA, h3, ht], by simp [s_takeRequester, h18]⟩
    by_cases k5 : k = 5
    · subst k5
      exact Or.inl ⟨by simp [z_rt, z_L_rt_10, z_L_rt_0, z_L_rt_n, z_L_hears_10, z_L_hears_0, z_L_hears_n, z_L_requesterHearsOfDue, z_L_requesterIsCharged, hA, h3, ht], by simp [s_takeRequester, h18]⟩
    by_cases k6 : k = 6
    · subst k6
      exact Or.inl ⟨by simp [z_rt, z_L_rt_10, z_L_rt_0, z_L_rt_n, z_L_hears_10, z_L_hears_0, z_L_hears_n, z_L_requesterHearsOfDue, z_L_requesterIsCharged, hA, h3, ht], by simp [s_takeRequester, h18]⟩
    by_cases k7 : k = 7
    · subst k7
      exact Or.inl ⟨by simp [z_rt, z_L_rt_10, z_L_rt_0, z_L_rt_n, z_L_hears_10, z_L_hears_0, z_L_hears_n, z_L_requesterHearsOfDue, z_L_requesterIsCharged, hA, h3, ht], by simp [s_takeRequester, h18]⟩
    by_cases k8 : k = 8
    · subst k8
      exact Or.inl ⟨by simp [z_rt, z_L_rt_10, z_L_rt_0, z_L_rt_n, z_L_hears_10, z_L_hears_0, z_L_hears_n, z_L_requesterHearsOfDue, z_L_requesterIsCharged, hA, h3, ht], by simp [s_takeRequester, h18]⟩
    by_cases k9 : k = 9
    · subst k9
      exact Or.inl ⟨by simp [z_rt, z_L_rt_10, z_L_rt_0, z_L_rt_n, z_L_hears_10, z_L_hears_0, z_L_hears_n, z_L_requesterHearsOfDue, z_L_requesterIsCharged, hA, h3, ht], by simp [s_takeRequester, h18]⟩
    by_cases k10 : k = 10
    · subst k10
      exact Or.inl ⟨by simp [z_rt, z_L_rt_10, z_L_rt_0, z_L_rt_n, z_L_hears_10, z_L_hears_0, z_L_hears_n, z_L_requesterHearsOfDue, z_L_requesterIsCharged, hA, h3, ht], by simp [s_takeRequester, h18]⟩
    by_cases k11 : k = 11
    · subst k11
      have htl := htl (by simp)
      exact Or.inr (Or.inr (Or.inl ⟨6, by simp [rtD], by simp [z_rt, z_L_rt_10, z_L_rt_0, z_L_rt_n, z_L_hears_10, z_L_hears_0, z_L_hears_n, z_L_requesterHearsOfDue, z_L_requesterIsCharged, hA, h3, ht], by simp [s_takeRequester, h18, htl]⟩))
    by_cases k12 : k = 12
    · subst k12
      exact Or.inl ⟨by simp [z_rt, z_L_rt_10, z_L_rt_0, z_L_rt_n, z_L_hears_10, z_L_hears_0, z_L_hears_n, z_L_requesterHearsOfDue, z_L_requesterIsCharged, hA, h3, ht], by simp [s_takeRequester, h18]⟩
    by_cases k13 : k = 13
    · subst k13
      exact Or.inl ⟨by simp [z_rt, z_L_rt_10, z_L_rt_0, z_L_rt_n, z_L_hears_10, z_L_hears_0, z_L_hears_n, z_L_requesterHearsOfDue, z_L_requesterIsCharged, hA, h3, ht], by simp [s_takeRequester, h18]⟩
    by_cases k14 : k = 14
    · subst k14
      exact Or.inl ⟨by simp [z_rt, z_L_rt_10, z_L_rt_0, z_L_rt_n, z_L_hears_10, z_L_hears_0, z_L_hears_n, z_L_requesterHearsOfDue, z_L_requesterIsCharged, hA, h3, ht], by simp [s_takeRequester, h18]⟩
    by_cases k15 : k = 15
    · subst k15
      exact Or.inl ⟨by simp [z_rt, z_L_rt_10, z_L_rt_0, z_L_rt_n, z_L_hears_10, z_L_hears_0, z_L_hears_n, z_L_requesterHearsOfDue, z_L_requesterIsCharged, hA, h3, ht], by simp [s_takeRequester, h18]⟩
    by_cases k16 : k = 16
    · subst k16
      exact Or.inl ⟨by simp [z_rt, z_L_rt_10, z_L_rt_0, z_L_rt_n, z_L_hears_10, z_L_hears_0, z_L_hears_n, z_L_requesterHearsOfDue, z_L_requesterIsCharged, hA, h3, ht], by simp [s_takeRequester, h18]⟩
    exact Or.inl ⟨by simp [z_rt, z_L_rt_10, z_L_rt_0, z_L_rt_n, z_L_hears_10, z_L_hears_0, z_L_hears_n, z_L_requesterHearsOfDue, z_L_requesterIsCharged, hA, h3, ht, k2, k3, k4, k5, k6, k7, k8, k9, k10, k11, k12, k13, k14, k15, k16], by simp [s_takeRequester, h18, k2, k3, k4, k5, k6, k7, k8, k9, k10, k11, k12, k13, k14, k15, k16]⟩
  by_cases s5 : rs = 5
  · subst s5
    by_cases k2 : k = 2
    · subst k2
      exact Or.inl ⟨by simp [z_rt, z_L_rt_10, z_L_rt_0, z_L_rt_n, z_L_hears_10, z_L_hears_0, z_L_hears_n, z_L_requesterHearsOfDue, z_L_requesterIsCharged, hA, h3, ht], by simp [s_takeRequester, h18]⟩
    by_cases k3 : k = 3
    · subst k3
      exact Or.inl ⟨by simp [z_rt, z_L_rt_10, z_L_rt_0, z_L_rt_n, z_L_hears_10, z_L_hears_0, z_L_hears_n, z_L_requesterHearsOfDue, z_L_requesterIsCharged, hA, h3, ht], by simp [s_takeRequester, h18]⟩
    by_cases k4 : k = 4
    · subst k4
      exact Or.inl ⟨by simp [z_rt, z_L_rt_10, z_L_rt_0, z_L_rt_n, z_L_hears_10, z_L_hears_0, z_L_hears_n, z_L_requesterHearsOfDue, z_L_requesterIsCharged, hA, h3, ht], by simp [s_takeRequester, h18]⟩
    by_cases k5 : k = 5
    · subst k5
      exact Or.inl ⟨by simp [z_rt, z_L_rt_10, z_L_rt_0, z_L_rt_n, z_L_hears_10, z_L_hears_0, z_L_hears_n, z_L_requesterHearsOfDue, z_L_requesterIsCharged, hA, h3, ht], by simp [s_takeRequester, h18]⟩
    by_cases k6 : k = 6
    · subst k6
      exact Or.inl ⟨by simp [z_rt, z_L_rt_10, z_L_rt_0, z_L_rt_n, z_L_hears_10, z_L_hears_0, z_L_hears_n, z_L_requesterHearsOfDue, z_L_requesterIsCharged, hA, h3, ht], by simp [s_takeRequester, h18]⟩
    by_cases k7 : k = 7
    · subst k7
      exact Or.inl ⟨by simp [z_rt, z_L_rt_10, z_L_rt_0, z_L_rt_n, z_L_hears_10, z_L_hears_0, z_L_hears_n, z_L_requesterHearsOfDue, z_L_requesterIsCharged, hA, h3, ht], by simp [s_takeRequester, h18]⟩
    by_cases k8 : k = 8
    · subst k8
      exact Or.inl ⟨by simp [z_rt, z_L_rt_10, z_L_rt_0, z_L_rt_n, z_L_hears_10, z_L_hears_0, z_L_hears_n, z_L_requesterHearsOfDue, z_L_requesterIsCharged, hA, h3, ht], by simp [s_takeRequester, h18]⟩
    by_cases k9 : k = 9
    · subst k9
      exact Or.inl ⟨by simp [z_rt, z_L_rt_10, z_L_rt_0, z_L_rt_n, z_L_hears_10, z_L_hears_0, z_L_hears_n, z_L_requesterHearsOfDue, z_L_requesterIsCharged, hA, h3, ht], by simp [s_takeRequester, h18]⟩
    by_cases k10 : k = 10
    · subst k10
      by_cases h0 : tl = 0
      · exact Or.inr (Or.inr (Or.inr (Or.inl ⟨rfl, rfl, by simp [z_rt, z_L_rt_10, z_L_rt_0, z_L_rt_n, z_L_hears_10, z_L_hears_0, z_L_hears_n, z_L_requesterHearsOfDue, z_L_requesterIsCharged, hA, h3, ht, h0], by simp [s_takeRequester, h18, h0]⟩)))
      · exact Or.inr (Or.inr (Or.inl ⟨4, by simp [rtD], by simp [z_rt, z_L_rt_10, z_L_rt_0, z_L_rt_n, z_L_hears_10, z_L_hears_0, z_L_hears_n, z_L_requesterHearsOfDue, z_L_requesterIsCharged, hA, h3, ht, h0], by simp [s_takeRequester, h18, h0]⟩))
    by_cases k11 : k = 11
    · subst k11
      have htl := htl (by simp)
      exact Or.inr (Or.inr (Or.inl ⟨6, by simp [rtD], by simp [z_rt, z_L_rt_10, z_L_rt_0, z_L_rt_n, z_L_hears_10, z_L_hears_0, z_L_hears_n, z_L_requesterHearsOfDue, z_L_requesterIsCharged, hA, h3, ht], by simp [s_takeRequester, h18, htl]⟩))
    by_cases k12 : k = 12
    · subst k12
      exact Or.inl ⟨by simp [z_rt, z_L_rt_10, z_L_rt_0, z_L_rt_n, z_L_hears_10, z_L_hears_0, z_L_hears_n, z_L_requesterHearsOfDue, z_L_requesterIsCharged, hA, h3, ht], by simp [s_takeRequester, h18]⟩
    by_cases k13 : k = 13
    · subst k13
      exact Or.inl ⟨by simp [z_rt, z_L_rt_10, z_L_rt_0, z_L_rt_n, z_L_hears_10, z_L_hears_0, z_L_hears_n, z_L_requesterHearsOfDue, z_L_requesterIsCharged, hA, h3, ht], by simp [s_takeRequester, h18]⟩
    by_cases k14 : k = 14
    · subst k14
      exact Or.inl ⟨by simp [z_rt, z_L_rt_10, z_L_rt_0, z_L_rt_n, z_L_hears_10, z_L_hears_0, z_L_hears_n, z_L_requesterHearsOfDue, z_L_requesterIsCharged, hA, h3, ht], by simp [s_takeRequester, h18]⟩
    by_cases k15 : k = 15
    · subst k15
      exact Or.inl ⟨by simp [z_rt, z_L_rt_10, z_L_rt_0, z_L_rt_n, z_L_hears_10, z_L_hears_0, z_L_hears_n, z_L_requesterHearsOfDue, z_L_requesterIsCharged, hA, h3, ht], by simp [s_takeRequester, h18]⟩
    by_cases k16 : k = 16
    · subst k16
      exact Or.inl ⟨by simp [z_rt, z_L_rt_10, z_L_rt_0, z_L_rt_n, z_L_hears_10, z_L_hears_0, z_L_hears_n, z_L_requesterHearsOfDue, z_L_requesterIsCharged, hA, h3, ht], by simp [s_takeRequester, h18]⟩
    exact Or.inl ⟨by simp [z_rt, z_L_rt_10, z_L_rt_0, z_L_rt_n, z_L_hears_10, z_L_hears_0, z_L_hears_n, z_L_requesterHearsOfDue, z_L_requesterIsCharged, hA, h3, ht, k2, k3, k4, k5, k6, k7, k8, k9, k10, k11, k12, k13, k14, k15, k16], by simp [s_takeRequester, h18, k2, k3, k4, k5, k6, k7, k8, k9, k10, k11, k12, k13, k14, k15, k16]⟩
  by_cases s7 : rs = 7
  · subst s7
    by_cases k2 : k = 2
    · subst k2
      exact Or.inl ⟨by simp [z_rt, z_L_rt_10, z_L_rt_0, z_L_rt_n, z_L_hears_10, z_L_hears_0, z_L_hears_n, z_L_requesterHearsOfDue, z_L_requesterIsCharged, hA, h3, ht], by simp [s_takeRequester, h18]⟩
    by_cases k3 : k = 3
    · subst k3
      exact Or.inl ⟨by simp [z_rt, z_L_rt_10, z_L_rt_0, z_L_rt_n, z_L_hears_10, z_L_hears_0, z_L_hears_n, z_L_requesterHearsOfDue, z_L_requesterIsCharged, hA, h3, ht], by simp [s_takeRequester, h18]⟩
    by_cases k4 : k = 4
    · subst k4
      exact Or.inl ⟨by simp [z_rt, z_L_rt_10, z_L_rt_0, z_L_rt_n, z_L_hears_10, z_L_hears_0, z_L_hears_n, z_L_requesterHearsOfDue, z_L_requesterIsCharged, hA, h3, ht], by simp [s_takeRequester, h18]⟩
    by_cases k5 : k = 5
    · subst k5
      exact Or.inl ⟨by simp [z_rt, z_L_rt_10, z_L_rt_0, z_L_rt_n, z_L_hears_10, z_L_hears_0, z_L_hears_n, z_L_requesterHearsOfDue, z_L_requesterIsCharged, hA, h3, ht], by simp [s_takeRequester, h18]⟩
    by_cases k6 : k = 6
    · subst k6
      exact Or.inl ⟨by simp [z_rt, z_L_rt_10, z_L_rt_0, z_L_rt_n, z_L_hears_10, z_L_hears_0, z_L_hears_n, z_L_requesterHearsOfDue, z_L_requesterIsCharged, hA, h3, ht], by simp [s_takeRequester, h18]⟩
    by_cases k7 : k = 7
    · subst k7
      exact Or.inl ⟨by simp [z_rt, z_L_rt_10, z_L_rt_0, z_L_rt_n, z_L_hears_10, z_L_hears_0, z_L_hears_n, z_L_requesterHearsOfDue, z_L_requesterIsCharged, hA, h3, ht], by simp [s_takeRequester, h18]⟩
    by_cases k8 : k = 8
    · subst k8
      exact Or.inl ⟨by simp [z_rt, z_L_rt_10, z_L_rt_0, z_L_rt_n, z_L_hears_10, z_L_hears_0, z_L_hears_n, z_L_requesterHearsOfDue, z_L_requesterIsCharged, hA, h3, ht], by simp [s_takeRequester, h18]⟩
    by_cases k9 : k = 9
    · subst k9
      exact Or.inl ⟨by simp [z_rt, z_L_rt_10, z_L_rt_0, z_L_rt_n, z_L_hears_10, z_L_hears_0, z_L_hears_n, z_L_requesterHearsOfDue, z_L_requesterIsCharged, hA, h3, ht], by simp [s_takeRequester, h18]⟩
    by_cases k10 : k = 10
    · subst k10
      exact Or.inl ⟨by simp [z_rt, z_L_rt_10, z_L_rt_0, z_L_rt_n, z_L_hears_10, z_L_hears_0, z_L_hears_n, z_L_requesterHearsOfDue, z_L_requesterIsCharged, hA, h3, ht], by simp [s_takeRequester, h18]⟩
    by_cases k11 : k = 11
    · subst k11
      exact Or.inl ⟨by simp [z_rt, z_L_rt_10, z_L_rt_0, z_L_rt_n, z_L_hears_10, z_L_hears_0, z_L_hears_n, z_L_requesterHearsOfDue, z_L_requesterIsCharged, hA, h3, ht], by simp [s_takeRequester, h18]⟩
    by_cases k12 : k = 12
    · subst k12
      exact Or.inl ⟨by simp [z_rt, z_L_rt_10, z_L_rt_0, z_L_rt_n, z_L_hears_10, z_L_hears_0, z_L_hears_n, z_L_requesterHearsOfDue, z_L_requesterIsCharged, hA, h3, ht], by simp [s_takeRequester, h18]⟩
    by_cases k13 : k = 13
    · subst k13
      exact Or.inr (Or.inr (Or.inr (Or.inr (Or.inr ⟨rfl, rfl, by simp [z_rt, z_L_rt_10, z_L_rt_0, z_L_rt_n, z_L_hears_10, z_L_hears_0, z_L_hears_n, z_L_requesterHearsOfDue, z_L_requesterIsCharged, hA, h3, ht], by simp [s_takeRequester, h18]⟩))))
    by_cases k14 : k = 14
    · subst k14
      exact Or.inl ⟨by simp [z_rt, z_L_rt_10, z_L_rt_0, z_L_rt_n, z_L_hears_10, z_L_hears_0, z_L_hears_n, z_L_requesterHearsOfDue, z_L_requesterIsCharged, hA, h3, ht], by simp [s_takeRequester, h18]⟩
    by_cases k15 : k = 15
    · subst k15
      exact Or.inl ⟨by simp [z_rt, z_L_rt_10, z_L_rt_0, z_L_rt_n, z_L_hears_10, z_L_hears_0, z_L_hears_n, z_L_requesterHearsOfDue, z_L_requesterIsCharged, hA, h3, ht], by simp [s_takeRequester, h18]⟩
    by_cases k16 : k = 16
    · subst k16
      exact Or.inl ⟨by simp [z_rt, z_L_rt_10, z_L_rt_0, z_L_rt_n, z_L_hears_10, z_L_hears_0, z_L_hears_n, z_L_requesterHearsOfDue, z_L_requesterIsCharged, hA, h3, ht], by simp [s_takeRequester, h18]⟩
    exact Or.inl ⟨by simp [z_rt, z_L_rt_10, z_L_rt_0, z_L_rt_n, z_L_hears_10, z_L_hears_0, z_L_hears_n, z_L_requesterHearsOfDue, z_L_requesterIsCharged, hA, h3, ht, k2, k3, k4, k5, k6, k7, k8, k9, k10, k11, k12, k13, k14, k15, k16], by simp [s_takeRequester, h18, k2, k3, k4, k5, k6, k7, k8, k9, k10, k11, k12, k13, k14, k15, k16]⟩
  by_cases s10 : rs = 10
  · subst s10
    by_cases k2 : k = 2
    · subst k2
      exact Or.inl ⟨by simp [z_rt, z_L_rt_10, z_L_rt_0, z_L_rt_n, z_L_hears_10, z_L_hears_0, z_L_hears_n, z_L_requesterHearsOfDue, z_L_requesterIsCharged, hA, h3, ht], by simp [s_takeRequester, h18]⟩
    by_cases k3 : k = 3
    · subst k3
      exact Or.inl ⟨by simp [z_rt, z_L_rt_10, z_L_rt_0, z_L_rt_n, z_L_hears_10, z_L_hears_0, z_L_hears_n, z_L_requesterHearsOfDue, z_L_requesterIsCharged, hA, h3, ht], by simp [s_takeRequester, h18]⟩
    by_cases k4 : k = 4
    · subst k4
      exact Or.inr (Or.inl ⟨11, by simp [rtS], by simp [z_rt, z_L_rt_10, z_L_rt_0, z_L_rt_n, z_L_hears_10, z_L_hears_0, z_L_hears_n, z_L_requesterHearsOfDue, z_L_requesterIsCharged, hA, h3, ht], by simp [s_takeRequester, h18]⟩)
    by_cases k5 : k = 5
    · subst k5
      exact Or.inl ⟨by simp [z_rt, z_L_rt_10, z_L_rt_0, z_L_rt_n, z_L_hears_10, z_L_hears_0, z_L_hears_n, z_L_requesterHearsOfDue, z_L_requesterIsCharged, hA, h3, ht], by simp [s_takeRequester, h18]⟩
    by_cases k6 : k = 6
    · subst k6
      exact Or.inl ⟨by simp [z_rt, z_L_rt_10, z_L_rt_0, z_L_rt_n, z_L_hears_10, z_L_hears_0, z_L_hears_n, z_L_requesterHearsOfDue, z_L_requesterIsCharged, hA, h3, ht], by simp [s_takeRequester, h18]⟩
    by_cases k7 : k = 7
    · subst k7
      have htl := htl (by simp)
      exact Or.inr (Or.inr (Or.inl ⟨3, by simp [rtD], by simp [z_rt, z_L_rt_10, z_L_rt_0, z_L_rt_n, z_L_hears_10, z_L_hears_0, z_L_hears_n, z_L_requesterHearsOfDue, z_L_requesterIsCharged, hA, h3, ht], by simp [s_takeRequester, h18, htl]⟩))
    by_cases k8 : k = 8
    · subst k8
      exact Or.inl ⟨by simp [z_rt, z_L_rt_10, z_L_rt_0, z_L_rt_n, z_L_hears_10, z_L_hears_0, z_L_hears_n, z_L_requesterHearsOfDue, z_L_requesterIsCharged, hA, h3, ht], by simp [s_takeRequester, h18]⟩
    by_cases k9 : k = 9
    · subst k9
      exact Or.inl ⟨by simp [z_rt, z_L_rt_10, z_L_rt_0, z_L_rt_n, z_L_hears_10, z_L_hears_0, z_L_hears_n, z_L_requesterHearsOfDue, z_L_requesterIsCharged, hA, h3, ht], by simp [s_takeRequester, h18]⟩
    by_cases k10 : k = 10
    · subst k10
      exact Or.inl ⟨by simp [z_rt, z_L_rt_10, z_L_rt_0, z_L_rt_n, z_L_hears_10, z_L_hears_0, z_L_hears_n, z_L_requesterHearsOfDue, z_L_requesterIsCharged, hA, h3, ht], by simp [s_takeRequester, h18]⟩
    by_cases k11 : k = 11
    · subst k11
      exact Or.inl ⟨by simp [z_rt, z_L_rt_10, z_L_rt_0, z_L_rt_n, z_L_hears_10, z_L_hears_0, z_L_hears_n, z_L_requesterHearsOfDue, z_L_requesterIsCharged, hA, h3, ht], by simp [s_takeRequester, h18]⟩
    by_cases k12 : k = 12
    · subst k12
      exact Or.inl ⟨by simp [z_rt, z_L_rt_10, z_L_rt_0, z_L_rt_n, z_L_hears_10, z_L_hears_0, z_L_hears_n, z_L_requesterHearsOfDue, z_L_requesterIsCharged, hA, h3, ht], by simp [s_takeRequester, h18]⟩
    by_cases k13 : k = 13
    · subst k13
      exact Or.inl ⟨by simp [z_rt, z_L_rt_10, z_L_rt_0, z_L_rt_n, z_L_hears_10, z_L_hears_0, z_L_hears_n, z_L_requesterHearsOfDue, z_L_requesterIsCharged, hA, h3, ht], by simp [s_takeRequester, h18]⟩
    by_cases k14 : k = 14
    · subst k14
      exact Or.inl ⟨by simp [z_rt, z_L_rt_10, z_L_rt_0, z_L_rt_n, z_L_hears_10, z_L_hears_0, z_L_hears_n, z_L_requesterHearsOfDue, z_L_requesterIsCharged, hA, h3, ht], by simp [s_takeRequester, h18]⟩
    by_cases k15 : k = 15
    · subst k15
      exact Or.inl ⟨by simp [z_rt, z_L_rt_10, z_L_rt_0, z_L_rt_n, z_L_hears_10, z_L_hears_0, z_L_hears_n, z_L_requesterHearsOfDue, z_L_requesterIsCharged, hA, h3, ht], by simp [s_takeRequester, h18]⟩
    by_cases k16 : k = 16
    · subst k16
      exact Or.inr (Or.inl ⟨11, by simp [rtS], by simp [z_rt, z_L_rt_10, z_L_rt_0, z_L_rt_n, z_L_hears_10, z_L_hears_0, z_L_hears_n, z_L_requesterHearsOfDue, z_L_requesterIsCharged, hA, h3, ht], by simp [s_takeRequester, h18]⟩)
    exact Or.inl ⟨by simp [z_rt, z_L_rt_10, z_L_rt_0, z_L_rt_n, z_L_hears_10, z_L_hears_0, z_L_hears_n, z_L_requesterHearsOfDue, z_L_requesterIsCharged, hA, h3, ht, k2, k3, k4, k5, k6, k7, k8, k9, k10, k11, k12, k13, k14, k15, k16], by simp [s_takeRequester, h18, k2, k3, k4, k5, k6, k7, k8, k9, k10, k11, k12, k13, k14, k15, k16]⟩
  by_cases k2 : k = 2
  · subst k2
    exact Or.inl ⟨by simp [z_rt, z_L_rt_10, z_L_rt_0, z_L_rt_n, z_L_hears_10, z_L_hears_0, z_L_hears_n, z_L_requesterHearsOfDue, z_L_requesterIsCharged, hA, h3, ht, s0, s2, s4, s5, s7, s10], by simp [s_takeRequester, h18, s0, s2, s4, s5, s7, s10]⟩
  by_cases k3 : k = 3
  · subst k3
    exact Or.inl ⟨by simp [z_rt, z_L_rt_10, z_L_rt_0, z_L_rt_n, z_L_hears_10, z_L_hears_0, z_L_hears_n, z_L_requesterHearsOfDue, z_L_requesterIsCharged, hA, h3, ht, s0, s2, s4, s5, s7, s10], by simp [s_takeRequester, h18, s0, s2, s4, s5, s7, s10]⟩
  by_cases k4 : k = 4
  · subst k4
    exact Or.inl ⟨by simp [z_rt, z_L_rt_10, z_L_rt_0, z_L_rt_n, z_L_hears_10, z_L_hears_0, z_L_hears_n, z_L_requesterHearsOfDue, z_L_requesterIsCharged, hA, h3, ht, s0, s2, s4, s5, s7, s10], by simp [s_takeRequester, h18, s0, s2, s4, s5, s7, s10]⟩
  by_cases k5 : k = 5
  · subst k5
    exact Or.inl ⟨by simp [z_rt, z_L_rt_10, z_L_rt_0, z_L_rt_n, z_L_hears_10, z_L_hears_0, z_L_hears_n, z_L_requesterHearsOfDue, z_L_requesterIsCharged, hA, h3, ht, s0, s2, s4, s5, s7, s10], by simp [s_takeRequester, h18, s0, s2, s4, s5, s7, s10]⟩
  by_cases k6 : k = 6
  · subst k6
    exact Or.inl ⟨by simp [z_rt, z_L_rt_10, z_L_rt_0, z_L_rt_n, z_L_hears_10, z_L_hears_0, z_L_hears_n, z_L_requesterHearsOfDue, z_L_requesterIsCharged, hA, h3, ht, s0, s2, s4, s5, s7, s10], by simp [s_takeRequester, h18, s0, s2, s4, s5, s7, s10]⟩
  by_cases k7 : k = 7
  · subst k7
    exact Or.inl ⟨by simp [z_rt, z_L_rt_10, z_L_rt_0, z_L_rt_n, z_L_hears_10, z_L_hears_0, z_L_hears_n, z_L_requesterHearsOfDue, z_L_requesterIsCharged, hA, h3, ht, s0, s2, s4, s5, s7, s10], by simp [s_takeRequester, h18, s0, s2, s4, s5, s7, s10]⟩
  by_cases k8 : k = 8
  · subst k8
    exact Or.inl ⟨by simp [z_rt, z_L_rt_10, z_L_rt_0, z_L_rt_n, z_L_hears_10, z_L_hears_0, z_L_hears_n, z_L_requesterHearsOfDue, z_L_requesterIsCharged, hA, h3, ht, s0, s2, s4, s5, s7, s10], by simp [s_takeRequester, h18, s0, s2, s4, s5, s7, s10]⟩
  by_cases k9 : k = 9
  · subst k9
    exact Or.inl ⟨by simp [z_rt, z_L_rt_10, z_L_rt_0, z_L_rt_n, z_L_hears_10, z_L_hears_0, z_L_hears_n, z_L_requesterHearsOfDue, z_L_requesterIsCharged, hA, h3, ht, s0, s2, s4, s5, s7, s10], by simp [s_takeRequester, h18, s0, s2, s4, s5, s7, s10]⟩
  by_cases k10 : k = 10
  · subst k10
    exact Or.inl ⟨by simp [z_rt, z_L_rt_10, z_L_rt_0, z_L_rt_n, z_L_hears_10, z_L_hears_0, z_L_hears_n, z_L_requesterHearsOfDue, z_L_requesterIsCharged, hA, h3, ht, s0, s2, s4, s5, s7, s10], by simp [s_takeRequester, h18, s0, s2, s4, s5, s7, s10]⟩
  by_cases k11 : k = 11
  · subst k11
    exact Or.inl ⟨by simp [z_rt, z_L_rt_10, z_L_rt_0, z_L_rt_n, z_L_hears_10, z_L_hears_0, z_L_hears_n, z_L_requesterHearsOfDue, z_L_requesterIsCharged, hA, h3, ht, s0, s2, s4, s5, s7, s10], by simp [s_takeRequester, h18, s0, s2, s4, s5, s7, s10]⟩
  by_cases k12 : k = 12
  · subst k12
    exact Or.inl ⟨by simp [z_rt, z_L_rt_10, z_L_rt_0, z_L_rt_n, z_L_hears_10, z_L_hears_0, z_L_hears_n, z_L_requesterHearsOfDue, z_L_requesterIsCharged, hA, h3, ht, s0, s2, s4, s5, s7, s10], by simp [s_takeRequester, h18, s0, s2, s4, s5, s7, s10]⟩
  by_cases k13 : k = 13
  · subst k13
    exact Or.inl ⟨by simp [z_rt, z_L_rt_10, z_L_rt_0, z_L_rt_n, z_L_hears_10, z_L_hears_0, z_L_hears_n, z_L_requesterHearsOfDue, z_L_requesterIsCharged, hA, h3, ht, s0, s2, s4, s5, s7, s10], by simp [s_takeRequester, h18, s0, s2, s4, s5, s7, s10]⟩
  by_cases k14 : k = 14
  · subst k14
    exact Or.inl ⟨by simp [z_rt, z_L_rt_10, z_L_rt_0, z_L_rt_n, z_L_hears_10, z_L_hears_0, z_L_hears_n, z_L_requesterHearsOfDue, z_L_requesterIsCharged, hA, h3, ht, s0, s2, s4, s5, s7, s10], by simp [s_takeRequester, h18, s0, s2, s4, s5, s7, s10]⟩
  by_cases k15 : k = 15
  · subst k15
    exact Or.inl ⟨by simp [z_rt, z_L_rt_10, z_L_rt_0, z_L_rt_n, z_L_hears_10, z_L_hears_0, z_L_hears_n, z_L_requesterHearsOfDue, z_L_requesterIsCharged, hA, h3, ht, s0, s2, s4, s5, s7, s10], by simp [s_takeRequester, h18, s0, s2, s4, s5, s7, s10]⟩
  by_cases k16 : k = 16
  · subst k16
    exact Or.inl ⟨by simp [z_rt, z_L_rt_10, z_L_rt_0, z_L_rt_n, z_L_hears_10, z_L_hears_0, z_L_hears_n, z_L_requesterHearsOfDue, z_L_requesterIsCharged, hA, h3, ht, s0, s2, s4, s5, s7, s10], by simp [s_takeRequester, h18, s0, s2, s4, s5, s7, s10]⟩
  exact Or.inl ⟨by simp [z_rt, z_L_rt_10, z_L_rt_0, z_L_rt_n, z_L_hears_10, z_L_hears_0, z_L_hears_n, z_L_requesterHearsOfDue, z_L_requesterIsCharged, hA, h3, ht, k2, k3, k4, k5, k6, k7, k8, k9, k10, k11, k12, k13, k14, k15, k16, s0, s2, s4, s5, s7, s10], by simp [s_takeRequester, h18, k2, k3, k4, k5, k6, k7, k8, k9, k10, k11, k12, k13, k14, k15, k16, s0, s2, s4, s5, s7, s10]⟩
