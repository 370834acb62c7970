/-! A letter carried: what both sides do before and at each step of the loop -/
theorem wt30 (B : ew_R) (e : Nat) (x : Int32) : wtB (up3 B 30 0 e x) = wtB B := by unfold wtB; rw [p_kd_up _ _ _ _ (by decide)]
theorem lg30 (B : ew_R) (e : Nat) (x : Int32) : lgB (up3 B 30 0 e x) = lgB B := by unfold lgB; rw [p_kd_up _ _ _ _ (by decide)]
theorem s_st_tkB (B : ew_R) (ln d w lg : Nat) (k : Int32) : tkB B (s_takeSupplier B ln d k w lg) d := by
  rcases tk_norm_c (A := fun c _ _ => if c = 6 then k else B 23 0 d) (ln := ln) (d := d) (t := 0) (g := 0) (n := 0) (w := w) (lg := lg) (cp := 0) (b := 0) (st := B 23 0 d) (k := k) rfl rfl rfl with ⟨-, hs⟩ | ⟨v, hT, -, hs⟩ | ⟨hk, h, -, hs⟩ | ⟨hk, h, -, hs⟩
  · rw [hs]; exact tkB.refl B d
  · rw [hs]; exact tkB.up _ _ _ _ (by simp)
  · rw [hs]; exact ((tkB.up _ _ _ _ (by simp)).tr (tkB.up _ _ _ _ (by simp))).tr (tkB.go _ _)
  · rw [hs]; exact ((tkB.go B d).tr (tkB.up _ _ _ _ (by simp))).tr (tkB.wr _ _ _ _ _ _)
theorem Sim.hd_e {A B : ew_R} {q d : Nat} (S : Sim A B q) (hd : ¬ B 22 0 d = 0) : (p_n B (2 * d) ≤ p_s B (2 * d + 1) → nxB B (2 * d) (2 * d + 1) = (-1)) ∧ (p_s B (2 * d + 1) < p_n B (2 * d) → ∃ j, j < lgB B ∧ nxB B (2 * d) (2 * d + 1) = nI j ∧ B 32 0 j = nI (2 * d) ∧ B 33 0 j = nI (p_s B (2 * d + 1) + 1) ∧ A 6 (512 * d + p_s B (2 * d + 1)) 1 = B 34 0 j ∧ A 6 (512 * d + p_s B (2 * d + 1)) 2 = B 35 0 j ∧ A 6 (512 * d + p_s B (2 * d + 1)) 3 = B 36 0 j) := by
  have h192 := S.d192 hd
  have hq := S.q512
  have hn := S.nle (2 * d)
  have hsn := S.I.E.2.2.2.1 d
  have e1 : B 30 0 (2 * d + 1) + 1 = nI (p_s B (2 * d + 1) + 1) := by rw [S.I.E.2.1 (2 * d + 1)]; exact nI_1 _
  refine ⟨fun h => ?_, fun h => ?_⟩
  · unfold nxB; rw [e1]; exact S.I.nofind (by omega) h (by omega)
  · obtain ⟨j, h1, h2, h3, h4⟩ := S.I.find h
    refine ⟨j, h1, by unfold nxB; rw [e1]; exact h4, h2, h3, ?_⟩
    have T := S.R.T.1 j d (p_s B (2 * d + 1)) h1 (by omega) h2 h3 h192
    exact ⟨T.1.2.1, T.1.2.2, T.2 (Nat.le_refl _)⟩
theorem Sim.pre_e {A B : ew_R} {q d ln b i v w : Nat} (S : Sim A B q) (hd : ¬ B 22 0 d = 0) (ed : d = 6 * ln + b) (h39 : B 39 0 i = nI v) (hv : v ≤ p_s B (2 * d)) : (B 37 0 i = (-1) → Sim (up3 A 15 d 5 (nI (max (p_a B (2 * d + 1)) v))) (s_cpre_e B i w ln b) q) ∧
    (∀ j, B 37 0 i = nI j → j < lgB B → B 32 0 j = nI (2 * d) → ∃ k, B 33 0 j = nI (k + 1) ∧ k < p_n B (2 * d) ∧ Sim (up3 (up3 A 15 d 5 (nI (max (p_a B (2 * d + 1)) v))) 6 (512 * d + k) 3 1) (s_cpre_e B i w ln b) q) := by
  have h192 := S.d192 hd
  have hq := S.q512
  have hsn := S.I.E.2.2.2.1 d
  have has := S.I.E.2.2.2.2.1 d
  have n1 := S.nle (2 * d)
  have n2 := S.nle (2 * d + 1)
  have hlg := S.I.S.2.2.2.2.2
  have e31 : B 31 0 (2 * d + 1) = nI (p_a B (2 * d + 1)) := S.I.E.2.2.1 (2 * d + 1)
  have e30 : B 30 0 (2 * d + 1) = nI (p_s B (2 * d + 1)) := S.I.E.2.1 (2 * d + 1)
  have S0 := S.code 0
  have o : ∀ c, c ≠ 0 → up3 B 0 0 0 0 c = B c := fun c h => p_kd_up _ _ _ _ h
  have S1 : Sim (up3 A 15 d 5 (nI (max (p_a B (2 * d + 1)) v))) (if B 39 0 i ≤ B 31 0 (2 * d + 1) then up3 B 0 0 0 0 else up3 (up3 B 0 0 0 0) 31 0 (2 * d + 1) (B 39 0 i)) q := by
    have h9 := S0.acked15 (d := d) (m := max (p_a B (2 * d + 1)) v) (by unfold p_s; rw [o 30 (by decide)]; exact Nat.max_le.mpr ⟨by have := has; unfold p_s at *; omega, hv⟩)
    by_cases hc : B 39 0 i ≤ B 31 0 (2 * d + 1)
    · rw [if_pos hc]
      rw [h39, e31, nI_leI (by omega) (by omega)] at hc
      rw [Nat.max_eq_left hc] at h9 ⊢
      have e9 : up3 (up3 B 0 0 0 0) 31 0 (2 * d + 1) (nI (p_a B (2 * d + 1))) = up3 B 0 0 0 0 := up3_same (by rw [o 31 (by decide)]; exact e31)
      rw [e9] at h9
      exact h9
    · rw [if_neg hc]
      rw [h39, e31, nI_leI (by omega) (by omega)] at hc
      rw [Nat.max_eq_right (by omega)] at h9 ⊢
      rw [h39]; exact h9
  refine ⟨fun h37 => ?_, fun j h37 hj h32 => ?_⟩
  · unfold s_cpre_e
    rw [← ed, if_pos h37, if_pos h37]
    exact S1
  · have hm1 : ¬ B 37 0 i = (-1) := by rw [h37]; exact nI_m1 (by omega)
    have ej : (B 37 0 i).toNatClampNeg = j := by rw [h37, nI_clamp (by omega)]
    obtain ⟨e, k, he, hk, g32, g33⟩ := S.I.G.1 j hj
    have e1 : e = (2 * d) := by
      rw [h32] at g32
      have := congrArg Int32.toNatClampNeg g32
      rw [nI_clamp (by omega), nI_clamp (by omega)] at this
      exact this.symm
    subst e1
    refine ⟨k, g33, hk, ?_⟩
    unfold s_cpre_e
    rw [← ed, if_neg hm1, if_neg hm1, ej]
    by_cases hc2 : B 33 0 j ≤ B 30 0 (2 * d + 1)
    · rw [if_pos hc2, if_pos hc2]
      rw [g33, e30, nI_leI (by omega) (by omega)] at hc2
      refine S1.held5o ?_ (by omega)
      split
      · unfold p_s; rw [o 30 (by decide)]; unfold p_s at hc2; omega
      · unfold p_s; rw [p_kd_up _ _ _ _ (by decide), o 30 (by decide)]; unfold p_s at hc2; omega
    · rw [if_neg hc2, if_neg hc2]
      have l9 : ∀ Y : ew_R, (Y = up3 B 0 0 0 0 ∨ Y = up3 (up3 B 0 0 0 0) 31 0 (2 * d + 1) (B 39 0 i)) → lgB Y = lgB B ∧ Y 32 = B 32 ∧ Y 33 = B 33 := fun Y hY => by
        rcases hY with rfl | rfl
        · exact ⟨by unfold lgB; rw [up3_ne _ _ (by omega)], o 32 (by decide), o 33 (by decide)⟩
        · exact ⟨by unfold lgB; rw [up3_ne _ _ (by omega), up3_ne _ _ (by omega)], by rw [p_kd_up _ _ _ _ (by decide), o 32 (by decide)], by rw [p_kd_up _ _ _ _ (by decide), o 33 (by decide)]⟩
      by_cases hc : B 39 0 i ≤ B 31 0 (2 * d + 1)
      · rw [if_pos hc] at S1 ⊢
        obtain ⟨a1, a2, a3⟩ := l9 _ (Or.inl rfl)
        exact S1.held5n h192 (by rw [a1]; exact hj) (by omega) (by rw [a2]; exact h32) (by rw [a3]; exact g33)
      · rw [if_neg hc] at S1 ⊢
        obtain ⟨a1, a2, a3⟩ := l9 _ (Or.inr rfl)
        exact S1.held5n h192 (by rw [a1]; exact hj) (by omega) (by rw [a2]; exact h32) (by rw [a3]; exact g33)
theorem Sim.hd_o {A B : ew_R} {q d : Nat} (S : Sim A B q) (hd : ¬ B 22 0 d = 0) : (p_n B (2 * d + 1) ≤ p_s B (2 * d) → nxB B (2 * d + 1) (2 * d) = (-1)) ∧ (p_s B (2 * d) < p_n B (2 * d + 1) → ∃ j, j < lgB B ∧ nxB B (2 * d + 1) (2 * d) = nI j ∧ B 32 0 j = nI (2 * d + 1) ∧ B 33 0 j = nI (p_s B (2 * d) + 1) ∧ A 19 (512 * d + p_s B (2 * d)) 1 = B 34 0 j ∧ A 19 (512 * d + p_s B (2 * d)) 2 = B 35 0 j ∧ A 19 (512 * d + p_s B (2 * d)) 3 = B 36 0 j) := by
  have h192 := S.d192 hd
  have hq := S.q512
  have hn := S.nle (2 * d + 1)
  have hsn := S.I.E.2.2.2.1 d
  have e1 : B 30 0 (2 * d) + 1 = nI (p_s B (2 * d) + 1) := by rw [S.I.E.2.1 (2 * d)]; exact nI_1 _
  refine ⟨fun h => ?_, fun h => ?_⟩
  · unfold nxB; rw [e1]; exact S.I.nofind (by omega) h (by omega)
  · obtain ⟨j, h1, h2, h3, h4⟩ := S.I.find h
    refine ⟨j, h1, by unfold nxB; rw [e1]; exact h4, h2, h3, ?_⟩
    have T := S.R.T.2 j d (p_s B (2 * d)) h1 (by omega) h2 h3 h192
    exact ⟨T.1.2.1, T.1.2.2, T.2 (Nat.le_refl _)⟩
theorem Sim.pre_o {A B : ew_R} {q d ln b i v w : Nat} (S : Sim A B q) (hd : ¬ B 22 0 d = 0) (ed : d = 6 * ln + b) (h39 : B 39 0 i = nI v) (hv : v ≤ p_s B (2 * d + 1)) : (B 37 0 i = (-1) → Sim (up3 A 5 d 5 (nI (max (p_a B (2 * d)) v))) (s_cpre_o B i w ln b) q) ∧
    (∀ j, B 37 0 i = nI j → j < lgB B → B 32 0 j = nI (2 * d + 1) → ∃ k, B 33 0 j = nI (k + 1) ∧ k < p_n B (2 * d + 1) ∧ Sim (up3 (up3 A 5 d 5 (nI (max (p_a B (2 * d)) v))) 19 (512 * d + k) 3 1) (s_cpre_o B i w ln b) q) := by
  have h192 := S.d192 hd
  have hq := S.q512
  have hsn := S.I.E.2.2.2.1 d
  have has := S.I.E.2.2.2.2.1 d
  have n1 := S.nle (2 * d + 1)
  have n2 := S.nle (2 * d)
  have hlg := S.I.S.2.2.2.2.2
  have e31 : B 31 0 (2 * d) = nI (p_a B (2 * d)) := S.I.E.2.2.1 (2 * d)
  have e30 : B 30 0 (2 * d) = nI (p_s B (2 * d)) := S.I.E.2.1 (2 * d)
  have S0 := S.code 0
  have o : ∀ c, c ≠ 0 → up3 B 0 0 0 0 c = B c := fun c h => p_kd_up _ _ _ _ h
  have S1 : Sim (up3 A 5 d 5 (nI (max (p_a B (2 * d)) v))) (if B 39 0 i ≤ B 31 0 (2 * d) then up3 B 0 0 0 0 else up3 (up3 B 0 0 0 0) 31 0 (2 * d) (B 39 0 i)) q := by
    have h9 := S0.acked5 (d := d) (m := max (p_a B (2 * d)) v) (by unfold p_s; rw [o 30 (by decide)]; exact Nat.max_le.mpr ⟨by have := has; unfold p_s at *; omega, hv⟩)
    by_cases hc : B 39 0 i ≤ B 31 0 (2 * d)
    · rw [if_pos hc]
      rw [h39, e31, nI_leI (by omega) (by omega)] at hc
      rw [Nat.max_eq_left hc] at h9 ⊢
      have e9 : up3 (up3 B 0 0 0 0) 31 0 (2 * d) (nI (p_a B (2 * d))) = up3 B 0 0 0 0 := up3_same (by rw [o 31 (by decide)]; exact e31)
      rw [e9] at h9
      exact h9
    · rw [if_neg hc]
      rw [h39, e31, nI_leI (by omega) (by omega)] at hc
      rw [Nat.max_eq_right (by omega)] at h9 ⊢
      rw [h39]; exact h9
  refine ⟨fun h37 => ?_, fun j h37 hj h32 => ?_⟩
  · unfold s_cpre_o
    rw [← ed, if_pos h37, if_pos h37]
    exact S1
  · have hm1 : ¬ B 37 0 i = (-1) := by rw [h37]; exact nI_m1 (by omega)
    have ej : (B 37 0 i).toNatClampNeg = j := by rw [h37, nI_clamp (by omega)]
    obtain ⟨e, k, he, hk, g32, g33⟩ := S.I.G.1 j hj
    have e1 : e = (2 * d + 1) := by
      rw [h32] at g32
      have := congrArg Int32.toNatClampNeg g32
      rw [nI_clamp (by omega), nI_clamp (by omega)] at this
      exact this.symm
    subst e1
    refine ⟨k, g33, hk, ?_⟩
    unfold s_cpre_o
    rw [← ed, if_neg hm1, if_neg hm1, ej]
    by_cases hc2 : B 33 0 j ≤ B 30 0 (2 * d)
    · rw [if_pos hc2, if_pos hc2]
      rw [g33, e30, nI_leI (by omega) (by omega)] at hc2
      refine S1.held15o ?_ (by omega)
      split
      · unfold p_s; rw [o 30 (by decide)]; unfold p_s at hc2; omega
      · unfold p_s; rw [p_kd_up _ _ _ _ (by decide), o 30 (by decide)]; unfold p_s at hc2; omega
    · rw [if_neg hc2, if_neg hc2]
      have l9 : ∀ Y : ew_R, (Y = up3 B 0 0 0 0 ∨ Y = up3 (up3 B 0 0 0 0) 31 0 (2 * d) (B 39 0 i)) → lgB Y = lgB B ∧ Y 32 = B 32 ∧ Y 33 = B 33 := fun Y hY => by
        rcases hY with rfl | rfl
        · exact ⟨by unfold lgB; rw [up3_ne _ _ (by omega)], o 32 (by decide), o 33 (by decide)⟩
        · exact ⟨by unfold lgB; rw [up3_ne _ _ (by omega), up3_ne _ _ (by omega)], by rw [p_kd_up _ _ _ _ (by decide), o 32 (by decide)], by rw [p_kd_up _ _ _ _ (by decide), o 33 (by decide)]⟩
      by_cases hc : B 39 0 i ≤ B 31 0 (2 * d)
      · rw [if_pos hc] at S1 ⊢
        obtain ⟨a1, a2, a3⟩ := l9 _ (Or.inl rfl)
        exact S1.held15n h192 (by rw [a1]; exact hj) (by omega) (by rw [a2]; exact h32) (by rw [a3]; exact g33)
      · rw [if_neg hc] at S1 ⊢
        obtain ⟨a1, a2, a3⟩ := l9 _ (Or.inr rfl)
        exact S1.held15n h192 (by rw [a1]; exact hj) (by omega) (by rw [a2]; exact h32) (by rw [a3]; exact g33)
