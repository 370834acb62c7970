/-! A letter taken by the supplier keeps the relation -/
theorem s_letGo_oth (B : ew_R) (d : Nat) {c : Nat} (h : c ≠ 10) (h2 : c ≠ 28) : s_letGo B d c = B c := by
  unfold s_letGo
  split
  · rw [p_kd_up _ _ _ _ h2]
  · rw [p_kd_up _ _ _ _ h2, p_kd_up _ _ _ _ h]
theorem Sim.turned {A B : ew_R} {q d : Nat} {k v : Int32} (S : Sim A B q) (hd : ¬ B 22 0 d = 0) (hT : tkT (B 23 0 d) k v) (hh : p_has B (2 * d) k) : Sim (up3 A 17 d 0 v) (up3 B 23 0 d v) q := by
  rcases hT with ⟨h1, h2, h3⟩ | ⟨h1, h2, h3⟩ | ⟨h1, h2, h3⟩ | ⟨h1, h2, h3⟩ | ⟨h1, h2, h3⟩ | ⟨h1, h2, h3⟩
  all_goals subst h3; subst h2
  · refine S.turn hd _ (fun rs pr h3 s3 h4 h7 cn pz H => ?_) (fun z => by grind) (fun z => by grind) (fun z => by grind)
    rw [h1] at H
    obtain ⟨a, b, c, d, e, f, g, h, i, j, k, l, m, n⟩ := H
    refine ⟨?_, ?_, ?_, ?_, ?_, ?_, ?_, ?_, ?_, ?_, ?_, ?_, ?_, ?_⟩ <;> grind
  · refine S.turn hd _ (fun rs pr h3 s3 h4 h7 cn pz H => ?_) (fun z => by grind) (fun z => by grind) (fun z => by grind)
    rw [h1] at H
    obtain ⟨a, b, c, d, e, f, g, h, i, j, k, l, m, n⟩ := H
    refine ⟨?_, ?_, ?_, ?_, ?_, ?_, ?_, ?_, ?_, ?_, ?_, ?_, ?_, ?_⟩ <;> grind
  · refine S.turn hd _ (fun rs pr h3 s3 h4 h7 cn pz H => ?_) (fun z => by grind) (fun z => by grind) (fun z => by grind)
    rw [h1] at H
    obtain ⟨a, b, c, d, e, f, g, h, i, j, k, l, m, n⟩ := H
    refine ⟨?_, ?_, ?_, ?_, ?_, ?_, ?_, ?_, ?_, ?_, ?_, ?_, ?_, ?_⟩ <;> grind
  · refine S.turn hd _ (fun rs pr h3 s3 h4 h7 cn pz H => ?_) (fun z => by grind) (fun z => by grind) (fun z => by grind)
    rw [h1] at H
    obtain ⟨a, b, c, d, e, f, g, h, i, j, k, l, m, n⟩ := H
    refine ⟨?_, ?_, ?_, ?_, ?_, ?_, ?_, ?_, ?_, ?_, ?_, ?_, ?_, ?_⟩ <;> grind
  · refine S.turn hd _ (fun rs pr h3 s3 h4 h7 cn pz H => ?_) (fun z => by grind) (fun z => by grind) (fun z => by grind)
    rw [h1] at H
    obtain ⟨a, b, c, d, e, f, g, h, i, j, k, l, m, n⟩ := H
    refine ⟨?_, ?_, ?_, ?_, ?_, ?_, ?_, ?_, ?_, ?_, ?_, ?_, ?_, ?_⟩ <;> grind
  · refine S.turn hd _ (fun rs pr h3 s3 h4 h7 cn pz H => ?_) (fun z => by grind) (fun z => by grind) (fun z => by grind)
    generalize B 23 0 d = st at h1 H
    obtain ⟨a, b, c, d, e, f, g, h, i, j, k, l, m, n⟩ := H
    refine ⟨?_, ?_, ?_, ?_, ?_, ?_, ?_, ?_, ?_, ?_, ?_, ?_, ?_, ?_⟩ <;> grind
/-- what a taken letter leaves alone in the reference -/
def tkB (B R : ew_R) (d : Nat) : Prop := (∀ c, c ∉ [0, 6, 10, 23, 28, 29, 32, 33, 34, 35, 36, 37, 38, 39] → R c = B c) ∧ R 29 0 (2 * d) = B 29 0 (2 * d)
/-- what comes of it: nothing new, or a letter and the state 11 -/
def OutE (A B : ew_R) (q d g n : Nat) (Z : List (Nat × Nat) × ew_R) (R : ew_R) : Prop :=
  tkB B R d ∧ ((Z.1 = [] ∧ Sim Z.2 R q ∧ (∀ c, c ≠ 1 → c ≠ 11 → c ≠ 17 → Z.2 c = A c) ∧ (B 23 0 d = 11 → R = B)) ∨ (Z.1 = nw_15 d g n ∧ ¬ B 23 0 d = 11 ∧ (q < 512 → Sim Z.2 R (q + 1)) ∧ R 23 0 d = 11 ∧ ∃ (A0 : ew_R) (w : Nat) (k t : Int32), Z.2 = z_L_send_15 A0 d g n w k t ∧ ∀ c, c ≠ 1 → c ≠ 17 → A0 c = A c))
theorem tkB.refl (B : ew_R) (d : Nat) : tkB B B d := ⟨fun _ _ => rfl, rfl⟩
theorem tkB.up (B : ew_R) (d i : Nat) {c : Nat} (x : Int32) (h : c = 6 ∨ c = 10 ∨ c = 23 ∨ c = 28) : tkB B (up3 B c 0 i x) d := by
  refine ⟨fun c' h' => p_kd_up _ _ _ _ (fun z => h' (by rw [z]; rcases h with rfl | rfl | rfl | rfl <;> decide)), ?_⟩
  rw [p_kd_up _ _ _ _ (by omega)]
theorem tkB.tr {B R U : ew_R} {d : Nat} (h1 : tkB B R d) (h2 : tkB R U d) : tkB B U d := ⟨fun c h => (h2.1 c h).trans (h1.1 c h), h2.2.trans h1.2⟩
theorem tkB.go (B : ew_R) (d : Nat) : tkB B (s_letGo B d) d := by
  unfold s_letGo
  split
  · exact tkB.up _ _ _ _ (by simp)
  · exact (tkB.up _ _ _ _ (by simp)).tr (tkB.up _ _ _ _ (by simp))
theorem tkB.wr (B : ew_R) (d w lg : Nat) (k t : Int32) : tkB B (s_write B (2 * d + 1) k t w lg) d := by
  refine ⟨fun c h => s_write_oth _ _ _ _ _ _ (fun z => h ?_), ?_⟩
  · simp only [List.mem_cons, List.not_mem_nil, or_false] at z ⊢; omega
  · rw [s_write_29, va_up_ne _ _ (by omega)]
theorem Sim.tkE_n {A B : ew_R} {q d ln t g n w lg : Nat} {k : Int32} (S : Sim A B q) (hd : ¬ B 22 0 d = 0) (hk : A 6 t 1 = k) (hh : p_has B (2 * d) k) (ew : w = wtB B) (elg : lg = lgB B) (en : n = p_n B (2 * d + 1)) (hg : p_ls 16 20 A d g n) (h4 : A 4 d 4 = (-1)) :
    z_Lender_isOut (A 17 d 0) = 0 ∧ OutE A B q d g n (z_L_supplierTakes_n A d t g n w) (s_takeSupplier B ln d k w lg) := by
  have e17 : A 17 d 0 = B 23 0 d := congrFun S.R.C.d0 d
  have H := S.P.ph d hd
  have hc := H.c
  have h5 : ¬ B 23 0 d = 5 := fun z => hc (by simp [z]) h4
  have h6 : ¬ B 23 0 d = 6 := fun z => hc (by simp [z]) h4
  have h7 : ¬ B 23 0 d = 7 := fun z => hc (by simp [z]) h4
  have hout : z_Lender_isOut (A 17 d 0) = 0 := by unfold z_Lender_isOut; rw [e17, if_neg h5, if_neg h6, if_neg h7]
  refine ⟨hout, ?_⟩
  rw [e17] at hout
  rcases tk_norm_n (ln := ln) (g := g) (n := n) (w := w) (lg := lg) hk e17 rfl hout with ⟨hz, hs⟩ | ⟨v, hT, hz, hs⟩ | ⟨hk, h, -, -⟩ | ⟨hk, h, hz, hs⟩
  · rw [hz, hs]; exact ⟨tkB.refl B d, Or.inl ⟨rfl, S, fun _ _ _ _ => rfl, fun _ => rfl⟩⟩
  · rw [hz, hs]
    refine ⟨tkB.up _ _ _ _ (by simp), Or.inl ⟨rfl, S.turned hd hT hh, fun c _ _ h => p_kd_up _ _ _ _ h, fun z => ?_⟩⟩
    rw [z] at hT; unfold tkT at hT; simp at hT
  · exact absurd h (by simp [h5, h6, h7])
  · have h3 : ¬ B 23 0 d = 3 := fun z => hc (by simp [z]) h4
    rw [hz, hs]
    refine ⟨((tkB.go B d).tr (tkB.up _ _ _ _ (by simp))).tr (tkB.wr _ _ _ _ _ _), Or.inr ⟨rfl, fun z => by rw [z] at h; simp at h, fun hq => ?_, ?_, up3 A 17 d 0 11, w, 16, 0, rfl, fun c _ h => p_kd_up _ _ _ _ h⟩⟩
    · subst hk
      exact S.canc_n hq hd ew elg en hg (by rcases h with h | h | h; exact Or.inl h; exact Or.inr h; exact absurd h h3) hh
    · rw [s_write_oth _ _ _ _ _ _ (by decide), up3_self]
theorem Sim.tkE_c {A B : ew_R} {q d ln b t g n w lg cp : Nat} {k : Int32} (S : Sim A B q) (hd : ¬ B 22 0 d = 0) (ed : d = 6 * ln + b) (hk : A 6 t 1 = k) (hh : p_has B (2 * d) k) (ew : w = wtB B) (elg : lg = lgB B) (en : n = p_n B (2 * d + 1)) (hg : p_ls 16 20 A d g n) (h4 : A 4 d 4 = nI cp) (hcp : cp < 32) :
    OutE A B q d g n (z_L_supplierTakes_c A d t g n w cp b) (s_takeSupplier B ln d k w lg) := by
  have e17 : A 17 d 0 = B 23 0 d := congrFun S.R.C.d0 d
  have H := S.P.ph d hd
  have hn1 : ¬ A 4 d 4 = (-1) := by rw [h4]; exact nI_m1 (by omega)
  have cd := (S.P.cd d hd).2.1
  rcases tk_norm_c (ln := ln) (g := g) (n := n) (w := w) (lg := lg) (cp := cp) (b := b) hk e17 rfl with ⟨hz, hs⟩ | ⟨v, hT, hz, hs⟩ | ⟨hk, h, hz, hs⟩ | ⟨hk, h, hz, hs⟩
  · rw [hz, hs]; exact ⟨tkB.refl B d, Or.inl ⟨rfl, S, fun _ _ _ _ => rfl, fun _ => rfl⟩⟩
  · rw [hz, hs]
    refine ⟨tkB.up _ _ _ _ (by simp), Or.inl ⟨rfl, S.turned hd hT hh, fun c _ _ h => p_kd_up _ _ _ _ h, fun z => ?_⟩⟩
    rw [z] at hT; unfold tkT at hT; simp at hT
  · rw [hz, hs]
    refine ⟨((tkB.up _ _ _ _ (by simp)).tr (tkB.up _ _ _ _ (by simp))).tr (tkB.go _ _), Or.inl ⟨rfl, S.loss ed hd h hcp (by rw [← h4]; exact cd (by rcases h with h | h | h <;> simp [h])), fun c h1 h2 h3 => by dsimp only; rw [p_kd_up _ _ _ _ h2, p_kd_up _ _ _ _ h3, p_kd_up _ _ _ _ h1], fun z => by rw [z] at h; simp at h⟩⟩
  · have h3 : B 23 0 d = 3 := by
      rcases h with h | h | h
      · exact absurd (H.a (by simp [h])) hn1
      · exact absurd (H.a (by simp [h])) hn1
      · exact h
    rw [hz, hs]
    refine ⟨((tkB.go B d).tr (tkB.up _ _ _ _ (by simp))).tr (tkB.wr _ _ _ _ _ _), Or.inr ⟨rfl, fun z => by rw [z] at h; simp at h, fun hq => ?_, ?_, up3 (up3 A 1 cp 3 (-1)) 17 d 0 11, w, 16, 0, rfl, fun c h1 h => by rw [p_kd_up _ _ _ _ h, p_kd_up _ _ _ _ h1]⟩⟩
    · subst hk
      exact S.canc_c hq hd ew elg en hg h3 hh hcp (by rw [← h4]; exact cd (by simp [h3]))
    · rw [s_write_oth _ _ _ _ _ _ (by decide), up3_self]
