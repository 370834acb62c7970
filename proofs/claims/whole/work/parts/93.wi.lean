/-! The class's world: what lives is what the ints say, and nothing else. -/
def WI (t0 : Nat × Nat) (X : Nat → Nat → Nat) (L : List Nat) (tg : Nat → Nat × Nat) (A : ew_R) : Prop :=
  (∀ d, X 14 (64 * d) = t0.1 ∧ X 20 (64 * d) = t0.1) ∧ (∀ b ∈ L, p_live A (tg b).1 (tg b).2) ∧ (∀ kd id, p_live A kd id → ew_in X L tg kd id (X kd id)) ∧ clC X L tg A
section WIS
variable {t0 : Nat × Nat} {X X' : Nat → Nat → Nat} {L L' : List Nat} {tg tg' : Nat → Nat × Nat} {A A' B : ew_R} {q : Nat}
theorem WI.fresh (h : WI t0 X L tg A) {kd id : Nat} (hn : ¬ p_live A kd id) : ∀ b ∈ L, (kd, id) ≠ tg b := fun b hb e => hn (by have := h.2.1 b hb; rw [← e] at this; exact this)
theorem WI.inn (h : WI t0 X L tg A) {kd id : Nat} (hn : p_live A kd id) : ew_in X L tg kd id (X kd id) := h.2.2.1 kd id hn
theorem WI.cl (h : WI t0 X L tg A) : clC X L tg A := h.2.2.2
theorem p_live_st {kd id : Nat} (h : p_live A kd id) : ¬ stC kd id := by
  rintro ⟨h1, h2⟩
  unfold p_live at h
  omega
theorem WI.mk {S : List (Nat × Nat)} (h : WI t0 X L tg A) (hS : em_S S X L tg X' L' tg') (hl : ∀ kd id, p_live A' kd id ↔ p_live A kd id ∨ (kd, id) ∈ S) (hc : clC X' L' tg' A') : WI t0 X' L' tg' A' := by
  refine ⟨fun d => ?_, fun b hb => ?_, fun kd id hk => ?_, hc⟩
  · have key : ∀ k, (k = 14 ∨ k = 20) → (k, 64 * d) ∉ S := fun k hk hm => p_live_st ((hl k (64 * d)).mpr (Or.inr hm)) ⟨hk, by omega⟩
    rw [hS.1 14 _ (key 14 (Or.inl rfl)), hS.1 20 _ (key 20 (Or.inr rfl))]
    exact h.1 d
  · rcases hS.2.2.2 b hb with h1 | ⟨h1, h2⟩
    · exact (hl _ _).mpr (Or.inr h1)
    · rw [h2]; exact (hl _ _).mpr (Or.inl (h.2.1 b h1))
  · rcases (hl kd id).mp hk with h1 | h1
    · exact (hS.ad (h.inn h1)).self
    · exact hS.2.2.1 _ h1
theorem WI.cg (h : WI t0 X L tg A) (hl : ∀ kd id, p_live A' kd id ↔ p_live A kd id) (hc : clC X L tg A') : WI t0 X L tg A' := h.mk em_S.nil (fun kd id => by rw [hl]; simp) hc
theorem rfC_irr (kd id : Nat) (r r' : Nat → Int32) (c i : Nat) (hk : ¬ (kd = 2 ∨ kd = 4 ∨ kd = 8 ∨ kd = 9 ∨ kd = 10 ∨ kd = 13 ∨ kd = 14 ∨ kd = 16 ∨ kd = 20)) (h : rfC kd id r' c i) : rfC kd id r c i := by
  unfold rfC at h
  split at h
  · exact ⟨h.1, h.2⟩
  · exact absurd (by simp) hk
  · exact absurd (by simp) hk
  · exact ⟨h.1, h.2⟩
  · exact ⟨h.1, h.2⟩
  · exact absurd (by simp) hk
  · exact absurd (by simp) hk
  · exact absurd (by simp) hk
  · exact absurd (by simp) hk
  · exact absurd (by simp) hk
  · exact ⟨h.1, h.2⟩
  · exact absurd (by simp) hk
  · exact absurd (by simp) hk
  · exact False.elim h
theorem clC_cg (h : clC X L tg A) (ha : ∀ c, c = 2 ∨ c = 4 ∨ c = 8 ∨ c = 9 ∨ c = 10 ∨ c = 13 ∨ c = 14 ∨ c = 16 ∨ c = 20 → A' c = A c) : clC X L tg A' := by
  intro b hb c i hr
  refine h b hb c i ?_
  by_cases hk : (tg b).1 = 2 ∨ (tg b).1 = 4 ∨ (tg b).1 = 8 ∨ (tg b).1 = 9 ∨ (tg b).1 = 10 ∨ (tg b).1 = 13 ∨ (tg b).1 = 14 ∨ (tg b).1 = 16 ∨ (tg b).1 = 20
  · rw [ha _ hk] at hr; exact hr
  · exact rfC_irr _ _ _ _ _ _ hk hr
/-- ints alone have changed -/
theorem WI.up (h : WI t0 X L tg A) (h5 : A' 0 0 5 = A 0 0 5) (h6 : A' 0 0 6 = A 0 0 6) (ha : ∀ c, c = 2 ∨ c = 4 ∨ c = 8 ∨ c = 9 ∨ c = 10 ∨ c = 13 ∨ c = 14 ∨ c = 16 ∨ c = 20 → A' c = A c) : WI t0 X L tg A' :=
  h.cg (fun kd id => p_live_cg h5 h6 (ha 13 (by simp)) (fun d => by rw [ha 8 (by simp)]; exact ⟨rfl, rfl⟩) (fun d => by rw [ha 16 (by simp)]; exact ⟨rfl, rfl⟩) kd id) (clC_cg h.cl ha)
/-! What the relation says lives -/
theorem Sim.th (S : Sim A B q) {d : Nat} : p_th A d ↔ ¬ B 22 0 d = 0 := by
  have e13 := S.R.C.th (d / 6) (d % 6) (Nat.mod_lt _ (by decide))
  rw [show 6 * (d / 6) + d % 6 = d by omega] at e13
  have e6 : (A 0 0 6).toNatClampNeg = p_l B := by rw [S.R.C.nl]; rfl
  unfold p_th
  rw [e13, e6]
  constructor
  · exact fun z => z.1
  · intro z
    refine ⟨z, ?_⟩
    rcases Nat.lt_or_ge (d / 6) (p_l B) with h | h
    · exact h
    · exact absurd (S.I.L.2.2.1 d (by omega)) z
theorem Sim.lv0 {kd : Nat} (h : kd = 0 ∨ kd = 7 ∨ kd = 9 ∨ kd = 10 ∨ kd = 11 ∨ kd = 12 ∨ kd = 18) : p_live A kd 0 := Or.inl ⟨h, rfl⟩
theorem Sim.lv1 (S : Sim A B q) {c : Nat} (h : c < p_c B) : p_live A 1 c := Or.inr (Or.inl ⟨rfl, by rw [S.R.C.nc]; exact h⟩)
theorem Sim.lv2 (S : Sim A B q) {kd ln : Nat} (h : ln < p_l B) (hk : kd = 2 ∨ kd = 3 ∨ kd = 13) : p_live A kd ln := Or.inr (Or.inr (Or.inl ⟨hk, by rw [S.R.C.nl]; exact h⟩))
theorem Sim.lv4 (S : Sim A B q) {kd d : Nat} (h : ¬ B 22 0 d = 0) (hk : kd = 4 ∨ kd = 5 ∨ kd = 8 ∨ kd = 15 ∨ kd = 16 ∨ kd = 17) : p_live A kd d := Or.inr (Or.inr (Or.inr (Or.inl ⟨hk, S.th.mpr h⟩)))
theorem Sim.n8 (S : Sim A B q) (d : Nat) : A 8 d 2 = nI (p_n B (2 * d)) := by
  have h : p_col A 8 2 d = B 29 0 (2 * d) := by rw [S.R.E.2.2.1]
  exact (show A 8 d 2 = B 29 0 (2 * d) from h).trans (S.I.E.1 (2 * d)).1
theorem Sim.n16 (S : Sim A B q) (d : Nat) : A 16 d 2 = nI (p_n B (2 * d + 1)) := by
  have h : p_col A 16 2 d = B 29 0 (2 * d + 1) := by rw [S.R.E.2.2.2.2.2]
  exact (show A 16 d 2 = B 29 0 (2 * d + 1) from h).trans (S.I.E.1 (2 * d + 1)).1
theorem Sim.nle (S : Sim A B q) (e : Nat) : p_n B e ≤ q := (S.I.E.1 e).2
theorem Sim.q512 (S : Sim A B q) : q ≤ 512 := S.I.S.1
theorem Sim.lv6 (S : Sim A B q) {d k : Nat} (h : ¬ B 22 0 d = 0) (hk : k < p_n B (2 * d)) : p_live A 6 (512 * d + k) := by
  have := S.nle (2 * d)
  have := S.q512
  have e1 : (512 * d + k) / 512 = d := by omega
  have e2 : (512 * d + k) % 512 = k := by omega
  refine Or.inr (Or.inr (Or.inr (Or.inr (Or.inl ⟨rfl, ?_, ?_⟩))))
  · rw [e1]; exact S.th.mpr h
  · rw [e1, e2, S.n8, nI_clamp (by omega)]; exact hk
theorem Sim.lv19 (S : Sim A B q) {d k : Nat} (h : ¬ B 22 0 d = 0) (hk : k < p_n B (2 * d + 1)) : p_live A 19 (512 * d + k) := by
  have := S.nle (2 * d + 1)
  have := S.q512
  have e1 : (512 * d + k) / 512 = d := by omega
  have e2 : (512 * d + k) % 512 = k := by omega
  refine Or.inr (Or.inr (Or.inr (Or.inr (Or.inr (Or.inl ⟨rfl, ?_, ?_⟩)))))
  · rw [e1]; exact S.th.mpr h
  · rw [e1, e2, S.n16, nI_clamp (by omega)]; exact hk
theorem Sim.d192 (S : Sim A B q) {d : Nat} (h : ¬ B 22 0 d = 0) : d < 192 := S.Z.2 d h
theorem Sim.d6 (S : Sim A B q) {d : Nat} (h : ¬ B 22 0 d = 0) : d / 6 < p_l B := by
  rcases Nat.lt_or_ge (d / 6) (p_l B) with h1 | h1
  · exact h1
  · exact absurd (S.I.L.2.2.1 d (by omega)) h
theorem nl6 {d n : Nat} (h2 : A 8 d 2 = nI n) (hn : n < 512) : ¬ p_live A 6 (512 * d + n) := by
  have e1 : (512 * d + n) / 512 = d := by omega
  have e2 : (512 * d + n) % 512 = n := by omega
  have h3 : (A 8 d 2).toNatClampNeg = n := by rw [h2, nI_clamp (by omega)]
  unfold p_live
  rw [e1, e2, h3]
  omega
theorem nl19 {d n : Nat} (h2 : A 16 d 2 = nI n) (hn : n < 512) : ¬ p_live A 19 (512 * d + n) := by
  have e1 : (512 * d + n) / 512 = d := by omega
  have e2 : (512 * d + n) % 512 = n := by omega
  have h3 : (A 16 d 2).toNatClampNeg = n := by rw [h2, nI_clamp (by omega)]
  unfold p_live
  rw [e1, e2, h3]
  omega
theorem nl14 {d g : Nat} (h1 : A 8 d 1 = nI (64 * d + g)) (hg : g ≤ 11) (hd : d < 192) : ¬ p_live A 14 (64 * d + g + 1) := by
  have e1 : (64 * d + g + 1) / 64 = d := by omega
  have h3 : (A 8 d 1).toNatClampNeg = 64 * d + g := by rw [h1, nI_clamp (by omega)]
  unfold p_live
  rw [e1, h3]
  omega
theorem nl20 {d g : Nat} (h1 : A 16 d 1 = nI (64 * d + g)) (hg : g ≤ 11) (hd : d < 192) : ¬ p_live A 20 (64 * d + g + 1) := by
  have e1 : (64 * d + g + 1) / 64 = d := by omega
  have h3 : (A 16 d 1).toNatClampNeg = 64 * d + g := by rw [h1, nI_clamp (by omega)]
  unfold p_live
  rw [e1, h3]
  omega
theorem WI.ls5 (h : WI t0 X L tg A) {d g n : Nat} (ht : p_th A d) (hd : d < 192) (h2 : A 8 d 2 = nI n) (hp : p_ls 8 14 A d g n) : lsC 8 14 t0 X L tg A d g n := by
  obtain ⟨g11, nc, q1, qg⟩ := hp
  refine ⟨g11, nc, q1, h2, fun _ => (h.1 d).1, fun hg => ⟨(qg hg).1, (qg hg).2, h.inn ?_⟩⟩
  have e1 : (64 * d + g) / 64 = d := by omega
  refine Or.inr (Or.inr (Or.inr (Or.inr (Or.inr (Or.inr (Or.inl ⟨rfl, ?_, ?_, ?_⟩))))))
  · rw [e1]; exact ht
  · omega
  · rw [e1, q1, nI_clamp (by omega)]; omega
theorem WI.ls15 (h : WI t0 X L tg A) {d g n : Nat} (ht : p_th A d) (hd : d < 192) (h2 : A 16 d 2 = nI n) (hp : p_ls 16 20 A d g n) : lsC 16 20 t0 X L tg A d g n := by
  obtain ⟨g11, nc, q1, qg⟩ := hp
  refine ⟨g11, nc, q1, h2, fun _ => (h.1 d).2, fun hg => ⟨(qg hg).1, (qg hg).2, h.inn ?_⟩⟩
  have e1 : (64 * d + g) / 64 = d := by omega
  refine Or.inr (Or.inr (Or.inr (Or.inr (Or.inr (Or.inr (Or.inr ⟨rfl, ?_, ?_, ?_⟩))))))
  · rw [e1]; exact ht
  · omega
  · rw [e1, q1, nI_clamp (by omega)]; omega
/-- all that a letter of the requester's side asks -/
theorem Sim.sup5 (S : Sim A B q) (hq : q < 512) (W : WI t0 X L tg A) {d : Nat} (hd : ¬ B 22 0 d = 0) : ∃ g, p_ls 8 14 A d g (p_n B (2 * d)) ∧ lsC 8 14 t0 X L tg A d g (p_n B (2 * d)) ∧ (∀ b ∈ L, (6, 512 * d + p_n B (2 * d)) ≠ tg b) ∧ (∀ b ∈ L, (14, 64 * d + g + 1) ≠ tg b) ∧ p_n B (2 * d) < 512 := by
  obtain ⟨g, hg⟩ := S.R.G.1 d hd
  have hn : p_n B (2 * d) < 512 := by have := S.nle (2 * d); omega
  exact ⟨g, hg, W.ls5 (S.th.mpr hd) (S.d192 hd) (S.n8 d) hg, W.fresh (nl6 (S.n8 d) hn), W.fresh (nl14 hg.2.2.1 hg.1 (S.d192 hd)), hn⟩
theorem Sim.sup15 (S : Sim A B q) (hq : q < 512) (W : WI t0 X L tg A) {d : Nat} (hd : ¬ B 22 0 d = 0) : ∃ g, p_ls 16 20 A d g (p_n B (2 * d + 1)) ∧ lsC 16 20 t0 X L tg A d g (p_n B (2 * d + 1)) ∧ (∀ b ∈ L, (19, 512 * d + p_n B (2 * d + 1)) ≠ tg b) ∧ (∀ b ∈ L, (20, 64 * d + g + 1) ≠ tg b) ∧ p_n B (2 * d + 1) < 512 := by
  obtain ⟨g, hg⟩ := S.R.G.2 d hd
  have hn : p_n B (2 * d + 1) < 512 := by have := S.nle (2 * d + 1); omega
  exact ⟨g, hg, W.ls15 (S.th.mpr hd) (S.d192 hd) (S.n16 d) hg, W.fresh (nl19 (S.n16 d) hn), W.fresh (nl20 hg.2.2.1 hg.1 (S.d192 hd)), hn⟩
/-- after a letter: the world's invariant again -/
theorem WI.send5 (W : WI t0 X L tg A) {d g n w : Nat} {kn tl : Int32} (ht : p_th A d) (hd : d < 192) (hn : n < 512) (h2 : A 8 d 2 = nI n) (hp : p_ls 8 14 A d g n) (hS : em_S (nw_5 d g n) X L tg X' L' tg') : WI t0 X' L' tg' (z_L_send_5 A d g n w kn tl) :=
  W.mk hS (p_live_send5 ht hd hn hp h2) (clC_wr5 hd hn W.cl (W.ls5 ht hd h2 hp) hS)
theorem WI.send15 (W : WI t0 X L tg A) {d g n w : Nat} {kn tl : Int32} (ht : p_th A d) (hd : d < 192) (hn : n < 512) (h2 : A 16 d 2 = nI n) (hp : p_ls 16 20 A d g n) (hS : em_S (nw_15 d g n) X L tg X' L' tg') : WI t0 X' L' tg' (z_L_send_15 A d g n w kn tl) :=
  W.mk hS (p_live_send15 ht hd hn hp h2) (clC_wr15 hd hn W.cl (W.ls15 ht hd h2 hp) hS)
end WIS
