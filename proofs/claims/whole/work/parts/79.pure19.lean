/-! Letters taken -/
theorem Ph.u3' {st rs : Int32} {pr h3 s3 h4 h7 h5 h6 h15 cn pz : Prop} (H : Ph st rs pr h3 s3 h4 h7 h5 h6 h15 cn pz) (hp : pr) (hs : s3) (hn : ¬ h5) (h1 : rs = 0) : Ph st 1 pr h3 s3 h4 h7 h5 h6 h15 cn pz := by
  obtain ⟨a, b, c, d, e, f, g, h, i, j, k, l, m, n⟩ := H
  refine ⟨?_, ?_, ?_, ?_, ?_, ?_, ?_, ?_, ?_, ?_, ?_, ?_, ?_, ?_⟩ <;> grind
theorem Sim.mk1 {A A1 B B1 : ew_R} {q d : Nat} (S : Sim A B q) (F : p_f0 A A1 B B1 d) (R1 : Rl A1 B1) (I1 : RfI B1 q) (Z1 : RfZ B1) (P : p_ph A1 B1 d) (C : p_cd A1 B1 q d) (rs : ¬ B1 18 0 (d / 6) < 0) : Sim A1 B1 q := ⟨I1, Z1, R1, S.P.no S.Z S.I.S.nc.2 (Nat.le_refl _) F P C rs⟩
theorem p_f0.refl (A B : ew_R) (d : Nat) : p_f0 A A B B d := ⟨rfl, rfl, fun _ _ => rfl, fun _ _ => rfl, fun _ _ => rfl, fun _ _ => rfl, fun _ _ => rfl, fun _ _ => rfl, fun _ _ => rfl, Or.inl rfl, fun _ _ => rfl, Or.inl rfl, fun _ _ _ => rfl, fun _ _ => rfl, fun _ _ _ => rfl⟩
theorem p_f0.seen (A A1 B : ew_R) (d e : Nat) (he : e = 2 * d ∨ e = 2 * d + 1) (x : Int32) (a4 : A1 4 = A 4) : p_f0 A A1 B (up3 B 30 0 e x) d := by
  have o : ∀ c, c ≠ 30 → up3 B 30 0 e x c = B c := fun c h => p_kd_up _ _ _ _ h
  exact ⟨by rw [o 22 (by decide)], by rw [o 16 (by decide)], fun _ _ => by rw [o 23 (by decide)], fun _ _ => by rw [o 24 (by decide)], fun _ _ => by rw [o 25 (by decide)], fun _ _ => by rw [o 27 (by decide)], fun _ _ => by rw [o 28 (by decide)], fun _ _ => by rw [a4], fun _ _ => by rw [o 18 (by decide)], Or.inl (by rw [o 18 (by decide)]), fun _ _ => by rw [o 17 (by decide)], Or.inl (by rw [o 17 (by decide)]), fun k _ _ => by rw [o 0 (by decide)], fun c hc => by rw [o c (by revert c; decide)], fun f h1 h2 => up3_ne _ _ (by omega)⟩
theorem p_s_seen {B : ew_R} {q : Nat} (I : RfI B q) (e f : Nat) (h : p_s B e < 600) : p_s (up3 B 30 0 e (B 30 0 e + 1)) f = if f = e then p_s B e + 1 else p_s B f := by
  have := I.E.s e
  by_cases hf : f = e
  · subst hf; unfold p_s at *; rw [up3_self, if_pos rfl, this, nI_1, nI_clamp (by omega), nI_clamp (by omega)]
  · unfold p_s; rw [up3_ne _ _ (by omega), if_neg hf]
/-- the supplier has seen one more -/
theorem Sim.seen15 {A B : ew_R} {q d : Nat} (S : Sim A B q) (hd : ¬ B 22 0 d = 0) (hs : p_s B (2 * d + 1) < p_n B (2 * d)) : Sim (up3 A 15 d 4 (A 15 d 4 + 1)) (up3 B 30 0 (2 * d + 1) (B 30 0 (2 * d + 1) + 1)) q := by
  have o : ∀ c, c ≠ 30 → up3 B 30 0 (2 * d + 1) (B 30 0 (2 * d + 1) + 1) c = B c := fun c h => p_kd_up _ _ _ _ h
  have hn := (S.I.E.n (2 * d)).2; have hq := S.I.S.hq
  have F := p_f0.seen A (up3 A 15 d 4 (A 15 d 4 + 1)) B d (2 * d + 1) (by simp) (B 30 0 (2 * d + 1) + 1) (p_kd_up _ _ _ _ (by decide))
  have H := S.P.ph d hd
  unfold p_ph at H
  refine S.mk1 F (S.R.seen15 S.I (by omega)) (S.I.seen (Or.inr ⟨rfl, rfl⟩) hs) (S.Z.cg (fun c hc => by rw [o c (by revert c; decide)])) ?_ ((S.P.cd d hd).cg (by rw [p_kd_up _ _ _ _ (by decide)]) (by rw [o 0 (by decide)]) (by rw [o 17 (by decide)]) (fun c hc => by rw [o c (by revert c; decide)])) (by rw [o 18 (by decide)]; exact S.P.rs _ (S.I.L.in hd).1)
  unfold p_ph
  refine H.iff (by rw [o 23 (by decide)]) (by rw [o 18 (by decide)]) (by simp only [p_k]; rw [o 16 (by decide)]) (F.has _ _) ?_ (F.has _ _) (F.has _ _) (F.has _ _) (F.has _ _) (F.has _ _) (by rw [p_kd_up _ _ _ _ (by decide)]) (by rw [o 25 (by decide)])
  exact p_saw_cg (by rw [o 0 (by decide)]) (by rw [o 32 (by decide)]) (by rw [o 33 (by decide)]) (by rw [o 34 (by decide)]) d (by rw [p_s_seen S.I _ _ (by omega), if_neg (by omega)])
/-- the requester has seen one more -/
theorem Sim.seen5 {A B : ew_R} {q d : Nat} (S : Sim A B q) (hd : ¬ B 22 0 d = 0) (hs : p_s B (2 * d) < p_n B (2 * d + 1)) : Sim (up3 A 5 d 4 (A 5 d 4 + 1)) (up3 B 30 0 (2 * d) (B 30 0 (2 * d) + 1)) q := by
  have o : ∀ c, c ≠ 30 → up3 B 30 0 (2 * d) (B 30 0 (2 * d) + 1) c = B c := fun c h => p_kd_up _ _ _ _ h
  have hn := (S.I.E.n (2 * d + 1)).2; have hq := S.I.S.hq
  have F := p_f0.seen A (up3 A 5 d 4 (A 5 d 4 + 1)) B d (2 * d) (by simp) (B 30 0 (2 * d) + 1) (p_kd_up _ _ _ _ (by decide))
  have H := S.P.ph d hd
  unfold p_ph at H
  refine S.mk1 F (S.R.seen5 S.I (by omega)) (S.I.seen (Or.inl ⟨rfl, rfl⟩) hs) (S.Z.cg (fun c hc => by rw [o c (by revert c; decide)])) ?_ ((S.P.cd d hd).cg (by rw [p_kd_up _ _ _ _ (by decide)]) (by rw [o 0 (by decide)]) (by rw [o 17 (by decide)]) (fun c hc => by rw [o c (by revert c; decide)])) (by rw [o 18 (by decide)]; exact S.P.rs _ (S.I.L.in hd).1)
  unfold p_ph
  have es := p_s_seen S.I (2 * d) (2 * d) (by omega)
  rw [if_pos rfl] at es
  by_cases h9 : p_saw (up3 B 30 0 (2 * d) (B 30 0 (2 * d) + 1)) d
  · have h3 : p_has B (2 * d + 1) 3 := by
      obtain ⟨j, k, h1, h2, h3, h4, h5⟩ := h9
      rw [o 32 (by decide)] at h2; rw [o 34 (by decide)] at h4
      exact ⟨j, by simpa [lgB, o] using h1, h2, h4⟩
    refine (H.u3n h3).iff (by rw [o 23 (by decide)]) (by rw [o 18 (by decide)]) (by simp only [p_k]; rw [o 16 (by decide)]) (F.has _ _) (iff_true_intro h9) (F.has _ _) (F.has _ _) (F.has _ _) (F.has _ _) (F.has _ _) (by rw [p_kd_up _ _ _ _ (by decide)]) (by rw [o 25 (by decide)])
  · have h8 : ¬ p_saw B d := fun ⟨j, k, h1, h2, h3, h4, h5⟩ => h9 ⟨j, k, by simpa [lgB, o] using h1, by rw [o 32 (by decide)]; exact h2, by rw [o 33 (by decide)]; exact h3, by rw [o 34 (by decide)]; exact h4, by rw [es]; omega⟩
    refine H.iff (by rw [o 23 (by decide)]) (by rw [o 18 (by decide)]) (by simp only [p_k]; rw [o 16 (by decide)]) (F.has _ _) ⟨fun z => absurd z h9, fun z => absurd z h8⟩ (F.has _ _) (F.has _ _) (F.has _ _) (F.has _ _) (F.has _ _) (by rw [p_kd_up _ _ _ _ (by decide)]) (by rw [o 25 (by decide)])
/-- the supplier's state turns -/
theorem Sim.turn {A B : ew_R} {q d : Nat} (S : Sim A B q) (hd : ¬ B 22 0 d = 0) (v : Int32) (P : ∀ rs pr h3 s3 h4 h7 cn pz, Ph (B 23 0 d) rs pr h3 s3 h4 h7 (p_has B (2 * d) 5) (p_has B (2 * d) 6) (p_has B (2 * d) 15) cn pz → Ph v rs pr h3 s3 h4 h7 (p_has B (2 * d) 5) (p_has B (2 * d) 6) (p_has B (2 * d) 15) cn pz)
    (h1 : v = 3 ∨ v = 4 ∨ v = 5 ∨ v = 6 ∨ v = 7 ∨ v = 8 → B 23 0 d = 3 ∨ B 23 0 d = 4 ∨ B 23 0 d = 5 ∨ B 23 0 d = 6 ∨ B 23 0 d = 7 ∨ B 23 0 d = 8) (h2 : v = 0 ∨ v = 1 ∨ v = 2 → B 23 0 d = 0 ∨ B 23 0 d = 1 ∨ B 23 0 d = 2) (h3 : v = 4 ∨ v = 5 ∨ v = 6 ∨ v = 7 ∨ v = 8 → B 23 0 d = 4 ∨ B 23 0 d = 5 ∨ B 23 0 d = 6 ∨ B 23 0 d = 7 ∨ B 23 0 d = 8) : Sim (up3 A 17 d 0 v) (up3 B 23 0 d v) q := by
  have o : ∀ c, c ≠ 23 → up3 B 23 0 d v c = B c := fun c h => p_kd_up _ _ _ _ h
  have F := (p_f0.refl A B d).st v v
  have H := S.P.ph d hd
  unfold p_ph at H
  refine S.mk1 F (S.R.itst d v) (S.I.up 23 d v (by decide) (by omega)) (S.Z.up v hd (by decide)) ?_ (((S.P.cd d hd).st h1 h2 h3).cg (by rw [p_kd_up _ _ _ _ (by decide)]) rfl rfl (fun _ _ => rfl)) (by rw [o 18 (by decide)]; exact S.P.rs _ (S.I.L.in hd).1)
  unfold p_ph
  refine (P _ _ _ _ _ _ _ _ H).iff (by rw [up3_self]) (by rw [o 18 (by decide)]) (by simp only [p_k]; rw [o 16 (by decide)]) (F.has _ _) ?_ (F.has _ _) (F.has _ _) (F.has _ _) (F.has _ _) (F.has _ _) (by rw [p_kd_up _ _ _ _ (by decide)]) (by rw [o 25 (by decide)])
  exact p_saw_cg (by rw [o 0 (by decide)]) (by rw [o 32 (by decide)]) (by rw [o 33 (by decide)]) (by rw [o 34 (by decide)]) d (by simp only [p_s]; rw [o 30 (by decide)])
/-- the requester's state -/
theorem Sim.rst {A B : ew_R} {q l d : Nat} (S : Sim A B q) (hl : l < p_l B) (ed : d = 6 * l + p_k B l) (v : Int32) (hv : ¬ v < 0) (P : ∀ st h6 h15 cn pz, Ph st (B 18 0 l) True (p_has B (2 * d + 1) 3) (p_saw B d) (p_has B (2 * d + 1) 4) (p_has B (2 * d + 1) 7) (p_has B (2 * d) 5) h6 h15 cn pz → Ph st v True (p_has B (2 * d + 1) 3) (p_saw B d) (p_has B (2 * d + 1) 4) (p_has B (2 * d + 1) 7) (p_has B (2 * d) 5) h6 h15 cn pz) : Sim (up3 A 3 l 0 v) (up3 B 18 0 l v) q := by
  have hp := (S.I.L.p l hl).2
  have e6 : d / 6 = l := by omega
  have e66 : p_k B l = d % 6 := by omega
  have hd : ¬ B 22 0 d = 0 := by rw [ed]; exact hp.2.2
  have o : ∀ c, c ≠ 18 → up3 B 18 0 l v c = B c := fun c h => p_kd_up _ _ _ _ h
  have F : p_f0 A (up3 A 3 l 0 v) B (up3 B 18 0 l v) d := ⟨by rw [o 22 (by decide)], by rw [o 16 (by decide)], fun _ _ => by rw [o 23 (by decide)], fun _ _ => by rw [o 24 (by decide)], fun _ _ => by rw [o 25 (by decide)], fun _ _ => by rw [o 27 (by decide)], fun _ _ => by rw [o 28 (by decide)], fun _ _ => by rw [p_kd_up _ _ _ _ (by decide)], fun _ _ => up3_ne _ _ (by omega), Or.inr (by rw [e6]; exact e66), fun _ _ => by rw [o 17 (by decide)], Or.inl (by rw [o 17 (by decide)]), fun k _ _ => by rw [o 0 (by decide)], fun c hc => by rw [o c (by revert c; decide)], fun f h1 h2 => by rw [o 30 (by decide)]⟩
  have H := S.P.ph d hd
  unfold p_ph at H
  rw [e6] at H
  have ht : p_k B l = d % 6 ↔ True := iff_true_intro e66
  refine S.mk1 F (S.R.page l v) (S.I.up 18 l v (by decide) (by omega)) (S.Z.upo 0 _ _ (by decide)) ?_ ((S.P.cd d hd).cg (by rw [p_kd_up _ _ _ _ (by decide)]) (by rw [o 0 (by decide)]) (by rw [o 17 (by decide)]) (fun c hc => by rw [o c (by revert c; decide)])) (by rw [e6, up3_self]; exact hv)
  unfold p_ph
  rw [e6]
  refine (P _ _ _ _ _ (H.iff rfl rfl ht.symm Iff.rfl Iff.rfl Iff.rfl Iff.rfl Iff.rfl Iff.rfl Iff.rfl Iff.rfl Iff.rfl)).iff (by rw [o 23 (by decide)]) (by rw [up3_self]) (by simp only [p_k]; rw [o 16 (by decide)]; exact ht) (F.has _ _) ?_ (F.has _ _) (F.has _ _) (F.has _ _) (F.has _ _) (F.has _ _) (by rw [p_kd_up _ _ _ _ (by decide)]) (by rw [o 25 (by decide)])
  exact p_saw_cg (by rw [o 0 (by decide)]) (by rw [o 32 (by decide)]) (by rw [o 33 (by decide)]) (by rw [o 34 (by decide)]) d (by simp only [p_s]; rw [o 30 (by decide)])
/-- what the protocol doesn't speak of -/
theorem Sim.free {A A1 B : ew_R} {q c i : Nat} {x : Int32} (S : Sim A B q) (hc : c ∈ [0, 6, 7, 8, 9, 10, 12, 19, 20, 21, 26]) (h0 : c = 0 → i = 0) (hi : c = 26 → ¬ B 22 0 i = 0) (a4 : ∀ d, A1 4 d 4 = A 4 d 4) (R : Rl A1 (up3 B c 0 i x)) : Sim A1 (up3 B c 0 i x) q := by
  have hc' := hc
  simp only [List.mem_cons, List.not_mem_nil, or_false] at hc'
  have o : ∀ c', c' ∉ [0, 6, 7, 8, 9, 10, 12, 19, 20, 21, 26] → up3 B c 0 i x c' = B c' := fun c' h => p_kd_up _ _ _ _ (fun z => h (z ▸ hc))
  have b0 : ∀ k, 1 ≤ k → up3 B c 0 i x 0 0 k = B 0 0 k := fun k hk => up3_ne _ _ (by omega)
  have F : ∀ d, p_f0 A A1 B (up3 B c 0 i x) d := fun d => ⟨by rw [o 22 (by decide)], by rw [o 16 (by decide)], fun _ _ => by rw [o 23 (by decide)], fun _ _ => by rw [o 24 (by decide)], fun _ _ => by rw [o 25 (by decide)], fun _ _ => by rw [o 27 (by decide)], fun _ _ => by rw [o 28 (by decide)], fun _ _ => a4 _, fun _ _ => by rw [o 18 (by decide)], Or.inl (by rw [o 18 (by decide)]), fun _ _ => by rw [o 17 (by decide)], Or.inl (by rw [o 17 (by decide)]), fun k h1 _ => b0 k h1, fun c' hc' => by rw [o c' (by revert c'; decide)], fun f h1 h2 => by rw [o 30 (by decide)]⟩
  have I1 : RfI (up3 B c 0 i x) q := S.I.cg (Nat.le_refl _) S.I.S.hq (fun k h1 _ => b0 k (by omega)) (fun c' hc' => by rw [o c' (by revert c'; decide)])
  have Z1 : RfZ (up3 B c 0 i x) := by
    by_cases h26 : c = 26
    · subst h26; exact S.Z.up x (hi rfl) (by decide)
    · exact S.Z.upo 0 i x (by simp; omega)
  refine ⟨I1, Z1, R, ?_, ?_, ?_, ?_, ?_, ?_⟩
  · intro d hd
    rw [o 22 (by decide)] at hd
    have H := S.P.ph d hd
    unfold p_ph at H ⊢
    exact H.iff (by rw [o 23 (by decide)]) (by rw [o 18 (by decide)]) (by simp only [p_k]; rw [o 16 (by decide)]) ((F d).has _ _) (p_saw_cg (b0 5 (by decide)) (by rw [o 32 (by decide)]) (by rw [o 33 (by decide)]) (by rw [o 34 (by decide)]) d (by simp only [p_s]; rw [o 30 (by decide)])) ((F d).has _ _) ((F d).has _ _) ((F d).has _ _) ((F d).has _ _) ((F d).has _ _) (by rw [a4]) (by rw [o 25 (by decide)])
  · intro d hd
    rw [o 22 (by decide)] at hd
    exact (S.P.cd d hd).cg (a4 d) (b0 3 (by decide)) (by rw [o 17 (by decide)]) (fun c' hc' => by rw [o c' (by revert c'; decide)])
  · rw [(F 0).lg, o 32 (by decide), o 34 (by decide)]; exact S.P.u3
  · rw [(F 0).lg, o 34 (by decide), o 35 (by decide)]; exact S.P.tl
  · rw [o 18 (by decide)]; simp only [p_l]; rw [b0 2 (by decide)]; exact S.P.rs
  · rw [b0 1 (by decide)]; exact S.P.day
