/-! Several new cells become entities -/
theorem em_exN {D : va_G} {cl : List vw_C} {cf : ew_C} {A0 : Nat → Prop} {X : Nat → Nat → Nat} {L : List Nat} {tg : Nat → Nat × Nat} {A : ew_R} {exs : va_W} {H1 : Heap} (hX : ∀ a ∈ L, X (tg a).1 (tg a).2 = a) (hP : va_P D cl (ew_w cf X L tg A [] ++ exs) H1) (hD : va_D A0 (ew_w cf X L tg A [] ++ exs)) : ew_V D cl cf A0 X L tg A exs H1 := by
  have hperm : ∀ x, x ∈ ew_w cf X L tg A exs ↔ x ∈ ew_w cf X L tg A [] ++ exs := by
    intro x
    unfold ew_w
    simp only [List.mem_append, List.nil_append]
    exact Or.comm
  have hD0 := va_D_mem.mp hD
  refine ⟨va_P_mem.mpr (fun x hx => va_P_mem.mp hP x ((hperm x).mp hx)), va_D_mem.mpr ⟨?_, fun x hx => hD0.2 x ((hperm x).mp hx)⟩, hX⟩
  have h1 := hD0.1
  unfold ew_w at h1 ⊢
  rw [List.nil_append, List.map_append] at h1
  rw [List.map_append]
  exact (List.perm_append_comm.nodup_iff).mp h1
theorem em_absN {D : va_G} {T : Nat → ClassId} {A0 : Nat → Prop} {X : Nat → Nat → Nat} {L : List Nat} {tg : Nat → Nat × Nat} {A : ew_R} {exs : va_W} {H1 : Heap} (nw : List (Nat × Nat × Nat)) (hX : ∀ a ∈ L, X (tg a).1 (tg a).2 = a) (hP : va_P D vwCl (ew_w (cfC T) X L tg A [] ++ exs) H1) (hD : va_D A0 (ew_w (cfC T) X L tg A [] ++ exs)) (A' : ew_R) (hex : exs = nw.map (fun t => (t.1, cfC T (ab_X nw X) t.2.1 t.2.2 (A' t.2.1 t.2.2)))) (hk : (nw.map (fun t => t.2)).Nodup) (hcl : clC X L tg A) (hs : ∀ t ∈ nw, ¬ stC t.2.1 t.2.2) (hnew : ∀ b ∈ L, ∀ t ∈ nw, t.2 ≠ tg b) (hA : ∀ c i, (∀ t ∈ nw, t.2 ≠ (c, i)) → A' c i = A c i) :
    ∃ (X' : Nat → Nat → Nat) (L' : List Nat) (tg' : Nat → Nat × Nat), (∀ t ∈ nw, X' t.2.1 t.2.2 = t.1) ∧ em_S (nw.map (fun t => t.2)) X L tg X' L' tg' ∧ ew_V D vwCl (cfC T) A0 X' L' tg' A' [] H1 := by
  obtain ⟨h1, h2, h3⟩ := ew_abs (A' := A') nw (em_exN hX hP hD) hex hk (fun b hb t ht => hnew b hb t ht) (fun b hb => by
    rw [hA _ _ (fun t ht z => hnew b hb t ht z)]
    refine cfC_cong T _ _ _ (fun c i hr => ab_X_old (fun t ht z => ?_))
    rcases hcl b hb c i hr with h | h
    · exact hs t ht (by rw [z]; exact h)
    · exact hnew _ h.2.1 t ht (by rw [z, h.2.2]))
  refine ⟨_, _, _, fun t ht => ab_X_new hk ht, ⟨fun c i hn => ab_X_old (fun t ht z => hn (List.mem_map.mpr ⟨t, ht, z⟩)), h2, fun t ht => ?_, fun b hb => ?_⟩, h1⟩
  · obtain ⟨t', ht', rfl⟩ := List.mem_map.mp ht
    exact (h3 t' ht').self
  · rcases List.mem_append.mp hb with h | h
    · obtain ⟨t, ht, rfl⟩ := List.mem_map.mp h
      exact Or.inl (List.mem_map.mpr ⟨t, ht, ((h3 t ht).2.2).symm⟩)
    · by_cases hq : ∃ t ∈ nw, t.1 = b
      · obtain ⟨t, ht, rfl⟩ := hq
        exact Or.inl (List.mem_map.mpr ⟨t, ht, ((h3 t ht).2.2).symm⟩)
      · exact Or.inr ⟨h, ab_t_old (fun t ht z => hq ⟨t, ht, z⟩)⟩
def p_r4 (b : Int32) : Nat → Int32 := fun k => if k = 0 then b else if k = 4 then (-1) else 0
def p_r5 (l f t : Int32) : Nat → Int32 := fun k => if k = 0 then l else if k = 1 then f else if k = 2 then t else 0
def p_r8 (d : Nat) : Nat → Int32 := fun k => if k = 1 then nI (64 * d) else 0
/-- the ints after a new deal -/
def z_Deal (A : ew_R) (d : Nat) (ln rq b : Int32) : ew_R := upr (upr (upr (upr (upr (upr A 4 d (p_r4 b)) 17 d (fun _ => 0)) 5 d (p_r5 ln rq b)) 8 d (p_r8 d)) 15 d (p_r5 ln b rq)) 16 d (p_r8 d)
def nw_4 (d : Nat) : List (Nat × Nat) := [(4, d), (17, d), (5, d), (8, d), (15, d), (16, d)]
theorem z_Deal_oth (A : ew_R) (d : Nat) (ln rq b : Int32) {c i : Nat} (h : (c, i) ∉ nw_4 d) : z_Deal A d ln rq b c i = A c i := by
  simp only [nw_4, List.mem_cons, Prod.mk.injEq, List.not_mem_nil, or_false, not_or] at h
  unfold z_Deal
  rw [upr_oth _ _ h.2.2.2.2.2, upr_oth _ _ h.2.2.2.2.1, upr_oth _ _ h.2.2.2.1, upr_oth _ _ h.2.2.1, upr_oth _ _ h.2.1, upr_oth _ _ h.1]
theorem em_deal {D : va_G} {T : Nat → ClassId} {t0 : Nat × Nat} {A0 : Nat → Prop} {X : Nat → Nat → Nat} {L : List Nat} {tg : Nat → Nat × Nat} {A : ew_R} {H1 : Heap} {d q4 q17 q5 q8 q15 q16 : Nat} {ln rq b : Int32} (hd : d < 192) (hX : ∀ a ∈ L, X (tg a).1 (tg a).2 = a)
    (hP : va_P D vwCl (ew_w (cfC T) X L tg A [] ++ [(q4, .inr (4, [.int b, .ref q5, .ref q15, .ref q17, .null, .int 0])), (q17, .inr (3, [.int 0, .int 0, .int 0, .int 0])), (q5, .inr (5, [.int ln, .int rq, .int b, .ref q8, .int 0, .int 0])), (q8, .inr (8, [.int 0, .ref t0.1, .int 0])), (q15, .inr (5, [.int ln, .int b, .int rq, .ref q16, .int 0, .int 0])), (q16, .inr (8, [.int 0, .ref t0.1, .int 0]))]) H1)
    (hD : va_D A0 (ew_w (cfC T) X L tg A [] ++ [(q4, .inr (4, [.int b, .ref q5, .ref q15, .ref q17, .null, .int 0])), (q17, .inr (3, [.int 0, .int 0, .int 0, .int 0])), (q5, .inr (5, [.int ln, .int rq, .int b, .ref q8, .int 0, .int 0])), (q8, .inr (8, [.int 0, .ref t0.1, .int 0])), (q15, .inr (5, [.int ln, .int b, .int rq, .ref q16, .int 0, .int 0])), (q16, .inr (8, [.int 0, .ref t0.1, .int 0]))]))
    (h14 : X 14 (64 * d) = t0.1) (h20 : X 20 (64 * d) = t0.1) (hcl : clC X L tg A) (hnew : ∀ b ∈ L, ∀ t ∈ nw_4 d, t ≠ tg b) :
    ∃ (X' : Nat → Nat → Nat) (L' : List Nat) (tg' : Nat → Nat × Nat), X' 4 d = q4 ∧ em_S (nw_4 d) X L tg X' L' tg' ∧ ew_V D vwCl (cfC T) A0 X' L' tg' (z_Deal A d ln rq b) [] H1 := by
  have hk : ((([(q4, 4, d), (q17, 17, d), (q5, 5, d), (q8, 8, d), (q15, 15, d), (q16, 16, d)] : List (Nat × Nat × Nat)).map (fun t => t.2))).Nodup := by simp
  have x5 := ab_X_new (X := X) hk (t := (q5, 5, d)) (by simp)
  have x15 := ab_X_new (X := X) hk (t := (q15, 15, d)) (by simp)
  have x17 := ab_X_new (X := X) hk (t := (q17, 17, d)) (by simp)
  have x8 := ab_X_new (X := X) hk (t := (q8, 8, d)) (by simp)
  have x16 := ab_X_new (X := X) hk (t := (q16, 16, d)) (by simp)
  have x14 : ab_X [(q4, 4, d), (q17, 17, d), (q5, 5, d), (q8, 8, d), (q15, 15, d), (q16, 16, d)] X 14 (64 * d) = t0.1 := by rw [ab_X_old (by simp)]; exact h14
  have x20 : ab_X [(q4, 4, d), (q17, 17, d), (q5, 5, d), (q8, 8, d), (q15, 15, d), (q16, 16, d)] X 20 (64 * d) = t0.1 := by rw [ab_X_old (by simp)]; exact h20
  have c8 : (p_r8 d 1).toNatClampNeg = 64 * d := nI_clamp (by omega)
  generalize hx9 : ab_X [(q4, 4, d), (q17, 17, d), (q5, 5, d), (q8, 8, d), (q15, 15, d), (q16, 16, d)] X = Y at x5 x15 x17 x8 x16 x14 x20
  have r4 : z_Deal A d ln rq b 4 d = p_r4 b := by simp [z_Deal, upr, va_up]
  have r17 : z_Deal A d ln rq b 17 d = fun _ => 0 := by simp [z_Deal, upr, va_up]
  have r5 : z_Deal A d ln rq b 5 d = p_r5 ln rq b := by simp [z_Deal, upr, va_up]
  have r8 : z_Deal A d ln rq b 8 d = p_r8 d := by simp [z_Deal, upr, va_up]
  have r15 : z_Deal A d ln rq b 15 d = p_r5 ln b rq := by simp [z_Deal, upr, va_up]
  have r16 : z_Deal A d ln rq b 16 d = p_r8 d := by simp [z_Deal, upr, va_up]
  obtain ⟨X', L', tg', h1, h2, h3⟩ := em_absN [(q4, 4, d), (q17, 17, d), (q5, 5, d), (q8, 8, d), (q15, 15, d), (q16, 16, d)] hX hP hD (z_Deal A d ln rq b) (by
    rw [hx9]
    show _ = [(q4, cfC T Y 4 d (z_Deal A d ln rq b 4 d)), (q17, cfC T Y 17 d (z_Deal A d ln rq b 17 d)), (q5, cfC T Y 5 d (z_Deal A d ln rq b 5 d)), (q8, cfC T Y 8 d (z_Deal A d ln rq b 8 d)), (q15, cfC T Y 15 d (z_Deal A d ln rq b 15 d)), (q16, cfC T Y 16 d (z_Deal A d ln rq b 16 d))]
    rw [r4, r17, r5, r8, r15, r16, cC_4, cC_17, cC_5, cC_8, cC_15, cC_16]
    have y5 : Y 5 d = q5 := x5
    have y15 : Y 15 d = q15 := x15
    have y17 : Y 17 d = q17 := x17
    have y8 : Y 8 d = q8 := x8
    have y16 : Y 16 d = q16 := x16
    simp only [oC_4, oC_17, oC_5, oC_8, oC_15, oC_16, y5, y15, y17, y8, y16, c8, x14, x20]
    simp [p_r4, p_r5, p_r8]
    rfl) hk hcl (fun t ht => by
    simp only [List.mem_cons, List.not_mem_nil, or_false] at ht
    unfold stC
    rcases ht with rfl | rfl | rfl | rfl | rfl | rfl <;> simp) (fun a ha t ht => hnew a ha t.2 (by
    simp only [List.mem_cons, List.not_mem_nil, or_false] at ht
    unfold nw_4
    rcases ht with rfl | rfl | rfl | rfl | rfl | rfl <;> simp)) (fun c i h => z_Deal_oth _ _ _ _ _ (fun z => by
    simp only [nw_4, List.mem_cons, Prod.mk.injEq, List.not_mem_nil, or_false] at z
    rcases z with ⟨rfl, rfl⟩ | ⟨rfl, rfl⟩ | ⟨rfl, rfl⟩ | ⟨rfl, rfl⟩ | ⟨rfl, rfl⟩ | ⟨rfl, rfl⟩
    · exact h (q4, 4, _) (by simp) rfl
    · exact h (q17, 17, _) (by simp) rfl
    · exact h (q5, 5, _) (by simp) rfl
    · exact h (q8, 8, _) (by simp) rfl
    · exact h (q15, 15, _) (by simp) rfl
    · exact h (q16, 16, _) (by simp) rfl))
  exact ⟨X', L', tg', h1 (q4, 4, d) (by simp), h2, h3⟩
