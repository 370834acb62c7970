/-! Which cells a cell of the class refers to: what doesn't touch them leaves it as it is. -/
def rfC (kd id : Nat) (r : Nat → Int32) (c i : Nat) : Prop := match kd with
  | 0 => (c = 9 ∨ c = 10 ∨ c = 11 ∨ c = 7 ∨ c = 18) ∧ i = 0
  | 2 => (c = 13 ∧ i = id) ∨ (c = 3 ∧ i = id) ∨ (c = 4 ∧ i = (r 7).toNatClampNeg)
  | 4 => ((c = 5 ∨ c = 15 ∨ c = 17) ∧ i = id) ∨ (c = 1 ∧ ¬ r 4 = (-1) ∧ i = (r 4).toNatClampNeg)
  | 5 => c = 8 ∧ i = id
  | 7 => c = 12 ∧ i = 0
  | 8 => c = 14 ∧ i = (r 1).toNatClampNeg
  | 9 => c = 1 ∧ ¬ r i = 0
  | 10 => c = 2 ∧ ¬ r i = 0
  | 13 => c = 4 ∧ ∃ j, ¬ r j = 0 ∧ i = 6 * id + j
  | 14 => c = 6 ∧ ∃ j, j < (r 1001).toNatClampNeg ∧ i = 512 * (id / 64) + j
  | 15 => c = 16 ∧ i = id
  | 16 => c = 20 ∧ i = (r 1).toNatClampNeg
  | 20 => c = 19 ∧ ∃ j, j < (r 1001).toNatClampNeg ∧ i = 512 * (id / 64) + j
  | _ => False
theorem if_cg {α : Type} {p : Prop} [Decidable p] {a b c : α} (h : ¬ p → b = c) : (if p then a else b) = if p then a else c := by
  by_cases q : p
  · rw [if_pos q, if_pos q]
  · rw [if_neg q, if_neg q, h q]
theorem if_cg2 {α : Type} {p : Prop} [Decidable p] {a b c : α} (h : p → b = c) : (if p then b else a) = if p then c else a := by
  by_cases q : p
  · rw [if_pos q, if_pos q, h q]
  · rw [if_neg q, if_neg q]
theorem cfC_cong (T : Nat → ClassId) {X X' : Nat → Nat → Nat} (kd id : Nat) (r : Nat → Int32) (h : ∀ c i, rfC kd id r c i → X' c i = X c i) : cfC T X' kd id r = cfC T X kd id r :=
  match kd, h with
  | 0, h => by
    show Sum.inr (0, oC_0 X' id r) = Sum.inr (0, oC_0 X id r)
    unfold oC_0
    rw [h 9 0 ⟨by simp, rfl⟩, h 10 0 ⟨by simp, rfl⟩, h 11 0 ⟨by simp, rfl⟩, h 7 0 ⟨by simp, rfl⟩, h 18 0 ⟨by simp, rfl⟩]
  | 1, _ => rfl
  | 2, h => by
    show Sum.inr (2, oC_2 X' id r) = Sum.inr (2, oC_2 X id r)
    unfold oC_2
    rw [h 13 id (Or.inl ⟨rfl, rfl⟩), h 3 id (Or.inr (Or.inl ⟨rfl, rfl⟩)), h 4 _ (Or.inr (Or.inr ⟨rfl, rfl⟩))]
  | 3, _ => rfl
  | 4, h => by
    show Sum.inr (4, oC_4 X' id r) = Sum.inr (4, oC_4 X id r)
    unfold oC_4
    rw [h 5 id (Or.inl ⟨by simp, rfl⟩), h 15 id (Or.inl ⟨by simp, rfl⟩), h 17 id (Or.inl ⟨by simp, rfl⟩), if_cg (p := r 4 = (-1)) (b := some (X' 1 (r 4).toNatClampNeg)) (c := some (X 1 (r 4).toNatClampNeg)) (fun q => by rw [h 1 _ (Or.inr ⟨rfl, q, rfl⟩)])]
  | 5, h => by
    show Sum.inr (5, oC_5 X' id r) = Sum.inr (5, oC_5 X id r)
    unfold oC_5
    rw [h 8 id ⟨rfl, rfl⟩]
  | 6, _ => rfl
  | 7, h => by
    show Sum.inr (7, oC_7 X' id r) = Sum.inr (7, oC_7 X id r)
    unfold oC_7
    rw [h 12 0 ⟨rfl, rfl⟩]
  | 8, h => by
    show Sum.inr (8, oC_8 X' id r) = Sum.inr (8, oC_8 X id r)
    unfold oC_8
    rw [h 14 _ ⟨rfl, rfl⟩]
  | 9, h => by
    rw [cC_9, cC_9]
    congr 7
    funext j
    exact if_cg (fun q => by rw [h 1 j ⟨rfl, q⟩])
  | 10, h => by
    rw [cC_10, cC_10]
    congr 7
    funext j
    exact if_cg (fun q => by rw [h 2 j ⟨rfl, q⟩])
  | 11, _ => rfl
  | 12, _ => rfl
  | 13, h => by
    rw [cC_13, cC_13]
    congr 7
    funext j
    exact if_cg (fun q => by rw [h 4 _ ⟨rfl, j, q, rfl⟩])
  | 14, h => by
    rw [cC_14, cC_14]
    congr 7
    funext j
    exact if_cg2 (fun q => by rw [h 6 _ ⟨rfl, j, q, rfl⟩])
  | 15, h => by
    show Sum.inr (5, oC_15 X' id r) = Sum.inr (5, oC_15 X id r)
    unfold oC_15
    rw [h 16 id ⟨rfl, rfl⟩]
  | 16, h => by
    show Sum.inr (8, oC_16 X' id r) = Sum.inr (8, oC_16 X id r)
    unfold oC_16
    rw [h 20 _ ⟨rfl, rfl⟩]
  | 17, _ => rfl
  | 18, _ => rfl
  | 19, _ => rfl
  | 20, h => by
    rw [cC_20, cC_20]
    congr 7
    funext j
    exact if_cg2 (fun q => by rw [h 19 _ ⟨rfl, j, q, rfl⟩])
  | _ + 21, _ => rfl
/-- the first array of a list is the static one: no entity -/
def stC (c i : Nat) : Prop := (c = 14 ∨ c = 20) ∧ i % 64 = 0
/-- what live cells refer to is live -/
def clC (X : Nat → Nat → Nat) (L : List Nat) (tg : Nat → Nat × Nat) (A : ew_R) : Prop := ∀ b ∈ L, ∀ c i, rfC (tg b).1 (tg b).2 (A (tg b).1 (tg b).2) c i → stC c i ∨ ew_in X L tg c i (X c i)
theorem ew_fresh {X : Nat → Nat → Nat} {L : List Nat} {tg : Nat → Nat × Nat} {c i kd id a : Nat} (h : ew_in X L tg c i a) (hn : ∀ b ∈ L, (kd, id) ≠ tg b) : ¬ (c = kd ∧ i = id) := fun ⟨h1, h2⟩ => hn a h.2.1 (by rw [h.2.2, h1, h2])
/-- a new entity leaves the live ones as they are -/
theorem clC_keep {T : Nat → ClassId} {X : Nat → Nat → Nat} {L : List Nat} {tg : Nat → Nat × Nat} {A A' : ew_R} {kd id : Nat} (hcl : clC X L tg A) (hs : ¬ stC kd id) (hn : ∀ b ∈ L, (kd, id) ≠ tg b) (hA : ∀ c i, ¬ (c = kd ∧ i = id) → A' c i = A c i) (q : Nat) :
    ∀ b ∈ L, (kd, id) ≠ tg b → cfC T (ab_X [(q, kd, id)] X) (tg b).1 (tg b).2 (A' (tg b).1 (tg b).2) = cfC T X (tg b).1 (tg b).2 (A (tg b).1 (tg b).2) := by
  intro b hb hne
  rw [hA _ _ (fun z => hne (by rw [← z.1, ← z.2]))]
  refine cfC_cong T _ _ _ (fun c i hr => ab_X_old (fun t ht => ?_))
  have ht := List.mem_singleton.mp ht
  subst ht
  intro he
  have e1 : c = kd := (congrArg Prod.fst he).symm
  have e2 : i = id := (congrArg Prod.snd he).symm
  rcases hcl b hb c i hr with h | h
  · exact hs (by rw [← e1, ← e2]; exact h)
  · exact ew_fresh h hn ⟨e1, e2⟩
