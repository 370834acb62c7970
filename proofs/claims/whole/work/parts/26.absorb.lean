/-! New cells become entities: nw lists their addresses, kinds and numbers. -/
def ab_X (nw : List (Nat × Nat × Nat)) (X : Nat → Nat → Nat) : Nat → Nat → Nat := fun c i => match nw.find? (fun t => t.2 == (c, i)) with
  | some t => t.1
  | none => X c i
def ab_t (nw : List (Nat × Nat × Nat)) (tg : Nat → Nat × Nat) : Nat → Nat × Nat := fun a => match nw.find? (fun t => t.1 == a) with
  | some t => t.2
  | none => tg a
theorem ab_f1 : ∀ (nw : List (Nat × Nat × Nat)), (nw.map (fun t => t.1)).Nodup → ∀ t ∈ nw, nw.find? (fun s => s.1 == t.1) = some t
  | [], _, t, h => by cases h
  | s :: r, hn, t, h => by
    rw [List.map_cons, List.nodup_cons] at hn
    rcases List.mem_cons.mp h with rfl | h
    · rw [List.find?_cons_of_pos (by simp)]
    · have hne : ¬ s.1 = t.1 := fun q => hn.1 (by rw [q]; exact List.mem_map.mpr ⟨t, h, rfl⟩)
      rw [List.find?_cons_of_neg (by simpa using hne)]
      exact ab_f1 r hn.2 t h
theorem ab_f2 : ∀ (nw : List (Nat × Nat × Nat)), (nw.map (fun t => t.2)).Nodup → ∀ t ∈ nw, nw.find? (fun s => s.2 == t.2) = some t
  | [], _, t, h => by cases h
  | s :: r, hn, t, h => by
    rw [List.map_cons, List.nodup_cons] at hn
    rcases List.mem_cons.mp h with rfl | h
    · rw [List.find?_cons_of_pos (by simp)]
    · have hne : ¬ s.2 = t.2 := fun q => hn.1 (by rw [q]; exact List.mem_map.mpr ⟨t, h, rfl⟩)
      rw [List.find?_cons_of_neg (by simpa using hne)]
      exact ab_f2 r hn.2 t h
theorem ab_t_new {nw : List (Nat × Nat × Nat)} {tg : Nat → Nat × Nat} (hn : (nw.map (fun t => t.1)).Nodup) {t : Nat × Nat × Nat} (h : t ∈ nw) : ab_t nw tg t.1 = t.2 := by
  unfold ab_t
  rw [ab_f1 nw hn t h]
theorem ab_X_new {nw : List (Nat × Nat × Nat)} {X : Nat → Nat → Nat} (hn : (nw.map (fun t => t.2)).Nodup) {t : Nat × Nat × Nat} (h : t ∈ nw) : ab_X nw X t.2.1 t.2.2 = t.1 := by
  unfold ab_X
  have := ab_f2 nw hn t h
  rw [show (t.2.1, t.2.2) = t.2 from rfl, this]
theorem ab_t_old {nw : List (Nat × Nat × Nat)} {tg : Nat → Nat × Nat} {a : Nat} (h : ∀ t ∈ nw, t.1 ≠ a) : ab_t nw tg a = tg a := by
  unfold ab_t
  have : nw.find? (fun t => t.1 == a) = none := List.find?_eq_none.mpr (fun t ht => by simpa using h t ht)
  rw [this]
theorem ab_X_old {nw : List (Nat × Nat × Nat)} {X : Nat → Nat → Nat} {c i : Nat} (h : ∀ t ∈ nw, t.2 ≠ (c, i)) : ab_X nw X c i = X c i := by
  unfold ab_X
  have : nw.find? (fun t => t.2 == (c, i)) = none := List.find?_eq_none.mpr (fun t ht => by simpa using h t ht)
  rw [this]
section EAB
variable {D : va_G} {cl : List vw_C} {cf : ew_C} {A0 : Nat → Prop} {X : Nat → Nat → Nat} {L : List Nat} {tg : Nat → Nat × Nat} {A A' : ew_R} {ex : va_W} {H : Heap}
/-- the new cells are entities; the old ones hold what they held -/
theorem ew_abs (nw : List (Nat × Nat × Nat)) (hV : ew_V D cl cf A0 X L tg A ex H) (hex : ex = nw.map (fun t => (t.1, cf (ab_X nw X) t.2.1 t.2.2 (A' t.2.1 t.2.2)))) (hk : (nw.map (fun t => t.2)).Nodup) (hold : ∀ a ∈ L, ∀ t ∈ nw, t.2 ≠ tg a)
    (hkeep : ∀ a ∈ L, cf (ab_X nw X) (tg a).1 (tg a).2 (A' (tg a).1 (tg a).2) = cf X (tg a).1 (tg a).2 (A (tg a).1 (tg a).2)) :
    ew_V D cl cf A0 (ab_X nw X) (nw.map (fun t => t.1) ++ L) (ab_t nw tg) A' [] H ∧ (∀ c i a, ew_in X L tg c i a → ew_in (ab_X nw X) (nw.map (fun t => t.1) ++ L) (ab_t nw tg) c i a) ∧ ∀ t ∈ nw, ew_in (ab_X nw X) (nw.map (fun t => t.1) ++ L) (ab_t nw tg) t.2.1 t.2.2 t.1 := by
  obtain ⟨hP, hD, hX⟩ := hV
  have hlen : ex.length = nw.length := by rw [hex, List.length_map]
  have hget : ∀ (k : Nat) (t : Nat × Nat × Nat), nw[k]? = some t → (ew_w cf X L tg A ex)[k]? = some (t.1, cf (ab_X nw X) t.2.1 t.2.2 (A' t.2.1 t.2.2)) := by
    intro k t ht
    have hlt : k < nw.length := (List.getElem?_eq_some_iff.mp ht).1
    unfold ew_w
    rw [List.getElem?_append_left (by omega), hex, List.getElem?_map, ht]
    rfl
  have hn1 : (nw.map (fun t => t.1)).Nodup := by
    rw [List.Nodup, List.pairwise_iff_getElem]
    intro i j hi hj hij q
    rw [List.length_map] at hi hj
    have h1 := hget i _ (List.getElem?_eq_getElem hi)
    have h2 := hget j _ (List.getElem?_eq_getElem hj)
    have := hD.1 i j _ _ h1 h2 (by simpa using q)
    omega
  have hsep : ∀ a ∈ L, ∀ t ∈ nw, t.1 ≠ a := by
    intro a ha t ht q
    obtain ⟨i, hi⟩ := List.getElem?_of_mem ht
    have h1 := hget i t hi
    obtain ⟨j, hj⟩ := List.getElem?_of_mem ha
    have h2 : (ew_w cf X L tg A ex)[ex.length + j]? = some (a, ew_f cf X A tg a) := by
      unfold ew_w
      rw [List.getElem?_append_right (by omega), Nat.add_sub_cancel_left]
      unfold va_pl
      rw [List.getElem?_map, hj]
      rfl
    have h3 := hD.1 i (ex.length + j) _ _ h1 h2 q
    have h4 : i < nw.length := (List.getElem?_eq_some_iff.mp hi).1
    omega
  have key : ew_w cf (ab_X nw X) (nw.map (fun t => t.1) ++ L) (ab_t nw tg) A' [] = ew_w cf X L tg A ex := by
    unfold ew_w
    rw [List.nil_append]
    unfold va_pl
    rw [List.map_append, List.map_map, hex]
    congr 1
    · refine List.map_congr_left (fun t ht => ?_)
      show (t.1, ew_f cf (ab_X nw X) A' (ab_t nw tg) t.1) = _
      unfold ew_f
      rw [ab_t_new hn1 ht]
    · refine List.map_congr_left (fun a ha => ?_)
      unfold ew_f
      rw [ab_t_old (hsep a ha), hkeep a ha]
  refine ⟨⟨by rw [key]; exact hP, by rw [key]; exact hD, fun a ha => ?_⟩, fun c i a h => ?_, fun t ht => ?_⟩
  · rcases List.mem_append.mp ha with h | h
    · obtain ⟨t, ht, rfl⟩ := List.mem_map.mp h
      rw [ab_t_new hn1 ht]
      exact ab_X_new hk ht
    · rw [ab_t_old (hsep a h), ab_X_old (fun t ht => hold a h t ht)]
      exact hX a h
  · obtain ⟨h1, h2, h3⟩ := h
    refine ⟨?_, List.mem_append_right _ h2, by rw [ab_t_old (hsep a h2)]; exact h3⟩
    rw [ab_X_old (fun t ht q => hold a h2 t ht (by rw [h3]; exact q))]
    exact h1
  · exact ⟨ab_X_new hk ht, List.mem_append_left _ (List.mem_map.mpr ⟨t, ht, rfl⟩), ab_t_new hn1 ht⟩
end EAB
