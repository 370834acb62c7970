/-! The reference writes a letter -/
theorem s_write_oth (A : ew_R) (en : Nat) (wh tl : Int32) (w lg : Nat) {c : Nat} (h : c ∉ [0, 29, 32, 33, 34, 35, 36, 37, 38, 39]) : s_write A en wh tl w lg c = A c := by
  simp only [List.mem_cons, List.not_mem_nil, or_false, not_or] at h
  obtain ⟨h0, h1, h2, h3, h4, h5, h6, h7, h8, h9⟩ := h
  unfold s_write
  rw [p_kd_up _ _ _ _ h0, s_lay_oth _ _ _ _ h7 h8 h9 h0, p_kd_up _ _ _ _ h6, p_kd_up _ _ _ _ h5, p_kd_up _ _ _ _ h4, p_kd_up _ _ _ _ h3, p_kd_up _ _ _ _ h2, p_kd_up _ _ _ _ h1]
def p_wb (A : ew_R) (en : Nat) (wh tl : Int32) (lg : Nat) : ew_R := up3 (up3 (up3 (up3 (up3 (up3 A 29 0 en ((A 29 0 en) + 1)) 32 0 lg (nI en)) 33 0 lg ((A 29 0 en) + 1)) 34 0 lg wh) 35 0 lg tl) 36 0 lg 0
theorem s_write_eq (A : ew_R) (en : Nat) (wh tl : Int32) (w lg : Nat) : s_write A en wh tl w lg = up3 (s_lay (p_wb A en wh tl lg) (nI lg) en w) 0 0 5 (nI (lg + 1)) := rfl
theorem s_write_lay (A : ew_R) (en : Nat) (wh tl : Int32) (w lg : Nat) {c : Nat} (h : c ≠ 0) (h7 : c ≠ 37) (h8 : c ≠ 38) (h9 : c ≠ 39) : s_write A en wh tl w lg c = p_wb A en wh tl lg c := by
  rw [s_write_eq, p_kd_up _ _ _ _ h, s_lay_oth _ _ _ _ h7 h8 h9 h]
theorem s_write_29 (A : ew_R) (en : Nat) (wh tl : Int32) (w lg : Nat) : s_write A en wh tl w lg 29 0 = va_up (A 29 0) en (A 29 0 en + 1) := by
  rw [s_write_lay _ _ _ _ _ _ (by decide) (by decide) (by decide) (by decide)]; simp [p_wb, p_row_up]
theorem s_write_32 (A : ew_R) (en : Nat) (wh tl : Int32) (w lg : Nat) : s_write A en wh tl w lg 32 0 = va_up (A 32 0) lg (nI en) := by
  rw [s_write_lay _ _ _ _ _ _ (by decide) (by decide) (by decide) (by decide)]; simp [p_wb, p_row_up]
theorem s_write_33 (A : ew_R) (en : Nat) (wh tl : Int32) (w lg : Nat) : s_write A en wh tl w lg 33 0 = va_up (A 33 0) lg (A 29 0 en + 1) := by
  rw [s_write_lay _ _ _ _ _ _ (by decide) (by decide) (by decide) (by decide)]; simp [p_wb, p_row_up]
theorem s_write_34 (A : ew_R) (en : Nat) (wh tl : Int32) (w lg : Nat) : s_write A en wh tl w lg 34 0 = va_up (A 34 0) lg wh := by
  rw [s_write_lay _ _ _ _ _ _ (by decide) (by decide) (by decide) (by decide)]; simp [p_wb, p_row_up]
theorem s_write_35 (A : ew_R) (en : Nat) (wh tl : Int32) (w lg : Nat) : s_write A en wh tl w lg 35 0 = va_up (A 35 0) lg tl := by
  rw [s_write_lay _ _ _ _ _ _ (by decide) (by decide) (by decide) (by decide)]; simp [p_wb, p_row_up]
theorem s_write_36 (A : ew_R) (en : Nat) (wh tl : Int32) (w lg : Nat) : s_write A en wh tl w lg 36 0 = va_up (A 36 0) lg 0 := by
  rw [s_write_lay _ _ _ _ _ _ (by decide) (by decide) (by decide) (by decide)]; simp [p_wb, p_row_up]
theorem s_write_0 (A : ew_R) (en : Nat) (wh tl : Int32) (w lg : Nat) : s_write A en wh tl w lg 0 0 = va_up (va_up (A 0 0) 4 (nI (p_lw w))) 5 (nI (lg + 1)) := by
  rw [s_write_eq, p_row_up, if_pos ⟨rfl, rfl⟩, s_lay_0]; simp [p_wb, p_row_up]
theorem s_write_0k (A : ew_R) (en : Nat) (wh tl : Int32) (w lg : Nat) {k : Nat} (h : k ≠ 4) (h5 : k ≠ 5) : s_write A en wh tl w lg 0 0 k = A 0 0 k := by rw [s_write_0, va_up_ne _ _ h5, va_up_ne _ _ h]
theorem s_write_row (A : ew_R) (en : Nat) (wh tl : Int32) (w lg : Nat) {c : Nat} (h : c ≠ 0) : s_write A en wh tl w lg c 0 = s_lay (p_wb A en wh tl lg) (nI lg) en w c 0 := by rw [s_write_eq, p_kd_up _ _ _ _ h]
theorem s_write_wt (A : ew_R) (en : Nat) (wh tl : Int32) {w lg : Nat} (hw : w ≤ 64) : wtB (s_write A en wh tl w lg) = p_lw w := by
  unfold wtB; rw [s_write_0, va_up_ne _ _ (by decide), va_up_self, nI_clamp (by have := p_lw_le hw; omega)]
theorem s_write_lg (A : ew_R) (en : Nat) (wh tl : Int32) {w lg : Nat} (hl : lg ≤ 3000) : lgB (s_write A en wh tl w lg) = lg + 1 := by
  unfold lgB; rw [s_write_0, va_up_self, nI_clamp (by omega)]
theorem s_write_n (A : ew_R) (en : Nat) (wh tl : Int32) {w lg n : Nat} (hn : A 29 0 en = nI n) (h : n ≤ 3000) (e : Nat) : p_n (s_write A en wh tl w lg) e = if e = en then n + 1 else p_n A e := by
  unfold p_n; rw [s_write_29]
  by_cases h2 : e = en
  · subst h2; rw [va_up_self, if_pos rfl, hn, nI_1, nI_clamp (by omega)]
  · rw [va_up_ne _ _ h2, if_neg h2]
theorem s_write_s (A : ew_R) (en : Nat) (wh tl : Int32) (w lg : Nat) : p_s (s_write A en wh tl w lg) = p_s A := by
  funext e; unfold p_s; rw [s_write_oth _ _ _ _ _ _ (by decide)]
theorem s_write_a (A : ew_R) (en : Nat) (wh tl : Int32) (w lg : Nat) : p_a (s_write A en wh tl w lg) = p_a A := by
  funext e; unfold p_a; rw [s_write_oth _ _ _ _ _ _ (by decide)]
theorem RfI.write {B : ew_R} {q : Nat} (h : RfI B q) {w lg : Nat} (hw : w = wtB B) (hl : lg = lgB B) (e : Nat) (he : e < 384) (ht : ¬ B 22 0 (e / 2) = 0) (hn : p_n B e < q) (hlg : lg < 2 * q) (wh tl : Int32) : RfI (s_write B e wh tl w lg) q := by
  subst hw hl
  have hq := h.S.hq
  have hw := h.S.w.2
  have o : ∀ c, c ∉ [0, 29, 32, 33, 34, 35, 36, 37, 38, 39] → s_write B e wh tl (wtB B) (lgB B) c 0 = B c 0 := fun c hc => by rw [s_write_oth _ _ _ _ _ _ hc]
  have k0 : ∀ k, k ≠ 4 → k ≠ 5 → s_write B e wh tl (wtB B) (lgB B) 0 0 k = B 0 0 k := fun k hk hk5 => s_write_0k _ _ _ _ _ _ hk hk5
  have hN := (h.E.n e).1
  have ew := s_write_wt B e wh tl (lg := lgB B) hw
  have el := s_write_lg B e wh tl (w := wtB B) (lg := lgB B) (by omega)
  have en := s_write_n B e wh tl (w := wtB B) (lg := lgB B) hN (by omega)
  have es := s_write_s B e wh tl (wtB B) (lgB B)
  have ea := s_write_a B e wh tl (wtB B) (lgB B)
  refine ⟨⟨h.S.hq, ?_, ?_, ?_, ?_⟩, h.L.cg (k0 2 (by decide) (by decide)) (o _ (by decide)) (o _ (by decide)) (o _ (by decide)) (o _ (by decide)) (o _ (by decide)) (o _ (by decide)), ⟨?_, ?_, ?_, ?_, ?_, ?_⟩, ⟨?_, ?_, ?_⟩, ?_⟩
  · unfold p_l; rw [k0 2 (by decide) (by decide)]; exact h.S.nl
  · unfold p_c; rw [k0 3 (by decide) (by decide)]; exact h.S.nc
  · rw [ew, s_write_0, va_up_ne _ _ (by decide), va_up_self]; exact ⟨rfl, p_lw_le hw⟩
  · rw [el, s_write_0, va_up_self]; exact ⟨rfl, by omega⟩
  · intro f
    rw [en, s_write_29]
    by_cases hf : f = e
    · subst hf; rw [va_up_self, if_pos rfl, hN, nI_1]; exact ⟨rfl, by omega⟩
    · rw [va_up_ne _ _ hf, if_neg hf]; exact h.E.n f
  · intro f; rw [es, o _ (by decide)]; exact h.E.s f
  · intro f; rw [ea, o _ (by decide)]; exact h.E.a f
  · intro d
    have := h.E.so d
    rw [es, en, en]
    constructor <;> split <;> simp_all <;> omega
  · intro d; rw [es, ea]; exact h.E.ao d
  · intro f hf
    rw [o _ (by decide)] at hf
    rw [en, if_neg]
    · exact h.E.z f hf
    · rintro rfl; exact ht hf
  · intro j hj
    rw [el] at hj
    rw [s_write_32, s_write_33]
    by_cases hj2 : j = lgB B
    · subst hj2
      rw [va_up_self, va_up_self]
      refine ⟨e, p_n B e, he, ?_, rfl, ?_⟩
      · rw [en, if_pos rfl]; omega
      · rw [hN, nI_1]
    · rw [va_up_ne _ _ hj2, va_up_ne _ _ hj2]
      obtain ⟨e', k, h1, h2, h3, h4⟩ := h.G.i j (by omega)
      refine ⟨e', k, h1, ?_, h3, h4⟩
      rw [en]; split
      · subst e'; omega
      · exact h2
  · have key : ∀ j, j < lgB B → B 32 0 j = nI e → B 33 0 j = B 29 0 e + 1 → False := by
      intro j hj h1 h2
      obtain ⟨e', k, h3, h4, h5, h6⟩ := h.G.i j hj
      rw [h5] at h1
      have := (nI_eq (by omega) (by omega)).mp h1
      subst this
      have hb := (h.E.n e').2
      rw [h6, hN, nI_1] at h2
      have := (nI_eq (by omega) (by omega)).mp h2
      omega
    intro j j' hj hj' h1 h2
    rw [el] at hj hj'
    rw [s_write_32] at h1
    rw [s_write_33] at h2
    by_cases hj2 : j = lgB B <;> by_cases hj3 : j' = lgB B
    · omega
    · subst hj2
      rw [va_up_self, va_up_ne _ _ hj3] at h1 h2
      exact (key j' (by omega) h1.symm h2.symm).elim
    · subst hj3
      rw [va_up_self, va_up_ne _ _ hj2] at h1 h2
      exact (key j (by omega) h1 h2).elim
    · rw [va_up_ne _ _ hj2, va_up_ne _ _ hj3] at h1 h2
      exact h.G.u j j' (by omega) (by omega) h1 h2
  · intro e' k hk
    rw [en] at hk
    rw [el, s_write_32, s_write_33]
    by_cases h2 : e' = e ∧ k = p_n B e
    · obtain ⟨rfl, rfl⟩ := h2
      exact ⟨lgB B, by omega, va_up_self _ _ _, by rw [va_up_self, hN, nI_1]⟩
    · obtain ⟨j, h3, h4, h5⟩ := h.G.e e' k (by
        by_cases h6 : e' = e
        · subst h6; rw [if_pos rfl] at hk; have : k ≠ p_n B e' := fun h7 => h2 ⟨rfl, h7⟩; omega
        · rw [if_neg h6] at hk; exact hk)
      exact ⟨j, by omega, by rw [va_up_ne _ _ (by omega)]; exact h4, by rw [va_up_ne _ _ (by omega)]; exact h5⟩
  · intro i hi
    rw [ew] at hi
    rw [s_write_row _ _ _ _ _ _ (by decide), s_write_row _ _ _ _ _ _ (by decide), s_write_row _ _ _ _ _ _ (by decide)]
    have eb : ∀ c, c = 37 ∨ c = 38 ∨ c = 39 → p_wb B e wh tl (lgB B) c 0 = B c 0 := fun c hc => by rcases hc with rfl | rfl | rfl <;> simp [p_wb, p_row_up]
    have e30 : p_wb B e wh tl (lgB B) 30 0 = B 30 0 := by simp [p_wb, p_row_up]
    refine RfW.lay hw (P := p_rw (s_write B e wh tl (wtB B) (lgB B)) (lgB (s_write B e wh tl (wtB B) (lgB B)))) (fun i hi => ?_) (nI (lgB B)) e ?_ i hi
    · rw [eb _ (by simp), eb _ (by simp), eb _ (by simp)]
      refine p_rw_up (h.W i hi) (fun d hd => by rw [o _ (by decide)]; exact hd) (fun f => by rw [es]; exact Nat.le_refl _) (by omega) (fun j hj => ?_)
      rw [s_write_32, va_up_ne _ _ (by omega)]
    · rw [e30]
      refine ⟨e, he, by rw [o _ (by decide)]; exact ht, rfl, ⟨p_s B e, by rw [es]; exact Nat.le_refl _, h.E.s e⟩, Or.inr ⟨lgB B, by omega, rfl, ?_⟩⟩
      rw [s_write_32, va_up_self]
theorem RfI.takeOut {B : ew_R} {q : Nat} (h : RfI B q) {w i : Nat} (hw : w = wtB B) (hi : i < w) : RfI (s_takeOut B i w) q := by
  subst hw
  have hw := h.S.w.2
  have o : ∀ c, c ≠ 37 → c ≠ 38 → c ≠ 39 → c ≠ 0 → s_takeOut B i (wtB B) c 0 = B c 0 := fun c a b d e => by rw [s_takeOut_oth _ _ _ a b d e]
  have k0 : ∀ k, k ≠ 4 → s_takeOut B i (wtB B) 0 0 k = B 0 0 k := fun k hk => by rw [s_takeOut_0, va_up_ne _ _ hk]
  have ew : wtB (s_takeOut B i (wtB B)) = wtB B - 1 := by rw [wtB, s_takeOut_0, va_up_self, nI_clamp (by omega)]
  have el : lgB (s_takeOut B i (wtB B)) = lgB B := by rw [lgB, k0 5 (by decide)]; rfl
  refine ⟨⟨h.S.hq, ?_, ?_, ?_, ?_⟩, h.L.cg (k0 2 (by decide)) (o _ (by decide) (by decide) (by decide) (by decide)) (o _ (by decide) (by decide) (by decide) (by decide)) (o _ (by decide) (by decide) (by decide) (by decide)) (o _ (by decide) (by decide) (by decide) (by decide)) (o _ (by decide) (by decide) (by decide) (by decide)) (o _ (by decide) (by decide) (by decide) (by decide)),
    h.E.cg (Nat.le_refl _) (o _ (by decide) (by decide) (by decide) (by decide)) (o _ (by decide) (by decide) (by decide) (by decide)) (o _ (by decide) (by decide) (by decide) (by decide)) (o _ (by decide) (by decide) (by decide) (by decide)), h.G.cg (k0 5 (by decide)) (o _ (by decide) (by decide) (by decide) (by decide)) (o _ (by decide) (by decide) (by decide) (by decide)) (o _ (by decide) (by decide) (by decide) (by decide)), ?_⟩
  · unfold p_l; rw [k0 2 (by decide)]; exact h.S.nl
  · unfold p_c; rw [k0 3 (by decide)]; exact h.S.nc
  · rw [ew, s_takeOut_0, va_up_self]; exact ⟨rfl, by omega⟩
  · rw [el, k0 5 (by decide)]; exact h.S.lg
  · intro k hk
    rw [ew] at hk
    rw [s_takeOut_row _ _ _ (by simp) k hk hi, s_takeOut_row _ _ _ (by simp) k hk hi, s_takeOut_row _ _ _ (by simp) k hk hi, el]
    refine p_rw_up (h.W _ (by split <;> omega)) (fun d hd => ?_) (fun e => ?_) (Nat.le_refl _) (fun j _ => ?_)
    · rw [o _ (by decide) (by decide) (by decide) (by decide)]; exact hd
    · unfold p_s; rw [o _ (by decide) (by decide) (by decide) (by decide)]; exact Nat.le_refl _
    · rw [o _ (by decide) (by decide) (by decide) (by decide)]
/-- one more letter is seen at the end f; e is the other end -/
theorem RfI.seen {B : ew_R} {q : Nat} (h : RfI B q) {d : Nat} {f e : Nat} (hf : f = 2 * d ∧ e = 2 * d + 1 ∨ f = 2 * d + 1 ∧ e = 2 * d) (hs : p_s B f < p_n B e) : RfI (up3 B 30 0 f (B 30 0 f + 1)) q := by
  have hq := h.S.hq
  have hb := (h.E.n e).2
  have hS := h.E.s f
  have o : ∀ c, c ≠ 30 → up3 B 30 0 f (B 30 0 f + 1) c 0 = B c 0 := fun c a => by rw [p_row_up, if_neg (fun q => a q.1)]
  have es : ∀ x, p_s (up3 B 30 0 f (B 30 0 f + 1)) x = if x = f then p_s B f + 1 else p_s B x := by
    intro x; unfold p_s; rw [p_row_up, if_pos ⟨rfl, rfl⟩]
    by_cases hx : x = f
    · subst hx; rw [va_up_self, if_pos rfl, hS, nI_1, nI_clamp (by omega), nI_clamp (by omega)]
    · rw [va_up_ne _ _ hx, if_neg hx]
  have en : p_n (up3 B 30 0 f (B 30 0 f + 1)) = p_n B := by funext x; unfold p_n; rw [o _ (by decide)]
  have ea : p_a (up3 B 30 0 f (B 30 0 f + 1)) = p_a B := by funext x; unfold p_a; rw [o _ (by decide)]
  refine ⟨h.S.cg (Nat.le_refl _) hq (fun k _ _ => by rw [o _ (by decide)]), h.L.cg (by rw [o _ (by decide)]) (o _ (by decide)) (o _ (by decide)) (o _ (by decide)) (o _ (by decide)) (o _ (by decide)) (o _ (by decide)), ⟨?_, ?_, ?_, ?_, ?_, ?_⟩, h.G.cg (by rw [o _ (by decide)]) (o _ (by decide)) (o _ (by decide)) (o _ (by decide)), ?_⟩
  · intro x; rw [en, o _ (by decide)]; exact h.E.n x
  · intro x; rw [es, p_row_up, if_pos ⟨rfl, rfl⟩]
    by_cases hx : x = f
    · subst hx; rw [va_up_self, if_pos rfl, hS, nI_1]
    · rw [va_up_ne _ _ hx, if_neg hx]; exact h.E.s x
  · intro x; rw [ea, o _ (by decide)]; exact h.E.a x
  · intro x; have := h.E.so x; rw [en, es, es]
    rcases hf with ⟨rfl, rfl⟩ | ⟨rfl, rfl⟩ <;> constructor <;> split <;> rename_i hh <;> (try omega) <;> (have : x = d := by omega) <;> subst this <;> omega
  · intro x; have := h.E.ao x; rw [ea, es, es]
    constructor <;> split <;> simp_all <;> omega
  · intro x hx; rw [o _ (by decide)] at hx; rw [en]; exact h.E.z x hx
  · intro i hi
    have el : lgB (up3 B 30 0 f (B 30 0 f + 1)) = lgB B := by unfold lgB; rw [o _ (by decide)]
    rw [o _ (by decide), o _ (by decide), o _ (by decide), el]
    have ew : wtB (up3 B 30 0 f (B 30 0 f + 1)) = wtB B := by unfold wtB; rw [o _ (by decide)]
    rw [ew] at hi
    refine p_rw_up (h.W i hi) (fun d hd => by rw [o _ (by decide)]; exact hd) (fun x => ?_) (Nat.le_refl _) (fun j _ => by rw [o _ (by decide)])
    rw [es]; split
    · subst x; omega
    · exact Nat.le_refl _
theorem RfI.acked {B : ew_R} {q : Nat} (h : RfI B q) {d : Nat} {f e v : Nat} (hf : f = 2 * d ∧ e = 2 * d + 1 ∨ f = 2 * d + 1 ∧ e = 2 * d) (hs : v ≤ p_s B e) : RfI (up3 B 31 0 f (nI v)) q := by
  have hq := h.S.hq
  have hb := (h.E.n e).2
  have hv : v < 2 ^ 31 := by
    have := h.E.so d; have a := (h.E.n (2 * d)).2; have b := (h.E.n (2 * d + 1)).2
    rcases hf with ⟨rfl, rfl⟩ | ⟨rfl, rfl⟩ <;> omega
  have o : ∀ c, c ≠ 31 → up3 B 31 0 f (nI v) c 0 = B c 0 := fun c a => by rw [p_row_up, if_neg (fun q => a q.1)]
  have ea : ∀ x, p_a (up3 B 31 0 f (nI v)) x = if x = f then v else p_a B x := by
    intro x; unfold p_a; rw [p_row_up, if_pos ⟨rfl, rfl⟩]
    by_cases hx : x = f
    · subst hx; rw [va_up_self, if_pos rfl, nI_clamp hv]
    · rw [va_up_ne _ _ hx, if_neg hx]
  have en : p_n (up3 B 31 0 f (nI v)) = p_n B := by funext x; unfold p_n; rw [o _ (by decide)]
  have es : p_s (up3 B 31 0 f (nI v)) = p_s B := by funext x; unfold p_s; rw [o _ (by decide)]
  refine ⟨h.S.cg (Nat.le_refl _) hq (fun k _ _ => by rw [o _ (by decide)]), h.L.cg (by rw [o _ (by decide)]) (o _ (by decide)) (o _ (by decide)) (o _ (by decide)) (o _ (by decide)) (o _ (by decide)) (o _ (by decide)), ⟨?_, ?_, ?_, ?_, ?_, ?_⟩, h.G.cg (by rw [o _ (by decide)]) (o _ (by decide)) (o _ (by decide)) (o _ (by decide)), h.W.cg (by rw [o _ (by decide)]) (by rw [o _ (by decide)]) (o _ (by decide)) (o _ (by decide)) (o _ (by decide)) (o _ (by decide)) (o _ (by decide)) (o _ (by decide))⟩
  · intro x; rw [en, o _ (by decide)]; exact h.E.n x
  · intro x; rw [es, o _ (by decide)]; exact h.E.s x
  · intro x; rw [ea, p_row_up, if_pos ⟨rfl, rfl⟩]
    by_cases hx : x = f
    · subst hx; rw [va_up_self, if_pos rfl]
    · rw [va_up_ne _ _ hx, if_neg hx]; exact h.E.a x
  · intro x; rw [en, es]; exact h.E.so x
  · intro x; have := h.E.ao x; rw [ea, ea, es]
    rcases hf with ⟨rfl, rfl⟩ | ⟨rfl, rfl⟩ <;> constructor <;> split <;> rename_i hh <;> (try omega) <;> (have : x = d := by omega) <;> subst this <;> omega
  · intro x hx; rw [o _ (by decide)] at hx; rw [en]; exact h.E.z x hx
