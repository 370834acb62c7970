/-! A request: both sides -/
theorem RfZ.cg {B B' : ew_R} (h : RfZ B) (e : ∀ c, c ∈ [22, 23, 24, 25, 26, 27] → B' c 0 = B c 0) : RfZ B' := by
  refine ⟨fun d hd => ?_, fun d hd => ?_⟩ <;> rw [e 22 (by decide)] at hd
  · rw [e 23 (by decide), e 24 (by decide), e 25 (by decide), e 26 (by decide), e 27 (by decide)]; exact h.z3 d hd
  · exact h.lt d hd
theorem RfZ.up {B : ew_R} (h : RfZ B) {c d : Nat} (x : Int32) (hd : ¬ B 22 0 d = 0) (hc : c ≠ 22) : RfZ (up3 B c 0 d x) := by
  have e : ∀ c' d', ¬ (c' = c ∧ d' = d) → up3 B c 0 d x c' 0 d' = B c' 0 d' := fun c' d' h9 => up3_ne _ _ (fun z => h9 ⟨z.1, z.2.2⟩)
  refine ⟨fun d' hd' => ?_, fun d' hd' => ?_⟩ <;> rw [e 22 d' (fun z => hc z.1.symm)] at hd'
  · have : d' ≠ d := fun z => hd (z ▸ hd')
    rw [e 23 d' (fun z => this z.2), e 24 d' (fun z => this z.2), e 25 d' (fun z => this z.2), e 26 d' (fun z => this z.2), e 27 d' (fun z => this z.2)]; exact h.z3 d' hd'
  · exact h.lt d' hd'
theorem RfZ.write {B : ew_R} (h : RfZ B) (e : Nat) (k t : Int32) (w lg : Nat) : RfZ (s_write B e k t w lg) := h.cg (fun c hc => by rw [s_write_oth _ _ _ _ _ _ (by revert c; decide)])
theorem RfZ.nx {B B' : ew_R} {ln x : Nat} (h : RfZ B) (n : p_nx B B' ln x) (hln : ln < 32) : RfZ B' := by
  refine ⟨fun d hd => ?_, fun d hd => ?_⟩ <;> rw [n.e22] at hd
  · by_cases hx : d = 6 * ln + (p_t B ln + x) % 6
    · subst hx; rw [va_up_self] at hd; exact absurd hd (by decide)
    · rw [va_up_ne _ _ hx] at hd
      rw [n.o 23 (by decide), n.o 24 (by decide), n.o 25 (by decide), n.o 26 (by decide), n.o 27 (by decide)]; exact h.z3 d hd
  · by_cases hx : d = 6 * ln + (p_t B ln + x) % 6
    · omega
    · rw [va_up_ne _ _ hx] at hd; exact h.lt d hd
/-- the next one is asked: the reference's invariant -/
theorem RfI.next {B : ew_R} {q ln st ak rq : Nat} (h : RfI B q) (hln : ln < p_l B) (es : st = p_t B ln) (ea : ak = p_x B ln) (eq : rq = p_q B ln) (hx : p_nxt st ak rq < 6) : RfI (p_nb B ln st ak rq) q ∧ B 22 0 (6 * ln + (st + p_nxt st ak rq) % 6) = 0 := by
  have N := p_nb_nx B ln st ak rq es.symm
  have K := h.L.k ln hln
  have r : ∀ c, c ∉ [0, 15, 16, 18, 19, 20, 21, 22, 28] → p_nb B ln st ak rq c 0 = B c 0 := fun c hc => by rw [N.o c hc]
  have hne : (p_t B ln + p_nxt st ak rq) % 6 ≠ p_q B ln := by
    subst es eq; have := K.rq.2
    unfold p_nxt at *; split <;> omega
  have hle : p_x B ln ≤ p_nxt st ak rq := by unfold p_nxt; split <;> omega
  refine ⟨N.ri h.S h.E h.G h.W (RfL.deal hln h.L.k (fun l hl _ => h.L.p l hl) h.L.nth h.L.ak0 hle hx (fun j h1 h2 => ?_) hne (N.e0 2 (by decide)) (r _ (by decide)) (r _ (by decide)) (r _ (by decide)) N.e15 N.e16 N.e22), ?_⟩
  · subst es eq ea
    unfold p_nxt at h2
    split at h2
    · rename_i h3; rw [show j = p_x B ln by omega]; exact h3
    · omega
  · have := K.th (p_nxt st ak rq) hx
    rw [← es] at this
    rw [this, if_neg (by omega)]
/-- the loan laid, nobody asked -/
theorem p_b1_row (B : ew_R) (nl : Nat) (b t f n : Int32) {c : Nat} (h : c ∉ [0, 11, 12, 13, 14, 17]) : p_b1 B nl b t f n c = B c := by
  simp only [List.mem_cons, List.not_mem_nil, or_false, not_or] at h
  unfold p_b1
  rw [p_kd_up _ _ _ _ h.1, p_kd_up _ _ _ _ h.2.2.2.2.2, p_kd_up _ _ _ _ h.2.2.2.1, p_kd_up _ _ _ _ h.2.2.2.2.1, p_kd_up _ _ _ _ h.2.2.1, p_kd_up _ _ _ _ h.2.1, p_kd_up _ _ _ _ h.1]
theorem p_b1_11 (B : ew_R) (nl : Nat) (b t f n : Int32) : p_b1 B nl b t f n 11 0 = va_up (B 11 0) nl b := by unfold p_b1; simp [p_row_up]
theorem p_b1_12 (B : ew_R) (nl : Nat) (b t f n : Int32) : p_b1 B nl b t f n 12 0 = va_up (B 12 0) nl t := by unfold p_b1; simp [p_row_up]
theorem p_b1_13 (B : ew_R) (nl : Nat) (b t f n : Int32) : p_b1 B nl b t f n 13 0 = va_up (B 13 0) nl n := by unfold p_b1; simp [p_row_up]
theorem p_b1_14 (B : ew_R) (nl : Nat) (b t f n : Int32) : p_b1 B nl b t f n 14 0 = va_up (B 14 0) nl f := by unfold p_b1; simp [p_row_up]
theorem p_b1_17 (B : ew_R) (nl : Nat) (b t f n : Int32) : p_b1 B nl b t f n 17 0 = va_up (B 17 0) nl (-1) := by unfold p_b1; simp [p_row_up]
theorem p_b1_0 (B : ew_R) (nl : Nat) (b t f n : Int32) (k : Nat) (hk : 1 ≤ k) : p_b1 B nl b t f n 0 0 k = if k = 2 then nI (nl + 1) else B 0 0 k := by
  unfold p_b1; simp only [p_row_up]; simp [va_up]
  split
  · rfl
  · rw [if_neg (by omega)]
theorem RfI.loan {B : ew_R} {q nl b f n : Nat} {t : Int32} (h : RfI B q) (en : nl = p_l B) (hn : nl < 32) (hb : b < 6) (hf : f < 6) (n1 : 1 ≤ n) (n9 : n ≤ 99) :
    RfI (p_nb (p_b1 B nl (nI b) t (nI f) (nI n)) nl f 0 b) q ∧ B 22 0 (6 * nl + (f + p_nxt f 0 b) % 6) = 0 := by
  have o : ∀ c, c ∉ [0, 11, 12, 13, 14, 17] → p_b1 B nl (nI b) t (nI f) (nI n) c 0 = B c 0 := fun c hc => by rw [p_b1_row _ _ _ _ _ _ hc]
  have k0 := p_b1_0 B nl (nI b) t (nI f) (nI n)
  have el : p_l (p_b1 B nl (nI b) t (nI f) (nI n)) = nl + 1 := by unfold p_l; rw [k0 2 (by decide), if_pos rfl, nI_clamp (by omega)]
  have et : p_t (p_b1 B nl (nI b) t (nI f) (nI n)) nl = f := by unfold p_t; rw [p_b1_14, va_up_self, nI_clamp (by omega)]
  have eq : p_q (p_b1 B nl (nI b) t (nI f) (nI n)) nl = b := by unfold p_q; rw [p_b1_11, va_up_self, nI_clamp (by omega)]
  have ex : p_x (p_b1 B nl (nI b) t (nI f) (nI n)) nl = 0 := by unfold p_x; rw [o 15 (by decide), h.L.ak0 nl (by omega)]; rfl
  have N := p_nb_nx (p_b1 B nl (nI b) t (nI f) (nI n)) nl f 0 b et
  have h22 : ∀ d, 6 * nl ≤ d → B 22 0 d = 0 := fun d hd => h.L.nth d (by omega)
  have hx : p_nxt f 0 b < 6 := by unfold p_nxt; split <;> omega
  have hne : (f + p_nxt f 0 b) % 6 ≠ b := by unfold p_nxt; split <;> omega
  have r : ∀ c, c ∉ [0, 15, 16, 18, 19, 20, 21, 22, 28] → p_nb (p_b1 B nl (nI b) t (nI f) (nI n)) nl f 0 b c 0 = p_b1 B nl (nI b) t (nI f) (nI n) c 0 := fun c hc => by rw [N.o c hc]
  have S1 : RfS (p_b1 B nl (nI b) t (nI f) (nI n)) q := by
    refine ⟨h.S.hq, ?_, ?_, ?_, ?_⟩
    · rw [el, k0 2 (by decide), if_pos rfl]; exact ⟨rfl, by omega⟩
    · unfold p_c; rw [k0 3 (by decide), if_neg (by decide)]; exact h.S.nc
    · unfold wtB; rw [k0 4 (by decide), if_neg (by decide)]; exact h.S.w
    · unfold lgB; rw [k0 5 (by decide), if_neg (by decide)]; exact h.S.lg
  refine ⟨N.ri S1 (h.E.cg (Nat.le_refl _) (o _ (by decide)) (o _ (by decide)) (o _ (by decide)) (o _ (by decide))) (h.G.cg (by rw [k0 5 (by decide), if_neg (by decide)]) (o _ (by decide)) (o _ (by decide)) (o _ (by decide))) (h.W.cg (by rw [k0 4 (by decide), if_neg (by decide)]) (by rw [k0 5 (by decide), if_neg (by decide)]) (o _ (by decide)) (o _ (by decide)) (o _ (by decide)) (o _ (by decide)) (o _ (by decide)) (o _ (by decide)))
    (RfL.deal (x := p_nxt f 0 b) (ln := nl) (by omega) (fun l hl => ?_) (fun l hl hl2 => ?_) ?_ ?_ (by omega) hx (fun j h1 h2 => ?_) ?_ (N.e0 2 (by decide)) (r _ (by decide)) (r _ (by decide)) (r _ (by decide)) N.e15 N.e16 N.e22), h22 _ (by omega)⟩
  · by_cases hl2 : l = nl
    · subst hl2
      refine ⟨?_, ?_, ?_, ?_, ?_, fun j hj => ?_⟩
      · rw [eq, p_b1_11, va_up_self]; exact ⟨rfl, hb⟩
      · rw [et, p_b1_14, va_up_self]; exact ⟨rfl, hf⟩
      · rw [ex, o 15 (by decide), h.L.ak0 l (by omega)]; exact ⟨rfl, by omega⟩
      · rw [ex]; omega
      · rw [p_b1_13, va_up_self]; exact ⟨n, n1, n9, rfl⟩
      · rw [ex, o 22 (by decide), h22 _ (by omega), if_neg (by omega)]
    · exact (h.L.k l (by omega)).cg (by rw [p_b1_11, va_up_ne _ _ hl2]) (by rw [p_b1_13, va_up_ne _ _ hl2]) (by rw [p_b1_14, va_up_ne _ _ hl2]) (by rw [o 15 (by decide)]) (fun x _ => by rw [o 22 (by decide)])
  · exact (h.L.p l (by omega)).cg (by rw [o 15 (by decide)]) (by rw [o 16 (by decide)]) (fun x _ => by rw [o 22 (by decide)])
  · intro d hd; rw [o 22 (by decide)]; exact h22 d (by omega)
  · intro l hl; rw [o 15 (by decide)]; exact h.L.ak0 l (by omega)
  · rw [et, eq]; rw [ex] at h1
    unfold p_nxt at h2; split at h2
    · rename_i h3; rw [show j = 0 by omega]; exact h3
    · omega
  · rw [et, eq]; exact hne
/-- the loan laid: both sides' pieces -/
theorem Rl.loan {A A' B : ew_R} {q nl : Nat} {b t f n : Int32} (h : Rl A B) (I : RfI B q) (en : nl = p_l B) (hn : nl < 32) (m : p_nl A A' nl b t f n) :
    RlC A' (p_b1 B nl b t f n) ∧ RlE A' (p_b1 B nl b t f n) ∧ RlDx A' (p_b1 B nl b t f n) nl ∧ RlT A' (p_b1 B nl b t f n) ∧ RlR A' (p_b1 B nl b t f n) ∧ RlG A' (p_b1 B nl b t f n) := by
  have o : ∀ c, c ∉ [0, 11, 12, 13, 14, 17] → p_b1 B nl b t f n c 0 = B c 0 := fun c hc => by rw [p_b1_row _ _ _ _ _ _ hc]
  have k0 := p_b1_0 B nl b t f n
  have el : p_l (p_b1 B nl b t f n) = nl + 1 := by unfold p_l; rw [k0 2 (by decide), if_pos rfl, nI_clamp (by omega)]
  have c2 : ∀ k v, (if k = 0 then nI nl else if k = 1 then b else if k = 2 then t else if k = 3 then f else if k = 4 then n else A' 2 nl k) = v → p_col A' 2 k = va_up (p_col A 2 k) nl v := by
    intro k v hv; funext i; unfold p_col; rw [m.a2]
    by_cases hi : i = nl
    · subst hi; rw [if_pos rfl, va_up_self, hv]
    · rw [if_neg hi, va_up_ne _ _ hi]
  have H := h.C
  have hlt : ∀ d, ¬ B 22 0 d = 0 → d / 6 < nl := fun d hd => by have := (I.L.in hd).1; omega
  refine ⟨⟨?_, ?_, ?_, ?_, ?_, ?_, ?_, ?_, ?_, ?_, ?_, ?_, ?_, ?_, ?_, ?_, ?_, ?_, ?_, ?_, ?_, ?_, ?_, ?_⟩, ?_, ⟨?_, ?_, ?_, ?_⟩, ?_, ?_, ?_⟩
  · rw [m.a0, k0 1 (by decide)]; simpa using H.day
  · rw [m.a0, k0 2 (by decide)]; rfl
  · rw [m.a0, k0 3 (by decide)]; simpa using H.nc
  · rw [m.o 7 (by decide), k0 4 (by decide)]; simpa using H.w
  · rw [m.o 11 (by decide), o 6 (by decide)]; exact H.bal
  · rw [p_col_kd (m.o 1 (by decide)), o 8 (by decide)]; exact H.c0
  · rw [p_col_kd (m.o 1 (by decide)), o 7 (by decide)]; exact H.c1
  · rw [p_col_kd (m.o 1 (by decide)), o 9 (by decide)]; exact H.c2
  · rw [p_col_kd (m.o 1 (by decide)), o 10 (by decide)]; exact H.c3
  · rw [c2 1 b rfl, p_b1_11, H.l1]
  · rw [c2 2 t rfl, p_b1_12, H.l2]
  · rw [c2 3 f rfl, p_b1_14, H.l3]
  · rw [c2 4 n rfl, p_b1_13, H.l4]
  · rw [p_col_kd (m.o 3 (by decide)), o 18 (by decide)]; exact H.g0
  · rw [p_col_kd (m.o 3 (by decide)), o 19 (by decide)]; exact H.g1
  · rw [p_col_kd (m.o 3 (by decide)), o 20 (by decide)]; exact H.g2
  · rw [p_col_kd (m.o 3 (by decide)), o 21 (by decide)]; exact H.g3
  · rw [p_col_kd (m.o 17 (by decide)), o 23 (by decide)]; exact H.d0
  · rw [p_col_kd (m.o 17 (by decide)), o 24 (by decide)]; exact H.d1
  · rw [p_col_kd (m.o 17 (by decide)), o 25 (by decide)]; exact H.d2
  · rw [p_col_kd (m.o 17 (by decide)), o 26 (by decide)]; exact H.d3
  · rw [p_col_kd (m.o 4 (by decide)), o 27 (by decide)]; exact H.gr
  · rw [m.o 13 (by decide), o 22 (by decide)]; exact H.th
  · rw [m.o 18 (by decide)]; exact H.bare
  · exact h.E.cg (fun c hc => m.o c (by revert c; decide)) (fun c hc => o c (by revert c; decide))
  · intro l hl
    rw [el] at hl
    rw [m.a2 l 0]
    by_cases hll : l = nl
    · subst hll; exact ⟨by rw [if_pos rfl]; rfl, fun z => absurd rfl z⟩
    · rw [if_neg hll]
      have := h.D.ln l (by omega)
      exact ⟨this.1, fun _ => by rw [m.a2, if_neg hll]; simp only [p_k]; rw [o 16 (by decide)]; exact this.2⟩
  · intro d hd
    rw [o 22 (by decide)] at hd
    have hd2 := hlt d hd
    have := h.D.dl d hd
    exact ⟨by rw [m.o 4 (by decide)]; exact this.h0, by rw [m.o 5 (by decide)]; exact this.h1, by rw [m.o 5 (by decide), p_b1_11, va_up_ne _ _ (by omega)]; exact this.h2, by rw [m.o 5 (by decide)]; exact this.h3, by rw [m.o 15 (by decide)]; exact this.h4, by rw [m.o 15 (by decide)]; exact this.h5, by rw [m.o 15 (by decide), p_b1_11, va_up_ne _ _ (by omega)]; exact this.h6⟩
  · intro c hc; rw [m.o 9 (by decide)]; simp only [p_c]; rw [k0 3 (by decide)]; exact h.D.f9 c hc
  · intro l hl
    rw [m.a10, el]
    by_cases hll : l = nl
    · rw [if_pos hll]; constructor
      · intro z; exact absurd z (by decide)
      · intro z; omega
    · rw [if_neg hll]; have := h.D.f10 l hl; rw [this]; omega
  · exact h.T.cg (m.o 6 (by decide)) (m.o 19 (by decide)) (fun c hc => o c (by revert c; decide)) (by rw [k0 5 (by decide)]; rfl) (fun e => by simp only [p_s]; rw [o 30 (by decide)]; exact Nat.le_refl _)
  · intro i hi k hk
    have ew : wtB (p_b1 B nl b t f n) = wtB B := by unfold wtB; rw [k0 4 (by decide)]; rfl
    have hlg : lgB B ≤ 3000 := by have := I.S.lg.2; have := I.S.hq; omega
    rw [ew] at hi
    rw [m.o 12 (by decide), o 37 (by decide), o 38 (by decide), o 39 (by decide), h.R i hi k hk]
    refine (p_let_cg (I.W i hi) I.L (fun l hl => ?_) (fun c hc j _ => ?_) hlg k).symm
    · rw [p_b1_11, va_up_ne _ _ (by omega)]
    · rw [o c (by rcases hc with rfl | rfl | rfl <;> decide)]
  · exact h.G.cg (fun c hc => m.o c (by revert c; decide)) (o 22 (by decide)) (o 29 (by decide))
