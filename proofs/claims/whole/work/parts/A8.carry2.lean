/-! The loop of the reference's carry: what holds at each step -/
def tkO (B R : ew_R) (d : Nat) : Prop := R 29 0 (2 * d + 1) = B 29 0 (2 * d + 1) ∧ R 30 = B 30 ∧ (¬ B 22 0 d = 0 → ¬ R 22 0 d = 0)
theorem tkO.refl (B : ew_R) (d : Nat) : tkO B B d := ⟨rfl, rfl, fun h => h⟩
theorem tkO.up {B R : ew_R} {d c i : Nat} {x : Int32} (hc : c = 6 ∨ c = 18 ∨ c = 19 ∨ c = 20 ∨ c = 21) (h : tkO B R d) : tkO B (up3 R c 0 i x) d := by
  unfold tkO
  rw [p_kd_up (c' := 29) _ _ _ _ (by omega), p_kd_up (c' := 30) _ _ _ _ (by omega), p_kd_up (c' := 22) _ _ _ _ (by omega)]
  exact h
theorem tkO.ask {B : ew_R} {d ln st ak rq w lg : Nat} (es : p_t B ln = st) (ea : p_x B ln = ak) (eq : p_q B ln = rq) : tkO B (s_askNext B ln st ak rq w lg) d := by
  by_cases hx : p_nxt st ak rq < 6
  · rw [s_askNext_go _ _ _ _ _ _ _ hx]
    have N := p_nb_nx B ln st ak rq es
    refine ⟨?_, ?_, fun h => ?_⟩
    · rw [s_write_29, va_up_ne _ _ (by omega), N.o 29 (by decide)]
    · rw [s_write_oth _ _ _ _ _ _ (by decide), N.o 30 (by decide)]
    · rw [s_write_oth _ _ _ _ _ _ (by decide), N.e22]
      by_cases h9 : d = 6 * ln + (p_t B ln + p_nxt st ak rq) % 6
      · rw [h9, va_up_self]; decide
      · rw [va_up_ne _ _ h9]; exact h
  · rw [s_askNext_end _ _ _ _ _ _ _ hx]
    have n := p_eb_ee B ln st ak rq es.symm ea.symm eq.symm hx
    exact ⟨by rw [n.o 29 (by decide)], n.o 30 (by decide), fun h => by rw [n.o 22 (by decide)]; exact h⟩
theorem tkO.rt {B : ew_R} {d ln st ak rq w lg : Nat} {k tl : Int32} (es : p_t B ln = st) (ea : p_x B ln = ak) (eq : p_q B ln = rq) : tkO B (s_takeRequester B ln k tl st ak rq w lg) d := by
  unfold s_takeRequester
  repeat' split
  all_goals first | exact tkO.refl _ _ | exact tkO.ask es ea eq | exact (tkO.refl _ _).up (by simp) | exact ((tkO.refl _ _).up (by simp)).up (by simp) | exact (((tkO.refl _ _).up (by simp)).up (by simp)).up (by simp)
theorem IvE.sim {q d m : Nat} {A B : ew_R} (h : IvE q d m A B) : ∃ q', q' ≤ q + 1 ∧ Sim A B q' := by
  rcases h with ⟨_, S⟩ | ⟨_, S, _⟩
  · exact ⟨q, by omega, S⟩
  · exact ⟨q + 1, by omega, S⟩
theorem IvO.sim {q ln b m : Nat} {A B : ew_R} (h : IvO q ln b m A B) : ∃ q', q' ≤ q + 1 ∧ Sim A B q' := by
  rcases h with ⟨_, S⟩ | ⟨_, ⟨S, _⟩ | ⟨S, _⟩⟩
  · exact ⟨q, by omega, S⟩
  · exact ⟨q + 1, by omega, S⟩
  · exact ⟨q, by omega, S⟩
/-- what the next step of the loop finds -/
theorem tk_e_fx {B : ew_R} {ln b d : Nat} (ed : d = 6 * ln + b) {q : Nat} {A : ew_R} (S : Sim A B q) (hd : ¬ B 22 0 d = 0) (hs : p_s B (2 * d + 1) < p_n B (2 * d)) : ¬ s_tk_e B ln b 22 0 d = 0 ∧ p_n (s_tk_e B ln b) (2 * d) = p_n B (2 * d) ∧ p_s (s_tk_e B ln b) (2 * d + 1) = p_s B (2 * d + 1) + 1 := by
  have hn := S.nle (2 * d)
  have hq := S.q512
  have tb := s_st_tkB (up3 B 30 0 (2 * d + 1) (B 30 0 (2 * d + 1) + 1)) ln d (wtB B) (lgB B) (B 34 0 (nxB B (2 * d) (2 * d + 1)).toNatClampNeg)
  have er : s_tk_e B ln b = s_takeSupplier (up3 B 30 0 (2 * d + 1) (B 30 0 (2 * d + 1) + 1)) ln d (B 34 0 (nxB B (2 * d) (2 * d + 1)).toNatClampNeg) (wtB B) (lgB B) := by unfold s_tk_e; rw [← ed]
  rw [← er] at tb
  have es := p_s_seen S.I (2 * d + 1) (2 * d + 1) (by omega)
  rw [if_pos rfl] at es
  refine ⟨?_, ?_, ?_⟩
  · rw [tb.1 22 (by decide), p_kd_up _ _ _ _ (by decide)]; exact hd
  · unfold p_n; rw [tb.2, p_kd_up _ _ _ _ (by decide)]
  · unfold p_s; rw [tb.1 30 (by decide)]; exact es
theorem tk_o_fx {B : ew_R} {ln b d : Nat} (ed : d = 6 * ln + b) {q : Nat} {A : ew_R} (S : Sim A B q) (hd : ¬ B 22 0 d = 0) (hs : p_s B (2 * d) < p_n B (2 * d + 1)) : ¬ s_tk_o B ln b 22 0 d = 0 ∧ p_n (s_tk_o B ln b) (2 * d + 1) = p_n B (2 * d + 1) ∧ p_s (s_tk_o B ln b) (2 * d) = p_s B (2 * d) + 1 := by
  have hn := S.nle (2 * d + 1)
  have hq := S.q512
  have o : ∀ c, c ≠ 30 → up3 B 30 0 (2 * d) (B 30 0 (2 * d) + 1) c = B c := fun c h => p_kd_up _ _ _ _ h
  have tb : tkO (up3 B 30 0 (2 * d) (B 30 0 (2 * d) + 1)) (s_tk_o B ln b) d := by
    unfold s_tk_o
    rw [← ed]
    split
    · exact tkO.rt (by unfold p_t; rw [o 14 (by decide)]) (by unfold p_x; rw [o 15 (by decide)]) (by unfold p_q; rw [o 11 (by decide)])
    · exact tkO.refl _ _
  have es := p_s_seen S.I (2 * d) (2 * d) (by omega)
  rw [if_pos rfl] at es
  refine ⟨tb.2.2 (by rw [o 22 (by decide)]; exact hd), ?_, ?_⟩
  · unfold p_n; rw [tb.1, o 29 (by decide)]
  · unfold p_s; rw [tb.2.1]; exact es
theorem IvE.step {q d m ln b : Nat} {A B : ew_R} (h : IvE q d m A B) (hq : q < 512) (ed : d = 6 * ln + b) (hb : b < 6) (hd : ¬ B 22 0 d = 0) (hs : p_s B (2 * d + 1) < p_n B (2 * d)) : ∃ A' m', IvE q d m' A' (s_tk_e B ln b) := by
  have er : s_tk_e B ln b = s_takeSupplier (up3 B 30 0 (2 * d + 1) (B 30 0 (2 * d + 1) + 1)) ln d (B 34 0 (nxB B (2 * d) (2 * d + 1)).toNatClampNeg) (wtB B) (lgB B) := by unfold s_tk_e; rw [← ed]
  have o : ∀ c, c ≠ 30 → up3 B 30 0 (2 * d + 1) (B 30 0 (2 * d + 1) + 1) c = B c := fun c h => p_kd_up _ _ _ _ h
  have oA : ∀ c, c ≠ 15 → up3 A 15 d 4 (A 15 d 4 + 1) c = A c := fun c h => p_kd_up _ _ _ _ h
  rw [er]
  rcases h with ⟨rfl, S⟩ | ⟨rfl, S, h11⟩
  · obtain ⟨j, hj, hx, j32, j33, a1, a2, a3⟩ := (S.hd_e hd).2 hs
    have l2 := S.I.S.2.2.2.2.2
    rw [hx, nI_clamp (by omega)]
    have S2 := S.seen15 hd hs
    have hd2 : ¬ up3 B 30 0 (2 * d + 1) (B 30 0 (2 * d + 1) + 1) 22 0 d = 0 := by rw [o 22 (by decide)]; exact hd
    have hh : p_has (up3 B 30 0 (2 * d + 1) (B 30 0 (2 * d + 1) + 1)) (2 * d) (B 34 0 j) := ⟨j, by rw [lg30]; exact hj, by rw [o 32 (by decide)]; exact j32, by rw [o 34 (by decide)]⟩
    obtain ⟨g, hg⟩ := S2.R.G.2 d hd2
    have ak : up3 A 15 d 4 (A 15 d 4 + 1) 6 (512 * d + p_s B (2 * d + 1)) 1 = B 34 0 j := by rw [oA 6 (by decide)]; exact a1
    have fin : ∀ Z, OutE (up3 A 15 d 4 (A 15 d 4 + 1)) (up3 B 30 0 (2 * d + 1) (B 30 0 (2 * d + 1) + 1)) q d g (p_n (up3 B 30 0 (2 * d + 1) (B 30 0 (2 * d + 1) + 1)) (2 * d + 1)) Z (s_takeSupplier (up3 B 30 0 (2 * d + 1) (B 30 0 (2 * d + 1) + 1)) ln d (B 34 0 j) (wtB B) (lgB B)) → ∃ A' m', IvE q d m' A' (s_takeSupplier (up3 B 30 0 (2 * d + 1) (B 30 0 (2 * d + 1) + 1)) ln d (B 34 0 j) (wtB B) (lgB B)) := fun Z O => by
      rcases O.2 with ⟨_, s1, _⟩ | ⟨_, _, s1, h11, _⟩
      · exact ⟨Z.2, 0, Or.inl ⟨rfl, s1⟩⟩
      · exact ⟨Z.2, 1, Or.inr ⟨rfl, s1 hq, h11⟩⟩
    rcases (S2.P.cd d hd2).1 with h4 | ⟨cp, hcp, h4, -⟩
    · exact fin _ (S2.tkE_n (ln := ln) hd2 ak hh (wt30 _ _ _).symm (lg30 _ _ _).symm rfl hg h4).2
    · exact fin _ (S2.tkE_c (ln := ln) (b := b) hd2 ed ak hh (wt30 _ _ _).symm (lg30 _ _ _).symm rfl hg h4 (by have := S2.I.S.2.2.1.2; omega))
  · refine ⟨up3 A 15 d 4 (A 15 d 4 + 1), 1, Or.inr ⟨rfl, ?_⟩⟩
    rw [s_st_x (by rw [o 23 (by decide)]; exact h11)]
    exact ⟨S.seen15 hd hs, by rw [o 23 (by decide)]; exact h11⟩
theorem IvO.step {q d m ln b : Nat} {A B : ew_R} (h : IvO q ln b m A B) (hq : q < 512) (ed : d = 6 * ln + b) (hb : b < 6) (hd : ¬ B 22 0 d = 0) (hs : p_s B (2 * d) < p_n B (2 * d + 1)) : ∃ A' m', IvO q ln b m' A' (s_tk_o B ln b) := by
  have er : s_tk_o B ln b = if nI b = B 16 0 ln then s_takeRequester (up3 B 30 0 (2 * d) (B 30 0 (2 * d) + 1)) ln (B 34 0 (nxB B (2 * d + 1) (2 * d)).toNatClampNeg) (B 35 0 (nxB B (2 * d + 1) (2 * d)).toNatClampNeg) (p_t B ln) (p_x B ln) (p_q B ln) (wtB B) (lgB B) else up3 B 30 0 (2 * d) (B 30 0 (2 * d) + 1) := by unfold s_tk_o; rw [← ed]; rfl
  have o : ∀ c, c ≠ 30 → up3 B 30 0 (2 * d) (B 30 0 (2 * d) + 1) c = B c := fun c h => p_kd_up _ _ _ _ h
  have hS0 := h.sim
  obtain ⟨q', hq', S0⟩ := hS0
  have hl : ln < p_l B := by have := S0.d6 hd; rw [ed] at this; omega
  obtain ⟨-, hk16, hk6, hkd⟩ := S0.I.L.2.1 ln hl
  have hpk2 : ∀ l, p_k (up3 B 30 0 (2 * d) (B 30 0 (2 * d) + 1)) l = p_k B l := fun l => by unfold p_k; rw [o 16 (by decide)]
  rw [er]
  by_cases hpk : p_k B ln = b
  · have S : Sim A B q := by
      rcases h with ⟨_, S⟩ | ⟨_, ⟨_, h⟩ | ⟨S, _⟩⟩
      · exact S
      · exact absurd hpk h
      · exact S
    rw [if_pos (by rw [hk16, hpk])]
    have ed' : d = 6 * ln + p_k B ln := by rw [hpk]; exact ed
    obtain ⟨j, hj, hx, j32, j33, a1, a2, a3⟩ := (S.hd_o hd).2 hs
    have l2 := S.I.S.2.2.2.2.2
    rw [hx, nI_clamp (by omega)]
    have hL : tkL A B d j (B 34 0 j) (B 35 0 j) := ⟨hj, j32, j33, rfl, rfl, a1, a2⟩
    by_cases hno : B 18 0 ln = 0 ∧ B 34 0 j = 4
    · obtain ⟨r0, k4⟩ := hno
      have S2 := S.seen5 hd hs
      have hl2 : ln < p_l (up3 B 30 0 (2 * d) (B 30 0 (2 * d) + 1)) := by unfold p_l; rw [o 0 (by decide)]; exact hl
      have ed2 : d = 6 * ln + p_k (up3 B 30 0 (2 * d) (B 30 0 (2 * d) + 1)) ln := by rw [hpk2]; exact ed'
      have r02 : up3 B 30 0 (2 * d) (B 30 0 (2 * d) + 1) 18 0 ln = 0 := by rw [o 18 (by decide)]; exact r0
      have h4 : p_has (up3 B 30 0 (2 * d) (B 30 0 (2 * d) + 1)) (2 * d + 1) 4 := ⟨j, by rw [lg30]; exact hj, by rw [o 32 (by decide)]; exact j32, by rw [o 34 (by decide)]; exact k4⟩
      have es : p_t B ln = p_t (up3 B 30 0 (2 * d) (B 30 0 (2 * d) + 1)) ln := by unfold p_t; rw [o 14 (by decide)]
      have ea : p_x B ln = p_x (up3 B 30 0 (2 * d) (B 30 0 (2 * d) + 1)) ln := by unfold p_x; rw [o 15 (by decide)]
      have eq : p_q B ln = p_q (up3 B 30 0 (2 * d) (B 30 0 (2 * d) + 1)) ln := by unfold p_q; rw [o 11 (by decide)]
      rw [k4, s_rt_ask r02]
      obtain ⟨hsk, hx1, hgo⟩ := S2.rota hl2
      rw [← es, ← ea, ← eq] at hsk hx1 hgo
      by_cases hx : p_nxt (p_t B ln) (p_x B ln) (p_q B ln) < 6
      · obtain ⟨hne, hz⟩ := hgo hx
        have hm6 : (p_t B ln + p_nxt (p_t B ln) (p_x B ln) (p_q B ln)) % 6 < 6 := Nat.mod_lt _ (by decide)
        have Sn := S2.next hq hl2 ed2 es ea eq (wt30 _ _ _).symm (lg30 _ _ _).symm hx r02 h4 (by rw [(S2.I.L.1 ln hl2).1.1]; exact p_nd_ask (S2.R.D.1 ln hl2).1 hm6)
        refine ⟨_, 1, Or.inr ⟨rfl, Or.inl ⟨Sn, ?_⟩⟩⟩
        rw [s_askNext_go _ _ _ _ _ _ _ hx]
        have N := (p_nb_nx (up3 B 30 0 (2 * d) (B 30 0 (2 * d) + 1)) ln (p_t B ln) (p_x B ln) (p_q B ln) es.symm).e16
        unfold p_k
        rw [s_write_oth _ _ _ _ _ _ (by decide), N, va_up_self, nI_clamp (by omega), ← es]
        intro z
        rw [z] at hz
        exact hd (by rw [ed, ← o 22 (by decide), ← S2.R.C.th ln b hb]; exact hz)
      · have m := p_ea_ask (up3 A 5 d 4 (A 5 d 4 + 1)) ln
        have hE := S2.last (w := wtB B) (lg := lgB B) hl2 ed2 es ea eq hx r02 h4 m
        refine ⟨_, 1, Or.inr ⟨rfl, Or.inr ⟨hE, ?_⟩⟩⟩
        rw [← congrFun hE.R.C.g0 ln]
        show z_askEnd _ _ 3 ln 0 = 9
        rw [m.a3 ln 0 (by decide), if_pos rfl, if_pos rfl]
    · obtain ⟨St, -, -⟩ := S.tkO (st := p_t B ln) (ak := p_x B ln) (rq := p_q B ln) (w := wtB B) (lg := lgB B) hl ed' hs hL hno
      exact ⟨_, 0, Or.inl ⟨rfl, St⟩⟩
  · rw [if_neg (fun z => hpk (by rw [hk16] at z; have := congrArg Int32.toNatClampNeg z; rw [nI_clamp (by omega), nI_clamp (by omega)] at this; exact this.symm))]
    rcases h with ⟨h, S⟩ | ⟨h, ⟨S, _⟩ | ⟨S, h9⟩⟩
    · exact ⟨_, 0, Or.inl ⟨rfl, S.seen5 hd hs⟩⟩
    · exact ⟨_, 1, Or.inr ⟨rfl, Or.inl ⟨S.seen5 hd hs, by rw [hpk2]; exact hpk⟩⟩⟩
    · exact ⟨_, 1, Or.inr ⟨rfl, Or.inr ⟨S.seen5 hd hs, by rw [o 18 (by decide)]; exact h9⟩⟩⟩
/-- the invariants that the reference's loops ask for -/
def IrE (q ln b f : Nat) (B : ew_R) : Prop := ∃ A m, IvE q (6 * ln + b) m A B ∧ ¬ B 22 0 (6 * ln + b) = 0 ∧ p_n B (2 * (6 * ln + b)) ≤ p_s B (2 * (6 * ln + b) + 1) + f
def IrO (q ln b f : Nat) (B : ew_R) : Prop := ∃ A m, IvO q ln b m A B ∧ ¬ B 22 0 (6 * ln + b) = 0 ∧ p_n B (2 * (6 * ln + b) + 1) ≤ p_s B (2 * (6 * ln + b)) + f
theorem IrE.g {q ln b f : Nat} {B : ew_R} (hq : q < 512) (h : IrE q ln b f B) : B 0 0 5 = nI (lgB B) ∧ lgB B ≤ 3000 := by
  obtain ⟨A, m, h1, -, -⟩ := h
  obtain ⟨q', hq', S⟩ := h1.sim
  have := S.I.S.2.2.2.2
  exact ⟨this.1, by omega⟩
theorem IrO.g {q ln b f : Nat} {B : ew_R} (hq : q < 512) (h : IrO q ln b f B) : B 0 0 5 = nI (lgB B) ∧ lgB B ≤ 3000 := by
  obtain ⟨A, m, h1, -, -⟩ := h
  obtain ⟨q', hq', S⟩ := h1.sim
  have := S.I.S.2.2.2.2
  exact ⟨this.1, by omega⟩
theorem IrE.z {q ln b : Nat} {B : ew_R} (h : IrE q ln b 0 B) : nxB B (2 * (6 * ln + b)) ((2 * (6 * ln + b)) + 1) = (-1) ∨ B 36 0 (nxB B (2 * (6 * ln + b)) ((2 * (6 * ln + b)) + 1)).toNatClampNeg = 0 := by
  obtain ⟨A, m, h1, hd, hf⟩ := h
  obtain ⟨q', hq', S⟩ := h1.sim
  exact Or.inl ((S.hd_e hd).1 (by omega))
theorem IrO.z {q ln b : Nat} {B : ew_R} (h : IrO q ln b 0 B) : nxB B ((2 * (6 * ln + b)) + 1) (2 * (6 * ln + b)) = (-1) ∨ B 36 0 (nxB B ((2 * (6 * ln + b)) + 1) (2 * (6 * ln + b))).toNatClampNeg = 0 := by
  obtain ⟨A, m, h1, hd, hf⟩ := h
  obtain ⟨q', hq', S⟩ := h1.sim
  exact Or.inl ((S.hd_o hd).1 (by omega))
theorem IrE.s {q ln b f : Nat} {B : ew_R} (hq : q < 512) (hb : b < 6) (h : IrE q ln b (f + 1) B) (hx : ¬ nxB B (2 * (6 * ln + b)) ((2 * (6 * ln + b)) + 1) = (-1)) : (B 0 0 4 = nI (wtB B) ∧ wtB B ≤ 64 ∧ lgB B < 3000 ∧ (B 28 0 (6 * ln + b) = (-1) ∨ vp_in (B 28 0 (6 * ln + b)) 32)) ∧ IrE q ln b f (s_tk_e B ln b) := by
  obtain ⟨A, m, h1, hd, hf⟩ := h
  obtain ⟨q', hq', S⟩ := h1.sim
  have hs : p_s B (2 * (6 * ln + b) + 1) < p_n B (2 * (6 * ln + b)) := by
    rcases Nat.lt_or_ge (p_s B (2 * (6 * ln + b) + 1)) (p_n B (2 * (6 * ln + b))) with h | h
    · exact h
    · exact absurd ((S.hd_e hd).1 h) hx
  obtain ⟨A', m', h'⟩ := h1.step hq rfl hb hd hs
  obtain ⟨f1, f2, f3⟩ := tk_e_fx rfl S hd hs
  have w := S.I.S.2.2.2.1
  have lg := S.I.S.2.2.2.2.2
  refine ⟨⟨w.1, w.2, by omega, ?_⟩, A', m', h', f1, by omega⟩
  rcases (S.P.cd _ hd).2.2.2.1 with h | ⟨c, hc, h⟩
  · exact Or.inl h
  · have := S.I.S.2.2.1.2
    exact Or.inr (by rw [h]; exact nI_in (by omega) (by decide))
theorem IrO.s {q ln b f : Nat} {B : ew_R} (hq : q < 512) (hb : b < 6) (h : IrO q ln b (f + 1) B) (hx : ¬ nxB B ((2 * (6 * ln + b)) + 1) (2 * (6 * ln + b)) = (-1)) : (B 0 0 4 = nI (wtB B) ∧ wtB B ≤ 64 ∧ lgB B < 3000 ∧ B 14 0 ln = nI (B 14 0 ln).toNatClampNeg ∧ (B 14 0 ln).toNatClampNeg < 6 ∧ B 15 0 ln = nI (B 15 0 ln).toNatClampNeg ∧ (B 15 0 ln).toNatClampNeg ≤ 8 ∧ B 11 0 ln = nI (B 11 0 ln).toNatClampNeg ∧ (B 11 0 ln).toNatClampNeg < 6) ∧ IrO q ln b f (s_tk_o B ln b) := by
  obtain ⟨A, m, h1, hd, hf⟩ := h
  obtain ⟨q', hq', S⟩ := h1.sim
  have hs : p_s B (2 * (6 * ln + b)) < p_n B (2 * (6 * ln + b) + 1) := by
    rcases Nat.lt_or_ge (p_s B (2 * (6 * ln + b))) (p_n B (2 * (6 * ln + b) + 1)) with h | h
    · exact h
    · exact absurd ((S.hd_o hd).1 h) hx
  have hl : ln < p_l B := by have := S.d6 hd; omega
  obtain ⟨⟨e11, q6⟩, ⟨e14, t6⟩, ⟨e15, x7⟩, -, -, -⟩ := S.I.L.1 ln hl
  obtain ⟨A', m', h'⟩ := h1.step hq rfl hb hd hs
  obtain ⟨f1, f2, f3⟩ := tk_o_fx rfl S hd hs
  have w := S.I.S.2.2.2.1
  have lg := S.I.S.2.2.2.2.2
  exact ⟨⟨w.1, w.2, by omega, e14, t6, e15, by unfold p_x at x7; omega, e11, q6⟩, A', m', h', f1, by omega⟩
