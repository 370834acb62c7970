/-! Calls that may throw, side by side: addCopy, resend -/
section PT1
variable {l : Launch} {D : va_G} {T : Nat → ClassId} {t0 : Nat × Nat} {X : Nat → Nat → Nat} {L : List Nat} {tg : Nat → Nat × Nat} {A : ew_R} {XR : Nat → Nat → Nat} {LR : List Nat} {tgR : Nat → Nat × Nat} {B : ew_R} {q : Nat} {yc yr : MethodName} {wsc wsr : List Cond} {as : List Value}
theorem PairT.bad {rm' : Room} {s : Int32 × ew_R} (P : PX t0 X L tg A XR LR tgR B q) (ht : tK l D T t0 X L tg A yc wsc (.ref (X 0 0) :: as) tmI)
    (hr : ∀ sz, Met l yr wsr rm' (er_Pc D vwCl (tysA T) (cfR T) XR LR tgR B sz (.ref (XR 0 0) :: as)) (er_Qi D vwCl (cfR T) XR LR tgR sz (fun r' u => r' = s.1 ∧ u = s.2)) 0 0 (ew_A LR sz)) (h2 : rmLe rm' rmR) (e : s = (0, up3 B 0 0 0 1)) : PairT l D T t0 X L tg A XR LR tgR B q yc wsc yr wsr as :=
  Or.inr (Or.inl ⟨0, up3 B 0 0 0 1, up3_self _ _ _ _ _, (P.2.1.mono P.1).code 1, ht, rK.of hr h2 e⟩)
theorem PairT.no {rm' : Room} {s : Int32 × ew_R} (P : PX t0 X L tg A XR LR tgR B q) (ht : tK l D T t0 X L tg A yc wsc (.ref (X 0 0) :: as) tmS)
    (hr : ∀ sz, Met l yr wsr rm' (er_Pc D vwCl (tysA T) (cfR T) XR LR tgR B sz (.ref (XR 0 0) :: as)) (er_Qi D vwCl (cfR T) XR LR tgR sz (fun r' u => r' = s.1 ∧ u = s.2)) 0 0 (ew_A LR sz)) (h2 : rmLe rm' rmR) (e : s = (0, up3 B 0 0 0 2)) : PairT l D T t0 X L tg A XR LR tgR B q yc wsc yr wsr as :=
  Or.inr (Or.inr ⟨0, up3 B 0 0 0 2, up3_self _ _ _ _ _, (P.2.1.mono P.1).code 2, ht, rK.of hr h2 e⟩)
theorem PairT.ok {rm rm' : Room} {s : Int32 × ew_R} {nw : List (Nat × Nat)} {Z R : ew_R} {zv rv : Int32} {mc ms : Nat}
    (hc : ∀ sz, Met l yc wsc rm (em_Pc D vwCl (tysA T) (cfC T) t0 X L tg A sz (.ref (X 0 0) :: as)) (em_Qi D vwCl (cfC T) L sz (fun r u => r = zv ∧ em_S nw X L tg u.1 u.2.1 u.2.2.1 ∧ u.2.2.2 = Z)) mc ms (ew_A L sz)) (hrm : rmLe rm rmC) (hm : mc ≤ 11 ∧ ms ≤ 2036)
    (hr : ∀ sz, Met l yr wsr rm' (er_Pc D vwCl (tysA T) (cfR T) XR LR tgR B sz (.ref (XR 0 0) :: as)) (er_Qi D vwCl (cfR T) XR LR tgR sz (fun r' u => r' = s.1 ∧ u = s.2)) 0 0 (ew_A LR sz)) (h2 : rmLe rm' rmR)
    (e : s = (rv, R)) (ez : zv = rv) (S' : Sim Z R (q + 1)) (W' : ∀ (X' : Nat → Nat → Nat) (L' : List Nat) (tg' : Nat → Nat × Nat), em_S nw X L tg X' L' tg' → WI t0 X' L' tg' Z) (h0 : R 0 0 0 = 0) : PairT l D T t0 X L tg A XR LR tgR B q yc wsc yr wsr as :=
  Or.inl ⟨rv, R, h0, cK.em hc hrm hm (fun r' u ⟨h1, h2, h3⟩ => ⟨h1.trans ez, by rw [h3]; exact S', by rw [h3]; exact W' _ _ _ h2, h2.2.1⟩), rK.of hr h2 e⟩
/-- .. that throws one kind alone -/
def PairT2 (l : Launch) (D : va_G) (T : Nat → ClassId) (t0 : Nat × Nat) (X : Nat → Nat → Nat) (L : List Nat) (tg : Nat → Nat × Nat) (A : ew_R) (XR : Nat → Nat → Nat) (LR : List Nat) (tgR : Nat → Nat × Nat) (B : ew_R) (q : Nat) (yc : MethodName) (wsc : List Cond) (yr : MethodName) (wsr : List Cond) (as : List Value) : Prop :=
  (∃ (r : Int32) (B' : ew_R), B' 0 0 0 = 0 ∧ cK l D T t0 X L tg A yc wsc (.ref (X 0 0) :: as) (pK t0 X L tg r B' q) ∧ rK l D T XR LR tgR B yr wsr (.ref (XR 0 0) :: as) r B') ∨
  (∃ (r : Int32) (B' : ew_R), B' 0 0 0 = 1 ∧ Sim A B' (q + 1) ∧ tK l D T t0 X L tg A yc wsc (.ref (X 0 0) :: as) tmI ∧ rK l D T XR LR tgR B yr wsr (.ref (XR 0 0) :: as) r B')
theorem PairT2.bad {rm' : Room} {s : Int32 × ew_R} (P : PX t0 X L tg A XR LR tgR B q) (ht : tK l D T t0 X L tg A yc wsc (.ref (X 0 0) :: as) tmI)
    (hr : ∀ sz, Met l yr wsr rm' (er_Pc D vwCl (tysA T) (cfR T) XR LR tgR B sz (.ref (XR 0 0) :: as)) (er_Qi D vwCl (cfR T) XR LR tgR sz (fun r' u => r' = s.1 ∧ u = s.2)) 0 0 (ew_A LR sz)) (h2 : rmLe rm' rmR) (e : s = (0, up3 B 0 0 0 1)) : PairT2 l D T t0 X L tg A XR LR tgR B q yc wsc yr wsr as :=
  Or.inr ⟨0, up3 B 0 0 0 1, up3_self _ _ _ _ _, (P.2.1.mono P.1).code 1, ht, rK.of hr h2 e⟩
theorem lib_okA {i : Nat} (h : i < 6) : z_L_isLibrary (nI i) = 1 := lib_ok h
/-- a library's side of a call: not the requester's number -/
theorem lib_ne {x : Int32} {r : Nat} (h : z_L_isLibrary x = 0) (hr : r < 6) : ¬ x = nI r := fun z => by rw [z, lib_okA hr] at h; exact absurd h (by decide)
theorem WI.copy (W : WI t0 X L tg A) {nc b t : Nat} (hn : nc < 32) (en : A 0 0 5 = nI nc) {X' : Nat → Nat → Nat} {L' : List Nat} {tg' : Nat → Nat × Nat} (hS : em_S [(1, nc)] X L tg X' L' tg') : WI t0 X' L' tg' (z_addCopy A nc b t) := by
  have o : ∀ c, c ≠ 0 → c ≠ 1 → c ≠ 9 → z_addCopy A nc b t c = A c := fun c h0 h1 h9 => by
    unfold z_addCopy z_Copy_init_1
    rw [p_kd_up _ _ _ _ h0, p_kd_up _ _ _ _ h9, p_kd_up _ _ _ _ h1, p_kd_up _ _ _ _ h1, p_kd_up _ _ _ _ h1, p_kd_up _ _ _ _ h1, p_kd_upr _ _ _ h1]
  have e5 : z_addCopy A nc b t 0 0 5 = nI (nc + 1) := by unfold z_addCopy; rw [up3_self]
  have e6 : z_addCopy A nc b t 0 0 6 = A 0 0 6 := by
    unfold z_addCopy z_Copy_init_1
    rw [up3_ne _ _ (by omega), p_kd_up _ _ _ _ (by decide), p_kd_up _ _ _ _ (by decide), p_kd_up _ _ _ _ (by decide), p_kd_up _ _ _ _ (by decide), p_kd_up _ _ _ _ (by decide), p_kd_upr _ _ _ (by decide)]
  refine W.mk hS (fun kd id => ?_) ?_
  · unfold p_live p_th
    rw [e5, e6, o 13 (by decide) (by decide) (by decide), o 8 (by decide) (by decide) (by decide), o 16 (by decide) (by decide) (by decide), en, nI_clamp (by omega), nI_clamp (by omega)]
    simp only [List.mem_singleton, Prod.mk.injEq]
    constructor
    · rintro (h | h | h | h | h | h | h | h)
      · exact Or.inl (Or.inl h)
      · rcases Nat.lt_or_ge id nc with h9 | h9
        · exact Or.inl (Or.inr (Or.inl ⟨h.1, h9⟩))
        · exact Or.inr ⟨h.1, by omega⟩
      · exact Or.inl (Or.inr (Or.inr (Or.inl h)))
      · exact Or.inl (Or.inr (Or.inr (Or.inr (Or.inl h))))
      · exact Or.inl (Or.inr (Or.inr (Or.inr (Or.inr (Or.inl h)))))
      · exact Or.inl (Or.inr (Or.inr (Or.inr (Or.inr (Or.inr (Or.inl h))))))
      · exact Or.inl (Or.inr (Or.inr (Or.inr (Or.inr (Or.inr (Or.inr (Or.inl h)))))))
      · exact Or.inl (Or.inr (Or.inr (Or.inr (Or.inr (Or.inr (Or.inr (Or.inr h)))))))
    · rintro ((h | h | h | h | h | h | h | h) | h)
      · exact Or.inl h
      · exact Or.inr (Or.inl ⟨h.1, by omega⟩)
      · exact Or.inr (Or.inr (Or.inl h))
      · exact Or.inr (Or.inr (Or.inr (Or.inl h)))
      · exact Or.inr (Or.inr (Or.inr (Or.inr (Or.inl h))))
      · exact Or.inr (Or.inr (Or.inr (Or.inr (Or.inr (Or.inl h)))))
      · exact Or.inr (Or.inr (Or.inr (Or.inr (Or.inr (Or.inr (Or.inl h))))))
      · exact Or.inr (Or.inr (Or.inr (Or.inr (Or.inr (Or.inr (Or.inr h))))))
      · exact Or.inr (Or.inl ⟨h.1, by omega⟩)
  · refine clC_S W.cl hS (fun a ha c i hr => ?_) (fun t ht c i hr => ?_)
    · by_cases h1 : (tg a).1 = 1
      · rw [h1] at hr
        exact False.elim hr
      · by_cases h9 : (tg a).1 = 9
        · rw [h9] at hr ⊢
          obtain ⟨hc, hi⟩ : c = 1 ∧ ¬ z_addCopy A nc b t 9 (tg a).2 i = 0 := hr
          by_cases hj : (tg a).2 = 0 ∧ i = nc
          · rw [hc, hj.2]
            exact Or.inr (Or.inr (Or.inr (hS.2.2.1 (1, nc) (by simp))))
          · refine Or.inr (Or.inl (show c = 1 ∧ ¬ A 9 (tg a).2 i = 0 from ⟨hc, fun z => hi ?_⟩))
            unfold z_addCopy z_Copy_init_1
            rw [p_kd_up _ _ _ _ (by decide), up3_ne _ _ (by omega), p_kd_up _ _ _ _ (by decide), p_kd_up _ _ _ _ (by decide), p_kd_up _ _ _ _ (by decide), p_kd_up _ _ _ _ (by decide), p_kd_upr _ _ _ (by decide)]
            exact z
        · by_cases h0 : (tg a).1 = 0
          · rw [h0] at hr ⊢
            have hr' : (c = 9 ∨ c = 10 ∨ c = 11 ∨ c = 7 ∨ c = 18) ∧ i = 0 := hr
            exact Or.inr (Or.inl hr')
          · rw [o _ h0 h1 h9] at hr
            exact Or.inr (Or.inl hr)
    · rw [List.mem_singleton] at ht
      subst ht
      exact False.elim hr
theorem up3_upr (A : ew_R) (c i k : Nat) (r : Nat → Int32) (x : Int32) : up3 (upr A c i r) c i k x = upr A c i (va_up r k x) := by
  unfold up3
  rw [upr_row, upr_self, va_up_up]
  unfold upr
  rw [va_up_up]
theorem pr_addCopy (hfl : l.flags = pinnedFlags ++ [noTraceFlag]) (P : PX t0 X L tg A XR LR tgR B q) (x y : Int32) : PairT l D T t0 X L tg A XR LR tgR B q yL_addCopy wsL_addCopy yM_addCopy wsM_addCopy [.int x, .int y] := by
  obtain ⟨hq, S, W, E⟩ := P
  have hn := S.nc32
  have i0 := W.v0 0 (by simp)
  rcases lib_two x with h | ⟨b, hb, rfl⟩
  · exact PairT.bad ⟨hq, S, W, E⟩ (fun sz => t_addCopy_bl l hfl D T t0 X L tg sz A _ i0 x y h) (fun sz => r_addCopy_bl l D T XR LR tgR sz E B x y h) (by decide) (by unfold s_addCopy_bl; rw [ite_self])
  · rcases tit_two y with h | ⟨t, ht, rfl⟩
    · exact PairT.bad ⟨hq, S, W, E⟩ (fun sz => t_addCopy_bt l hfl D T t0 X L tg sz A _ i0 b y hb h) (fun sz => r_addCopy_bt l D T XR LR tgR sz E B b y hb h) (by decide) (by unfold s_addCopy_bt; rw [ite_self])
    · have R := fun sz => r_addCopy_ok l D T XR LR tgR sz E B b t (p_c B) hb ht hn S.I.S.nc.1
      rcases Nat.lt_or_ge (p_c B) 32 with h32 | h32
      · refine PairT.ok (fun sz => c_L_addCopy_ok l D T t0 X L tg sz A _ i0 b t (p_c B) (W.v0 9 (by simp)) hb ht h32 S.ncA W.cl (W.fresh ?_)) (by decide) (by decide) R (by decide) (s := s_addCopy_ok B b t (p_c B)) (by unfold s_addCopy_ok; rw [if_neg (by omega)]) rfl ?_ (fun X' L' tg' h => W.copy h32 S.ncA h) ?_
        · unfold p_live
          rw [S.ncA, nI_clamp (by omega)]
          omega
        · have h9 := S.copy hq rfl h32 (nI b) (nI t)
          have e9 : z_addCopy A (p_c B) b t = (up3 (up3 (upr A 1 (p_c B) (fun k => if k = 0 then nI b else if k = 1 then nI t else if k = 2 then nI b else if k = 3 then (-1) else 0)) 9 0 (p_c B) 1) 0 0 5 (nI (p_c B + 1))) := by
            unfold z_addCopy z_Copy_init_1
            rw [up3_upr, up3_upr, up3_upr, up3_upr]
            congr 3
            funext k
            unfold va_up
            by_cases k0 : k = 0 <;> by_cases k1 : k = 1 <;> by_cases k2 : k = 2 <;> by_cases k3 : k = 3 <;> simp [k0, k1, k2, k3]
          rw [e9]; exact h9
        · rw [up3_ne _ _ (by omega), p_kd_up _ _ _ _ (by decide), p_kd_up _ _ _ _ (by decide), p_kd_up _ _ _ _ (by decide), p_kd_up _ _ _ _ (by decide), up3_self]
      · have e32 : p_c B = 32 := by omega
        exact PairT.no ⟨hq, S, W, E⟩ (fun sz => t_addCopy_full l hfl D T t0 X L tg sz A _ i0 b t hb ht (by rw [S.ncA, e32]; rfl)) R (by decide) (by unfold s_addCopy_ok; rw [if_pos e32])
theorem z_ra_5_18 (A : ew_R) (d t w : Nat) {c : Nat} (h7 : c ≠ 7) (h12 : c ≠ 12) : z_Row_add_5_18 A d t w c = A c := by
  unfold z_Row_add_5_18
  split
  · rw [p_kd_up _ _ _ _ h7, p_kd_up _ _ _ _ h12, p_kd_up _ _ _ _ h12, p_kd_up _ _ _ _ h12, p_kd_up _ _ _ _ h12, p_kd_up _ _ _ _ h12, p_kd_up _ _ _ _ h12, p_kd_up _ _ _ _ h12]
  · rw [p_kd_up _ _ _ _ h7, p_kd_up _ _ _ _ h12, p_kd_up _ _ _ _ h12, p_kd_up _ _ _ _ h12, p_kd_up _ _ _ _ h12, p_kd_up _ _ _ _ h12, p_kd_up _ _ _ _ h12, p_kd_up _ _ _ _ h12, p_kd_upr _ _ _ h12, p_kd_up _ _ _ _ h7]
theorem z_ra_15_18 (A : ew_R) (d t w : Nat) {c : Nat} (h7 : c ≠ 7) (h12 : c ≠ 12) : z_Row_add_15_18 A d t w c = A c := by
  unfold z_Row_add_15_18
  split
  · rw [p_kd_up _ _ _ _ h7, p_kd_up _ _ _ _ h12, p_kd_up _ _ _ _ h12, p_kd_up _ _ _ _ h12, p_kd_up _ _ _ _ h12, p_kd_up _ _ _ _ h12, p_kd_up _ _ _ _ h12, p_kd_up _ _ _ _ h12]
  · rw [p_kd_up _ _ _ _ h7, p_kd_up _ _ _ _ h12, p_kd_up _ _ _ _ h12, p_kd_up _ _ _ _ h12, p_kd_up _ _ _ _ h12, p_kd_up _ _ _ _ h12, p_kd_up _ _ _ _ h12, p_kd_up _ _ _ _ h12, p_kd_upr _ _ _ h12, p_kd_up _ _ _ _ h7]
theorem s_rs_00 (B : ew_R) (en lg w ac : Nat) : ∀ i, s_rs B en lg w ac i 0 0 0 = B 0 0 0
  | 0 => rfl
  | i + 1 => by
    show s_lay _ _ _ _ 0 0 0 = _
    rw [s_lay_0k _ _ _ _ (by decide)]
    exact s_rs_00 B en lg w ac i
theorem pr_resend (hfl : l.flags = pinnedFlags ++ [noTraceFlag]) (P : PX t0 X L tg A XR LR tgR B q) (x y : Int32) : PairT2 l D T t0 X L tg A XR LR tgR B q yL_resend wsL_resend yM_resend wsM_resend [.int x, .int y] := by
  obtain ⟨hq, S, W, E⟩ := P
  have hn := S.nl32
  have hlg := S.I.S.2.2.2.2
  have i0 := W.v0 0 (by simp)
  have i10 := W.v0 10 (by simp)
  rcases nI_three y (p_l B) (by omega) with h | ⟨h1, h2⟩ | ⟨i, hi, rfl⟩
  · exact PairT2.bad ⟨hq, S, W, E⟩ (fun sz => t_resend_neg l hfl D T t0 X L tg sz A _ i0 x y h) (fun sz => r_resend_nol l D T XR LR tgR sz E B x y (Sim.noloan_neg h)) (by decide) rfl
  · exact PairT2.bad ⟨hq, S, W, E⟩ (fun sz => t_resend_big l hfl D T t0 X L tg sz A _ i0 x y (p_l B) S.nlA h1 h2) (fun sz => r_resend_nol l D T XR LR tgR sz E B x y (S.noloan_big h1 h2)) (by decide) rfl
  · obtain ⟨k1, k2, k3⟩ := S.pk hi
    obtain ⟨r1, r2⟩ := S.q1 hi
    have r3 : B 11 0 i = nI (p_q B i) := (S.I.L.k i hi).rq.1
    have i2 := W.inn (S.lv2 hi (kd := 2) (by simp))
    have i13 := W.inn (S.lv2 hi (kd := 13) (by simp))
    have sim0 : ∀ d, p_a B (2 * d) ≤ p_n B (2 * d) ∧ p_a B (2 * d + 1) ≤ p_n B (2 * d + 1) := fun d => by
      have := S.I.E.2.2.2.1 d
      have := S.I.E.2.2.2.2.1 d
      omega
    rcases lib_two x with h | ⟨b, hb, rfl⟩
    · exact PairT2.bad ⟨hq, S, W, E⟩ (fun sz => t_resend_bad l hfl D T t0 X L tg sz A _ i0 x i (p_l B) (p_q B i) i2 i10 hn S.nlA hi (S.f10 hi) r2 r1 (lib_ne h r2) h) (fun sz => r_resend_nob l D T XR LR tgR sz E B x i (p_l B) hi hn S.I.S.nl.1 h) (by decide) rfl
    · by_cases hbq : b = p_q B i
      · subst hbq
        have hnn := S.nle (2 * (6 * i + p_k B i))
        have q512 := S.q512
        have hd192 := S.d192 k3
        have hz : WI t0 X L tg (z_L_resend_q A (p_q B i) i (p_l B) (6 * i + p_k B i) 0 0 (p_n B (2 * (6 * i + p_k B i))) (p_a B (2 * (6 * i + p_k B i))) (wtB B)).2 := by
          have o : ∀ c, c ≠ 7 → c ≠ 12 → (z_L_resend_q A (p_q B i) i (p_l B) (6 * i + p_k B i) 0 0 (p_n B (2 * (6 * i + p_k B i))) (p_a B (2 * (6 * i + p_k B i))) (wtB B)).2 c = A c := fun c h7 h12 => by
            show z_Row_add_5_18 _ _ _ _ c = _
            rw [z_ra_5_18 _ _ _ _ h7 h12]
            funext a k
            exact z_rs_lt_5 _ _ _ _ h7 h12 a k _
          exact W.up (by rw [o 0 (by decide) (by decide)]) (by rw [o 0 (by decide) (by decide)]) (fun c hc => o c (by omega) (by omega))
        have R := fun sz => r_resend_q l D T XR LR tgR sz E B (p_q B i) i (p_l B) (p_k B i) (p_a B (2 * (6 * i + p_k B i))) (p_n B (2 * (6 * i + p_k B i))) (wtB B) (lgB B) hi hn S.I.S.nl.1 r2 r3 k2 k1 (S.I.E.1 _).1 (S.I.E.2.2.1 _) (sim0 _).1 (by omega) S.w64 S.I.S.w.1 (by omega) hlg.1
        have qa : A 5 (6 * i + p_k B i) 5 = nI (p_a B (2 * (6 * i + p_k B i))) := (congrFun S.R.E.a _).trans (S.I.E.2.2.1 _)
        refine Or.inl ⟨nI (p_n B (2 * (6 * i + p_k B i)) - p_a B (2 * (6 * i + p_k B i)) + 1), (s_resend_q B (p_q B i) i (p_l B) (p_k B i) (p_a B (2 * (6 * i + p_k B i))) (p_n B (2 * (6 * i + p_k B i))) (wtB B) (lgB B)).2, ?_, ?_, rK.of R (by decide) rfl⟩
        · show s_lay _ _ _ _ 0 0 0 = 0
          rw [s_lay_0k _ _ _ _ (by decide), s_rs_00, up3_self]
        · rcases Nat.eq_zero_or_pos (p_n B (2 * (6 * i + p_k B i))) with h9 | h9
          · exact cK.ec (fun sz => c_L_resend_q0 l D T X L tg sz A _ i0 (p_q B i) i (p_l B) (6 * i + p_k B i) (p_n B (2 * (6 * i + p_k B i))) (p_a B (2 * (6 * i + p_k B i))) (wtB B) i10 i2 (W.inn (S.lv4 k3 (by simp))) (W.inn (S.lv4 k3 (by simp))) (W.inn (S.lv4 k3 (by simp))) (W.v0 7 (by simp)) (W.v0 12 (by simp)) (W.v0 18 (by simp)) hn S.nlA hi (S.f10 hi) r2 r1 hd192 (S.q7 hi) (S.n8 _) (by omega) qa (by have := (sim0 (6 * i + p_k B i)).1; omega) S.w64 S.wA) (by decide) rfl (S.resend5 hq k3 rfl rfl rfl (sim0 _).1) hz
          · obtain ⟨o, cap, g14, -, g1, g2, g3, g4, g5, g7, g8, g9⟩ := S.get5 (k := 0) W k3 h9
            exact cK.ec (fun sz => c_L_resend_q l D T X L tg sz A _ i0 (p_q B i) i (p_l B) (6 * i + p_k B i) o cap (p_n B (2 * (6 * i + p_k B i))) (p_a B (2 * (6 * i + p_k B i))) (wtB B) i10 i2 (W.inn (S.lv4 k3 (by simp))) (W.inn (S.lv4 k3 (by simp))) (W.inn (S.lv4 k3 (by simp))) g14 (W.v0 7 (by simp)) (W.v0 12 (by simp)) (W.v0 18 (by simp)) hn S.nlA hi (S.f10 hi) r2 r1 hd192 (S.q7 hi) g1 g2 g3 g4 g5 g7 g8 g9 qa (sim0 _).1 S.w64 S.wA (fun j hj => W.inn (S.lv6 k3 hj))) (by decide) rfl (S.resend5 hq k3 rfl rfl rfl (sim0 _).1) hz
      · by_cases hd : B 22 0 (6 * i + b) = 0
        · exact PairT2.bad ⟨hq, S, W, E⟩ (fun sz => t_resend_no l hfl D T t0 X L tg sz A _ i0 b i (p_l B) (p_q B i) i2 i10 i13 hn S.nlA hi (S.f10 hi) r2 r1 hb hbq (by rw [S.R.C.th i b hb]; exact hd)) (fun sz => r_resend_no l D T XR LR tgR sz E B b i (p_l B) (p_q B i) hb hi hn S.I.S.nl.1 r2 r3 hbq hd) (by decide) rfl
        · have hnn := S.nle (2 * (6 * i + b) + 1)
          have q512 := S.q512
          have hd192 := S.d192 hd
          have hz : WI t0 X L tg (z_L_resend_s A b i (p_l B) (p_q B i) 0 0 (p_n B (2 * (6 * i + b) + 1)) (p_a B (2 * (6 * i + b) + 1)) (wtB B)).2 := by
            have o : ∀ c, c ≠ 7 → c ≠ 12 → (z_L_resend_s A b i (p_l B) (p_q B i) 0 0 (p_n B (2 * (6 * i + b) + 1)) (p_a B (2 * (6 * i + b) + 1)) (wtB B)).2 c = A c := fun c h7 h12 => by
              show z_Row_add_15_18 _ _ _ _ c = _
              rw [z_ra_15_18 _ _ _ _ h7 h12]
              funext a k
              exact z_rs_lt_15 _ _ _ _ h7 h12 a k _
            exact W.up (by rw [o 0 (by decide) (by decide)]) (by rw [o 0 (by decide) (by decide)]) (fun c hc => o c (by omega) (by omega))
          have R := fun sz => r_resend_s l D T XR LR tgR sz E B b i (p_l B) (p_q B i) (p_a B (2 * (6 * i + b) + 1)) (p_n B (2 * (6 * i + b) + 1)) (wtB B) (lgB B) hb hi hn S.I.S.nl.1 r2 r3 hbq hd (S.I.E.1 _).1 (S.I.E.2.2.1 _) (sim0 _).2 (by omega) S.w64 S.I.S.w.1 (by omega) hlg.1
          have qa : A 15 (6 * i + b) 5 = nI (p_a B (2 * (6 * i + b) + 1)) := (congrFun S.R.E.a' _).trans (S.I.E.2.2.1 _)
          have qd : ¬ A 13 i b = 0 := by rw [S.R.C.th i b hb]; exact hd
          refine Or.inl ⟨nI (p_n B (2 * (6 * i + b) + 1) - p_a B (2 * (6 * i + b) + 1) + 1), (s_resend_s B b i (p_l B) (p_q B i) (p_a B (2 * (6 * i + b) + 1)) (p_n B (2 * (6 * i + b) + 1)) (wtB B) (lgB B)).2, ?_, ?_, rK.of R (by decide) rfl⟩
          · show s_lay _ _ _ _ 0 0 0 = 0
            rw [s_lay_0k _ _ _ _ (by decide), s_rs_00, up3_self]
          · rcases Nat.eq_zero_or_pos (p_n B (2 * (6 * i + b) + 1)) with h9 | h9
            · exact cK.ec (fun sz => c_L_resend_s0 l D T X L tg sz A _ i0 b i (p_l B) (p_q B i) (p_n B (2 * (6 * i + b) + 1)) (p_a B (2 * (6 * i + b) + 1)) (wtB B) i10 i2 i13 (W.inn (S.lv4 hd (by simp))) (W.inn (S.lv4 hd (by simp))) (W.inn (S.lv4 hd (by simp))) (W.v0 7 (by simp)) (W.v0 12 (by simp)) (W.v0 18 (by simp)) hn S.nlA hi (S.f10 hi) r2 r1 hb hbq qd (S.n16 _) (by omega) qa (by have := (sim0 (6 * i + b)).2; omega) S.w64 S.wA) (by decide) rfl (S.resend15 hq hd rfl rfl rfl (sim0 _).2) hz
            · obtain ⟨o, cap, g14, -, g1, g2, g3, g4, g5, g7, g8, g9⟩ := S.get15 (k := 0) W hd h9
              exact cK.ec (fun sz => c_L_resend_s l D T X L tg sz A _ i0 b i (p_l B) (p_q B i) o cap (p_n B (2 * (6 * i + b) + 1)) (p_a B (2 * (6 * i + b) + 1)) (wtB B) i10 i2 i13 (W.inn (S.lv4 hd (by simp))) (W.inn (S.lv4 hd (by simp))) (W.inn (S.lv4 hd (by simp))) g14 (W.v0 7 (by simp)) (W.v0 12 (by simp)) (W.v0 18 (by simp)) hn S.nlA hi (S.f10 hi) r2 r1 hb hbq qd g1 g2 g3 g4 g5 g7 g8 g9 qa (sim0 _).2 S.w64 S.wA (fun j hj => W.inn (S.lv19 hd hj))) (by decide) rfl (S.resend15 hq hd rfl rfl rfl (sim0 _).2) hz
end PT1
