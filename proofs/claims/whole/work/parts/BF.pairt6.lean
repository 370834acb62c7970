/-! act, side by side -/
section PT6
variable {l : Launch} {D : va_G} {T : Nat → ClassId} {t0 : Nat × Nat} {X : Nat → Nat → Nat} {L : List Nat} {tg : Nat → Nat × Nat} {A : ew_R} {XR : Nat → Nat → Nat} {LR : List Nat} {tgR : Nat → Nat × Nat} {B : ew_R} {q : Nat}
theorem step15 {x : Int32} (h0 : ¬ x < 0) (h : ¬ 15 ≤ x) : (x = 0 ∨ x = 1 ∨ x = 2 ∨ x = 3 ∨ x = 4 ∨ x = 5 ∨ x = 6) ∨ (x = 7 ∨ x = 8 ∨ x = 9 ∨ x = 10 ∨ x = 11 ∨ x = 12 ∨ x = 13 ∨ x = 14) := by
  obtain ⟨j, hj, rfl⟩ := nI_of h0
  have hj15 : j < 15 := Nat.lt_of_not_le (fun z => h (nI_le (a := 15) z hj))
  have hc : j = 0 ∨ j = 1 ∨ j = 2 ∨ j = 3 ∨ j = 4 ∨ j = 5 ∨ j = 6 ∨ j = 7 ∨ j = 8 ∨ j = 9 ∨ j = 10 ∨ j = 11 ∨ j = 12 ∨ j = 13 ∨ j = 14 := by omega
  rcases hc with rfl | rfl | rfl | rfl | rfl | rfl | rfl | rfl | rfl | rfl | rfl | rfl | rfl | rfl | rfl <;> decide +kernel
theorem pr_act (hfl : l.flags = pinnedFlags ++ [noTraceFlag]) (P : PX t0 X L tg A XR LR tgR B q) (x y sx ar : Int32) : PairT l D T t0 X L tg A XR LR tgR B q yL_act wsL_act yM_act wsM_act [.int x, .int y, .int sx, .int ar] := by
  have P0 := P
  obtain ⟨hq, S, W, E⟩ := P
  have hn := S.nl32
  have i0 := W.v0 0 (by simp)
  have i10 := W.v0 10 (by simp)
  rcases nI_three y (p_l B) (by omega) with h | ⟨h1, h2⟩ | ⟨ln, hi, rfl⟩
  · exact PairT.bad P0 (fun sz => t_act_neg l hfl D T t0 X L tg sz A _ i0 x y sx ar h) (fun sz => r_act_nol l D T XR LR tgR sz E B x y sx ar (Sim.noloan_neg h)) (by decide) (by unfold s_act_nol; simp only [ite_self])
  · exact PairT.bad P0 (fun sz => t_act_big l hfl D T t0 X L tg sz A _ i0 x y sx ar (p_l B) S.nlA h1 h2) (fun sz => r_act_nol l D T XR LR tgR sz E B x y sx ar (S.noloan_big h1 h2)) (by decide) (by unfold s_act_nol; simp only [ite_self])
  obtain ⟨r1, r2⟩ := S.q1 hi
  have r3 : B 11 0 ln = nI (p_q B ln) := (S.I.L.k ln hi).rq.1
  have i2 := W.inn (S.lv2 hi (kd := 2) (by simp))
  have i13 := W.inn (S.lv2 hi (kd := 13) (by simp))
  have f10 := S.f10 hi
  have q2 := S.I.S.nl.1
  by_cases s0 : sx < 0
  · have ht : tK l D T t0 X L tg A yL_act wsL_act [.ref (X 0 0), .int x, .int (nI ln), .int sx, .int ar] tmI := fun sz => t_act_s0 l hfl D T t0 X L tg sz A _ i0 x ln sx ar (p_l B) i2 i10 hn S.nlA hi f10 s0
    rcases lib_two x with h | ⟨b, hb, rfl⟩
    · exact PairT.bad P0 ht (fun sz => r_act_nob l D T XR LR tgR sz E B x ln sx ar (p_l B) hi hn q2 h) (by decide) (by unfold s_act_nob; simp only [ite_self])
    · exact PairT.bad P0 ht (fun sz => r_act_neg l D T XR LR tgR sz E B b ln sx ar (p_l B) (p_q B ln) hb hi hn q2 r2 r3 s0) (by decide) (by unfold s_act_neg; simp only [ite_self])
  by_cases s15 : 15 ≤ sx
  · have ht : tK l D T t0 X L tg A yL_act wsL_act [.ref (X 0 0), .int x, .int (nI ln), .int sx, .int ar] tmI := fun sz => t_act_s15 l hfl D T t0 X L tg sz A _ i0 x ln sx ar (p_l B) i2 i10 hn S.nlA hi f10 s0 (fun z => absurd (Int32.le_trans s15 z) (by decide))
    rcases lib_two x with h | ⟨b, hb, rfl⟩
    · exact PairT.bad P0 ht (fun sz => r_act_nob l D T XR LR tgR sz E B x ln sx ar (p_l B) hi hn q2 h) (by decide) (by unfold s_act_nob; simp only [ite_self])
    · exact PairT.bad P0 ht (fun sz => r_act_big l D T XR LR tgR sz E B b ln sx ar (p_l B) (p_q B ln) hb hi hn q2 r2 r3 s15) (by decide) (by unfold s_act_big; simp only [ite_self])
  rcases step15 s0 s15 with hs | hs
  · have s6 : ¬ 6 < sx := by rcases hs with rfl | rfl | rfl | rfl | rfl | rfl | rfl <;> decide
    have s14 : sx ≤ 14 := by rcases hs with rfl | rfl | rfl | rfl | rfl | rfl | rfl <;> decide
    have nrq : ¬ x = nI (p_q B ln) → tK l D T t0 X L tg A yL_act wsL_act [.ref (X 0 0), .int x, .int (nI ln), .int sx, .int ar] tmI := fun hx sz => t_act_nrq l hfl D T t0 X L tg sz A _ i0 x ln sx ar (p_l B) (p_q B ln) i2 i10 hn S.nlA hi f10 s0 s14 s6 r2 r1 hx
    rcases lib_two x with h | ⟨b, hb, rfl⟩
    · exact PairT.bad P0 (nrq (lib_ne h r2)) (fun sz => r_act_nob l D T XR LR tgR sz E B x ln sx ar (p_l B) hi hn q2 h) (by decide) (by unfold s_act_nob; simp only [ite_self])
    · by_cases hbq : b = p_q B ln
      · subst hbq
        rcases hs with rfl | rfl | rfl | rfl | rfl | rfl | rfl
        · exact pr_act_0 hfl P0 hi ar
        · exact pr_act_1 hfl P0 hi ar
        · exact pr_act_2 hfl P0 hi ar
        · exact pr_act_3 hfl P0 hi ar
        · exact pr_act_4 hfl P0 hi ar
        · exact pr_act_5 hfl P0 hi ar
        · exact pr_act_6 hfl P0 hi ar
      · have ht := nrq (fun z => hbq ((nI_eq (a := b) (b := p_q B ln) (by omega) (by omega)).mp z))
        rcases hs with rfl | rfl | rfl | rfl | rfl | rfl | rfl
        · exact PairT.bad P0 ht (fun sz => r_act_x0 l D T XR LR tgR sz E B b ln ar (p_l B) (p_q B ln) hb hi hn q2 r2 r3 hbq) (by decide) (by unfold s_act_x0; simp only [ite_self])
        · exact PairT.bad P0 ht (fun sz => r_act_x1 l D T XR LR tgR sz E B b ln ar (p_l B) (p_q B ln) hb hi hn q2 r2 r3 hbq) (by decide) (by unfold s_act_x1; simp only [ite_self])
        · exact PairT.bad P0 ht (fun sz => r_act_x2 l D T XR LR tgR sz E B b ln ar (p_l B) (p_q B ln) hb hi hn q2 r2 r3 hbq) (by decide) (by unfold s_act_x2; simp only [ite_self])
        · exact PairT.bad P0 ht (fun sz => r_act_x3 l D T XR LR tgR sz E B b ln ar (p_l B) (p_q B ln) hb hi hn q2 r2 r3 hbq) (by decide) (by unfold s_act_x3; simp only [ite_self])
        · exact PairT.bad P0 ht (fun sz => r_act_x4 l D T XR LR tgR sz E B b ln ar (p_l B) (p_q B ln) hb hi hn q2 r2 r3 hbq) (by decide) (by unfold s_act_x4; simp only [ite_self])
        · exact PairT.bad P0 ht (fun sz => r_act_x5 l D T XR LR tgR sz E B b ln ar (p_l B) (p_q B ln) hb hi hn q2 r2 r3 hbq) (by decide) (by unfold s_act_x5; simp only [ite_self])
        · exact PairT.bad P0 ht (fun sz => r_act_x6 l D T XR LR tgR sz E B b ln ar (p_l B) (p_q B ln) hb hi hn q2 r2 r3 hbq) (by decide) (by unfold s_act_x6; simp only [ite_self])
  · have s6 : 6 < sx := by rcases hs with rfl | rfl | rfl | rfl | rfl | rfl | rfl | rfl <;> decide
    have s6' : ¬ sx ≤ 6 := by rcases hs with rfl | rfl | rfl | rfl | rfl | rfl | rfl | rfl <;> decide
    have s7 : 7 ≤ sx := by rcases hs with rfl | rfl | rfl | rfl | rfl | rfl | rfl | rfl <;> decide
    have s14 : sx ≤ 14 := by rcases hs with rfl | rfl | rfl | rfl | rfl | rfl | rfl | rfl <;> decide
    rcases lib_two x with h | ⟨b, hb, rfl⟩
    · exact PairT.bad P0 (fun sz => t_act_dbad l hfl D T t0 X L tg sz A _ i0 x ln sx ar (p_l B) i2 i10 hn S.nlA hi f10 s0 s14 s6 h) (fun sz => r_act_nob l D T XR LR tgR sz E B x ln sx ar (p_l B) hi hn q2 h) (by decide) (by unfold s_act_nob; simp only [ite_self])
    · by_cases hd : B 22 0 (6 * ln + b) = 0
      · have ht : tK l D T t0 X L tg A yL_act wsL_act [.ref (X 0 0), .int (nI b), .int (nI ln), .int sx, .int ar] tmI := fun sz => t_act_dno l hfl D T t0 X L tg sz A _ i0 b ln sx ar (p_l B) i2 i10 i13 hn S.nlA hi f10 s0 s14 s6 hb (by rw [S.R.C.th ln b hb]; exact hd)
        by_cases hbq : b = p_q B ln
        · exact PairT.bad P0 ht (fun sz => r_act_z l D T XR LR tgR sz E B b ln sx ar (p_l B) (p_q B ln) hb hi hn q2 r2 r3 hbq s0 s7 s6' s15 hd) (by decide) rfl
        · exact PairT.bad P0 ht (fun sz => r_act_y l D T XR LR tgR sz E B b ln sx ar (p_l B) (p_q B ln) hb hi hn q2 r2 r3 hbq s0 s7 s6' s15 hd) (by decide) rfl
      · have hbq : ¬ b = p_q B ln := fun z => hd (by rw [z]; exact S.own22 hi)
        rcases hs with rfl | rfl | rfl | rfl | rfl | rfl | rfl | rfl
        · exact pr_act_7 hfl P0 hi hb hbq hd ar
        · exact pr_act_8 hfl P0 hi hb hbq hd ar
        · exact pr_act_9 hfl P0 hi hb hbq hd ar
        · exact pr_act_10 hfl P0 hi hb hbq hd ar
        · exact pr_act_11 hfl P0 hi hb hbq hd ar
        · exact pr_act_12 hfl P0 hi hb hbq hd ar
        · exact pr_act_13 hfl P0 hi hb hbq hd ar
        · exact pr_act_14 hfl P0 hi hb hbq hd ar
end PT6
