/-! The reading calls, side by side -/
section PR2
variable {l : Launch} {D : va_G} {T : Nat → ClassId} {t0 : Nat × Nat} {X : Nat → Nat → Nat} {L : List Nat} {tg : Nat → Nat × Nat} {A : ew_R} {XR : Nat → Nat → Nat} {LR : List Nat} {tgR : Nat → Nat × Nat} {B : ew_R} {q : Nat}
theorem WI.v0 (W : WI t0 X L tg A) (kd : Nat) (h : kd = 0 ∨ kd = 7 ∨ kd = 9 ∨ kd = 10 ∨ kd = 11 ∨ kd = 12 ∨ kd = 18) : ew_in X L tg kd 0 (X kd 0) := W.inn (Sim.lv0 h)
theorem Sim.pk (S : Sim A B q) {ln : Nat} (h : ln < p_l B) : B 16 0 ln = nI (p_k B ln) ∧ p_k B ln < 6 ∧ ¬ B 22 0 (6 * ln + p_k B ln) = 0 := (S.I.L.p ln h).2
theorem Sim.q7 (S : Sim A B q) {ln : Nat} (h : ln < p_l B) : A 2 ln 7 = nI (6 * ln + p_k B ln) := (S.R.D.ln ln h).2
theorem Sim.q1 (S : Sim A B q) {ln : Nat} (h : ln < p_l B) : A 2 ln 1 = nI (p_q B ln) ∧ p_q B ln < 6 := ⟨(congrFun S.R.C.l1 ln).trans (S.I.L.k ln h).rq.1, (S.I.L.k ln h).rq.2⟩
theorem Sim.nl32 (S : Sim A B q) : p_l B ≤ 32 := S.I.S.nl.2
theorem Sim.nc32 (S : Sim A B q) : p_c B ≤ 32 := S.I.S.nc.2
theorem Sim.w64 (S : Sim A B q) : wtB B ≤ 64 := S.I.S.w.2
theorem pr_rm (A : ew_R) (i w : Nat) {c : Nat} (h7 : c ≠ 7) (h12 : c ≠ 12) : (z_Row_remove_ok A i w).2 c = A c := by
  unfold z_Row_remove_ok
  dsimp only
  rw [p_kd_upr _ _ _ h12, p_kd_up _ _ _ _ h7]
theorem pr_set4 (p q r t : Prop) [Decidable p] [Decidable q] [Decidable r] [Decidable t] (x : ew_R) : (if p then if q then if r then if t then ((1 : Int32), x) else (0, x) else (0, x) else (0, x) else (0, x)) = (if (if r then if p then (1 : Int32) else 0 else 0) = 0 then 0 else if (if t then if q then (1 : Int32) else 0 else 0) = 0 then 0 else 1, x) := by
  by_cases h1 : p <;> by_cases h2 : q <;> by_cases h3 : r <;> by_cases h4 : t <;> simp [h1, h2, h3, h4]
theorem pr_set6 (n n' s s' a a' : Int32) (x : ew_R) : (if n = a then if n' = a' then if n = s' then if n' = s then ((1 : Int32), x) else (0, x) else (0, x) else (0, x) else (0, x)) = (if (if s' = n then if a = n then (1 : Int32) else 0 else 0) = 0 then 0 else if (if s = n' then if a' = n' then (1 : Int32) else 0 else 0) = 0 then 0 else 1, x) := by
  simp only [show (s' = n) = (n = s') from propext eq_comm, show (a = n) = (n = a) from propext eq_comm, show (s = n') = (n' = s) from propext eq_comm, show (a' = n') = (n' = a') from propext eq_comm]
  exact pr_set4 _ _ _ _ x
theorem pr_drop (P : PX t0 X L tg A XR LR tgR B q) (x : Int32) : PairI l D T t0 X L tg A XR LR tgR B q yL_drop wsL_drop yM_drop wsM_drop [.int x] := by
  obtain ⟨hq, S, W, E⟩ := P
  have hw := S.w64
  rcases nI_three x (wtB B) (by omega) with h | ⟨h1, h2⟩ | ⟨i, hi, rfl⟩
  · exact PairI.rd ⟨hq, S, W, E⟩ (fun sz => c_L_drop_neg l D T X L tg sz A _ (W.v0 0 (by simp)) x (W.v0 7 (by simp)) h) (by decide) (fun sz => r_drop_neg l D T XR LR tgR sz E B x h) (by decide) rfl
  · exact PairI.rd ⟨hq, S, W, E⟩ (fun sz => c_L_drop_big l D T X L tg sz A _ (W.v0 0 (by simp)) x (wtB B) (W.v0 7 (by simp)) S.wA h1 h2) (by decide) (fun sz => r_drop_big l D T XR LR tgR sz E B x (wtB B) h1 h2 S.I.S.w.1) (by decide) rfl
  · refine ⟨1, s_takeOut (up3 B 0 0 0 0) i (wtB B), cK.ec (fun sz => c_L_drop_ok l D T X L tg sz A _ (W.v0 0 (by simp)) i (wtB B) (W.v0 7 (by simp)) (W.v0 12 (by simp)) hw S.wA hi) (by decide) rfl (S.drop hq rfl hi) ?_, rK.of (fun sz => r_drop_ok l D T XR LR tgR sz E B i (wtB B) hi hw S.I.S.w.1) (by decide) rfl⟩
    refine W.up ?_ ?_ (fun c hc => ?_)
    · exact congrFun (congrFun (pr_rm A i (wtB B) (by decide) (by decide)) 0) 5
    · exact congrFun (congrFun (pr_rm A i (wtB B) (by decide) (by decide)) 0) 6
    · exact pr_rm A i (wtB B) (by omega) (by omega)
theorem pr_supplier (P : PX t0 X L tg A XR LR tgR B q) (x : Int32) : PairI l D T t0 X L tg A XR LR tgR B q yL_supplier wsL_supplier yM_supplier wsM_supplier [.int x] := by
  obtain ⟨hq, S, W, E⟩ := P
  have hn := S.nl32
  rcases nI_three x (p_l B) (by omega) with h | ⟨h1, h2⟩ | ⟨i, hi, rfl⟩
  · exact PairI.rd ⟨hq, S, W, E⟩ (fun sz => c_L_supplier_neg l D T X L tg sz A _ (W.v0 0 (by simp)) x h) (by decide) (fun sz => r_supplier_no l D T XR LR tgR sz E B x (Sim.noloan_neg h)) (by decide) rfl
  · exact PairI.rd ⟨hq, S, W, E⟩ (fun sz => c_L_supplier_big l D T X L tg sz A _ (W.v0 0 (by simp)) x (p_l B) S.nlA h1 h2) (by decide) (fun sz => r_supplier_no l D T XR LR tgR sz E B x (S.noloan_big h1 h2)) (by decide) rfl
  · obtain ⟨k1, k2, k3⟩ := S.pk hi
    refine PairI.rd ⟨hq, S, W, E⟩ (fun sz => c_L_supplier_ok l D T X L tg sz A _ (W.v0 0 (by simp)) i (p_l B) (6 * i + p_k B i) (W.v0 10 (by simp)) (W.inn (S.lv2 hi (by simp))) (W.inn (S.lv4 k3 (by simp))) hn S.nlA hi (S.f10 hi) (by omega) (S.q7 hi)) (by decide) (fun sz => r_supplier_ok l D T XR LR tgR sz E B i (p_l B) hi hn S.I.S.nl.1) (by decide) ?_
    unfold s_supplier_ok z_L_supplier_ok
    rw [k1, (S.R.D.dl _ k3).h0, show (6 * i + p_k B i) % 6 = p_k B i by omega]
theorem pr_holder (P : PX t0 X L tg A XR LR tgR B q) (x : Int32) : PairI l D T t0 X L tg A XR LR tgR B q yL_holder wsL_holder yM_holder wsM_holder [.int x] := by
  obtain ⟨hq, S, W, E⟩ := P
  have hn := S.nc32
  rcases nI_three x (p_c B) (by omega) with h | ⟨h1, h2⟩ | ⟨i, hi, rfl⟩
  · exact PairI.rd ⟨hq, S, W, E⟩ (fun sz => c_L_holder_neg l D T X L tg sz A _ (W.v0 0 (by simp)) x h) (by decide) (fun sz => r_holder l D T XR LR tgR sz E B x (p_c B) hn S.I.S.nc.1) (by decide) (by unfold s_holder; rw [if_pos h])
  · exact PairI.rd ⟨hq, S, W, E⟩ (fun sz => c_L_holder_big l D T X L tg sz A _ (W.v0 0 (by simp)) x (p_c B) S.ncA h1 h2) (by decide) (fun sz => r_holder l D T XR LR tgR sz E B x (p_c B) hn S.I.S.nc.1) (by decide) (by unfold s_holder; rw [if_neg h1, if_neg (Int32.not_lt.mpr h2)])
  · refine PairI.rd ⟨hq, S, W, E⟩ (fun sz => c_L_holder_ok l D T X L tg sz A _ (W.v0 0 (by simp)) i (p_c B) (W.v0 9 (by simp)) (W.inn (S.lv1 hi)) hn S.ncA hi (S.f9 hi)) (by decide) (fun sz => r_holder l D T XR LR tgR sz E B (nI i) (p_c B) hn S.I.S.nc.1) (by decide) ?_
    unfold s_holder z_L_holder_ok
    rw [if_neg (nI_pos (by omega)), if_pos (nI_lt hi (by omega)), nI_clamp (by omega), ← S.R.C.c2]
    rfl
theorem pr_promised (P : PX t0 X L tg A XR LR tgR B q) (x : Int32) : PairI l D T t0 X L tg A XR LR tgR B q yL_promised wsL_promised yM_promised wsM_promised [.int x] := by
  obtain ⟨hq, S, W, E⟩ := P
  have hn := S.nc32
  rcases nI_three x (p_c B) (by omega) with h | ⟨h1, h2⟩ | ⟨i, hi, rfl⟩
  · exact PairI.rd ⟨hq, S, W, E⟩ (fun sz => c_L_promised_neg l D T X L tg sz A _ (W.v0 0 (by simp)) x h) (by decide) (fun sz => r_promised l D T XR LR tgR sz E B x (p_c B) hn S.I.S.nc.1) (by decide) (by unfold s_promised; rw [if_pos h])
  · exact PairI.rd ⟨hq, S, W, E⟩ (fun sz => c_L_promised_big l D T X L tg sz A _ (W.v0 0 (by simp)) x (p_c B) S.ncA h1 h2) (by decide) (fun sz => r_promised l D T XR LR tgR sz E B x (p_c B) hn S.I.S.nc.1) (by decide) (by unfold s_promised; rw [if_neg h1, if_neg (Int32.not_lt.mpr h2)])
  · refine PairI.rd ⟨hq, S, W, E⟩ (fun sz => c_L_promised_ok l D T X L tg sz A _ (W.v0 0 (by simp)) i (p_c B) (W.v0 9 (by simp)) (W.inn (S.lv1 hi)) hn S.ncA hi (S.f9 hi)) (by decide) (fun sz => r_promised l D T XR LR tgR sz E B (nI i) (p_c B) hn S.I.S.nc.1) (by decide) ?_
    unfold s_promised z_L_promised_ok
    rw [if_neg (nI_pos (by omega)), if_pos (nI_lt hi (by omega)), nI_clamp (by omega), ← S.R.C.c3]
    rfl
theorem pr_balance (P : PX t0 X L tg A XR LR tgR B q) (x : Int32) : PairI l D T t0 X L tg A XR LR tgR B q yL_balance wsL_balance yM_balance wsM_balance [.int x] := by
  obtain ⟨hq, S, W, E⟩ := P
  rcases lib_two x with h | ⟨i, hi, rfl⟩
  · exact PairI.rd ⟨hq, S, W, E⟩ (fun sz => c_L_balance_bad l D T X L tg sz A _ (W.v0 0 (by simp)) x h) (by decide) (fun sz => r_balance l D T XR LR tgR sz E B x) (by decide) (by unfold s_balance; rw [if_pos (show s_isLibrary x = 0 from h)])
  · refine PairI.rd ⟨hq, S, W, E⟩ (fun sz => c_L_balance_ok l D T X L tg sz A _ (W.v0 0 (by simp)) i (W.v0 11 (by simp)) hi) (by decide) (fun sz => r_balance l D T XR LR tgR sz E B (nI i)) (by decide) ?_
    unfold s_balance z_L_balance_ok
    rw [lib_ok hi, if_neg (by decide), nI_clamp (by omega), S.R.C.bal]
theorem pr_settled (P : PX t0 X L tg A XR LR tgR B q) (x : Int32) : PairI l D T t0 X L tg A XR LR tgR B q yL_settled wsL_settled yM_settled wsM_settled [.int x] := by
  obtain ⟨hq, S, W, E⟩ := P
  have hn := S.nl32
  rcases nI_three x (p_l B) (by omega) with h | ⟨h1, h2⟩ | ⟨i, hi, rfl⟩
  · exact PairI.rd ⟨hq, S, W, E⟩ (fun sz => c_L_settled_neg l D T X L tg sz A _ (W.v0 0 (by simp)) x h) (by decide) (fun sz => r_settled_no l D T XR LR tgR sz E B x (Sim.noloan_neg h)) (by decide) rfl
  · exact PairI.rd ⟨hq, S, W, E⟩ (fun sz => c_L_settled_big l D T X L tg sz A _ (W.v0 0 (by simp)) x (p_l B) S.nlA h1 h2) (by decide) (fun sz => r_settled_no l D T XR LR tgR sz E B x (S.noloan_big h1 h2)) (by decide) rfl
  · obtain ⟨k1, k2, k3⟩ := S.pk hi
    refine PairI.rd ⟨hq, S, W, E⟩ (fun sz => c_L_settled_ok l D T X L tg sz A _ (W.v0 0 (by simp)) i (p_l B) (6 * i + p_k B i) (W.v0 10 (by simp)) (W.inn (S.lv2 hi (by simp))) (W.inn (S.lv4 k3 (by simp))) (W.inn (S.lv4 k3 (by simp))) (W.inn (S.lv4 k3 (by simp))) (W.inn (S.lv4 k3 (by simp))) (W.inn (S.lv4 k3 (by simp))) hn S.nlA hi (S.f10 hi) (by omega) (S.q7 hi)) (by decide) (fun sz => r_settled_ok l D T XR LR tgR sz E B i (p_l B) (p_k B i) hi hn S.I.S.nl.1 k2 k1) (by decide) ?_
    have e1 : A 5 (6 * i + p_k B i) 4 = B 30 0 (2 * (6 * i + p_k B i)) := congrFun S.R.E.s _
    have e2 : A 5 (6 * i + p_k B i) 5 = B 31 0 (2 * (6 * i + p_k B i)) := congrFun S.R.E.a _
    have e3 : A 8 (6 * i + p_k B i) 2 = B 29 0 (2 * (6 * i + p_k B i)) := congrFun S.R.E.n _
    have e4 : A 15 (6 * i + p_k B i) 4 = B 30 0 (2 * (6 * i + p_k B i) + 1) := congrFun S.R.E.s' _
    have e5 : A 15 (6 * i + p_k B i) 5 = B 31 0 (2 * (6 * i + p_k B i) + 1) := congrFun S.R.E.a' _
    have e6 : A 16 (6 * i + p_k B i) 2 = B 29 0 (2 * (6 * i + p_k B i) + 1) := congrFun S.R.E.n' _
    unfold s_settled_ok z_L_settled_ok z_Side_allTakenAndKnown_5 z_Side_allTakenAndKnown_15 z_AL_size_8 z_AL_size_16
    rw [e1, e2, e3, e4, e5, e6]
    exact pr_set6 _ _ _ _ _ _ _
end PR2
