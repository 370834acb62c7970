/-! letter, queue, book, carry, side by side -/
section PR3
variable {l : Launch} {D : va_G} {T : Nat → ClassId} {t0 : Nat × Nat} {X : Nat → Nat → Nat} {L : List Nat} {tg : Nat → Nat × Nat} {A : ew_R} {XR : Nat → Nat → Nat} {LR : List Nat} {tgR : Nat → Nat × Nat} {B : ew_R} {q : Nat}
theorem pr_if {c : Prop} [Decidable c] (a b : Int32) (z : ew_R) : (if c then (a, z) else (b, z)) = ((if c then a else b), z) := by split <;> rfl
theorem s_letter_no (B : ew_R) (i w e : Nat) {y : Int32} (h : ∀ k, k < 7 → ¬ y = nI k) : s_letter_ok B i y w e = (-1, up3 B 0 0 0 0) := by
  have h0 : ¬ y = 0 := h 0 (by decide)
  have h1 : ¬ y = 1 := h 1 (by decide)
  have h2 : ¬ y = 2 := h 2 (by decide)
  have h3 : ¬ y = 3 := h 3 (by decide)
  have h4 : ¬ y = 4 := h 4 (by decide)
  have h5 : ¬ y = 5 := h 5 (by decide)
  have h6 : ¬ y = 6 := h 6 (by decide)
  unfold s_letter_ok
  simp only [h0, h1, h2, h3, h4, h5, h6, if_false, ite_self]
theorem s_letter_k (B : ew_R) (i w e k : Nat) (he : e < 384) (h38 : B 38 0 i = nI e) (hk : k < 7) : s_letter_ok B i (nI k) w e = (p_let B (B 37 0 i) (B 38 0 i) (B 39 0 i) k, up3 B 0 0 0 0) := by
  have hc : (B 38 0 i).toNatClampNeg = e := by rw [h38, nI_clamp (by omega)]
  have hr : k = 0 ∨ k = 1 ∨ k = 2 ∨ k = 3 ∨ k = 4 ∨ k = 5 ∨ k = 6 := by omega
  rcases Nat.mod_two_eq_zero_or_one e with hm | hm
  · rcases hr with rfl | rfl | rfl | rfl | rfl | rfl | rfl <;> unfold s_letter_ok p_let <;> rw [hc, hm] <;> simp (decide := true) only [pr_if, if_true, if_false, ite_true, ite_false]
  · rcases hr with rfl | rfl | rfl | rfl | rfl | rfl | rfl <;> unfold s_letter_ok p_let <;> rw [hc, hm] <;> simp (decide := true) only [pr_if, if_true, if_false, ite_true, ite_false]
theorem pr_letter (P : PX t0 X L tg A XR LR tgR B q) (x y : Int32) : PairI l D T t0 X L tg A XR LR tgR B q yL_letter wsL_letter yM_letter wsM_letter [.int x, .int y] := by
  obtain ⟨hq, S, W, E⟩ := P
  have hw := S.w64
  rcases nI_three x (wtB B) (by omega) with h | ⟨h1, h2⟩ | ⟨i, hi, rfl⟩
  · exact PairI.rd ⟨hq, S, W, E⟩ (fun sz => c_L_letter_neg l D T X L tg sz A _ (W.v0 0 (by simp)) x y (W.v0 7 (by simp)) h) (by decide) (fun sz => r_letter_neg l D T XR LR tgR sz E B x y h) (by decide) rfl
  · exact PairI.rd ⟨hq, S, W, E⟩ (fun sz => c_L_letter_big l D T X L tg sz A _ (W.v0 0 (by simp)) x y (wtB B) (W.v0 7 (by simp)) S.wA h1 h2) (by decide) (fun sz => r_letter_big l D T XR LR tgR sz E B x y (wtB B) h1 h2 S.I.S.w.1) (by decide) rfl
  · obtain ⟨e, he, -, h38, -, h37⟩ := S.I.W i hi
    have hlg := S.I.S.2.2.2.2.2
    have q37 : B 37 0 i = (-1) ∨ vp_in (B 37 0 i) 3000 := by
      rcases h37 with h | ⟨j, hj, h, -⟩
      · exact Or.inl h
      · rw [h]; exact Or.inr (vp_in_nI (by omega) (by decide))
    rcases nI_three y 7 (by decide) with h | ⟨h1, h2⟩ | ⟨k, hk, rfl⟩
    · exact PairI.rd ⟨hq, S, W, E⟩ (fun sz => c_L_letter_wneg l D T X L tg sz A _ (W.v0 0 (by simp)) i y (wtB B) (W.v0 7 (by simp)) hw S.wA hi h) (by decide) (fun sz => r_letter_ok l D T XR LR tgR sz E B i y (wtB B) e hi hw S.I.S.w.1 he h38 q37) (by decide) (s_letter_no B i _ e (fun k hk z => nI_pos (by omega) (z ▸ h)))
    · exact PairI.rd ⟨hq, S, W, E⟩ (fun sz => c_L_letter_wbig l D T X L tg sz A _ (W.v0 0 (by simp)) i y (wtB B) (W.v0 7 (by simp)) hw S.wA hi h1 h2) (by decide) (fun sz => r_letter_ok l D T XR LR tgR sz E B i y (wtB B) e hi hw S.I.S.w.1 he h38 q37) (by decide) (s_letter_no B i _ e (fun k hk z => nI_ge hk (by decide) (z ▸ h2)))
    · exact PairI.rd ⟨hq, S, W, E⟩ (fun sz => c_L_letter_ok l D T X L tg sz A _ (W.v0 0 (by simp)) i k (wtB B) (W.v0 7 (by simp)) (W.v0 12 (by simp)) hw S.wA hi hk) (by decide) (fun sz => r_letter_ok l D T XR LR tgR sz E B i (nI k) (wtB B) e hi hw S.I.S.w.1 he h38 q37) (by decide) (by
        rw [s_letter_k B i _ e k he h38 hk]
        unfold z_L_letter_ok z_Row_told_ok
        rw [S.told hi hk])
theorem Sim.qu (S : Sim A B q) {b : Nat} (hb : b < 6) (t : Nat) : ∀ i, z_qu A b t i = s_qu B b t i
  | 0 => rfl
  | i + 1 => by
    have ih := Sim.qu S hb t i
    have e1 : A 2 i 2 = B 12 0 i := congrFun S.R.C.l2 i
    have e2 : A 13 i b = B 22 0 (6 * i + b) := S.R.C.th i b hb
    have e3 : A 17 (6 * i + b) 0 = B 23 0 (6 * i + b) := congrFun S.R.C.d0 _
    show (if A 2 i 2 = nI t then (if A 13 i b = 0 then z_qu A b t i else if z_L_waitsAt_d A i b t = 0 then z_qu A b t i else z_qu A b t i + 1) else z_qu A b t i) = s_qu B b t i + (if B 12 0 i = nI t then (if B 22 0 ((6 * i) + b) = 0 then 0 else if B 23 0 ((6 * i) + b) = 1 then 1 else 0) else 0)
    unfold z_L_waitsAt_d
    rw [e1, e2, e3, ih]
    by_cases h1 : B 12 0 i = nI t <;> by_cases h2 : B 22 0 (6 * i + b) = 0 <;> by_cases h3 : B 23 0 (6 * i + b) = 1 <;> simp [h1, h2, h3]
theorem pr_queue (P : PX t0 X L tg A XR LR tgR B q) (x y : Int32) : PairI l D T t0 X L tg A XR LR tgR B q yL_queue wsL_queue yM_queue wsM_queue [.int x, .int y] := by
  obtain ⟨hq, S, W, E⟩ := P
  have hn := S.nl32
  rcases lib_two x with h | ⟨b, hb, rfl⟩
  · exact PairI.rd ⟨hq, S, W, E⟩ (fun sz => c_L_queue_bl l D T X L tg sz A _ (W.v0 0 (by simp)) x y h) (by decide) (fun sz => r_queue_bl l D T XR LR tgR sz E B x y h) (by decide) rfl
  · rcases tit_two y with h | ⟨t, ht, rfl⟩
    · exact PairI.rd ⟨hq, S, W, E⟩ (fun sz => c_L_queue_bt l D T X L tg sz A _ (W.v0 0 (by simp)) b y hb h) (by decide) (fun sz => r_queue_bt l D T XR LR tgR sz E B b y hb h) (by decide) rfl
    · refine PairI.rd ⟨hq, S, W, E⟩ (fun sz => c_L_queue_ok l D T X L tg sz A _ (W.v0 0 (by simp)) b t (p_l B) (W.v0 10 (by simp)) hb ht hn S.nlA (fun i hi => S.f10 hi) (fun i hi => W.inn (S.lv2 hi (by simp))) (fun i hi => W.inn (S.lv2 hi (by simp))) (fun i hi hd => ?_)) (by decide) (fun sz => r_queue_ok l D T XR LR tgR sz E B b t (p_l B) hb ht hn S.I.S.nl.1) (by decide) ?_
      · rw [S.R.C.th i b hb] at hd
        exact ⟨W.inn (S.lv4 hd (by simp)), W.inn (S.lv4 hd (by simp))⟩
      · unfold s_queue_ok z_L_queue_ok
        rw [S.qu hb t]
theorem pr_book (P : PX t0 X L tg A XR LR tgR B q) (x y w : Int32) : PairI l D T t0 X L tg A XR LR tgR B q yL_book wsL_book yM_book wsM_book [.int x, .int y, .int w] := by
  obtain ⟨hq, S, W, E⟩ := P
  have hn := S.nl32
  rcases nI_three y (p_l B) (by omega) with h | ⟨h1, h2⟩ | ⟨i, hi, rfl⟩
  · exact PairI.rd ⟨hq, S, W, E⟩ (fun sz => c_L_book_neg l D T X L tg sz A _ (W.v0 0 (by simp)) x y w h) (by decide) (fun sz => r_book_nol l D T XR LR tgR sz E B x y w (Sim.noloan_neg h)) (by decide) rfl
  · exact PairI.rd ⟨hq, S, W, E⟩ (fun sz => c_L_book_big l D T X L tg sz A _ (W.v0 0 (by simp)) x y w (p_l B) S.nlA h1 h2) (by decide) (fun sz => r_book_nol l D T XR LR tgR sz E B x y w (S.noloan_big h1 h2)) (by decide) rfl
  · obtain ⟨k1, k2, k3⟩ := S.pk hi
    obtain ⟨r1, r2⟩ := S.q1 hi
    have r3 : B 11 0 i = nI (p_q B i) := (S.I.L.k i hi).rq.1
    rcases lib_two x with h | ⟨b, hb, rfl⟩
    · exact PairI.rd ⟨hq, S, W, E⟩ (fun sz => c_L_book_bad l D T X L tg sz A _ (W.v0 0 (by simp)) x i w (p_l B) (p_q B i) (W.v0 10 (by simp)) (W.inn (S.lv2 hi (by simp))) hn S.nlA hi (S.f10 hi) r2 r1 (fun z => by
        have h9 : s_isLibrary x = 0 := h
        rw [z, lib_ok r2] at h9; exact absurd h9 (by decide)) h) (by decide) (fun sz => r_book_nob l D T XR LR tgR sz E B x i w (p_l B) hi hn S.I.S.nl.1 h) (by decide) rfl
    · have R := fun sz => r_book_ok l D T XR LR tgR sz E B b i w (p_l B) (p_k B i) (p_q B i) hb hi hn S.I.S.nl.1 k2 r2 k1 r3
      by_cases hbq : b = p_q B i
      · subst hbq
        refine PairI.rd ⟨hq, S, W, E⟩ (fun sz => c_L_book_q l D T X L tg sz A _ (W.v0 0 (by simp)) (p_q B i) i w (p_l B) (6 * i + p_k B i) (W.v0 10 (by simp)) (W.inn (S.lv2 hi (by simp))) (W.inn (S.lv4 k3 (by simp))) (W.inn (S.lv4 k3 (by simp))) (W.inn (S.lv4 k3 (by simp))) (W.inn (S.lv2 hi (by simp))) hn S.nlA hi (S.f10 hi) r2 r1 (by omega) (S.q7 hi)) (by decide) R (by decide) ?_
        have g0 : A 3 i 0 = B 18 0 i := congrFun S.R.C.g0 i
        have g1 : A 3 i 1 = B 19 0 i := congrFun S.R.C.g1 i
        have g2 : A 3 i 2 = B 20 0 i := congrFun S.R.C.g2 i
        have g3 : A 3 i 3 = B 21 0 i := congrFun S.R.C.g3 i
        have e1 : A 5 (6 * i + p_k B i) 4 = B 30 0 (2 * (6 * i + p_k B i)) := congrFun S.R.E.s _
        have e2 : A 5 (6 * i + p_k B i) 5 = B 31 0 (2 * (6 * i + p_k B i)) := congrFun S.R.E.a _
        have e3 : A 8 (6 * i + p_k B i) 2 = B 29 0 (2 * (6 * i + p_k B i)) := congrFun S.R.E.n _
        have hh : s_hasIt (up3 B 0 0 0 0) i = z_Asker_hasCopy (B 18 0 i) := by
          unfold s_hasIt z_Asker_hasCopy
          rw [p_kd_up _ _ _ _ (by decide)]
        unfold s_book_ok z_L_book_q z_L_entry_5 z_AL_size_8
        rw [if_pos rfl, hh, g0, g1, g2, g3, e1, e2, e3]
        simp only [pr_if]
      · by_cases hd : B 22 0 (6 * i + b) = 0
        · refine PairI.rd ⟨hq, S, W, E⟩ (fun sz => c_L_book_n l D T X L tg sz A _ (W.v0 0 (by simp)) b i w (p_l B) (p_q B i) (W.v0 10 (by simp)) (W.inn (S.lv2 hi (by simp))) (W.inn (S.lv2 hi (by simp))) hn S.nlA hi (S.f10 hi) r2 r1 hb hbq (by rw [S.R.C.th i b hb]; exact hd)) (by decide) R (by decide) ?_
          unfold s_book_ok
          rw [if_neg hbq, if_pos hd]
        · refine PairI.rd ⟨hq, S, W, E⟩ (fun sz => c_L_book_s l D T X L tg sz A _ (W.v0 0 (by simp)) b i w (p_l B) (p_q B i) (W.v0 10 (by simp)) (W.inn (S.lv2 hi (by simp))) (W.inn (S.lv2 hi (by simp))) (W.inn (S.lv4 hd (by simp))) (W.inn (S.lv4 hd (by simp))) (W.inn (S.lv4 hd (by simp))) (W.inn (S.lv4 hd (by simp))) hn S.nlA hi (S.f10 hi) r2 r1 hb hbq (by rw [S.R.C.th i b hb]; exact hd)) (by decide) R (by decide) ?_
          have g0 : A 17 (6 * i + b) 0 = B 23 0 (6 * i + b) := congrFun S.R.C.d0 _
          have g1 : A 17 (6 * i + b) 1 = B 24 0 (6 * i + b) := congrFun S.R.C.d1 _
          have g2 : A 17 (6 * i + b) 2 = B 25 0 (6 * i + b) := congrFun S.R.C.d2 _
          have g3 : A 17 (6 * i + b) 3 = B 26 0 (6 * i + b) := congrFun S.R.C.d3 _
          have e4 : A 15 (6 * i + b) 4 = B 30 0 (2 * (6 * i + b) + 1) := congrFun S.R.E.s' _
          have e5 : A 15 (6 * i + b) 5 = B 31 0 (2 * (6 * i + b) + 1) := congrFun S.R.E.a' _
          have e6 : A 16 (6 * i + b) 2 = B 29 0 (2 * (6 * i + b) + 1) := congrFun S.R.E.n' _
          unfold s_book_ok z_L_book_s z_L_entry_15 z_AL_size_16
          rw [if_neg hbq, if_neg hd, g0, g1, g2, g3, e4, e5, e6]
          simp only [pr_if]
          by_cases h3 : B 23 0 (6 * i + b) = 3
          · simp only [h3, if_true]; rfl
          · simp only [h3, if_false, if_true]
set_option maxHeartbeats 4000000 in
set_option maxRecDepth 100000 in
theorem c_L_carry_no (l : Launch) (D : va_G) (T : Nat → ClassId) (X : Nat → Nat → Nat) (L : List Nat) (tg : Nat → Nat × Nat) (sz : Nat) (A : ew_R) (th : Nat) (hth : ew_in X L tg 0 0 th) (i : Int32) (e7_0 : ew_in X L tg 7 0 (X 7 0)) (ht : ∀ sz, Met l yRow_told wsRow_told ({ frames := 0, cells := 0, slots := 0, locals := 0 }) (ec_Pc D vwCl (tysA T) (cfC T) X L tg A sz [.ref (X 7 0), .int i, .int 0]) (er_Qi D vwCl (cfC T) X L tg sz (fun r u => r = (-1) ∧ u = A)) 0 0 (ew_A L sz)) : Met l yL_carry wsL_carry ({ frames := 2, cells := 0, slots := 0, locals := 41 }) (ec_Pc D vwCl (tysA T) (cfC T) X L tg A sz [.ref th, .int i]) (er_Qi D vwCl (cfC T) X L tg sz (fun r u => r = (-1) ∧ u = A)) 0 0 (ew_A L sz) := by
  refine ec_met (by decide) rfl (Nat.le_of_ble_eq_true rfl) ?_
  intro p e s m below meth c ls hx hb hr hts hown hlocks hml hV hK hN hS hA hl hsz
  subst hsz
  have hl : lv_has ls 10 [(0, .ref th), (1, .int i)] := hl
  refine lv_aload_n hx hb dL_carry_0 rfl (lv_at hl 0 rfl) ?_
  refine lv_aload_n hx hb dL_carry_1 rfl (lv_at hl 0 rfl) ?_
  refine ew_get (v := .ref (X 7 0)) hx hb hts hown hK hV fL_28 hth (cC_0 _ _ _ _) rfl dL_carry_2 ?_
  refine lv_iload_n hx hb dL_carry_5 rfl (lv_at hl 1 rfl) ?_
  refine lv_iconst (v := 0) hx hb dL_carry_6 (by decide) ?_
  refine er_calli (va_runV (As := [.int i, .int 0]) (rest := [.ref th]) ⟨hx, hb, hml, hown, hts⟩ (ht _) (cwV 2 hts gL_165 rfl rfl rfl (by decide +kernel) ⟨Nat.le_of_ble_eq_true rfl, Nat.le_of_ble_eq_true rfl⟩) (ec_preV hK hN hV e7_0 (cC_7 _ _ _ _) rfl) rfl rfl hl.1 rfl (lv_room (Nat.le_of_ble_eq_true rfl)) dL_carry_7 ⟨Nat.le_of_ble_eq_true rfl, Nat.le_of_ble_eq_true rfl⟩) hV hS hA (fun r u H locs hp hV hS => ?_)
  obtain ⟨rfl, eu9⟩ := hp
  rw [eu9] at hV
  refine er_callq (va_runV (As := [.int (-1)]) (rest := []) ⟨hx, hb, hml, hown, hts⟩ (c_L_loanAt_neg l D T X L tg _ A th hth (-1) (by decide)) (cwV 1 hts gL_88 rfl rfl rfl (by decide +kernel) ⟨Nat.le_of_ble_eq_true rfl, Nat.le_of_ble_eq_true rfl⟩) (ec_preV hK hN hV hth (cC_0 _ _ _ _) rfl) rfl rfl hl.1 rfl (lv_room (Nat.le_of_ble_eq_true rfl)) dL_carry_10 ⟨Nat.le_of_ble_eq_true rfl, Nat.le_of_ble_eq_true rfl⟩) hV hS hA (fun r u H locs hp hV hS => ?_)
  obtain ⟨rfl, eu9⟩ := hp
  rw [eu9] at hV
  refine lv_astore_nN (lv' := [(2, .null), (0, .ref th), (1, .int i)]) hx hb dL_carry_13 rfl hl (by decide) rfl (fun ls hl => ?_)
  refine lv_aload_nN hx hb dL_carry_14 rfl (lv_at hl 0 rfl) ?_
  refine lv_ifnonnullN hx hb dL_carry_15 ?_
  refine lv_iconst (v := -1) hx hb dL_carry_18 (by decide) ?_
  exact er_iret hx hb hr hlocks hV hS dL_carry_19 ⟨rfl, rfl⟩
theorem Sim.ir_e {ln b i v f0 : Nat} (S : Sim A B q) (hd : ¬ B 22 0 (6 * ln + b) = 0) (h39 : B 39 0 i = nI v) (hv : v ≤ p_s B (2 * (6 * ln + b))) (h37 : B 37 0 i = (-1) ∨ ∃ j, B 37 0 i = nI j ∧ j < lgB B ∧ B 32 0 j = nI (2 * (6 * ln + b))) (hf0 : p_n B (2 * (6 * ln + b)) ≤ f0) : IrE q ln b f0 (s_cpre_e B i (wtB B) ln b) := by
  obtain ⟨p1, p2⟩ := S.pre_e (w := wtB B) (i := i) hd rfl h39 hv
  have o := fun {c : Nat} => s_cpre_e_oth B i (wtB B) ln b (c := c)
  have k : ∀ A', Sim A' (s_cpre_e B i (wtB B) ln b) q → IrE q ln b f0 (s_cpre_e B i (wtB B) ln b) := fun A' S' => ⟨A', 0, Or.inl ⟨rfl, S'⟩, by rw [o (by decide)]; exact hd, by
    unfold p_n p_s
    rw [o (c := 29) (by decide)]
    exact Nat.le_trans hf0 (Nat.le_add_left _ _)⟩
  rcases h37 with h | ⟨j, h, hj, h32⟩
  · exact k _ (p1 h)
  · obtain ⟨_, _, _, S'⟩ := p2 j h hj h32
    exact k _ S'
theorem Sim.ir_o {ln b i v f0 : Nat} (S : Sim A B q) (hd : ¬ B 22 0 (6 * ln + b) = 0) (h39 : B 39 0 i = nI v) (hv : v ≤ p_s B (2 * (6 * ln + b) + 1)) (h37 : B 37 0 i = (-1) ∨ ∃ j, B 37 0 i = nI j ∧ j < lgB B ∧ B 32 0 j = nI (2 * (6 * ln + b) + 1)) (hf0 : p_n B (2 * (6 * ln + b) + 1) ≤ f0) : IrO q ln b f0 (s_cpre_o B i (wtB B) ln b) := by
  obtain ⟨p1, p2⟩ := S.pre_o (w := wtB B) (i := i) hd rfl h39 hv
  have o := fun {c : Nat} => s_cpre_o_oth B i (wtB B) ln b (c := c)
  have k : ∀ A', Sim A' (s_cpre_o B i (wtB B) ln b) q → IrO q ln b f0 (s_cpre_o B i (wtB B) ln b) := fun A' S' => ⟨A', 0, Or.inl ⟨rfl, S'⟩, by rw [o (by decide)]; exact hd, by
    unfold p_n p_s
    rw [o (c := 29) (by decide)]
    exact Nat.le_trans hf0 (Nat.le_add_left _ _)⟩
  rcases h37 with h | ⟨j, h, hj, h32⟩
  · exact k _ (p1 h)
  · obtain ⟨_, _, _, S'⟩ := p2 j h hj h32
    exact k _ S'
theorem pr_carry (P : PX t0 X L tg A XR LR tgR B q) (x : Int32) : PairI l D T t0 X L tg A XR LR tgR B q yL_carry wsL_carry yM_carry wsM_carry [.int x] := by
  obtain ⟨hq, S, W, E⟩ := P
  have hw := S.w64
  have i7 := W.v0 7 (by simp)
  rcases nI_three x (wtB B) (by omega) with h | ⟨h1, h2⟩ | ⟨i, hi, rfl⟩
  · exact PairI.rd ⟨hq, S, W, E⟩ (fun sz => c_L_carry_no l D T X L tg sz A _ (W.v0 0 (by simp)) x i7 (fun sz => c_Row_told_neg l D T X L tg sz A _ i7 x 0 h)) (by decide) (fun sz => r_carry_neg l D T XR LR tgR sz E B x h) (by decide) rfl
  · exact PairI.rd ⟨hq, S, W, E⟩ (fun sz => c_L_carry_no l D T X L tg sz A _ (W.v0 0 (by simp)) x i7 (fun sz => c_Row_told_big l D T X L tg sz A _ i7 x 0 (wtB B) S.wA h1 h2)) (by decide) (fun sz => r_carry_big l D T XR LR tgR sz E B x (wtB B) h1 h2 S.I.S.w.1) (by decide) rfl
  · obtain ⟨e, he, hd, h38, ⟨v, hv, h39⟩, h37⟩ := S.I.W i hi
    have hlg := S.I.S.2.2.2.2.2
    have q37 : B 37 0 i = (-1) ∨ vp_in (B 37 0 i) 3000 := by
      rcases h37 with h | ⟨j, hj, h, -⟩
      · exact Or.inl h
      · rw [h]; exact Or.inr (vp_in_nI (by omega) (by decide))
    obtain ⟨d, hde⟩ : ∃ d, e = 2 * d ∨ e = 2 * d + 1 := ⟨e / 2, by omega⟩
    obtain ⟨ln, b, hb, hdd⟩ : ∃ ln b, b < 6 ∧ d = 6 * ln + b := ⟨d / 6, d % 6, by omega, by omega⟩
    rw [show e / 2 = d by omega] at hd
    have h192 := S.d192 hd
    subst hdd
    rcases hde with rfl | rfl
    · have h37' : B 37 0 i = (-1) ∨ ∃ j, B 37 0 i = nI j ∧ j < lgB B ∧ B 32 0 j = nI (2 * (6 * ln + b)) := by
        rcases h37 with h | ⟨j, hj, h, h32⟩
        · exact Or.inl h
        · exact Or.inr ⟨j, h, hj, h32⟩
      refine ⟨(s_carry_e B i (wtB B) ln b (p_n B (2 * (6 * ln + b)))).1, (s_carry_e B i (wtB B) ln b (p_n B (2 * (6 * ln + b)))).2, cK.em (fun sz => cx_carry_e l D T t0 X L tg sz A hq S W _ (W.v0 0 (by simp)) hi hd hb h38 h39 hv h37' (Nat.le_refl _)) (by decide) (by decide) (fun _ _ h => h), rK.of (fun sz => r_carry_e l D T XR LR tgR sz E B i (wtB B) ln b _ hi hw S.I.S.w.1 (by omega) hb h38 q37 (IrE q ln b) (fun f B' h => h.g hq) (fun B' h => h.z) (fun f B' h hx _ => h.s hq hb hx) (S.ir_e hd h39 hv h37' (Nat.le_refl _))) (by decide) rfl⟩
    · have h37' : B 37 0 i = (-1) ∨ ∃ j, B 37 0 i = nI j ∧ j < lgB B ∧ B 32 0 j = nI (2 * (6 * ln + b) + 1) := by
        rcases h37 with h | ⟨j, hj, h, h32⟩
        · exact Or.inl h
        · exact Or.inr ⟨j, h, hj, h32⟩
      refine ⟨(s_carry_o B i (wtB B) ln b (p_n B (2 * (6 * ln + b) + 1))).1, (s_carry_o B i (wtB B) ln b (p_n B (2 * (6 * ln + b) + 1))).2, cK.em (fun sz => cx_carry_o l D T t0 X L tg sz A hq S W _ (W.v0 0 (by simp)) hi hd hb h38 h39 hv h37' (Nat.le_refl _)) (by decide) (by decide) (fun _ _ h => h), rK.of (fun sz => r_carry_o l D T XR LR tgR sz E B i (wtB B) ln b _ hi hw S.I.S.w.1 (by omega) hb h38 q37 (IrO q ln b) (fun f B' h => h.g hq) (fun B' h => h.z) (fun f B' h hx _ => h.s hq hb hx) (S.ir_o hd h39 hv h37' (Nat.le_refl _))) (by decide) rfl⟩
end PR3
