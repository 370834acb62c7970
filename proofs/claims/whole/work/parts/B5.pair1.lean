/-! Pairs: a call on the class, and the same call on the reference -/
def rmC : Room := { frames := 13, cells := 11, slots := 2036, locals := 420 }
def rmR : Room := { frames := 5, cells := 0, slots := 0, locals := 114 }
/-- all that the two sides stand on -/
def PX (t0 : Nat × Nat) (X : Nat → Nat → Nat) (L : List Nat) (tg : Nat → Nat × Nat) (A : ew_R) (XR : Nat → Nat → Nat) (LR : List Nat) (tgR : Nat → Nat × Nat) (B : ew_R) (q : Nat) : Prop := q < 512 ∧ Sim A B q ∧ WI t0 X L tg A ∧ eR_E XR LR tgR
def cK (l : Launch) (D : va_G) (T : Nat → ClassId) (t0 : Nat × Nat) (X : Nat → Nat → Nat) (L : List Nat) (tg : Nat → Nat × Nat) (A : ew_R) (y : MethodName) (ws : List Cond) (av : List Value) (post : Int32 → ec_S → Prop) : Prop := ∀ sz, Met l y ws rmC (em_Pc D vwCl (tysA T) (cfC T) t0 X L tg A sz av) (em_Qi D vwCl (cfC T) L sz post) 11 2036 (ew_A L sz)
def rK (l : Launch) (D : va_G) (T : Nat → ClassId) (X : Nat → Nat → Nat) (L : List Nat) (tg : Nat → Nat × Nat) (B : ew_R) (y : MethodName) (ws : List Cond) (av : List Value) (r : Int32) (B' : ew_R) : Prop := ∀ sz, Met l y ws rmR (er_Pc D vwCl (tysA T) (cfR T) X L tg B sz av) (er_Qi D vwCl (cfR T) X L tg sz (fun r' u => r' = r ∧ u = B')) 0 0 (ew_A L sz)
def tK (l : Launch) (D : va_G) (T : Nat → ClassId) (t0 : Nat × Nat) (X : Nat → Nat → Nat) (L : List Nat) (tg : Nat → Nat × Nat) (A : ew_R) (y : MethodName) (ws : List Cond) (av : List Value) (cls : String) : Prop := ∀ sz, MetT l y ws rmC (tm_Pc D vwCl (tysA T) (cfC T) t0 X L tg A sz av) (tQ D vwCl (cfC T) X L tg A sz cls 11 2036)
/-- what a call of the class leaves -/
def pK (t0 : Nat × Nat) (X : Nat → Nat → Nat) (L : List Nat) (tg : Nat → Nat × Nat) (r : Int32) (B' : ew_R) (q : Nat) : Int32 → ec_S → Prop := fun r' u => r' = r ∧ Sim u.2.2.2 B' (q + 1) ∧ PW t0 X L tg u
section PRS
variable {l : Launch} {D : va_G} {T : Nat → ClassId} {t0 : Nat × Nat} {X : Nat → Nat → Nat} {L : List Nat} {tg : Nat → Nat × Nat} {A : ew_R} {XR : Nat → Nat → Nat} {LR : List Nat} {tgR : Nat → Nat × Nat} {B : ew_R} {q : Nat} {yc yr : MethodName} {wsc wsr : List Cond} {as : List Value}
def PairI (l : Launch) (D : va_G) (T : Nat → ClassId) (t0 : Nat × Nat) (X : Nat → Nat → Nat) (L : List Nat) (tg : Nat → Nat × Nat) (A : ew_R) (XR : Nat → Nat → Nat) (LR : List Nat) (tgR : Nat → Nat × Nat) (B : ew_R) (q : Nat) (yc : MethodName) (wsc : List Cond) (yr : MethodName) (wsr : List Cond) (as : List Value) : Prop :=
  ∃ (r : Int32) (B' : ew_R), cK l D T t0 X L tg A yc wsc (.ref (X 0 0) :: as) (pK t0 X L tg r B' q) ∧ rK l D T XR LR tgR B yr wsr (.ref (XR 0 0) :: as) r B'
/-- .. of a call that may throw: the class's answer and the reference's code -/
def PairT (l : Launch) (D : va_G) (T : Nat → ClassId) (t0 : Nat × Nat) (X : Nat → Nat → Nat) (L : List Nat) (tg : Nat → Nat × Nat) (A : ew_R) (XR : Nat → Nat → Nat) (LR : List Nat) (tgR : Nat → Nat × Nat) (B : ew_R) (q : Nat) (yc : MethodName) (wsc : List Cond) (yr : MethodName) (wsr : List Cond) (as : List Value) : Prop :=
  (∃ (r : Int32) (B' : ew_R), B' 0 0 0 = 0 ∧ cK l D T t0 X L tg A yc wsc (.ref (X 0 0) :: as) (pK t0 X L tg r B' q) ∧ rK l D T XR LR tgR B yr wsr (.ref (XR 0 0) :: as) r B') ∨
  (∃ (r : Int32) (B' : ew_R), B' 0 0 0 = 1 ∧ Sim A B' (q + 1) ∧ tK l D T t0 X L tg A yc wsc (.ref (X 0 0) :: as) tmI ∧ rK l D T XR LR tgR B yr wsr (.ref (XR 0 0) :: as) r B') ∨
  (∃ (r : Int32) (B' : ew_R), B' 0 0 0 = 2 ∧ Sim A B' (q + 1) ∧ tK l D T t0 X L tg A yc wsc (.ref (X 0 0) :: as) tmS ∧ rK l D T XR LR tgR B yr wsr (.ref (XR 0 0) :: as) r B')
abbrev rmLe (rm rm' : Room) : Prop := rm.frames ≤ rm'.frames ∧ rm.locals ≤ rm'.locals ∧ rm.cells ≤ rm'.cells ∧ rm.slots ≤ rm'.slots
theorem cK.ec {rm : Room} {r rc : Int32} {A' B' : ew_R} {av : List Value} (hc : ∀ sz, Met l yc wsc rm (ec_Pc D vwCl (tysA T) (cfC T) X L tg A sz av) (er_Qi D vwCl (cfC T) X L tg sz (fun r' u => r' = rc ∧ u = A')) 0 0 (ew_A L sz)) (hr : rmLe rm rmC) (e : rc = r) (S' : Sim A' B' (q + 1)) (W' : WI t0 X L tg A') : cK l D T t0 X L tg A yc wsc av (pK t0 X L tg r B' q) := fun sz =>
  em_ofc_i (hc sz) hr ⟨Nat.zero_le _, Nat.zero_le _⟩ (fun r' u ⟨h1, h2⟩ => ⟨h1.trans e, by rw [h2]; exact S', by rw [h2]; exact W', fun _ _ _ h => h⟩)
theorem cK.em {rm : Room} {r : Int32} {B' : ew_R} {av : List Value} {mc ms : Nat} {post : Int32 → ec_S → Prop} (hc : ∀ sz, Met l yc wsc rm (em_Pc D vwCl (tysA T) (cfC T) t0 X L tg A sz av) (em_Qi D vwCl (cfC T) L sz post) mc ms (ew_A L sz)) (hr : rmLe rm rmC) (hm : mc ≤ 11 ∧ ms ≤ 2036) (hp : ∀ r' u, post r' u → pK t0 X L tg r B' q r' u) : cK l D T t0 X L tg A yc wsc av (pK t0 X L tg r B' q) := fun sz =>
  em_imp_i (hc sz) hr hm hp
theorem rK.of {rm : Room} {r : Int32} {B' : ew_R} {s : Int32 × ew_R} {av : List Value} (hc : ∀ sz, Met l yr wsr rm (er_Pc D vwCl (tysA T) (cfR T) XR LR tgR B sz av) (er_Qi D vwCl (cfR T) XR LR tgR sz (fun r' u => r' = s.1 ∧ u = s.2)) 0 0 (ew_A LR sz)) (hr : rmLe rm rmR) (e : s = (r, B')) : rK l D T XR LR tgR B yr wsr av r B' := fun sz => by
  subst e
  exact mt_mono (hc sz) hr ⟨Nat.le_refl _, Nat.le_refl _⟩ (fun _ _ h => h) (fun _ _ _ _ _ h => h) (fun _ h => h)
/-- a call that reads -/
theorem PairI.rd {rm rm' : Room} {rc : Int32} {s : Int32 × ew_R} (P : PX t0 X L tg A XR LR tgR B q) (hc : ∀ sz, Met l yc wsc rm (ec_Pc D vwCl (tysA T) (cfC T) X L tg A sz (.ref (X 0 0) :: as)) (er_Qi D vwCl (cfC T) X L tg sz (fun r' u => r' = rc ∧ u = A)) 0 0 (ew_A L sz)) (h1 : rmLe rm rmC)
    (hr : ∀ sz, Met l yr wsr rm' (er_Pc D vwCl (tysA T) (cfR T) XR LR tgR B sz (.ref (XR 0 0) :: as)) (er_Qi D vwCl (cfR T) XR LR tgR sz (fun r' u => r' = s.1 ∧ u = s.2)) 0 0 (ew_A LR sz)) (h2 : rmLe rm' rmR) (e : s = (rc, up3 B 0 0 0 0)) : PairI l D T t0 X L tg A XR LR tgR B q yc wsc yr wsr as :=
  ⟨rc, up3 B 0 0 0 0, cK.ec hc h1 rfl ((P.2.1.mono P.1).code 0) P.2.2.1, rK.of hr h2 e⟩
theorem nI_three (x : Int32) (n : Nat) (hn : n < 2 ^ 31) : x < 0 ∨ (¬ x < 0 ∧ nI n ≤ x) ∨ ∃ i, i < n ∧ x = nI i := by
  by_cases h : x < 0
  · exact Or.inl h
  · obtain ⟨j, hj, rfl⟩ := nI_of h
    rcases Nat.lt_or_ge j n with h1 | h1
    · exact Or.inr (Or.inr ⟨j, h1, rfl⟩)
    · exact Or.inr (Or.inl ⟨h, nI_le h1 hj⟩)
theorem lib_two (x : Int32) : z_L_isLibrary x = 0 ∨ ∃ i, i < 6 ∧ x = nI i := by
  rcases nI_three x 6 (by decide) with h | ⟨h1, h2⟩ | h
  · left; unfold z_L_isLibrary; rw [if_pos h]
  · left; unfold z_L_isLibrary; rw [if_neg h1, if_pos (show (6 : Int32) ≤ x from h2)]
  · exact Or.inr h
theorem tit_two (x : Int32) : z_L_isTitle x = 0 ∨ ∃ i, i < 8 ∧ x = nI i := by
  rcases nI_three x 8 (by decide) with h | ⟨h1, h2⟩ | h
  · left; unfold z_L_isTitle; rw [if_pos h]
  · left; unfold z_L_isTitle; rw [if_neg h1, if_pos (show (8 : Int32) ≤ x from h2)]
  · exact Or.inr h
theorem lib_ok {i : Nat} (h : i < 6) : s_isLibrary (nI i) = 1 := by
  unfold s_isLibrary
  rw [if_neg (nI_pos (by omega)), if_neg (show ¬ (6 : Int32) ≤ nI i from nI_ge h (by decide))]
theorem Sim.noloan_neg {x : Int32} (h : x < 0) : s_isLoan B x = 0 := by unfold s_isLoan; rw [if_pos h]
theorem Sim.noloan_big {x : Int32} (S : Sim A B q) (h0 : ¬ x < 0) (h : nI (p_l B) ≤ x) : s_isLoan B x = 0 := by unfold s_isLoan; rw [if_neg h0, S.I.S.nl.1, if_pos h]
theorem Sim.nlA (S : Sim A B q) : A 0 0 6 = nI (p_l B) := S.R.C.nl.trans S.I.S.nl.1
theorem Sim.ncA (S : Sim A B q) : A 0 0 5 = nI (p_c B) := S.R.C.nc.trans S.I.S.nc.1
theorem Sim.wA (S : Sim A B q) : A 7 0 1 = nI (wtB B) := S.R.C.w.trans S.I.S.w.1
theorem Sim.f10 (S : Sim A B q) {i : Nat} (h : i < p_l B) : ¬ A 10 0 i = 0 := fun z => by
  have := S.I.S.nl.2
  have := (S.R.D.f10 i (by omega)).mp z
  omega
theorem Sim.f9 (S : Sim A B q) {i : Nat} (h : i < p_c B) : ¬ A 9 0 i = 0 := fun z => by
  have := S.I.S.nc.2
  have := (S.R.D.f9 i (by omega)).mp z
  omega
theorem Sim.cl1 {c k : Nat} {r : Nat → Int32} (h : p_col A c k = r) (i : Nat) : A c i k = r i := congrFun h i
theorem pr_pass (P : PX t0 X L tg A XR LR tgR B q) (x : Int32) : PairI l D T t0 X L tg A XR LR tgR B q yL_pass wsL_pass yM_pass wsM_pass [.int x] := by
  obtain ⟨hq, S, W, E⟩ := P
  have hth := W.inn (Sim.lv0 (A := A) (kd := 0) (by simp))
  by_cases h1 : x < 1
  · refine PairI.rd ⟨hq, S, W, E⟩ (rc := 0) (fun sz => mt_mono (c_L_pass l D T X L tg sz A _ hth x) ⟨Nat.le_refl _, Nat.le_refl _, Nat.le_refl _, Nat.le_refl _⟩ ⟨Nat.le_refl _, Nat.le_refl _⟩ (fun _ _ h => h) (fun _ _ _ _ _ h => ?_) (fun _ h => h)) (by decide) (fun sz => r_pass l D T XR LR tgR sz E B x) (by decide) (by unfold s_pass; rw [if_pos h1])
    unfold z_L_pass at h
    rw [if_pos h1] at h
    exact h
  · by_cases h2 : x ≤ 1000
    · obtain ⟨m, hm, rfl⟩ := nI_of2 (M := 1000) (n := 1000) (by decide) (fun z => h1 (by rw [Int32.lt_iff_toInt_lt] at *; have : (0 : Int32).toInt = 0 := rfl; have : (1 : Int32).toInt = 1 := rfl; omega)) h2
      refine ⟨1, up3 (up3 B 0 0 0 0) 0 0 1 (B 0 0 1 + nI m), cK.ec (fun sz => c_L_pass l D T X L tg sz A _ hth (nI m)) (by decide) (by unfold z_L_pass; rw [if_neg h1, if_pos h2]) (by unfold z_L_pass; rw [if_neg h1, if_pos h2]; exact S.pass hq hm) (by
        unfold z_L_pass; rw [if_neg h1, if_pos h2]
        exact W.up rfl rfl (fun c hc => p_kd_up _ _ _ _ (by omega))), rK.of (fun sz => r_pass l D T XR LR tgR sz E B (nI m)) (by decide) (by unfold s_pass; rw [if_neg h1, if_pos h2])⟩
    · refine PairI.rd ⟨hq, S, W, E⟩ (rc := 0) (fun sz => mt_mono (c_L_pass l D T X L tg sz A _ hth x) ⟨Nat.le_refl _, Nat.le_refl _, Nat.le_refl _, Nat.le_refl _⟩ ⟨Nat.le_refl _, Nat.le_refl _⟩ (fun _ _ h => h) (fun _ _ _ _ _ h => ?_) (fun _ h => h)) (by decide) (fun sz => r_pass l D T XR LR tgR sz E B x) (by decide) (by unfold s_pass; rw [if_neg h1, if_neg h2])
      unfold z_L_pass at h
      rw [if_neg h1, if_neg h2] at h
      exact h
theorem pr_letters (P : PX t0 X L tg A XR LR tgR B q) : PairI l D T t0 X L tg A XR LR tgR B q yL_letters wsL_letters yM_letters wsM_letters [] :=
  PairI.rd P (fun sz => c_L_letters l D T X L tg sz A _ (P.2.2.1.inn (Sim.lv0 (by simp))) (P.2.2.1.inn (Sim.lv0 (by simp)))) (by decide) (fun sz => r_letters l D T XR LR tgR sz P.2.2.2 B) (by decide) (by unfold s_letters z_L_letters; rw [P.2.1.R.C.w])
end PRS
