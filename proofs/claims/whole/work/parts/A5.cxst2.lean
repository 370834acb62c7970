/-! The supplier takes a letter: what makes nothing apart from what writes a letter -/
theorem z_st_pn {A : ew_R} {d t g n w : Nat} (h : ¬ A 6 t 1 = 15) : z_L_supplierTakes_n A d t g n w = ([], z_L_supplierTakes_pn A d t) := by
  unfold z_L_supplierTakes_n z_L_supplierTakes_pn
  by_cases k1 : A 6 t 1 = 1
  · rw [if_pos k1, if_pos k1]
    try (split <;> rfl)
  rw [if_neg k1, if_neg k1]
  by_cases k2 : A 6 t 1 = 2
  · rw [if_pos k2, if_pos k2]
    try (split <;> rfl)
  rw [if_neg k2, if_neg k2]
  by_cases k3 : A 6 t 1 = 3
  · rw [if_pos k3, if_pos k3]
    try (split <;> rfl)
  rw [if_neg k3, if_neg k3]
  by_cases k4 : A 6 t 1 = 4
  · rw [if_pos k4, if_pos k4]
    try (split <;> rfl)
  rw [if_neg k4, if_neg k4]
  by_cases k5 : A 6 t 1 = 5
  · rw [if_pos k5, if_pos k5]
    try (split <;> rfl)
  rw [if_neg k5, if_neg k5]
  by_cases k6 : A 6 t 1 = 6
  · rw [if_pos k6, if_pos k6]
    try (split <;> rfl)
  rw [if_neg k6, if_neg k6]
  by_cases k7 : A 6 t 1 = 7
  · rw [if_pos k7, if_pos k7]
    try (split <;> rfl)
  rw [if_neg k7, if_neg k7]
  by_cases k8 : A 6 t 1 = 8
  · rw [if_pos k8, if_pos k8]
    try (split <;> rfl)
  rw [if_neg k8, if_neg k8]
  by_cases k9 : A 6 t 1 = 9
  · rw [if_pos k9, if_pos k9]
    try (split <;> rfl)
  rw [if_neg k9, if_neg k9]
  by_cases k10 : A 6 t 1 = 10
  · rw [if_pos k10, if_pos k10]
    try (split <;> rfl)
  rw [if_neg k10, if_neg k10]
  by_cases k11 : A 6 t 1 = 11
  · rw [if_pos k11, if_pos k11]
    try (split <;> rfl)
  rw [if_neg k11, if_neg k11]
  by_cases k12 : A 6 t 1 = 12
  · rw [if_pos k12, if_pos k12]
    try (split <;> rfl)
  rw [if_neg k12, if_neg k12]
  by_cases k13 : A 6 t 1 = 13
  · rw [if_pos k13, if_pos k13]
    try (split <;> rfl)
  rw [if_neg k13, if_neg k13]
  by_cases k14 : A 6 t 1 = 14
  · rw [if_pos k14, if_pos k14]
    try (split <;> rfl)
  rw [if_neg k14, if_neg k14]
  rw [if_neg h]
theorem z_st_pc {A : ew_R} {d t g n w cp b : Nat} (h : ¬ A 6 t 1 = 15) : z_L_supplierTakes_c A d t g n w cp b = ([], z_L_supplierTakes_pc A d t cp b) := by
  unfold z_L_supplierTakes_c z_L_supplierTakes_pc
  by_cases k1 : A 6 t 1 = 1
  · rw [if_pos k1, if_pos k1]
    try (split <;> rfl)
  rw [if_neg k1, if_neg k1]
  by_cases k2 : A 6 t 1 = 2
  · rw [if_pos k2, if_pos k2]
    try (split <;> rfl)
  rw [if_neg k2, if_neg k2]
  by_cases k3 : A 6 t 1 = 3
  · rw [if_pos k3, if_pos k3]
    try (split <;> rfl)
  rw [if_neg k3, if_neg k3]
  by_cases k4 : A 6 t 1 = 4
  · rw [if_pos k4, if_pos k4]
    try (split <;> rfl)
  rw [if_neg k4, if_neg k4]
  by_cases k5 : A 6 t 1 = 5
  · rw [if_pos k5, if_pos k5]
    try (split <;> rfl)
  rw [if_neg k5, if_neg k5]
  by_cases k6 : A 6 t 1 = 6
  · rw [if_pos k6, if_pos k6]
    try (split <;> rfl)
  rw [if_neg k6, if_neg k6]
  by_cases k7 : A 6 t 1 = 7
  · rw [if_pos k7, if_pos k7]
    try (split <;> rfl)
  rw [if_neg k7, if_neg k7]
  by_cases k8 : A 6 t 1 = 8
  · rw [if_pos k8, if_pos k8]
    try (split <;> rfl)
  rw [if_neg k8, if_neg k8]
  by_cases k9 : A 6 t 1 = 9
  · rw [if_pos k9, if_pos k9]
    try (split <;> rfl)
  rw [if_neg k9, if_neg k9]
  by_cases k10 : A 6 t 1 = 10
  · rw [if_pos k10, if_pos k10]
    try (split <;> rfl)
  rw [if_neg k10, if_neg k10]
  by_cases k11 : A 6 t 1 = 11
  · rw [if_pos k11, if_pos k11]
    try (split <;> rfl)
  rw [if_neg k11, if_neg k11]
  by_cases k12 : A 6 t 1 = 12
  · rw [if_pos k12, if_pos k12]
    try (split <;> rfl)
  rw [if_neg k12, if_neg k12]
  by_cases k13 : A 6 t 1 = 13
  · rw [if_pos k13, if_pos k13]
    try (split <;> rfl)
  rw [if_neg k13, if_neg k13]
  by_cases k14 : A 6 t 1 = 14
  · rw [if_pos k14, if_pos k14]
    try (split <;> rfl)
  rw [if_neg k14, if_neg k14]
  rw [if_neg h]
theorem z_st_15n {A : ew_R} {d t g n w : Nat} (h : A 6 t 1 = 15) : z_L_supplierTakes_n A d t g n w = z_L_supplierIsCancelled_n A d g n w := by
  unfold z_L_supplierTakes_n
  rw [h]
  simp (decide := true)
theorem z_st_15c {A : ew_R} {d t g n w cp b : Nat} (h : A 6 t 1 = 15) : z_L_supplierTakes_c A d t g n w cp b = z_L_supplierIsCancelled_c A d g n w cp := by
  unfold z_L_supplierTakes_c
  rw [h]
  simp (decide := true)
theorem nw15_ne (d g n : Nat) : nw_15 d g n ≠ [] := by unfold nw_15; split <;> simp
def IvE (q d m : Nat) (A B : ew_R) : Prop := (m = 0 ∧ Sim A B q) ∨ (m = 1 ∧ Sim A B (q + 1) ∧ B 23 0 d = 11)
theorem cx_st1 (l : Launch) (D : va_G) (T : Nat → ClassId) (t0 : Nat × Nat) (X : Nat → Nat → Nat) (L : List Nat) (tg : Nat → Nat × Nat) (sz : Nat) (A : ew_R) {B : ew_R} {q d ln b t m : Nat} {k : Int32} (hq : q < 512) (P : IvE q d m A B) (W : WI t0 X L tg A) (hd : ¬ B 22 0 d = 0) (ed : d = 6 * ln + b) (hb : b < 6) (hk : A 6 t 1 = k) (hh : p_has B (2 * d) k) (th dl lt : Nat) (hth : ew_in X L tg 0 0 th) (hdl : ew_in X L tg 4 d dl) (hlt : ew_in X L tg 6 t lt) :
    (∃ A', Met l yL_supplierTakes wsL_supplierTakes ({ frames := 11, cells := 0, slots := 0, locals := 350 }) (ec_Pc D vwCl (tysA T) (cfC T) X L tg A sz [.ref th, .ref dl, .ref lt]) (er_Qv D vwCl (cfC T) X L tg sz (fun u => u = A')) 0 0 (ew_A L sz) ∧ IvE q d m A' (s_takeSupplier B ln d k (wtB B) (lgB B)) ∧ WI t0 X L tg A') ∨
    (m = 0 ∧ Met l yL_supplierTakes wsL_supplierTakes ({ frames := 11, cells := 2, slots := 1004, locals := 350 }) (em_Pc D vwCl (tysA T) (cfC T) t0 X L tg A sz [.ref th, .ref dl, .ref lt]) (em_Qv D vwCl (cfC T) L sz (fun u => IvE q d 1 u.2.2.2 (s_takeSupplier B ln d k (wtB B) (lgB B)) ∧ PW t0 X L tg u)) 2 1004 (ew_A L sz)) := by
  have wd : ∀ {post : ew_R → Prop} {rm : Room}, Met l yL_supplierTakes wsL_supplierTakes rm (ec_Pc D vwCl (tysA T) (cfC T) X L tg A sz [.ref th, .ref dl, .ref lt]) (er_Qv D vwCl (cfC T) X L tg sz post) 0 0 (ew_A L sz) → (rm.frames ≤ 11 ∧ rm.locals ≤ 350 ∧ rm.cells ≤ 0 ∧ rm.slots ≤ 0) → Met l yL_supplierTakes wsL_supplierTakes ({ frames := 11, cells := 0, slots := 0, locals := 350 }) (ec_Pc D vwCl (tysA T) (cfC T) X L tg A sz [.ref th, .ref dl, .ref lt]) (er_Qv D vwCl (cfC T) X L tg sz post) 0 0 (ew_A L sz) :=
    fun h hr => mt_mono h hr ⟨Nat.le_refl _, Nat.le_refl _⟩ (fun _ _ q => q) (fun _ _ _ _ _ q => q) (fun _ q => q)
  rcases P with ⟨rfl, S⟩ | ⟨rfl, S, h11⟩
  · obtain ⟨g, hg, hLS, hn6, hn14, hn⟩ := S.sup15 hq W hd
    have hw := S.I.S.2.2.2.1
    have e17 := W.inn (S.lv4 hd (kd := 17) (by simp))
    have e15 := W.inn (S.lv4 hd (kd := 15) (by simp))
    have e16 := W.inn (S.lv4 hd (kd := 16) (by simp))
    have e7 := W.inn (Sim.lv0 (A := A) (kd := 7) (by simp))
    have e12 := W.inn (Sim.lv0 (A := A) (kd := 12) (by simp))
    have e11 := W.inn (Sim.lv0 (A := A) (kd := 11) (by simp))
    have qw : A 7 0 1 = nI (wtB B) := S.R.C.w.trans hw.1
    have up : ∀ A', (∀ c, c ≠ 1 → c ≠ 11 → c ≠ 17 → A' c = A c) → WI t0 X L tg A' := fun A' f => W.up (by rw [f 0 (by decide) (by decide) (by decide)]) (by rw [f 0 (by decide) (by decide) (by decide)]) (fun c hc => f c (by omega) (by omega) (by omega))
    rcases (S.P.cd d hd).1 with h4 | ⟨cp, hcp, h4, -⟩
    · obtain ⟨hout, O⟩ := S.tkE_n (ln := ln) (t := t) hd hk hh rfl rfl rfl hg h4
      have O' := O
      rcases O.2 with ⟨e1, s1, f1, -⟩ | ⟨e1, n11, s1, h11, hA0⟩
      · left
        by_cases h15 : A 6 t 1 = 15
        · have hz := z_st_15n (d := d) (g := g) (n := p_n B (2 * d + 1)) (w := wtB B) h15
          rw [hz] at e1 s1 f1
          by_cases s9 : A 17 d 0 = 1 ∨ A 17 d 0 = 2 ∨ A 17 d 0 = 3
          · exfalso
            unfold z_L_supplierIsCancelled_n at e1
            rcases s9 with s9 | s9 | s9 <;> rw [s9] at e1 <;> exact nw15_ne _ _ _ (by simpa using e1)
          · have hs1 : ¬ A 17 d 0 = 1 := fun z => s9 (by simp [z])
            have hs2 : ¬ A 17 d 0 = 2 := fun z => s9 (by simp [z])
            have hs3 : ¬ A 17 d 0 = 3 := fun z => s9 (by simp [z])
            have hA : (z_L_supplierIsCancelled_n A d g (p_n B (2 * d + 1)) (wtB B)).2 = A := by unfold z_L_supplierIsCancelled_n; rw [if_neg hs1, if_neg hs2, if_neg hs3]
            rw [hA] at s1 f1
            exact ⟨A, wd (c_L_supplierTakes_q l D T X L tg sz A d t th hth dl hdl lt hlt e17 hs1 hs2 hs3 h15) (by decide), Or.inl ⟨rfl, s1⟩, W⟩
        · have hz := z_st_pn (d := d) (g := g) (n := p_n B (2 * d + 1)) (w := wtB B) h15
          rw [hz] at s1 f1
          exact ⟨_, wd (c_L_supplierTakes_pn l D T X L tg sz A d t th hth dl hdl lt hlt e17 hout h15) (by decide), Or.inl ⟨rfl, s1⟩, up _ f1⟩
      · right
        refine ⟨rfl, em_imp_v (c_L_supplierTakes_n l D T t0 X L tg sz A d t th hth dl hdl lt hlt g _ (wtB B) e17 e15 e16 e7 e12 (S.d192 hd) hn hLS hw.2 qw W.cl hn6 hn14 h4 hout) (by decide) (by decide) (fun u ⟨h1, h2⟩ => ?_)⟩
        exact ⟨Or.inr ⟨rfl, by rw [h2]; exact s1 hq, h11⟩, (O'.pw hq S W hd hg rfl h1 h2).2⟩
    · have hc32 : cp < 32 := by have := S.I.S.2.2.1.2; omega
      have O := S.tkE_c (ln := ln) (b := b) (t := t) hd ed hk hh rfl rfl rfl hg h4 hc32
      have q0 : A 4 d 0 = nI b := by rw [(S.R.D.2.1 d hd).h0]; congr 1; omega
      have O' := O
      have e1' := W.inn (S.lv1 hcp)
      rcases O.2 with ⟨e1, s1, f1, -⟩ | ⟨e1, n11, s1, h11, hA0⟩
      · left
        by_cases h15 : A 6 t 1 = 15
        · have hz := z_st_15c (d := d) (g := g) (n := p_n B (2 * d + 1)) (w := wtB B) (cp := cp) (b := b) h15
          rw [hz] at e1 s1 f1
          by_cases s9 : A 17 d 0 = 1 ∨ A 17 d 0 = 2 ∨ A 17 d 0 = 3
          · exfalso
            unfold z_L_supplierIsCancelled_c at e1
            rcases s9 with s9 | s9 | s9 <;> rw [s9] at e1 <;> exact nw15_ne _ _ _ (by simpa using e1)
          · have hs1 : ¬ A 17 d 0 = 1 := fun z => s9 (by simp [z])
            have hs2 : ¬ A 17 d 0 = 2 := fun z => s9 (by simp [z])
            have hs3 : ¬ A 17 d 0 = 3 := fun z => s9 (by simp [z])
            have hA : (z_L_supplierIsCancelled_c A d g (p_n B (2 * d + 1)) (wtB B) cp).2 = A := by unfold z_L_supplierIsCancelled_c; rw [if_neg hs1, if_neg hs2, if_neg hs3]
            rw [hA] at s1 f1
            exact ⟨A, wd (c_L_supplierTakes_q l D T X L tg sz A d t th hth dl hdl lt hlt e17 hs1 hs2 hs3 h15) (by decide), Or.inl ⟨rfl, s1⟩, W⟩
        · have hz := z_st_pc (d := d) (g := g) (n := p_n B (2 * d + 1)) (w := wtB B) (cp := cp) (b := b) h15
          rw [hz] at s1 f1
          exact ⟨_, wd (c_L_supplierTakes_pc l D T X L tg sz A d t th hth dl hdl lt hlt cp b e17 e1' e11 hc32 h4 hb q0 h15) (by decide), Or.inl ⟨rfl, s1⟩, up _ f1⟩
      · right
        refine ⟨rfl, em_imp_v (c_L_supplierTakes_c l D T t0 X L tg sz A d t th hth dl hdl lt hlt g _ (wtB B) cp b e17 e15 e16 e7 e12 e1' e11 (S.d192 hd) hn hLS hw.2 qw W.cl hn6 hn14 hc32 h4 hb q0) (by decide) (by decide) (fun u ⟨h1, h2⟩ => ?_)⟩
        exact ⟨Or.inr ⟨rfl, by rw [h2]; exact s1 hq, h11⟩, (O'.pw hq S W hd hg rfl h1 h2).2⟩
  · left
    have hst : A 17 d 0 = 11 := (congrFun S.R.C.d0 d).trans h11
    have e17 := W.inn (S.lv4 hd (kd := 17) (by simp))
    have h := c_L_supplierTakes_x l D T X L tg sz A d t th hth dl hdl lt hlt e17 hst
    rw [z_st_x hst] at h
    refine ⟨A, wd h (by decide), ?_, W⟩
    rw [s_st_x h11]; exact Or.inr ⟨rfl, S, h11⟩
