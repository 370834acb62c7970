/-! The supplier takes a letter: the contract in the relation's words -/
def PeE (q d : Nat) (A B : ew_R) : Prop := Sim A B q ∨ (Sim A B (q + 1) ∧ B 23 0 d = 11)
theorem s_st_x {B : ew_R} {ln d w lg : Nat} {k : Int32} (h : B 23 0 d = 11) : s_takeSupplier B ln d k w lg = B := by
  unfold s_takeSupplier
  rw [h]
  simp (decide := true)
theorem WI.nil {t0 : Nat × Nat} {X X' : Nat → Nat → Nat} {L L' : List Nat} {tg tg' : Nat → Nat × Nat} {A : ew_R} (W : WI t0 X L tg A) (h : em_S [] X L tg X' L' tg') : WI t0 X' L' tg' A :=
  W.mk h (fun kd id => by simp) (clC_S W.cl h (fun b hb c i hr => Or.inr (Or.inl hr)) (fun t ht => absurd ht (by simp)))
theorem PW.nil {t0 : Nat × Nat} {X : Nat → Nat → Nat} {L : List Nat} {tg : Nat → Nat × Nat} {A : ew_R} {u : ec_S} (W : WI t0 X L tg A) (h : em_S [] X L tg u.1 u.2.1 u.2.2.1) (e : u.2.2.2 = A) : PW t0 X L tg u := ⟨by rw [e]; exact W.nil h, h.2.1⟩
theorem OutE.pw {t0 : Nat × Nat} {X : Nat → Nat → Nat} {L : List Nat} {tg : Nat → Nat × Nat} {A B R : ew_R} {q d g n : Nat} {Z : List (Nat × Nat) × ew_R} {u : ec_S} (O : OutE A B q d g n Z R) (hq : q < 512) (S : Sim A B q) (W : WI t0 X L tg A) (hd : ¬ B 22 0 d = 0) (hg : p_ls 16 20 A d g n) (en : n = p_n B (2 * d + 1)) (h1 : em_S Z.1 X L tg u.1 u.2.1 u.2.2.1) (h2 : u.2.2.2 = Z.2) : PeE q d u.2.2.2 R ∧ PW t0 X L tg u := by
  have hn : n < 512 := by rw [en]; have := S.nle (2 * d + 1); omega
  rcases O.2 with ⟨e1, s1, f1, -⟩ | ⟨e1, -, s1, h11, A0, w, k, t, e2, f1⟩
  · rw [e1] at h1
    refine ⟨Or.inl (by rw [h2]; exact s1), PW.nil (A := Z.2) ?_ h1 h2⟩
    exact W.up (by rw [f1 0 (by decide) (by decide) (by decide)]) (by rw [f1 0 (by decide) (by decide) (by decide)]) (fun c hc => f1 c (by omega) (by omega) (by omega))
  · rw [e1] at h1
    refine ⟨Or.inr ⟨by rw [h2]; exact s1 hq, h11⟩, ?_, h1.2.1⟩
    rw [h2, e2]
    have W0 : WI t0 X L tg A0 := W.up (by rw [f1 0 (by decide) (by decide)]) (by rw [f1 0 (by decide) (by decide)]) (fun c hc => f1 c (by omega) (by omega))
    refine W0.send15 ?_ (S.d192 hd) hn ?_ ?_ h1
    · have h := S.th.mpr hd
      unfold p_th at h ⊢
      rw [f1 13 (by decide) (by decide), f1 0 (by decide) (by decide)]; exact h
    · rw [f1 16 (by decide) (by decide), en]; exact S.n16 d
    · unfold p_ls at hg ⊢
      rw [f1 16 (by decide) (by decide), f1 20 (by decide) (by decide)]; exact hg
theorem cx_st (l : Launch) (D : va_G) (T : Nat → ClassId) (t0 : Nat × Nat) (X : Nat → Nat → Nat) (L : List Nat) (tg : Nat → Nat × Nat) (sz : Nat) (A : ew_R) {B : ew_R} {q d ln b t : Nat} {k : Int32} (hq : q < 512) (P : PeE q d A B) (W : WI t0 X L tg A) (hd : ¬ B 22 0 d = 0) (ed : d = 6 * ln + b) (hb : b < 6) (hk : A 6 t 1 = k) (hh : p_has B (2 * d) k) (th dl lt : Nat) (hth : ew_in X L tg 0 0 th) (hdl : ew_in X L tg 4 d dl) (hlt : ew_in X L tg 6 t lt) :
    Met l yL_supplierTakes wsL_supplierTakes ({ frames := 11, cells := 2, slots := 1004, locals := 350 }) (em_Pc D vwCl (tysA T) (cfC T) t0 X L tg A sz [.ref th, .ref dl, .ref lt]) (em_Qv D vwCl (cfC T) L sz (fun u => PeE q d u.2.2.2 (s_takeSupplier B ln d k (wtB B) (lgB B)) ∧ PW t0 X L tg u)) 2 1004 (ew_A L sz) := by
  rcases P with S | ⟨S, h11⟩
  · obtain ⟨g, hg, hLS, hn6, hn14, hn⟩ := S.sup15 hq W hd
    have hw := S.I.S.2.2.2.1
    have e17 := W.inn (S.lv4 hd (kd := 17) (by simp))
    have e15 := W.inn (S.lv4 hd (kd := 15) (by simp))
    have e16 := W.inn (S.lv4 hd (kd := 16) (by simp))
    have e7 := W.inn (Sim.lv0 (A := A) (kd := 7) (by simp))
    have e12 := W.inn (Sim.lv0 (A := A) (kd := 12) (by simp))
    have e11 := W.inn (Sim.lv0 (A := A) (kd := 11) (by simp))
    have qw : A 7 0 1 = nI (wtB B) := S.R.C.w.trans hw.1
    rcases (S.P.cd d hd).1 with h4 | ⟨cp, hcp, h4, -⟩
    · obtain ⟨hout, O⟩ := S.tkE_n (ln := ln) (t := t) hd hk hh rfl rfl rfl hg h4
      exact em_imp_v (c_L_supplierTakes_n l D T t0 X L tg sz A d t th hth dl hdl lt hlt g _ (wtB B) e17 e15 e16 e7 e12 (S.d192 hd) hn hLS hw.2 qw W.cl hn6 hn14 h4 hout) (by decide) (by decide) (fun u ⟨h1, h2⟩ => O.pw hq S W hd hg rfl h1 h2)
    · have hc32 : cp < 32 := by have := S.I.S.2.2.1.2; omega
      have O := S.tkE_c (ln := ln) (b := b) (t := t) hd ed hk hh rfl rfl rfl hg h4 hc32
      have q0 : A 4 d 0 = nI b := by rw [(S.R.D.2.1 d hd).h0]; congr 1; omega
      exact em_imp_v (c_L_supplierTakes_c l D T t0 X L tg sz A d t th hth dl hdl lt hlt g _ (wtB B) cp b e17 e15 e16 e7 e12 (W.inn (S.lv1 hcp)) e11 (S.d192 hd) hn hLS hw.2 qw W.cl hn6 hn14 hc32 h4 hb q0) (by decide) (by decide) (fun u ⟨h1, h2⟩ => O.pw hq S W hd hg rfl h1 h2)
  · have hst : A 17 d 0 = 11 := (congrFun S.R.C.d0 d).trans h11
    have e17 := W.inn (S.lv4 hd (kd := 17) (by simp))
    refine em_ofc_v (c_L_supplierTakes_x l D T X L tg sz A d t th hth dl hdl lt hlt e17 hst) (by decide) (by decide) (fun u hu => ?_)
    have hu : u = A := hu.trans (z_st_x hst)
    subst hu
    refine ⟨Or.inr ?_, W, fun c i a h => h⟩
    rw [s_st_x h11]; exact ⟨S, h11⟩
