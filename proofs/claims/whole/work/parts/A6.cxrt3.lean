theorem s_rt_ask {B : ew_R} {ln st ak rq w lg : Nat} {tl : Int32} (h : B 18 0 ln = 0) : s_takeRequester B ln 4 tl st ak rq w lg = s_askNext B ln st ak rq w lg := by
  unfold s_takeRequester
  rw [h]
  simp (decide := true)
def IvO (q ln b m : Nat) (A B : ew_R) : Prop := (m = 0 ∧ Sim A B q) ∨ (m = 1 ∧ ((Sim A B (q + 1) ∧ ¬ p_k B ln = b) ∨ (Sim A B q ∧ B 18 0 ln = 9)))
theorem s_rt_9 {B : ew_R} {ln st ak rq w lg : Nat} {k tl : Int32} (h : B 18 0 ln = 9) : s_takeRequester B ln k tl st ak rq w lg = B := by
  unfold s_takeRequester
  rw [h]
  simp (decide := true)
theorem cx_rt1 (l : Launch) (D : va_G) (T : Nat → ClassId) (t0 : Nat × Nat) (X : Nat → Nat → Nat) (L : List Nat) (tg : Nat → Nat × Nat) (sz : Nat) (A : ew_R) {B : ew_R} {q d ln b j m : Nat} {k tl : Int32} (hq : q < 512) (P : IvO q ln b m A B) (W : WI t0 X L tg (up3 A 5 d 4 (A 5 d 4 + 1))) (hd : ¬ B 22 0 d = 0) (ed : d = 6 * ln + b) (hb : b < 6) (hs : p_s B (2 * d) < p_n B (2 * d + 1)) (hL : tkL A B d j k tl) (th lo dl lt : Nat) (hth : ew_in X L tg 0 0 th) (hlo : ew_in X L tg 2 ln lo) (hdl : ew_in X L tg 4 d dl) (hlt : ew_in X L tg 19 (512 * d + p_s B (2 * d)) lt) :
    (∃ A', Met l yL_requesterTakes wsL_requesterTakes ({ frames := 12, cells := 0, slots := 0, locals := 390 }) (ec_Pc D vwCl (tysA T) (cfC T) X L tg (up3 A 5 d 4 (A 5 d 4 + 1)) sz [.ref th, .ref lo, .ref dl, .ref lt]) (er_Qv D vwCl (cfC T) X L tg sz (fun u => u = A')) 0 0 (ew_A L sz)
      ∧ IvO q ln b m A' (if nI b = B 16 0 ln then s_takeRequester (up3 B 30 0 (2 * d) (B 30 0 (2 * d) + 1)) ln k tl (p_t B ln) (p_x B ln) (p_q B ln) (wtB B) (lgB B) else up3 B 30 0 (2 * d) (B 30 0 (2 * d) + 1)) ∧ WI t0 X L tg A') ∨
    (m = 0 ∧ Met l yL_requesterTakes wsL_requesterTakes ({ frames := 12, cells := 8, slots := 1032, locals := 390 }) (em_Pc D vwCl (tysA T) (cfC T) t0 X L tg (up3 A 5 d 4 (A 5 d 4 + 1)) sz [.ref th, .ref lo, .ref dl, .ref lt])
      (em_Qv D vwCl (cfC T) L sz (fun u => IvO q ln b 1 u.2.2.2 (if nI b = B 16 0 ln then s_takeRequester (up3 B 30 0 (2 * d) (B 30 0 (2 * d) + 1)) ln k tl (p_t B ln) (p_x B ln) (p_q B ln) (wtB B) (lgB B) else up3 B 30 0 (2 * d) (B 30 0 (2 * d) + 1)) ∧ PW t0 X L tg u)) 8 1032 (ew_A L sz)) := by
  have wd : ∀ {post : ew_R → Prop} {rm : Room}, Met l yL_requesterTakes wsL_requesterTakes rm (ec_Pc D vwCl (tysA T) (cfC T) X L tg (up3 A 5 d 4 (A 5 d 4 + 1)) sz [.ref th, .ref lo, .ref dl, .ref lt]) (er_Qv D vwCl (cfC T) X L tg sz post) 0 0 (ew_A L sz) → (rm.frames ≤ 12 ∧ rm.locals ≤ 390 ∧ rm.cells ≤ 0 ∧ rm.slots ≤ 0) → Met l yL_requesterTakes wsL_requesterTakes ({ frames := 12, cells := 0, slots := 0, locals := 390 }) (ec_Pc D vwCl (tysA T) (cfC T) X L tg (up3 A 5 d 4 (A 5 d 4 + 1)) sz [.ref th, .ref lo, .ref dl, .ref lt]) (er_Qv D vwCl (cfC T) X L tg sz post) 0 0 (ew_A L sz) :=
    fun h hr => mt_mono h hr ⟨Nat.le_refl _, Nat.le_refl _⟩ (fun _ _ q => q) (fun _ _ _ _ _ q => q) (fun _ q => q)
  have oA : ∀ c, c ≠ 5 → up3 A 5 d 4 (A 5 d 4 + 1) c = A c := fun c h => p_kd_up _ _ _ _ h
  have oB : ∀ c, c ≠ 30 → up3 B 30 0 (2 * d) (B 30 0 (2 * d) + 1) c = B c := fun c h => p_kd_up _ _ _ _ h
  have hpk2 : ∀ l, p_k (up3 B 30 0 (2 * d) (B 30 0 (2 * d) + 1)) l = p_k B l := fun l => by unfold p_k; rw [oB 16 (by decide)]
  have hS0 : ∃ q', Sim A B q' := by rcases P with ⟨_, S⟩ | ⟨_, ⟨S, _⟩ | ⟨S, _⟩⟩ <;> exact ⟨_, S⟩
  obtain ⟨q', S0⟩ := hS0
  have hl : ln < p_l B := by have := S0.d6 hd; rw [ed] at this; omega
  have l32 : ln < 32 := by have := S0.I.S.2.1.2; omega
  obtain ⟨-, hk16, hk6, hkd⟩ := S0.I.L.2.1 ln hl
  by_cases hpk : p_k B ln = b
  · have S : Sim A B q := by
      rcases P with ⟨_, S⟩ | ⟨_, ⟨_, h⟩ | ⟨S, _⟩⟩
      · exact S
      · exact absurd hpk h
      · exact S
    have m0 : B 18 0 ln = 0 → m = 0 := fun z => by
      rcases P with ⟨h, _⟩ | ⟨_, ⟨_, h⟩ | ⟨_, h⟩⟩
      · exact h
      · exact absurd hpk h
      · exact absurd (z.symm.trans h) (by decide)
    rw [if_pos (by rw [hk16, hpk])]
    have ed' : d = 6 * ln + p_k B ln := by rw [hpk]; exact ed
    have S2 := S.seen5 hd hs
    have K := S.I.L.1 ln hl
    obtain ⟨⟨e11, q6⟩, ⟨e14, t6⟩, ⟨e15, x7⟩, -, -, -⟩ := K
    have q7 : up3 A 5 d 4 (A 5 d 4 + 1) 2 ln 7 = nI d := by rw [oA 2 (by decide), (S.R.D.1 ln hl).2, ed']
    have q1 : up3 A 5 d 4 (A 5 d 4 + 1) 2 ln 1 = nI (p_q B ln) := by rw [oA 2 (by decide)]; exact (congrFun S.R.C.l1 ln).trans e11
    have q3 : up3 A 5 d 4 (A 5 d 4 + 1) 2 ln 3 = nI (p_t B ln) := by rw [oA 2 (by decide)]; exact (congrFun S.R.C.l3 ln).trans e14
    have e3 : up3 A 5 d 4 (A 5 d 4 + 1) 3 ln 0 = B 18 0 ln := by rw [oA 3 (by decide)]; exact congrFun S.R.C.g0 ln
    have ek : up3 A 5 d 4 (A 5 d 4 + 1) 19 (512 * d + p_s B (2 * d)) 1 = k := by rw [oA 19 (by decide)]; exact hL.2.2.2.2.2.1
    have hl2 : ln < p_l (up3 B 30 0 (2 * d) (B 30 0 (2 * d) + 1)) := by unfold p_l; rw [oB 0 (by decide)]; exact hl
    have i3 := W.inn (S2.lv2 hl2 (kd := 3) (by simp))
    have i13 := W.inn (S2.lv2 hl2 (kd := 13) (by simp))
    have i11 := W.inn (Sim.lv0 (A := up3 A 5 d 4 (A 5 d 4 + 1)) (kd := 11) (by simp))
    have i7 := W.inn (Sim.lv0 (A := up3 A 5 d 4 (A 5 d 4 + 1)) (kd := 7) (by simp))
    have i12 := W.inn (Sim.lv0 (A := up3 A 5 d 4 (A 5 d 4 + 1)) (kd := 12) (by simp))
    by_cases hno : B 18 0 ln = 0 ∧ k = 4
    · obtain ⟨r0, k4⟩ := hno
      subst k4
      have ed2 : d = 6 * ln + p_k (up3 B 30 0 (2 * d) (B 30 0 (2 * d) + 1)) ln := by rw [hpk2]; exact ed'
      have r02 : up3 B 30 0 (2 * d) (B 30 0 (2 * d) + 1) 18 0 ln = 0 := by rw [oB 18 (by decide)]; exact r0
      rw [s_rt_ask r02]
      have h4 : p_has (up3 B 30 0 (2 * d) (B 30 0 (2 * d) + 1)) (2 * d + 1) 4 := ⟨j, by unfold lgB; rw [oB 0 (by decide)]; exact hL.1, by rw [oB 32 (by decide)]; exact hL.2.1, by rw [oB 34 (by decide)]; exact hL.2.2.2.1⟩
      have es : p_t B ln = p_t (up3 B 30 0 (2 * d) (B 30 0 (2 * d) + 1)) ln := by unfold p_t; rw [oB 14 (by decide)]
      have ea : p_x B ln = p_x (up3 B 30 0 (2 * d) (B 30 0 (2 * d) + 1)) ln := by unfold p_x; rw [oB 15 (by decide)]
      have eq : p_q B ln = p_q (up3 B 30 0 (2 * d) (B 30 0 (2 * d) + 1)) ln := by unfold p_q; rw [oB 11 (by decide)]
      have ew : wtB B = wtB (up3 B 30 0 (2 * d) (B 30 0 (2 * d) + 1)) := by unfold wtB; rw [oB 0 (by decide)]
      have elg : lgB B = lgB (up3 B 30 0 (2 * d) (B 30 0 (2 * d) + 1)) := by unfold lgB; rw [oB 0 (by decide)]
      obtain ⟨hsk, hx1, hgo⟩ := S2.rota hl2
      rw [← es, ← ea, ← eq] at hsk hx1 hgo
      have hw := S.I.S.2.2.2.1
      have qw : up3 A 5 d 4 (A 5 d 4 + 1) 7 0 1 = nI (wtB B) := by rw [oA 7 (by decide)]; exact S.R.C.w.trans hw.1
      have e4x : ∀ b, b < 6 → ¬ up3 A 5 d 4 (A 5 d 4 + 1) 13 ln b = 0 → ew_in X L tg 4 (6 * ln + b) (X 4 (6 * ln + b)) := fun b hb h => W.inn (S2.lv4 (kd := 4) (by rw [← S2.R.C.th ln b hb]; exact h) (by simp))
      by_cases hx : p_nxt (p_t B ln) (p_x B ln) (p_q B ln) < 6
      · obtain ⟨hne, hz⟩ := hgo hx
        have hm6 : (p_t B ln + p_nxt (p_t B ln) (p_x B ln) (p_q B ln)) % 6 < 6 := Nat.mod_lt _ (by decide)
        have nth : ¬ p_th (up3 A 5 d 4 (A 5 d 4 + 1)) (6 * ln + (p_t B ln + p_nxt (p_t B ln) (p_x B ln) (p_q B ln)) % 6) := fun z => z.1 (by rw [show (6 * ln + (p_t B ln + p_nxt (p_t B ln) (p_x B ln) (p_q B ln)) % 6) / 6 = ln by omega, show (6 * ln + (p_t B ln + p_nxt (p_t B ln) (p_x B ln) (p_q B ln)) % 6) % 6 = (p_t B ln + p_nxt (p_t B ln) (p_x B ln) (p_q B ln)) % 6 by omega]; exact hz)
        obtain ⟨f1, f2, f3⟩ := W.fr4 nth
        refine Or.inr ⟨m0 r0, em_imp_v (c_L_rt_go l D T t0 X L tg sz _ ln th lo (p_t B ln) (p_q B ln) (wtB B) hth hlo i3 i13 e4x i7 i12 l32 t6 q6 q3 q1 hw.2 qw W.cl d dl hdl (S.d192 hd) q7 _ lt hlt (e3.trans r0) ek _ hx1 hx (fun k h1 h2 => hsk k h1 h2 (by omega)) hne hz (W.1 _).1 (W.1 _).2 f1 f2 f3) (by decide) (by decide) (fun u ⟨h1, h2⟩ => ?_)⟩
        have q0 : up3 A 5 d 4 (A 5 d 4 + 1) 2 ln 0 = nI ln := by rw [oA 2 (by decide)]; exact (S.R.D.1 ln hl).1
        have Sn := S2.next hq hl2 ed2 es ea eq ew elg hx r02 h4 (by rw [oB 11 (by decide), e11]; exact p_nd_ask q0 hm6)
        have e13 : up3 A 5 d 4 (A 5 d 4 + 1) 2 ln 4 = up3 B 30 0 (2 * d) (B 30 0 (2 * d) + 1) 13 0 ln := congrFun S2.R.C.l4 ln
        refine ⟨Or.inr ⟨rfl, Or.inl ⟨?_, ?_⟩⟩, ?_, h1.2.1⟩
        · rw [h2]; unfold z_ask; rw [e13]; exact Sn
        · rw [s_askNext_go _ _ _ _ _ _ _ hx]
          have N := (p_nb_nx (up3 B 30 0 (2 * d) (B 30 0 (2 * d) + 1)) ln (p_t B ln) (p_x B ln) (p_q B ln) es.symm).e16
          unfold p_k
          rw [s_write_oth _ _ _ _ _ _ (by decide), N, va_up_self, nI_clamp (by omega), ← es]
          intro z
          rw [z] at hz
          exact hd (by rw [ed, ← S.R.C.th ln b hb, ← oA 13 (by decide)]; exact hz)
        · rw [h2]
          exact W.ask l32 hm6 (by rw [oA 0 (by decide), S.R.C.nl]; exact hl) hz h1
      · refine Or.inr ⟨m0 r0, em_imp_v (c_L_rt_end l D T t0 X L tg sz _ ln th lo (p_t B ln) (p_q B ln) (wtB B) hth hlo i3 i13 e4x i7 i12 l32 t6 q6 q3 q1 hw.2 qw W.cl d dl hdl (S.d192 hd) q7 _ lt hlt (e3.trans r0) ek (fun k h1 h2 => hsk k h1 (by omega) h2)) (by decide) (by decide) (fun u ⟨h1, h2⟩ => ?_)⟩
        have m := p_ea_ask (up3 A 5 d 4 (A 5 d 4 + 1)) ln
        refine ⟨Or.inr ⟨rfl, Or.inr ⟨?_, ?_⟩⟩, PW.nil (W.up ?_ ?_ ?_) h1 h2⟩
        · rw [h2]; exact S2.last hl2 ed2 es ea eq hx r02 h4 m
        · have hE := S2.last (w := wtB B) (lg := lgB B) hl2 ed2 es ea eq hx r02 h4 m
          rw [← congrFun hE.R.C.g0 ln]
          show z_askEnd _ _ 3 ln 0 = 9
          rw [m.a3 ln 0 (by decide), if_pos rfl, if_pos rfl]
        · rw [m.o 0 (by decide)]
        · rw [m.o 0 (by decide)]
        · exact fun c hc => m.o c (by omega)
    · obtain ⟨St, fa, fb⟩ := S.tkO (st := p_t B ln) (ak := p_x B ln) (rq := p_q B ln) (w := wtB B) (lg := lgB B) hl ed' hs hL hno
      left
      have WF : WI t0 X L tg (z_rt (up3 A 5 d 4 (A 5 d 4 + 1)) ln d (512 * d + p_s B (2 * d)) (p_q B ln)) := by
        refine W.up ?_ ?_ ?_
        · rw [fa 0 (by decide) (by decide)]
        · rw [fa 0 (by decide) (by decide)]
        · exact fun c hc => fa c (by omega) (by omega)
      have PF : IvO q ln b m (z_rt (up3 A 5 d 4 (A 5 d 4 + 1)) ln d (512 * d + p_s B (2 * d)) (p_q B ln)) (s_takeRequester (up3 B 30 0 (2 * d) (B 30 0 (2 * d) + 1)) ln k tl (p_t B ln) (p_x B ln) (p_q B ln) (wtB B) (lgB B)) := by
        rcases P with ⟨h, _⟩ | ⟨h, ⟨_, h'⟩ | ⟨_, h9⟩⟩
        · exact Or.inl ⟨h, St⟩
        · exact absurd hpk h'
        · refine Or.inr ⟨h, Or.inr ⟨St, ?_⟩⟩
          rw [s_rt_9 (by rw [oB 18 (by decide)]; exact h9), oB 18 (by decide)]; exact h9
      by_cases h10 : up3 A 5 d 4 (A 5 d 4 + 1) 3 ln 0 = 10
      · refine ⟨_, wd (c_L_rt_10 l D T X L tg sz _ ln d _ th hth lo hlo dl hdl lt hlt (p_q B ln) i3 i11 q7 (S.d192 hd) q6 q1 h10) (by decide), ?_⟩
        rw [show z_L_rt_10 (up3 A 5 d 4 (A 5 d 4 + 1)) ln d (512 * d + p_s B (2 * d)) (p_q B ln) = z_rt (up3 A 5 d 4 (A 5 d 4 + 1)) ln d (512 * d + p_s B (2 * d)) (p_q B ln) by unfold z_rt; rw [if_pos h10]]
        exact ⟨PF, WF⟩
      · by_cases h0 : up3 A 5 d 4 (A 5 d 4 + 1) 3 ln 0 = 0
        · refine ⟨_, wd (c_L_rt_0 l D T X L tg sz _ ln d _ th hth lo hlo dl hdl lt hlt (p_q B ln) i3 i11 q7 (S.d192 hd) q6 q1 h0 (fun z => hno ⟨e3.symm.trans h0, ek.symm.trans z⟩)) (by decide), ?_⟩
          rw [show z_L_rt_0 (up3 A 5 d 4 (A 5 d 4 + 1)) ln d (512 * d + p_s B (2 * d)) (p_q B ln) = z_rt (up3 A 5 d 4 (A 5 d 4 + 1)) ln d (512 * d + p_s B (2 * d)) (p_q B ln) by unfold z_rt; rw [if_neg h10, if_pos h0]]
          exact ⟨PF, WF⟩
        · refine ⟨_, wd (c_L_rt_n l D T X L tg sz _ ln d _ th hth lo hlo dl hdl lt hlt (p_q B ln) i3 i11 q7 (S.d192 hd) q6 q1 h10 h0) (by decide), ?_⟩
          rw [show z_L_rt_n (up3 A 5 d 4 (A 5 d 4 + 1)) ln d (512 * d + p_s B (2 * d)) (p_q B ln) = z_rt (up3 A 5 d 4 (A 5 d 4 + 1)) ln d (512 * d + p_s B (2 * d)) (p_q B ln) by unfold z_rt; rw [if_neg h10, if_neg h0]]
          exact ⟨PF, WF⟩
  · rw [if_neg (fun z => hpk (by rw [hk16] at z; have := congrArg Int32.toNatClampNeg z; rw [nI_clamp (by omega), nI_clamp (by omega)] at this; exact this.symm))]
    have hd' : ¬ B 22 0 (6 * ln + p_k B ln) = 0 := hkd
    have i4 : ew_in X L tg 4 (6 * ln + p_k B ln) (X 4 (6 * ln + p_k B ln)) := by
      have S2 := S0.seen5 hd hs
      exact W.inn (S2.lv4 (kd := 4) (by rw [oB 22 (by decide)]; exact hd') (by simp))
    refine Or.inl ⟨_, wd (c_L_rt_np l D T X L tg sz _ ln d _ th hth lo hlo dl hdl lt hlt (6 * ln + p_k B ln) i4 (by rw [oA 2 (by decide)]; exact (S0.R.D.1 ln hl).2) (by omega) (by omega)) (by decide), ?_, W⟩
    show IvO q ln b m (up3 A 5 d 4 (A 5 d 4 + 1)) _
    rcases P with ⟨h, S⟩ | ⟨h, ⟨S, _⟩ | ⟨S, h9⟩⟩
    · exact Or.inl ⟨h, S.seen5 hd hs⟩
    · exact Or.inr ⟨h, Or.inl ⟨S.seen5 hd hs, by rw [hpk2]; exact hpk⟩⟩
    · exact Or.inr ⟨h, Or.inr ⟨S.seen5 hd hs, by rw [oB 18 (by decide)]; exact h9⟩⟩
