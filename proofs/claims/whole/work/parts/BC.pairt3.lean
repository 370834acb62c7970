/-! act, side by side: decline -/
section PT3
variable {l : Launch} {D : va_G} {T : Nat → ClassId} {t0 : Nat × Nat} {X : Nat → Nat → Nat} {L : List Nat} {tg : Nat → Nat × Nat} {A : ew_R} {XR : Nat → Nat → Nat} {LR : List Nat} {tgR : Nat → Nat × Nat} {B : ew_R} {q : Nat}
theorem va_up_cm {α : Type} (f : Nat → α) {a b : Nat} (x y : α) (h : a ≠ b) : va_up (va_up f a x) b y = va_up (va_up f b y) a x := by
  funext c
  by_cases ha : c = a
  · subst ha
    rw [va_up_ne _ _ h, va_up_self, va_up_self]
  · by_cases hb : c = b
    · subst hb
      rw [va_up_self, va_up_ne _ _ ha, va_up_self]
    · rw [va_up_ne _ _ hb, va_up_ne _ _ ha, va_up_ne _ _ ha, va_up_ne _ _ hb]
theorem u3_rd (A : ew_R) {c l j : Nat} {v : Int32} (h : c ≠ 3) : up3 A 3 l j v c = A c := p_kd_up _ _ _ _ h
theorem u3_up (A : ew_R) {c i k l j : Nat} {x v : Int32} (h : c ≠ 3) : up3 (up3 A 3 l j v) c i k x = up3 (up3 A c i k x) 3 l j v := by
  show va_up (up3 A 3 l j v) c _ = _
  rw [u3_rd A h]
  show va_up (va_up A 3 _) c _ = va_up (up3 A c i k x) 3 _
  rw [p_kd_up A i k x (Ne.symm h)]
  exact va_up_cm _ _ _ (Ne.symm h)
theorem u3_upr (A : ew_R) {c i l j : Nat} {r : Nat → Int32} {v : Int32} (h : c ≠ 3) : upr (up3 A 3 l j v) c i r = up3 (upr A c i r) 3 l j v := by
  show va_up (up3 A 3 l j v) c _ = _
  rw [u3_rd A h]
  show va_up (va_up A 3 _) c _ = va_up (upr A c i r) 3 _
  rw [p_kd_upr A i r (Ne.symm h)]
  exact va_up_cm _ _ _ (Ne.symm h)
theorem u3_write5 (A : ew_R) (d g n l j : Nat) (kn tl v : Int32) : z_Side_write_5 (up3 A 3 l j v) d g n kn tl = up3 (z_Side_write_5 A d g n kn tl) 3 l j v := by
  unfold z_Side_write_5 z_Side_write_5n z_Side_write_5s z_Side_write_5f z_wl_6 z_Letter_init_6 z_AL_add_8 z_AL_add3_8 z_AL_add_8f z_AL_add3_8f z_AL_add_8s z_AL_add3_8s z_gr z_ga
  split
  · simp (decide := true) only [u3_up, u3_upr, u3_rd]
  · split <;> simp (decide := true) only [u3_up, u3_upr, u3_rd]
theorem u3_add56 (A : ew_R) (d t w l j : Nat) (v : Int32) : z_Row_add_5_6 (up3 A 3 l j v) d t w = up3 (z_Row_add_5_6 A d t w) 3 l j v := by
  unfold z_Row_add_5_6
  split <;> simp (decide := true) only [u3_up, u3_upr, u3_rd]
theorem u3_send5 (A : ew_R) (d g n w l j : Nat) (kn tl v : Int32) : z_L_send_5 (up3 A 3 l j v) d g n w kn tl = up3 (z_L_send_5 A d g n w kn tl) 3 l j v := by
  unfold z_L_send_5
  rw [u3_write5, u3_add56]
theorem p_nd.u3 {Y A' : ew_R} {ln d : Nat} {b rq v : Int32} (h : p_nd Y A' ln d b rq) : p_nd (up3 Y 3 ln 0 v) A' ln d b rq := by
  have o : ∀ c, c ≠ 3 → up3 Y 3 ln 0 v c = Y c := fun c hc => p_kd_up _ _ _ _ hc
  refine ⟨fun c hc => ?_, ?_, fun l k hk => ?_, ?_, ?_, ?_, ?_, ?_, ?_, ?_⟩
  · rw [o c (fun z => hc (by simp [z]))]; exact h.o c hc
  · rw [o 2 (by decide)]; exact h.a2
  · rw [h.a3 l k hk]
    by_cases hl : l = ln
    · rw [if_pos hl, if_pos hl]
    · rw [if_neg hl, if_neg hl, up3_ne _ _ (by omega)]
  · rw [o 4 (by decide)]; exact h.a4
  · rw [o 5 (by decide)]; exact h.a5
  · rw [o 8 (by decide)]; exact h.a8
  · rw [o 13 (by decide)]; exact h.a13
  · rw [o 15 (by decide)]; exact h.a15
  · rw [o 16 (by decide)]; exact h.a16
  · rw [o 17 (by decide)]; exact h.a17
theorem p_ea.u3 {Y A' : ew_R} {ln : Nat} {v : Int32} (h : p_ea Y A' ln) : p_ea (up3 Y 3 ln 0 v) A' ln := by
  refine ⟨fun c hc => ?_, fun l k hk => ?_⟩
  · rw [p_kd_up _ _ _ _ hc]; exact h.o c hc
  · rw [h.a3 l k hk]
    by_cases hl : l = ln
    · rw [if_pos hl, if_pos hl]
    · rw [if_neg hl, if_neg hl, up3_ne _ _ (by omega)]
theorem s_askNext_00 (A : ew_R) (ln st ak rq w lg : Nat) : s_askNext A ln st ak rq w lg 0 0 0 = A 0 0 0 := by
  unfold s_askNext
  split
  · split
    · rw [s_write_o _ _ _ _ _ _ (by decide) (by decide)]; rfl
    · rfl
  · split
    · rw [s_write_o _ _ _ _ _ _ (by decide) (by decide)]; rfl
    · rfl
theorem nw5_in {d g n : Nat} {t : Nat × Nat} (h : t ∈ nw_5 d g n) : t = (6, 512 * d + n) ∨ t = (14, 64 * d + g + 1) := by
  unfold nw_5 at h
  split at h <;> simp at h
  · exact Or.inl h
  · exact h
theorem pr_act_1 (hfl : l.flags = pinnedFlags ++ [noTraceFlag]) (P : PX t0 X L tg A XR LR tgR B q) {ln : Nat} (hi : ln < p_l B) (ar : Int32) : PairT l D T t0 X L tg A XR LR tgR B q yL_act wsL_act yM_act wsM_act [.int (nI (p_q B ln)), .int (nI ln), .int 1, .int ar] := by
  obtain ⟨hq, S, W, E⟩ := P
  have hn := S.nl32
  have hlg := S.I.S.lg
  obtain ⟨k1, k2, k3⟩ := S.pk hi
  obtain ⟨r1, r2⟩ := S.q1 hi
  have r3 : B 11 0 ln = nI (p_q B ln) := (S.I.L.k ln hi).rq.1
  have z22 := S.own22 hi
  have i0 := W.v0 0 (by simp)
  have i2 := W.inn (S.lv2 hi (kd := 2) (by simp))
  have i3 := W.inn (S.lv2 hi (kd := 3) (by simp))
  have i10 := W.v0 10 (by simp)
  have g0 : A 3 ln 0 = B 18 0 ln := congrFun S.R.C.g0 ln
  by_cases hs : B 18 0 ln = 1
  · obtain ⟨g, hg, hLS, h6, h14, hn5⟩ := S.sup5 hq W k3
    have i4 := W.inn (S.lv4 k3 (kd := 4) (by simp))
    have i5 := W.inn (S.lv4 k3 (kd := 5) (by simp))
    have i8 := W.inn (S.lv4 k3 (kd := 8) (by simp))
    have i13 := W.inn (S.lv2 hi (kd := 13) (by simp))
    have i7 := W.v0 7 (by simp)
    have i12 := W.v0 12 (by simp)
    obtain ⟨s1, s2⟩ := (S.I.L.k ln hi).st
    obtain ⟨a1, a2⟩ := (S.I.L.k ln hi).ak
    have q3 : A 2 ln 3 = nI (p_t B ln) := (congrFun S.R.C.l3 ln).trans s1
    have e4x : ∀ b, b < 6 → ¬ A 13 ln b = 0 → ew_in X L tg 4 (6 * ln + b) (X 4 (6 * ln + b)) := fun b hb h => W.inn (S.lv4 (kd := 4) (by rw [← S.R.C.th ln b hb]; exact h) (by simp))
    have R := fun sz => r_act_1 l D T XR LR tgR sz E B (p_q B ln) ln ar (p_l B) (p_k B ln) (p_t B ln) (p_x B ln) (wtB B) (lgB B) hi hn S.I.S.nl.1 r2 r3 z22 k2 k1 s2 (by omega) s1 a1 S.w64 S.I.S.w.1 hlg.1 (by omega)
    have may : ¬ s_mayRequester_1 B ln = 0 := by unfold s_mayRequester_1; rw [if_pos hs]; decide
    have eR : s_act_1 B (p_q B ln) ln ar (p_l B) (p_k B ln) (p_t B ln) (p_x B ln) (wtB B) (lgB B) = (s_stepRequester_1 (up3 B 0 0 0 0) ln (p_k B ln) (p_t B ln) (p_x B ln) (p_q B ln) (wtB B) (lgB B) 18 0 ln, s_stepRequester_1 (up3 B 0 0 0 0) ln (p_k B ln) (p_t B ln) (p_x B ln) (p_q B ln) (wtB B) (lgB B)) := by unfold s_act_1; rw [if_neg may]
    have h0 : s_stepRequester_1 (up3 B 0 0 0 0) ln (p_k B ln) (p_t B ln) (p_x B ln) (p_q B ln) (wtB B) (lgB B) 0 0 0 = 0 := by
      unfold s_stepRequester_1
      rw [s_askNext_00, s_write_0k _ _ _ _ _ _ (by decide) (by decide), p_kd_up _ _ _ _ (by decide), up3_self]
    obtain ⟨hsk, hx1, hgo⟩ := S.rota hi
    have eY : z_L_requesterWrites A ln (6 * ln + p_k B ln) g (p_n B (2 * (6 * ln + p_k B ln))) (wtB B) 0 6 0 = up3 (z_L_send_5 A (6 * ln + p_k B ln) g (p_n B (2 * (6 * ln + p_k B ln))) (wtB B) 6 0) 3 ln 0 0 := u3_send5 _ _ _ _ _ _ _ _ _ _
    have oY : ∀ c, c ∉ [7, 12, 6, 8, 14] → z_L_send_5 A (6 * ln + p_k B ln) g (p_n B (2 * (6 * ln + p_k B ln))) (wtB B) 6 0 c = A c := fun c hc => p_send5_4 A _ _ _ _ _ _ hc
    have q512 := S.q512
    by_cases hx : p_nxt (p_t B ln) (p_x B ln) (p_q B ln) < 6
    · obtain ⟨hne, hz⟩ := hgo hx
      have hm6 : (p_t B ln + p_nxt (p_t B ln) (p_x B ln) (p_q B ln)) % 6 < 6 := Nat.mod_lt _ (by decide)
      generalize hbb : (p_t B ln + p_nxt (p_t B ln) (p_x B ln) (p_q B ln)) % 6 = bb at hne hz hm6
      have hpx : 6 * ln + p_k B ln ≠ 6 * ln + bb := fun z => k3 (by rw [z, ← S.R.C.th ln bb hm6]; exact hz)
      have nth : ¬ p_th A (6 * ln + bb) := fun z => z.1 (by rw [show (6 * ln + bb) / 6 = ln by omega, show (6 * ln + bb) % 6 = bb by omega]; exact hz)
      obtain ⟨f1, f2, f3⟩ := W.fr4 nth
      have q0 : z_L_send_5 A (6 * ln + p_k B ln) g (p_n B (2 * (6 * ln + p_k B ln))) (wtB B) 6 0 2 ln 0 = nI ln := by rw [oY 2 (by decide)]; exact (S.R.D.ln ln hi).1
      have M : p_nd (z_L_requesterWrites A ln (6 * ln + p_k B ln) g (p_n B (2 * (6 * ln + p_k B ln))) (wtB B) 0 6 0) (up3 (z_turn (z_Page_clear (z_L_send_5 A (6 * ln + p_k B ln) g (p_n B (2 * (6 * ln + p_k B ln))) (wtB B) 6 0) ln) ln bb (6 * ln + bb) (nI (p_q B ln))) 3 ln 0 0) ln (6 * ln + bb) (nI bb) (B 11 0 ln) := by
        rw [eY, r3]; exact (p_nd_ask q0 hm6).u3
      have S' : Sim (z_dec A ln (6 * ln + p_k B ln) g (p_n B (2 * (6 * ln + p_k B ln))) bb (wtB B) (nI (p_q B ln))) (s_stepRequester_1 (up3 B 0 0 0 0) ln (p_k B ln) (p_t B ln) (p_x B ln) (p_q B ln) (wtB B) (lgB B)) (q + 1) := by
        subst hbb
        have h9 := S.decNext hq hi rfl rfl rfl rfl hg hs rfl rfl rfl hx M
        have e13 : z_L_send_5 A (6 * ln + p_k B ln) g (p_n B (2 * (6 * ln + p_k B ln))) (wtB B) 6 0 2 ln 4 = B 13 0 ln := by rw [oY 2 (by decide)]; exact congrFun S.R.C.l4 ln
        unfold z_dec z_ask
        rw [e13]
        exact h9
      refine PairT.ok (Z := z_dec A ln (6 * ln + p_k B ln) g (p_n B (2 * (6 * ln + p_k B ln))) bb (wtB B) (nI (p_q B ln))) (fun sz => ?_) (by decide) (by decide) R (by decide) eR (congrFun S'.R.C.g0 ln) S' (nw := nw_5 (6 * ln + p_k B ln) g (p_n B (2 * (6 * ln + p_k B ln))) ++ (nw_4 (6 * ln + bb) ++ nw_5 (6 * ln + bb) 0 0)) (fun X' L' tg' h => ?_) h0 (rm := { frames := 13, cells := 10, slots := 2036, locals := 420 }) (mc := 10) (ms := 2036)
      · subst hbb
        exact c_L_act_decline_go l D T t0 X L tg sz A ln _ (p_t B ln) (p_q B ln) (wtB B) i0 i3 i13 e4x i7 i12 (by omega) s2 r2 q3 r1 S.w64 S.wA W.cl (6 * ln + p_k B ln) g _ (S.q7 hi) (S.d192 k3) hn5 i4 i5 i8 hLS h6 h14 (g0.trans hs) (p_nxt (p_t B ln) (p_x B ln) (p_q B ln)) hx1 hx (fun k h1 h2 => hsk k h1 h2 (by omega)) hne hz (W.1 _).1 (W.1 _).2 f1 f2 f3 hpx (p_l B) i2 i10 hn S.nlA hi (S.f10 hi) ar
      · obtain ⟨X1, L1, tg1, h1, h2⟩ := h.split (fun a ha z => by
          rcases List.mem_append.mp z with z | z
          · exact f1 a ha _ z rfl
          · rcases nw5_0 _ _ z with z | z
            · exact f2 a ha z.symm
            · exact f3 a ha z.symm) (fun t ht z => by
          have hg11 := hg.1
          rcases nw5_in ht with rfl | rfl
          · rcases List.mem_append.mp z with z | z
            · simp [nw_4] at z
            · rcases nw5_0 _ _ z with z | z
              · have := congrArg Prod.snd z; simp at this; omega
              · have := congrArg Prod.fst z; simp at this
          · rcases List.mem_append.mp z with z | z
            · simp [nw_4] at z
            · rcases nw5_0 _ _ z with z | z
              · have := congrArg Prod.fst z; simp at this
              · have := congrArg Prod.snd z; simp at this; omega)
        have W1 := W.send5 (w := wtB B) (kn := 6) (tl := 0) (S.th.mpr k3) (S.d192 k3) hn5 (S.n8 _) hg h1
        unfold z_dec
        exact W1.ask (by omega) hm6 (by rw [oY 0 (by decide), S.nlA, nI_clamp (by omega)]; exact hi) (by rw [oY 13 (by decide)]; exact hz) h2
    · have m := (p_ea_ask (z_L_send_5 A (6 * ln + p_k B ln) g (p_n B (2 * (6 * ln + p_k B ln))) (wtB B) 6 0) ln)
      have S' : Sim (z_decEnd A ln (6 * ln + p_k B ln) g (p_n B (2 * (6 * ln + p_k B ln))) (wtB B)) (s_stepRequester_1 (up3 B 0 0 0 0) ln (p_k B ln) (p_t B ln) (p_x B ln) (p_q B ln) (wtB B) (lgB B)) (q + 1) :=
        S.decLast hq hi rfl rfl rfl rfl hg hs rfl rfl rfl hx (by rw [eY]; exact m.u3)
      refine PairT.ok (Z := z_decEnd A ln (6 * ln + p_k B ln) g (p_n B (2 * (6 * ln + p_k B ln))) (wtB B)) (fun sz => c_L_act_decline_end l D T t0 X L tg sz A ln _ (p_t B ln) (p_q B ln) (wtB B) i0 i3 i13 e4x i7 i12 (by omega) s2 r2 q3 r1 S.w64 S.wA W.cl (6 * ln + p_k B ln) g _ (S.q7 hi) (S.d192 k3) hn5 i4 i5 i8 hLS h6 h14 (g0.trans hs) (fun k h1 h2 => hsk k h1 (by omega) h2) (p_l B) i2 i10 hn S.nlA hi (S.f10 hi) ar) (by decide) (by decide) R (by decide) eR (congrFun S'.R.C.g0 ln) S' (fun X' L' tg' h => ?_) h0
      rw [List.append_nil] at h
      have W1 := W.send5 (w := wtB B) (kn := 6) (tl := 0) (S.th.mpr k3) (S.d192 k3) hn5 (S.n8 _) hg h
      unfold z_decEnd
      exact W1.up (by rw [m.o 0 (by decide)]) (by rw [m.o 0 (by decide)]) (fun c hc => m.o c (by omega))
  · exact PairT.no ⟨hq, S, W, E⟩ (fun sz => t_act_decline_no l hfl D T t0 X L tg sz A _ i0 (p_q B ln) ln ar (p_l B) i3 i2 i10 (fun z => hs (g0.symm.trans z)) r2 r1 hn S.nlA hi (S.f10 hi)) (fun sz => r_act_1r l D T XR LR tgR sz E B (p_q B ln) ln ar (p_l B) hi hn S.I.S.nl.1 r2 r3 z22 (by unfold s_mayRequester_1; rw [if_neg hs])) (by decide) rfl
end PT3
