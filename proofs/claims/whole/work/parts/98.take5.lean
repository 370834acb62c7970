/-! A letter taken by the requester keeps the relation -/
theorem Sim.dueF {A B : ew_R} {q : Nat} (S : Sim A B q) (l : Nat) (v : Int32) : Sim (up3 A 3 l 1 v) (up3 B 19 0 l v) q := S.free (by decide) (fun z => absurd z (by decide)) (fun z => absurd z (by decide)) (fun d => by rw [p_kd_up _ _ _ _ (by decide)]) (S.R.due l v)
theorem Sim.priceF {A B : ew_R} {q : Nat} (S : Sim A B q) (l : Nat) (v : Int32) : Sim (up3 A 3 l 2 v) (up3 B 20 0 l v) q := S.free (by decide) (fun z => absurd z (by decide)) (fun z => absurd z (by decide)) (fun d => by rw [p_kd_up _ _ _ _ (by decide)]) (S.R.price l v)
theorem Sim.chargeF {A B : ew_R} {q : Nat} (S : Sim A B q) (l : Nat) (v : Int32) : Sim (up3 A 3 l 3 v) (up3 B 21 0 l v) q := S.free (by decide) (fun z => absurd z (by decide)) (fun z => absurd z (by decide)) (fun d => by rw [p_kd_up _ _ _ _ (by decide)]) (S.R.charge l v)
theorem Sim.balF {A B : ew_R} {q : Nat} (S : Sim A B q) (l : Nat) (v : Int32) : Sim (up3 A 11 0 l v) (up3 B 6 0 l v) q := S.free (by decide) (fun z => absurd z (by decide)) (fun z => absurd z (by decide)) (fun d => by rw [p_kd_up _ _ _ _ (by decide)]) (S.R.bal l v)
/-- what a letter of the supplier's side is, when it is taken -/
def tkL (A B : ew_R) (d j : Nat) (k tl : Int32) : Prop := j < lgB B ∧ B 32 0 j = nI (2 * d + 1) ∧ B 33 0 j = nI (p_s B (2 * d) + 1) ∧ B 34 0 j = k ∧ B 35 0 j = tl ∧ A 19 (512 * d + p_s B (2 * d)) 1 = k ∧ A 19 (512 * d + p_s B (2 * d)) 2 = tl
theorem Sim.tkO {A B : ew_R} {q d ln j st ak rq w lg : Nat} {k tl : Int32} (S : Sim A B q) (hl : ln < p_l B) (ed : d = 6 * ln + p_k B ln) (hs : p_s B (2 * d) < p_n B (2 * d + 1)) (hL : tkL A B d j k tl) (hno : ¬ (B 18 0 ln = 0 ∧ k = 4)) :
    Sim (z_rt (up3 A 5 d 4 (A 5 d 4 + 1)) ln d (512 * d + p_s B (2 * d)) rq) (s_takeRequester (up3 B 30 0 (2 * d) (B 30 0 (2 * d) + 1)) ln k tl st ak rq w lg) q ∧ (∀ c, c ≠ 3 → c ≠ 11 → z_rt (up3 A 5 d 4 (A 5 d 4 + 1)) ln d (512 * d + p_s B (2 * d)) rq c = up3 A 5 d 4 (A 5 d 4 + 1) c)
      ∧ ∀ c, c ∉ [6, 18, 19, 20, 21] → s_takeRequester (up3 B 30 0 (2 * d) (B 30 0 (2 * d) + 1)) ln k tl st ak rq w lg c = up3 B 30 0 (2 * d) (B 30 0 (2 * d) + 1) c := by
  obtain ⟨hj, j32, j33, j34, j35, a1, a2⟩ := hL
  have hd : ¬ B 22 0 d = 0 := by rw [ed]; exact (S.I.L.2.1 ln hl).2.2.2
  have hk6 : p_k B ln < 6 := (S.I.L.2.1 ln hl).2.2.1
  have S2 := S.seen5 hd hs
  have H := S.P.ph d hd
  have u3 := S.P.u3
  have htl := S.P.tl j hj
  have h192 := S.d192 hd
  have o : ∀ c, c ≠ 30 → up3 B 30 0 (2 * d) (B 30 0 (2 * d) + 1) c = B c := fun c h => p_kd_up _ _ _ _ h
  have oA : ∀ c, c ≠ 5 → up3 A 5 d 4 (A 5 d 4 + 1) c = A c := fun c h => p_kd_up _ _ _ _ h
  have hsn : p_s (up3 B 30 0 (2 * d) (B 30 0 (2 * d) + 1)) (2 * d) = p_s B (2 * d) + 1 := by
    have h1 := S.nle (2 * d + 1)
    have h2 := S.q512
    have es := p_s_seen S.I (2 * d) (2 * d) (by omega)
    rw [if_pos rfl] at es
    exact es
  have lg2 : lgB (up3 B 30 0 (2 * d) (B 30 0 (2 * d) + 1)) = lgB B := by unfold lgB; rw [o 0 (by decide)]
  have has2 : p_has (up3 B 30 0 (2 * d) (B 30 0 (2 * d) + 1)) (2 * d + 1) k := ⟨j, by rw [lg2]; exact hj, by rw [o 32 (by decide)]; exact j32, by rw [o 34 (by decide)]; exact j34⟩
  have hp : p_k B (d / 6) = d % 6 := by rw [show d / 6 = ln by omega]; omega
  have no5 : k = 3 → ¬ p_has (up3 B 30 0 (2 * d) (B 30 0 (2 * d) + 1)) (2 * d) 5 := by
    rintro h3 ⟨i, i1, i2, i3⟩
    rw [lg2] at i1; rw [o 32 (by decide)] at i2; rw [o 34 (by decide)] at i3
    obtain ⟨j', k', g1, g2, g3, g4, g5⟩ := H.i ⟨i, i1, i2, i3⟩
    have := u3 j' j g1 hj (by rw [g2, j32]) g4 (by rw [j34, h3])
    subst this
    rw [j33] at g3
    have := congrArg Int32.toNatClampNeg g3
    have h1 := S.nle (2 * d + 1)
    have h2 := S.q512
    rw [nI_clamp (by omega), nI_clamp (by omega)] at this
    omega
  have saw2 : k = 3 → p_saw (up3 B 30 0 (2 * d) (B 30 0 (2 * d) + 1)) d := fun h3 => ⟨j, p_s B (2 * d), by rw [lg2]; exact hj, by rw [o 32 (by decide)]; exact j32, by rw [o 33 (by decide)]; exact j33, by rw [o 34 (by decide), j34, h3], by rw [hsn]; omega⟩
  have hl2 : ln < p_l (up3 B 30 0 (2 * d) (B 30 0 (2 * d) + 1)) := by unfold p_l; rw [o 0 (by decide)]; exact hl
  have ed2 : d = 6 * ln + p_k (up3 B 30 0 (2 * d) (B 30 0 (2 * d) + 1)) ln := by unfold p_k; rw [o 16 (by decide)]; exact ed
  have g18 : up3 B 30 0 (2 * d) (B 30 0 (2 * d) + 1) 18 0 ln = B 18 0 ln := by rw [o 18 (by decide)]
  have e3 : up3 A 5 d 4 (A 5 d 4 + 1) 3 ln 0 = B 18 0 ln := by rw [oA 3 (by decide)]; exact congrFun S.R.C.g0 ln
  have e6 : up3 A 5 d 4 (A 5 d 4 + 1) 11 0 = up3 B 30 0 (2 * d) (B 30 0 (2 * d) + 1) 6 0 := S2.R.C.bal
  generalize up3 B 30 0 (2 * d) (B 30 0 (2 * d) + 1) = B2 at *
  have a1' : up3 A 5 d 4 (A 5 d 4 + 1) 19 (512 * d + p_s B (2 * d)) 1 = k := by rw [oA 19 (by decide)]; exact a1
  have a2' : up3 A 5 d 4 (A 5 d 4 + 1) 19 (512 * d + p_s B (2 * d)) 2 = tl := by rw [oA 19 (by decide)]; exact a2
  generalize up3 A 5 d 4 (A 5 d 4 + 1) = A2 at *
  rcases rt_norm (d := d) (st := st) (ak := ak) (rq := rq) (w := w) (lg := lg) a1' a2' e3 g18 (by rw [← j34, ← j35]; exact htl) hno with ⟨hz, hr⟩ | ⟨v, hT, hz, hr⟩ | ⟨v, hT, hz, hr⟩ | ⟨r5, h10, hz, hr⟩ | ⟨r0, h3, hz, hr⟩ | ⟨r7, h13, hz, hr⟩
  · rw [hz, hr]; exact ⟨S2, fun _ _ _ => rfl, fun _ _ => rfl⟩
  · rw [hz, hr]
    refine ⟨S2.rst hl2 ed2 v (by unfold rtS at hT; rcases hT with ⟨_, _, rfl⟩ | ⟨_, _, rfl⟩ <;> decide) (fun st h6 h15 cn pz Q => ?_), fun c h _ => p_kd_up _ _ _ _ h, fun c h => p_kd_up _ _ _ _ (fun z => h (by rw [z]; decide))⟩
    rw [g18] at Q
    rcases hT with ⟨h1, h2, rfl⟩ | ⟨h1, h2, rfl⟩
    · exact Q.u2 trivial h1
    · exact Q.u4 trivial h1
  · rw [hz, hr]
    refine ⟨Sim.dueF (S2.rst hl2 ed2 v (by unfold rtD at hT; rcases hT with ⟨_, _, rfl⟩ | ⟨_, _, rfl⟩ | ⟨_, _, rfl⟩ <;> decide) (fun st h6 h15 cn pz Q => ?_)) _ _, fun c h _ => by rw [p_kd_up _ _ _ _ h, p_kd_up _ _ _ _ h], fun c h => by rw [p_kd_up _ _ _ _ (fun z => h (by rw [z]; decide)), p_kd_up _ _ _ _ (fun z => h (by rw [z]; decide))]⟩
    rw [g18] at Q
    rcases hT with ⟨h1, h2, rfl⟩ | ⟨h1, h2, rfl⟩ | ⟨h1, h2, rfl⟩
    · exact Q.u7 trivial (h2 ▸ has2) h1
    · exact Q.u10 trivial h1
    · exact Q.u11 trivial h1
  · rw [hz, hr]
    have e1 : up3 (up3 A2 3 ln 0 4) 3 ln 1 (A2 3 ln 1) = up3 A2 3 ln 0 4 := by
      exact up3_same (up3_ne A2 4 (by omega))
    rw [e1]
    refine ⟨S2.rst hl2 ed2 4 (by decide) (fun st h6 h15 cn pz Q => ?_), fun c h _ => p_kd_up _ _ _ _ h, fun c h => p_kd_up _ _ _ _ (fun z => h (by rw [z]; decide))⟩
    rw [g18] at Q
    exact Q.u10 trivial r5
  · rw [hz, hr]
    refine ⟨Sim.priceF (S2.rst hl2 ed2 1 (by decide) (fun st h6 h15 cn pz Q => ?_)) _ _, fun c h _ => by rw [p_kd_up _ _ _ _ h, p_kd_up _ _ _ _ h], fun c h => by rw [p_kd_up _ _ _ _ (fun z => h (by rw [z]; decide)), p_kd_up _ _ _ _ (fun z => h (by rw [z]; decide))]⟩
    rw [g18, r0] at Q
    have n5 := no5 h3
    have s3 := saw2 h3
    obtain ⟨a, b, c, d', e, f, g, h, i, j, k, l, m, n⟩ := Q
    refine ⟨?_, ?_, ?_, ?_, ?_, ?_, ?_, ?_, ?_, ?_, ?_, ?_, ?_, ?_⟩ <;> grind
  · rw [hz, hr]
    refine ⟨?_, fun c h h1 => by unfold z_L_addToBalance; rw [p_kd_up _ _ _ _ h1, p_kd_up _ _ _ _ h, p_kd_up _ _ _ _ h], fun c h => by rw [p_kd_up _ _ _ _ (fun z => h (by rw [z]; decide)), p_kd_up _ _ _ _ (fun z => h (by rw [z]; decide)), p_kd_up _ _ _ _ (fun z => h (by rw [z]; decide))]⟩
    unfold z_L_addToBalance
    rw [show up3 (up3 A2 3 ln 0 8) 3 ln 3 tl 11 0 rq + -tl = B2 6 0 rq - tl by rw [p_kd_up _ _ _ _ (by decide), p_kd_up _ _ _ _ (by decide), e6, Int32.sub_eq_add_neg]]
    refine Sim.balF (Sim.chargeF (S2.rst hl2 ed2 8 (by decide) (fun st h6 h15 cn pz Q => ?_)) _ _) _ _
    rw [g18] at Q
    exact Q.u13 trivial r7
