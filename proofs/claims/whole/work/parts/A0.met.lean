/-! Contracts widened: more room, a weaker promise; a contract that makes nothing, in the words of one that may -/
theorem rm_mono {s : State} {pl : Platform} {r r' : Room} (hf : r.frames ≤ r'.frames ∧ r.locals ≤ r'.locals ∧ r.cells ≤ r'.cells ∧ r.slots ≤ r'.slots) (h : s.hasRoom pl r' = true) : s.hasRoom pl r = true := by
  simp only [State.hasRoom, Bool.and_eq_true, decide_eq_true_eq] at h ⊢
  obtain ⟨⟨⟨⟨h1, h2, h3, h4, h5, h6⟩, h7⟩, h8⟩, h9⟩ := h
  refine ⟨⟨⟨⟨?_, ?_, ?_, ?_, ?_, h6⟩, ?_⟩, ?_⟩, h9⟩ <;> omega
theorem mt_mono {l : Launch} {y : MethodName} {ws : List Cond} {rm rm' : Room} {Pc Pc' : Array Value → State → Prop} {Qc Qc' : Array Value → State → Outcome → State → Prop} {mc ms mc' ms' : Nat} {free free' : Addr → Prop} (h : Met l y ws rm Pc Qc mc ms free) (hr : rm.frames ≤ rm'.frames ∧ rm.locals ≤ rm'.locals ∧ rm.cells ≤ rm'.cells ∧ rm.slots ≤ rm'.slots) (hm : mc ≤ mc' ∧ ms ≤ ms')
    (hP : ∀ a s, Pc' a s → Pc a s) (hQ : ∀ a s o t, Pc' a s → Qc a s o t → Qc' a s o t) (hf : ∀ x, free x → free' x) : Met l y ws rm' Pc' Qc' mc' ms' free' := by
  intro p e ha hc hk s m args below hfr happ hp hk'
  have happ' : (headSpec ws rm).appliesLoose y e.platform s = true := by
    unfold Spec.appliesLoose at happ ⊢
    rw [hfr] at happ ⊢
    simp only [Bool.and_eq_true] at happ ⊢
    exact ⟨⟨happ.1.1, rm_mono hr happ.1.2⟩, happ.2⟩
  obtain ⟨n, o, h1, h2, h3, h4, L, ⟨h5, h6, h7⟩, h8⟩ := h p e ha hc hk s m args below hfr happ' (hP _ _ hp) hk'
  exact ⟨n, o, h1, h2, h3, hQ _ _ _ _ hp h4, L, ⟨h5, h6, h7.mono hm.1 hm.2⟩, fun q hq => hf _ (h8 q hq)⟩
section MTS
variable {l : Launch} {D : va_G} {cl : List vw_C} {cf : ew_C} {X : Nat → Nat → Nat} {L : List Nat} {tg : Nat → Nat × Nat} {A : ew_R} {tys : List (ClassId × FieldType)} {t0 : Nat × Nat} {y : MethodName} {ws : List Cond} {rm rm' : Room} {mc ms mc' ms' sz : Nat} {av : List Value}
theorem em_ofc_v {post : ew_R → Prop} {post' : ec_S → Prop} (h : Met l y ws rm (ec_Pc D cl tys cf X L tg A sz av) (er_Qv D cl cf X L tg sz post) mc ms (ew_A L sz)) (hr : rm.frames ≤ rm'.frames ∧ rm.locals ≤ rm'.locals ∧ rm.cells ≤ rm'.cells ∧ rm.slots ≤ rm'.slots) (hm : mc ≤ mc' ∧ ms ≤ ms') (hp : ∀ u, post u → post' (X, L, tg, u)) :
    Met l y ws rm' (em_Pc D cl tys cf t0 X L tg A sz av) (em_Qv D cl cf L sz post') mc' ms' (ew_A L sz) :=
  mt_mono h hr hm (fun a s q => ⟨q.1, q.2.1, q.2.2.1, q.2.2.2.1, q.2.2.2.2.1⟩) (fun a s o t _ ⟨⟨u, h1, h2, h3⟩, h4⟩ => ⟨⟨(X, L, tg, u), h1, hp u h2, h3⟩, h4⟩) (fun _ h => h)
theorem em_ofc_i {post : Int32 → ew_R → Prop} {post' : Int32 → ec_S → Prop} (h : Met l y ws rm (ec_Pc D cl tys cf X L tg A sz av) (er_Qi D cl cf X L tg sz post) mc ms (ew_A L sz)) (hr : rm.frames ≤ rm'.frames ∧ rm.locals ≤ rm'.locals ∧ rm.cells ≤ rm'.cells ∧ rm.slots ≤ rm'.slots) (hm : mc ≤ mc' ∧ ms ≤ ms') (hp : ∀ r u, post r u → post' r (X, L, tg, u)) :
    Met l y ws rm' (em_Pc D cl tys cf t0 X L tg A sz av) (em_Qi D cl cf L sz post') mc' ms' (ew_A L sz) :=
  mt_mono h hr hm (fun a s q => ⟨q.1, q.2.1, q.2.2.1, q.2.2.2.1, q.2.2.2.2.1⟩) (fun a s o t _ ⟨⟨r, u, h1, h2, h3⟩, h4⟩ => ⟨⟨r, (X, L, tg, u), h1, hp r u h2, h3⟩, h4⟩) (fun _ h => h)
theorem em_imp_v {post post' : ec_S → Prop} (h : Met l y ws rm (em_Pc D cl tys cf t0 X L tg A sz av) (em_Qv D cl cf L sz post) mc ms (ew_A L sz)) (hr : rm.frames ≤ rm'.frames ∧ rm.locals ≤ rm'.locals ∧ rm.cells ≤ rm'.cells ∧ rm.slots ≤ rm'.slots) (hm : mc ≤ mc' ∧ ms ≤ ms') (hp : ∀ u, post u → post' u) :
    Met l y ws rm' (em_Pc D cl tys cf t0 X L tg A sz av) (em_Qv D cl cf L sz post') mc' ms' (ew_A L sz) :=
  mt_mono h hr hm (fun a s q => q) (fun a s o t _ ⟨⟨u, h1, h2, h3⟩, h4⟩ => ⟨⟨u, h1, hp u h2, h3⟩, h4⟩) (fun _ h => h)
theorem em_imp_i {post post' : Int32 → ec_S → Prop} (h : Met l y ws rm (em_Pc D cl tys cf t0 X L tg A sz av) (em_Qi D cl cf L sz post) mc ms (ew_A L sz)) (hr : rm.frames ≤ rm'.frames ∧ rm.locals ≤ rm'.locals ∧ rm.cells ≤ rm'.cells ∧ rm.slots ≤ rm'.slots) (hm : mc ≤ mc' ∧ ms ≤ ms') (hp : ∀ r u, post r u → post' r u) :
    Met l y ws rm' (em_Pc D cl tys cf t0 X L tg A sz av) (em_Qi D cl cf L sz post') mc' ms' (ew_A L sz) :=
  mt_mono h hr hm (fun a s q => q) (fun a s o t _ ⟨⟨r, u, h1, h2, h3⟩, h4⟩ => ⟨⟨r, u, h1, hp r u h2, h3⟩, h4⟩) (fun _ h => h)
end MTS
/-- what a maker leaves: the world's invariant, and every cell where it was -/
def PW (t0 : Nat × Nat) (X : Nat → Nat → Nat) (L : List Nat) (tg : Nat → Nat × Nat) (u : ec_S) : Prop := WI t0 u.1 u.2.1 u.2.2.1 u.2.2.2 ∧ ∀ c i a, ew_in X L tg c i a → ew_in u.1 u.2.1 u.2.2.1 c i a
theorem z_st_x {A : ew_R} {d t : Nat} (hst : A 17 d 0 = 11) : z_L_supplierTakes_x A d t = A := by
  unfold z_L_supplierTakes_x z_Deal_turn z_L_supplierHearsOfLoss_n z_L_supplierIsCancelled_x z_Lender_isOut
  rw [hst]
  simp (decide := true)
