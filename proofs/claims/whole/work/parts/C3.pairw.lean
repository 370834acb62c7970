/-! The wrappers, side by side with the reference -/
section PWR
variable {l : Launch} {D : va_G} {T : Nat → ClassId} {t0 : Nat × Nat} {X : Nat → Nat → Nat} {L : List Nat} {tg : Nat → Nat × Nat} {A : ew_R} {XR : Nat → Nat → Nat} {LR : List Nat} {tgR : Nat → Nat × Nat} {B : ew_R} {q : Nat}
theorem wQ.imp {o sz : Nat} {post post' : Int32 → wS → Prop} (h : ∀ c u, post c u → post' c u) {a : Array Value} {st : State} {oc : Outcome} {t : State} (hq : wQ D T L o sz post a st oc t) : wQ D T L o sz post' a st oc t := by
  obtain ⟨⟨r, u, h1, h2, h3⟩, h4⟩ := hq
  exact ⟨⟨r, u, h1, h r u h2, h3⟩, h4⟩
theorem wMet {y : MethodName} {ws : List Cond} {av : List Value} {o sz : Nat} {f : Nat → Int64} {post post' : Int32 → wS → Prop} (hM : Met l y ws rmW (wPc D T t0 X L tg A o f sz av) (wQ D T L o sz post) 11 2036 (wA L o sz)) (h : ∀ c u, post c u → post' c u) : Met l y ws rmW (wPc D T t0 X L tg A o f sz av) (wQ D T L o sz post') 11 2036 (wA L o sz) :=
  mt_mono hM ⟨Nat.le_refl _, Nat.le_refl _, Nat.le_refl _, Nat.le_refl _⟩ ⟨Nat.le_refl _, Nat.le_refl _⟩ (fun _ _ h => h) (fun _ _ _ _ _ hq => wQ.imp h hq) (fun _ h => h)
theorem pw_addCopy (hfl : l.flags = pinnedFlags ++ [noTraceFlag]) (P : PX t0 X L tg A XR LR tgR B q) (x y : Int32) : PairW l D T t0 X L tg A XR LR tgR B q yW_addCopy wsW_addCopy yM_addCopy wsM_addCopy [.int x, .int y] := by
  have hth := P.2.2.1.v0 0 (by simp)
  rcases pr_addCopy (l := l) (D := D) (T := T) hfl P x y with ⟨r, B', h0, hc, hr⟩ | ⟨r, B', h0, S', ht, hr⟩ | ⟨r, B', h0, S', ht, hr⟩
  · exact ⟨r, B', fun o f sz => wMet (w_addCopy_0 l D T t0 X L tg A o f sz x y hth r (pK t0 X L tg r B' q) (fun r' u h => h.1) hc) (fun c u ⟨h1, h2, h3⟩ => ⟨h1.trans h0.symm, fun _ => h2, h3.2.1, h3.2.2⟩), hr⟩
  · exact ⟨r, B', fun o f sz => wMet (w_addCopy_1 l D T t0 X L tg A o f sz x y hth ht) (fun c u ⟨h1, h2⟩ => by
      subst h2
      exact ⟨h1.trans h0.symm, fun h => absurd (h1.symm.trans h) (by decide), S', P.2.2.1, fun _ _ _ h => h⟩), hr⟩
  · exact ⟨r, B', fun o f sz => wMet (w_addCopy_2 l D T t0 X L tg A o f sz x y hth ht) (fun c u ⟨h1, h2⟩ => by
      subst h2
      exact ⟨h1.trans h0.symm, fun h => absurd (h1.symm.trans h) (by decide), S', P.2.2.1, fun _ _ _ h => h⟩), hr⟩
theorem pw_request (hfl : l.flags = pinnedFlags ++ [noTraceFlag]) (P : PX t0 X L tg A XR LR tgR B q) (x y z v : Int32) : PairW l D T t0 X L tg A XR LR tgR B q yW_request wsW_request yM_request wsM_request [.int x, .int y, .int z, .int v] := by
  have hth := P.2.2.1.v0 0 (by simp)
  rcases pr_request (l := l) (D := D) (T := T) hfl P x y z v with ⟨r, B', h0, hc, hr⟩ | ⟨r, B', h0, S', ht, hr⟩ | ⟨r, B', h0, S', ht, hr⟩
  · exact ⟨r, B', fun o f sz => wMet (w_request_0 l D T t0 X L tg A o f sz x y z v hth r (pK t0 X L tg r B' q) (fun r' u h => h.1) hc) (fun c u ⟨h1, h2, h3⟩ => ⟨h1.trans h0.symm, fun _ => h2, h3.2.1, h3.2.2⟩), hr⟩
  · exact ⟨r, B', fun o f sz => wMet (w_request_1 l D T t0 X L tg A o f sz x y z v hth ht) (fun c u ⟨h1, h2⟩ => by
      subst h2
      exact ⟨h1.trans h0.symm, fun h => absurd (h1.symm.trans h) (by decide), S', P.2.2.1, fun _ _ _ h => h⟩), hr⟩
  · exact ⟨r, B', fun o f sz => wMet (w_request_2 l D T t0 X L tg A o f sz x y z v hth ht) (fun c u ⟨h1, h2⟩ => by
      subst h2
      exact ⟨h1.trans h0.symm, fun h => absurd (h1.symm.trans h) (by decide), S', P.2.2.1, fun _ _ _ h => h⟩), hr⟩
theorem pw_act (hfl : l.flags = pinnedFlags ++ [noTraceFlag]) (P : PX t0 X L tg A XR LR tgR B q) (x y z v : Int32) : PairW l D T t0 X L tg A XR LR tgR B q yW_act wsW_act yM_act wsM_act [.int x, .int y, .int z, .int v] := by
  have hth := P.2.2.1.v0 0 (by simp)
  rcases pr_act (l := l) (D := D) (T := T) hfl P x y z v with ⟨r, B', h0, hc, hr⟩ | ⟨r, B', h0, S', ht, hr⟩ | ⟨r, B', h0, S', ht, hr⟩
  · exact ⟨r, B', fun o f sz => wMet (w_act_0 l D T t0 X L tg A o f sz x y z v hth r (pK t0 X L tg r B' q) (fun r' u h => h.1) hc) (fun c u ⟨h1, h2, h3⟩ => ⟨h1.trans h0.symm, fun _ => h2, h3.2.1, h3.2.2⟩), hr⟩
  · exact ⟨r, B', fun o f sz => wMet (w_act_1 l D T t0 X L tg A o f sz x y z v hth ht) (fun c u ⟨h1, h2⟩ => by
      subst h2
      exact ⟨h1.trans h0.symm, fun h => absurd (h1.symm.trans h) (by decide), S', P.2.2.1, fun _ _ _ h => h⟩), hr⟩
  · exact ⟨r, B', fun o f sz => wMet (w_act_2 l D T t0 X L tg A o f sz x y z v hth ht) (fun c u ⟨h1, h2⟩ => by
      subst h2
      exact ⟨h1.trans h0.symm, fun h => absurd (h1.symm.trans h) (by decide), S', P.2.2.1, fun _ _ _ h => h⟩), hr⟩
theorem pw_resend (hfl : l.flags = pinnedFlags ++ [noTraceFlag]) (P : PX t0 X L tg A XR LR tgR B q) (x y : Int32) : PairW l D T t0 X L tg A XR LR tgR B q yW_resend wsW_resend yM_resend wsM_resend [.int x, .int y] := by
  have hth := P.2.2.1.v0 0 (by simp)
  rcases pr_resend (l := l) (D := D) (T := T) hfl P x y with ⟨r, B', h0, hc, hr⟩ | ⟨r, B', h0, S', ht, hr⟩
  · exact ⟨r, B', fun o f sz => wMet (w_resend_0 l D T t0 X L tg A o f sz x y hth r (pK t0 X L tg r B' q) (fun r' u h => h.1) hc) (fun c u ⟨h1, h2, h3⟩ => ⟨h1.trans h0.symm, fun _ => h2, h3.2.1, h3.2.2⟩), hr⟩
  · exact ⟨r, B', fun o f sz => wMet (w_resend_1 l D T t0 X L tg A o f sz x y hth ht) (fun c u ⟨h1, h2⟩ => by
      subst h2
      exact ⟨h1.trans h0.symm, fun h => absurd (h1.symm.trans h) (by decide), S', P.2.2.1, fun _ _ _ h => h⟩), hr⟩
end PWR
