/-! The supplier's steps, one by one -/
theorem up3_same {A : ew_R} {c i k : Nat} {x : Int32} (h : A c i k = x) : up3 A c i k x = A := by
  unfold up3
  rw [va_up_same h, va_up_same rfl, va_up_same rfl]
theorem p_cd.st {A B : ew_R} {q d : Nat} {v : Int32} (h : p_cd A B q d) (h1 : v = 3 ∨ v = 4 ∨ v = 5 ∨ v = 6 ∨ v = 7 ∨ v = 8 → B 23 0 d = 3 ∨ B 23 0 d = 4 ∨ B 23 0 d = 5 ∨ B 23 0 d = 6 ∨ B 23 0 d = 7 ∨ B 23 0 d = 8) (h2 : v = 0 ∨ v = 1 ∨ v = 2 → B 23 0 d = 0 ∨ B 23 0 d = 1 ∨ B 23 0 d = 2) (h3 : v = 4 ∨ v = 5 ∨ v = 6 ∨ v = 7 ∨ v = 8 → B 23 0 d = 4 ∨ B 23 0 d = 5 ∨ B 23 0 d = 6 ∨ B 23 0 d = 7 ∨ B 23 0 d = 8) : p_cd A (up3 B 23 0 d v) q d := by
  have o : ∀ c, c ≠ 23 → up3 B 23 0 d v c = B c := fun c h => p_kd_up _ _ _ _ h
  have ec : p_c (up3 B 23 0 d v) = p_c B := by simp only [p_c]; rw [o 0 (by decide)]
  obtain ⟨c1, c2, c3, c4, u, g, c5, c6, c7, c8, c9⟩ := h
  refine ⟨?_, ?_, ?_, ?_, u, g, c5, ?_, ?_, c8, ?_⟩
  · rw [ec, o 17 (by decide)]; exact c1
  · rw [up3_self, o 28 (by decide)]; exact fun z => c2 (h1 z)
  · rw [up3_self, o 28 (by decide)]; exact fun z => c3 (h2 z)
  · rw [o 28 (by decide), ec]; exact c4
  · rw [o 27 (by decide)]; exact c6
  · rw [o 24 (by decide)]; exact c7
  · rw [up3_self]; exact fun z => c9 (h3 z)
theorem p_cd.code {A B : ew_R} {q d : Nat} (h : p_cd A B q d) (x : Int32) : p_cd A (up3 B 0 0 0 x) q d := h.cg rfl (up3_ne _ _ (by decide)) (by rw [p_kd_up _ _ _ _ (by decide)]) (fun c hc => by rw [p_kd_up _ _ _ _ (by revert c; decide)])

theorem up3_comm {A : ew_R} {c i k c' i' k' : Nat} {x y : Int32} (h : c ≠ c') : up3 (up3 A c i k x) c' i' k' y = up3 (up3 A c' i' k' y) c i k x := by
  have k : ∀ (X : ew_R) c i k x, up3 X c i k x c = va_up (X c) i (va_up (X c i) k x) := fun X c i k x => by unfold up3; rw [va_up_self]
  funext a
  by_cases h1 : a = c'
  · subst h1
    rw [p_kd_up _ _ _ _ (Ne.symm h), k, k, p_kd_up _ _ _ _ (Ne.symm h)]
  · rw [p_kd_up _ _ _ _ h1]
    by_cases h2 : a = c
    · subst h2; rw [k, k, p_kd_up _ _ _ _ h]
    · rw [p_kd_up _ _ _ _ h2, p_kd_up _ _ _ _ h2, p_kd_up _ _ _ _ h1]
theorem RfZ.upo {B : ew_R} (h : RfZ B) {c : Nat} (i k : Nat) (x : Int32) (hc : c ∉ [22, 23, 24, 25, 26, 27]) : RfZ (up3 B c i k x) := h.cg (fun c' hc' => by
  have : c' ≠ c := fun z => hc (by rw [← z]; exact hc')
  rw [p_kd_up _ _ _ _ this])

theorem Sim.refuse {A B : ew_R} {q ln b d g n w lg : Nat} (S : Sim A B q) (hq : q < 512) (ed : d = 6 * ln + b) (hd : ¬ B 22 0 d = 0) (ew : w = wtB B) (elg : lg = lgB B) (en : n = p_n B (2 * d + 1)) (hg : p_ls 16 20 A d g n) {cc : Int32} (hs : B 23 0 d = 1) : Sim (z_L_supplierWrites A d g n w 10 4 0) (s_stepSupplier_9 (up3 B 0 0 0 0) ln b cc w lg) (q + 1) := by
  have e : s_stepSupplier_9 (up3 B 0 0 0 0) ln b cc w lg = s_write (up3 (up3 B 0 0 0 0) 23 0 d 10) (2 * d + 1) 4 0 w lg := by subst ed; rfl
  rw [e]
  have o : ∀ c, c ≠ 0 → up3 B 0 0 0 0 c = B c := fun c h => p_kd_up _ _ _ _ h
  refine S.sp hq hd (p_f0.code A B d 0) (S.R.code 0) (S.I.code 0) (S.Z.upo 0 0 0 (by decide)) (fun _ _ => rfl) (fun c hc => o c (by omega)) (up3_ne _ _ (by decide)) ew elg en hg (fun z => absurd z (by decide)) (fun z => absurd z (by decide)) (((S.P.cd d hd).mono.code 0).st (fun z => absurd z (by decide)) (fun z => absurd z (by decide)) (fun z => absurd z (by decide))) (fun rs pr h3 s3 h4 h7 h5 h6 h15 H => ?_)
  exact (H.refuse hs).iff rfl rfl Iff.rfl (by simp) Iff.rfl (by simp) (by simp) Iff.rfl Iff.rfl Iff.rfl Iff.rfl (by rw [o 25 (by decide)])
theorem Sim.deny {A B : ew_R} {q ln b d g n w lg : Nat} (S : Sim A B q) (hq : q < 512) (ed : d = 6 * ln + b) (hd : ¬ B 22 0 d = 0) (ew : w = wtB B) (elg : lg = lgB B) (en : n = p_n B (2 * d + 1)) (hg : p_ls 16 20 A d g n) {cc : Int32} (hs : B 23 0 d = 6) : Sim (z_L_supplierWrites A d g n w 5 10 0) (s_stepSupplier_12 (up3 B 0 0 0 0) ln b cc w lg) (q + 1) := by
  have e : s_stepSupplier_12 (up3 B 0 0 0 0) ln b cc w lg = s_write (up3 (up3 B 0 0 0 0) 23 0 d 5) (2 * d + 1) 10 0 w lg := by 
    subst ed
    show s_write (up3 (up3 (up3 (up3 B 0 0 0 0) 27 0 (6 * ln + b) ((up3 B 0 0 0 0) 27 0 (6 * ln + b) + 0)) 24 0 (6 * ln + b) ((up3 B 0 0 0 0) 24 0 (6 * ln + b) + 0)) 23 0 (6 * ln + b) 5) _ _ _ _ _ = _
    rw [up3_same (A := up3 B 0 0 0 0) (c := 27) (Int32.add_zero _).symm, up3_same (A := up3 B 0 0 0 0) (c := 24) (Int32.add_zero _).symm]
  rw [e]
  have o : ∀ c, c ≠ 0 → up3 B 0 0 0 0 c = B c := fun c h => p_kd_up _ _ _ _ h
  refine S.sp hq hd (p_f0.code A B d 0) (S.R.code 0) (S.I.code 0) (S.Z.upo 0 0 0 (by decide)) (fun _ _ => rfl) (fun c hc => o c (by omega)) (up3_ne _ _ (by decide)) ew elg en hg (fun z => absurd z (by decide)) (fun z => absurd z (by decide)) (((S.P.cd d hd).mono.code 0).st (by rw [o 23 (by decide), hs]; decide) (fun z => absurd z (by decide)) (by rw [o 23 (by decide), hs]; decide)) (fun rs pr h3 s3 h4 h7 h5 h6 h15 H => ?_)
  exact (H.renewed hs).iff rfl rfl Iff.rfl (by simp) Iff.rfl (by simp) (by simp) Iff.rfl Iff.rfl Iff.rfl Iff.rfl (by rw [o 25 (by decide)])
theorem Sim.offer {A B : ew_R} {q ln b d g n w lg : Nat} (S : Sim A B q) (hq : q < 512) (ed : d = 6 * ln + b) (hd : ¬ B 22 0 d = 0) (ew : w = wtB B) (elg : lg = lgB B) (en : n = p_n B (2 * d + 1)) (hg : p_ls 16 20 A d g n) {cc : Int32} (hs : B 23 0 d = 1) (hp : B 25 0 d = 0) (h1 : ¬ cc = 0) : Sim (z_L_supplierWrites (up3 A 17 d 2 cc) d g n w 2 3 cc) (s_stepSupplier_8 (up3 B 0 0 0 0) ln b cc w lg) (q + 1) := by
  have e : s_stepSupplier_8 (up3 B 0 0 0 0) ln b cc w lg = s_write (up3 (up3 (up3 B 0 0 0 0) 25 0 d cc) 23 0 d 2) (2 * d + 1) 3 cc w lg := by subst ed; rfl
  rw [e]
  have o : ∀ c, c ≠ 0 → up3 B 0 0 0 0 c = B c := fun c h => p_kd_up _ _ _ _ h
  refine S.sp hq hd (((p_f0.code A B d 0).up cc (Or.inl ⟨by simp, rfl⟩)).a (fun x _ => by rw [p_kd_up _ _ _ _ (by decide)])) ((S.R.code 0).itpr d cc) ((S.I.code 0).up 25 d cc (by decide) (by omega)) ((S.Z.upo 0 0 0 (by decide)).up cc (by rw [o 22 (by decide)]; exact hd) (by decide)) (fun c hc => by rcases hc with rfl | rfl <;> simp [p_kd_up]) (fun c hc => by rcases hc with rfl | rfl | rfl <;> simp [p_kd_up]) (by simp [p_row_up, va_up]) ew elg en hg (fun _ => fun z => (S.P.ph d hd).n z hp) (fun z => absurd z (by decide)) ?_ (fun rs pr h3 s3 h4 h7 h5 h6 h15 H => ?_)
  · exact (((S.P.cd d hd).mono.code 0).cg (by rw [p_kd_up _ _ _ _ (by decide)]) (by simp [p_row_up, va_up]) (by simp [p_row_up]) (fun c hc => by rw [p_kd_up _ _ _ _ (by revert c; decide)])).st (fun z => absurd z (by decide)) (fun _ => by rw [p_kd_up _ _ _ _ (by decide), o 23 (by decide), hs]; decide) (fun z => absurd z (by decide))
  · exact (H.offer hs).iff rfl rfl Iff.rfl (by simp) Iff.rfl (by simp) (by simp) Iff.rfl Iff.rfl Iff.rfl (by rw [p_kd_up _ _ _ _ (by decide)]) (by rw [up3_self]; exact iff_false_intro h1)
theorem Sim.ship {A B : ew_R} {q ln b d g n w lg : Nat} {cp : Nat} (S : Sim A B q) (hq : q < 512) (ed : d = 6 * ln + b) (hd : ¬ B 22 0 d = 0) (ew : w = wtB B) (elg : lg = lgB B) (en : n = p_n B (2 * d + 1)) (hg : p_ls 16 20 A d g n) {cc : Int32} (hl : ln < p_l B) (hb : b < 6) (hs : B 23 0 d = 3) : Sim (z_L_supplierWrites (up3 (up3 A 1 cp 2 6) 17 d 1 (B 0 0 1 + B 13 0 ln)) d g n w 4 7 (B 0 0 1 + B 13 0 ln)) (s_stepSupplier_10 (up3 B 0 0 0 0) ln b cc cp w lg) (q + 1) := by
  have e : s_stepSupplier_10 (up3 B 0 0 0 0) ln b cc cp w lg = s_write (up3 (up3 (up3 (up3 B 0 0 0 0) 24 0 d (B 0 0 1 + B 13 0 ln)) 9 0 cp 6) 23 0 d 4) (2 * d + 1) 7 (B 0 0 1 + B 13 0 ln) w lg := by subst ed; rfl
  rw [e]
  have o : ∀ c, c ≠ 0 → up3 B 0 0 0 0 c = B c := fun c h => p_kd_up _ _ _ _ h
  obtain ⟨dt, hdt, e1⟩ := S.P.day
  obtain ⟨ds, d1, d9, e2⟩ := (S.I.L.k ln hl).dy
  refine S.sp hq hd ((((p_f0.code A B d 0).up _ (Or.inl ⟨by simp, rfl⟩)).up _ (Or.inr (by simp))).a (fun x _ => by rw [p_kd_up _ _ _ _ (by decide), p_kd_up _ _ _ _ (by decide)])) (by
    have h1 := ((S.R.code 0).hold cp 6).itdue d (B 0 0 1 + B 13 0 ln)
    rwa [up3_comm (show (9 : Nat) ≠ 24 by decide)] at h1) (((S.I.code 0).up 24 d _ (by decide) (by omega)).up 9 cp 6 (by decide) (by omega)) (((S.Z.upo 0 0 0 (by decide)).up _ (by rw [o 22 (by decide)]; exact hd) (by decide)).upo 0 _ _ (by decide)) (fun c hc => by rcases hc with rfl | rfl <;> simp [p_kd_up]) (fun c hc => by rcases hc with rfl | rfl | rfl <;> simp [p_kd_up]) (by simp [p_row_up, va_up]) ew elg en hg (fun z => absurd z (by decide)) (fun _ => by rw [e1, e2, nI_add]; exact nI_ne0 (by omega) (by have := S.I.S.hq; omega)) ?_ (fun rs pr h3 s3 h4 h7 h5 h6 h15 H => ?_)
  · obtain ⟨c1, c2, c3, c4, u, g9, c5, c6, c7, c8, c9⟩ := (S.P.cd d hd).mono
    have ex : B 24 0 d = B 24 0 d := rfl
    refine ⟨?_, ?_, ?_, ?_, dt + ds, g9, c5, ?_, ?_, ?_, fun _ => by omega⟩
    · simp only [p_c]; simp only [p_kd_up _ _ _ _ (show 4 ≠ 17 by decide), p_kd_up _ _ _ _ (show 4 ≠ 1 by decide)]; simp [p_row_up, va_up]; exact c1
    · rw [up3_self]; simp only [p_kd_up _ _ _ _ (show 4 ≠ 17 by decide), p_kd_up _ _ _ _ (show 4 ≠ 1 by decide)]; simp [p_row_up]; exact c2 (by rw [hs]; decide)
    · rw [up3_self]; exact fun z => absurd z (by decide)
    · simp only [p_c]; simp [p_row_up, va_up]; exact c4
    · simp [p_row_up]; exact c6
    · simp [p_row_up, va_up_self]; rw [e1, e2, nI_add]
    · omega
  · refine (H.ship hs).iff rfl rfl Iff.rfl (by simp) Iff.rfl (by simp) (by simp) Iff.rfl Iff.rfl Iff.rfl (by simp only [p_kd_up _ _ _ _ (show 4 ≠ 17 by decide), p_kd_up _ _ _ _ (show 4 ≠ 1 by decide)]) (by simp [p_row_up])
theorem Sim.grant {A B : ew_R} {q ln b d g n w lg : Nat} (S : Sim A B q) (hq : q < 512) (ed : d = 6 * ln + b) (hd : ¬ B 22 0 d = 0) (ew : w = wtB B) (elg : lg = lgB B) (en : n = p_n B (2 * d + 1)) (hg : p_ls 16 20 A d g n) {cc : Int32} (hl : ln < p_l B) (hb : b < 6) (hs : B 23 0 d = 6) (hgr : ¬ 3 ≤ B 27 0 d) : Sim (z_L_supplierWrites (up3 (up3 A 4 d 5 (B 27 0 d + 1)) 17 d 1 (B 24 0 d + B 13 0 ln)) d g n w 5 10 (B 24 0 d + B 13 0 ln)) (s_stepSupplier_11 (up3 B 0 0 0 0) ln b cc w lg) (q + 1) := by
  have e : s_stepSupplier_11 (up3 B 0 0 0 0) ln b cc w lg = s_write (up3 (up3 (up3 (up3 B 0 0 0 0) 27 0 d (B 27 0 d + 1)) 24 0 d (B 24 0 d + B 13 0 ln)) 23 0 d 5) (2 * d + 1) 10 (B 24 0 d + B 13 0 ln) w lg := by subst ed; rfl
  rw [e]
  have o : ∀ c, c ≠ 0 → up3 B 0 0 0 0 c = B c := fun c h => p_kd_up _ _ _ _ h
  obtain ⟨u, g9, e5, e6, e7, e8, e9⟩ := (S.P.cd d hd).du
  obtain ⟨ds, d1, d9, e2⟩ := (S.I.L.k ln hl).dy
  have hg9 : g9 < 3 := by
    rw [e6, show (3 : Int32) = nI 3 from rfl, nI_leI (by omega) (by omega)] at hgr; omega
  refine S.sp hq hd ((((p_f0.code A B d 0).up _ (Or.inl ⟨by simp, rfl⟩)).up _ (Or.inl ⟨by simp, rfl⟩)).a (fun x _ => by rw [p_kd_up _ _ _ _ (by decide), up3_ne _ _ (by omega)])) (((S.R.code 0).itgr d _).itdue d _) (((S.I.code 0).up 27 d _ (by decide) (by omega)).up 24 d _ (by decide) (by omega)) (((S.Z.upo 0 0 0 (by decide)).up _ (by rw [o 22 (by decide)]; exact hd) (by decide)).up _ (by simp [p_row_up]; exact hd) (by decide)) (fun c hc => by rcases hc with rfl | rfl <;> simp [p_kd_up]) (fun c hc => by rcases hc with rfl | rfl | rfl <;> simp [p_kd_up]) (by simp [p_row_up, va_up]) ew elg en hg (fun z => absurd z (by decide)) (fun z => absurd z (by decide)) ?_ (fun rs pr h3 s3 h4 h7 h5 h6 h15 H => ?_)
  · obtain ⟨c1, c2, c3, c4, -⟩ := (S.P.cd d hd).mono
    refine ⟨?_, ?_, ?_, ?_, u + ds, g9 + 1, by omega, ?_, ?_, by omega, fun _ => by omega⟩
    · simp only [p_c]; rw [p_kd_up _ _ _ _ (by decide), up3_ne _ _ (by omega)]; simp [p_row_up, va_up]; exact c1
    · rw [up3_self, show (up3 (up3 A 4 d 5 (B 27 0 d + 1)) 17 d 1 (B 24 0 d + B 13 0 ln)) 4 d 4 = A 4 d 4 by rw [p_kd_up _ _ _ _ (by decide), up3_ne _ _ (by omega)]]; simp [p_row_up]; exact c2 (by rw [hs]; decide)
    · rw [up3_self]; exact fun z => absurd z (by decide)
    · simp only [p_c]; simp [p_row_up, va_up]; exact c4
    · simp [p_row_up, va_up_self]; rw [e6, nI_1]
    · simp [p_row_up, va_up_self]; rw [e7, e2, nI_add]
  · refine (H.renewed hs).iff rfl rfl Iff.rfl (by simp) Iff.rfl (by simp) (by simp) Iff.rfl Iff.rfl Iff.rfl (by rw [p_kd_up _ _ _ _ (by decide), up3_ne _ _ (by omega)]) (by simp [p_row_up])
theorem Sim.recall {A B : ew_R} {q ln b d g n w lg : Nat} {cc M : Int32} (S : Sim A B q) (hq : q < 512) (ed : d = 6 * ln + b) (hd : ¬ B 22 0 d = 0) (ew : w = wtB B) (elg : lg = lgB B) (en : n = p_n B (2 * d + 1)) (hg : p_ls 16 20 A d g n) (hs : B 23 0 d = 5 ∨ B 23 0 d = 6) (hM : M = if B 0 0 1 + 7 < B 24 0 d then B 0 0 1 + 7 else B 24 0 d) : Sim (z_L_supplierWrites (up3 A 17 d 1 M) d g n w 7 11 M) (s_stepSupplier_13 (up3 B 0 0 0 0) ln b cc w lg) (q + 1) := by
  have o : ∀ c, c ≠ 0 → up3 B 0 0 0 0 c = B c := fun c h => p_kd_up _ _ _ _ h
  obtain ⟨dt, hdt, e1⟩ := S.P.day
  obtain ⟨u, g9, e5, e6, e7, e8, e9⟩ := (S.P.cd d hd).du
  have hq2 := S.I.S.hq
  have h1u : 1 ≤ u := e9 (by rcases hs with h | h <;> rw [h] <;> decide)
  have e17 : B 0 0 1 + 7 = nI (dt + 7) := by rw [e1, show (7 : Int32) = nI 7 from rfl, nI_add]
  have hMn : M = nI (if dt + 7 < u then dt + 7 else u) := by
    rw [hM, e17, e7]
    by_cases h : dt + 7 < u
    · rw [if_pos ((nI_ltI (by omega) (by omega)).mpr h), if_pos h]
    · rw [if_neg (fun z => h ((nI_ltI (by omega) (by omega)).mp z)), if_neg h]
  have e : s_stepSupplier_13 (up3 B 0 0 0 0) ln b cc w lg = s_write (up3 (up3 (up3 B 0 0 0 0) 24 0 d M) 23 0 d 7) (2 * d + 1) 11 M w lg := by
    subst ed
    unfold s_stepSupplier_13
    rw [o 24 (by decide), up3_ne _ _ (by decide)]
    by_cases h : B 0 0 1 + 7 < B 24 0 (6 * ln + b)
    · rw [if_neg (fun z => ?_), hM, if_pos h]
      rw [e17, e7] at z h
      rw [nI_leI (by omega) (by omega)] at z
      rw [nI_ltI (by omega) (by omega)] at h
      omega
    · rw [if_pos ?_, hM, if_neg h, up3_same (A := up3 B 0 0 0 0) (c := 24) (by rw [o 24 (by decide)])]
      rw [e17, e7] at h ⊢
      rw [nI_leI (by omega) (by omega)]
      rw [nI_ltI (by omega) (by omega)] at h
      omega
  rw [e]
  refine S.sp hq hd (((p_f0.code A B d 0).up _ (Or.inl ⟨by simp, rfl⟩)).a (fun x _ => by rw [p_kd_up _ _ _ _ (by decide)])) ((S.R.code 0).itdue d M) ((S.I.code 0).up 24 d M (by decide) (by omega)) ((S.Z.upo 0 0 0 (by decide)).up M (by rw [o 22 (by decide)]; exact hd) (by decide)) (fun c hc => by rcases hc with rfl | rfl <;> simp [p_kd_up]) (fun c hc => by rcases hc with rfl | rfl | rfl <;> simp [p_kd_up]) (by simp [p_row_up, va_up]) ew elg en hg (fun z => absurd z (by decide)) (fun _ => ?_) ?_ (fun rs pr h3 s3 h4 h7 h5 h6 h15 H => ?_)
  · rw [hMn]; refine nI_ne0 ?_ ?_ <;> split <;> omega
  · obtain ⟨c1, c2, c3, c4, -⟩ := (S.P.cd d hd).mono
    refine ⟨?_, ?_, ?_, ?_, if dt + 7 < u then dt + 7 else u, g9, by omega, ?_, ?_, by split <;> omega, fun _ => by split <;> omega⟩
    · simp only [p_c]; rw [p_kd_up _ _ _ _ (by decide)]; simp [p_row_up, va_up]; exact c1
    · rw [up3_self, p_kd_up A _ _ _ (by decide)]; simp [p_row_up]; exact c2 (by rcases hs with h | h <;> rw [h] <;> decide)
    · rw [up3_self]; exact fun z => absurd z (by decide)
    · simp only [p_c]; simp [p_row_up, va_up]; exact c4
    · simp [p_row_up]; exact e6
    · rw [p_kd_up _ _ _ _ (by decide), up3_self]; exact hMn
  · refine (H.recall hs).iff rfl rfl Iff.rfl (by simp) Iff.rfl (by simp) (by simp) Iff.rfl Iff.rfl Iff.rfl (by rw [p_kd_up _ _ _ _ (by decide)]) (by simp [p_row_up])

theorem Sim.promise {A B : ew_R} {q ln b d g n w lg : Nat} {cc : Nat} (S : Sim A B q) (hq : q < 512) (ed : d = 6 * ln + b) (hd : ¬ B 22 0 d = 0) (ew : w = wtB B) (elg : lg = lgB B) (en : n = p_n B (2 * d + 1)) (hg : p_ls 16 20 A d g n) (hl : ln < p_l B) (hb : b < 6) (hcc : cc < p_c B) (hs : B 23 0 d = 1) : Sim (z_L_supplierWrites (up3 (up3 A 4 d 4 (nI cc)) 1 cc 3 (nI ln)) d g n w 3 2 0) (s_stepSupplier_7 (up3 B 0 0 0 0) ln b cc w lg) (q + 1) := by
  have e6 : d / 6 = ln := by omega
  have e : s_stepSupplier_7 (up3 B 0 0 0 0) ln b cc w lg = s_write (up3 (up3 (up3 (up3 (up3 B 0 0 0 0) 28 0 d (nI cc)) 10 0 cc (nI ln)) 17 0 (d / 6) (nI cc)) 23 0 d 3) (2 * d + 1) 2 0 w lg := by rw [e6]; subst ed; rfl
  rw [e]
  have o : ∀ c, c ≠ 0 → up3 B 0 0 0 0 c = B c := fun c h => p_kd_up _ _ _ _ h
  have hpr : p_k B (d / 6) = d % 6 := by
    apply Classical.byContradiction; intro z
    have := (S.P.ph d hd).g z
    rw [hs] at this; rcases this with h | h | ⟨h, -⟩ <;> exact absurd h (by decide)
  refine S.sp hq hd ((((((p_f0.code A B d 0).up _ (Or.inl ⟨by simp, rfl⟩)).up _ (Or.inr (by simp))).up17 _ hpr)).a (fun x hx => by rw [p_kd_up _ _ _ _ (by decide), up3_ne _ _ (by omega)])) ((((S.R.code 0).free (Or.inr rfl) d _).copyOf d _).prom cc _ |>.free (Or.inl rfl) _ _) ((((S.I.code 0).up 28 d _ (by decide) (by omega)).up 10 cc _ (by decide) (by omega)).up 17 _ _ (by decide) (by omega)) ((((S.Z.upo 0 0 0 (by decide)).upo 0 _ _ (by decide)).upo 0 _ _ (by decide)).upo 0 _ _ (by decide)) (fun c hc => by rcases hc with rfl | rfl <;> simp [p_kd_up]) (fun c hc => by rcases hc with rfl | rfl | rfl <;> simp [p_kd_up]) (by simp [p_row_up, va_up]) ew elg en hg (fun z => absurd z (by decide)) (fun z => absurd z (by decide)) ?_ (fun rs pr h3 s3 h4 h7 h5 h6 h15 H => ?_)
  · obtain ⟨c1, c2, c3, c4, u, g9, c5, c6, c7, c8, c9⟩ := (S.P.cd d hd).mono
    have ec : p_c (up3 (up3 (up3 (up3 (up3 B 0 0 0 0) 28 0 d (nI cc)) 10 0 cc (nI ln)) 17 0 (d / 6) (nI cc)) 23 0 d 3) = p_c B := by simp only [p_c]; simp [p_row_up, va_up]
    have ea : (up3 (up3 A 4 d 4 (nI cc)) 1 cc 3 (nI ln)) 4 d 4 = nI cc := by rw [p_kd_up _ _ _ _ (by decide), up3_self]
    refine ⟨?_, ?_, ?_, ?_, u, g9, c5, ?_, ?_, c8, ?_⟩
    · rw [ea, ec]; exact Or.inr ⟨cc, hcc, rfl, by rw [p_kd_up _ _ _ _ (by decide), up3_self]⟩
    · rw [ea]; simp [p_row_up, va_up_self]
    · rw [up3_self]; exact fun z => absurd z (by decide)
    · rw [ec]; exact Or.inr ⟨cc, hcc, by simp [p_row_up, va_up_self]⟩
    · simp [p_row_up]; exact c6
    · simp [p_row_up]; exact c7
    · rw [up3_self]; exact fun z => absurd z (by decide)
  · refine (H.promise hs).iff rfl rfl Iff.rfl (by simp) Iff.rfl (by simp) (by simp) Iff.rfl Iff.rfl Iff.rfl ?_ (by simp [p_row_up])
    rw [p_kd_up _ _ _ _ (by decide), up3_self]
    exact iff_false_intro (nI_m1 (by have := S.I.S.nc.2; omega))
theorem p_nI_sub {a b : Nat} (h : b ≤ a) (ha : a < 2 ^ 31) : nI a - nI b = nI (a - b) := by
  have : nI (a - b) + nI b = nI a := by rw [nI_add]; congr 1; omega
  rw [← this, Int32.add_sub_cancel]
theorem p_max0 {a b : Nat} (ha : a < 2 ^ 30) (hb : b < 2 ^ 30) : (if 0 < nI a - nI b then nI a - nI b else 0) = if nI a ≤ nI b then 0 else nI a - nI b := by
  have ea := nI_toInt (n := a) (by omega); have eb := nI_toInt (n := b) (by omega)
  have es : (nI a - nI b).toInt = (a : Int) - b := by
    rw [Int32.toInt_sub, ea, eb]
    exact Int.bmod_eq_of_le (by omega) (by omega)
  by_cases h : b < a
  · rw [if_pos (by rw [Int32.lt_iff_toInt_lt, es]; show (0 : Int) < _; omega), if_neg (by rw [Int32.le_iff_toInt_le, ea, eb]; omega)]
  · rw [if_neg (by rw [Int32.lt_iff_toInt_lt, es]; show ¬ (0 : Int) < _; omega), if_pos (by rw [Int32.le_iff_toInt_le, ea, eb]; omega)]
theorem Sim.checkIn {A B : ew_R} {q ln b d g n w lg cp : Nat} {cc CH : Int32} (S : Sim A B q) (hq : q < 512) (ed : d = 6 * ln + b) (hb : b < 6) (hd : ¬ B 22 0 d = 0) (ew : w = wtB B) (elg : lg = lgB B) (en : n = p_n B (2 * d + 1)) (hg : p_ls 16 20 A d g n) (hs : B 23 0 d = 8) (hcp : cp < 32) (q28 : B 28 0 d = nI cp) (hCH : CH = 10 * (if 0 < B 0 0 1 - B 24 0 d then B 0 0 1 - B 24 0 d else 0) + B 25 0 d) : Sim (z_L_supplierWrites (up3 (up3 (up3 (up3 A 1 cp 2 (A 1 cp 0)) 1 cp 3 (-1)) 17 d 3 CH) 11 0 b (A 11 0 b + CH)) d g n w 9 13 CH) (s_stepSupplier_14 (up3 B 0 0 0 0) ln b cc cp w lg) (q + 1) := by
  have o : ∀ c, c ≠ 0 → up3 B 0 0 0 0 c = B c := fun c h => p_kd_up _ _ _ _ h
  obtain ⟨dt, hdt, e1⟩ := S.P.day
  obtain ⟨u, g9, e5, e6, e7, e8, e9⟩ := (S.P.cd d hd).du
  have hq2 := S.I.S.hq
  have hC : CH = B 25 0 d + (if B 0 0 1 ≤ B 24 0 d then 0 else 10 * (B 0 0 1 - B 24 0 d)) := by
    rw [hCH, e1, e7, p_max0 (by omega) (by omega), Int32.add_comm]
    split <;> simp
  have lg9 : ∀ Y : Int32, s_letGo (up3 (up3 (up3 (up3 B 0 0 0 0) 26 0 d Y) 6 0 b (B 6 0 b + Y)) 9 0 cp (B 8 0 cp)) d = up3 (up3 (up3 (up3 (up3 (up3 B 0 0 0 0) 26 0 d Y) 6 0 b (B 6 0 b + Y)) 9 0 cp (B 8 0 cp)) 10 0 cp (-1)) 28 0 d (-1) := by
    intro Y
    have e28 : up3 (up3 (up3 (up3 B 0 0 0 0) 26 0 d Y) 6 0 b (B 6 0 b + Y)) 9 0 cp (B 8 0 cp) 28 0 d = nI cp := by simp [p_row_up]; exact q28
    unfold s_letGo
    rw [e28, if_neg (nI_m1 (by omega)), nI_clamp (by omega)]
  have lt9 : ∀ Y : Int32, up3 (up3 (up3 (up3 (up3 (up3 B 0 0 0 0) 26 0 d Y) 6 0 b (B 6 0 b + Y)) 9 0 cp (B 8 0 cp)) 10 0 cp (-1)) 28 0 d (-1) 26 0 d = Y := by intro Y; simp [p_row_up, va_up_self]
  have e : s_stepSupplier_14 (up3 B 0 0 0 0) ln b cc cp w lg = s_write (up3 (up3 (up3 (up3 (up3 (up3 (up3 B 0 0 0 0) 26 0 d CH) 6 0 b (B 6 0 b + CH)) 9 0 cp (B 8 0 cp)) 10 0 cp (-1)) 28 0 d (-1)) 23 0 d 9) (2 * d + 1) 13 CH w lg := by
    have l1 := lg9 CH; have l2 := lt9 CH
    unfold s_stepSupplier_14
    rw [← ed, o 24 (by decide), o 25 (by decide), o 6 (by decide), o 8 (by decide), up3_ne _ _ (by decide)]
    by_cases h : B 0 0 1 ≤ B 24 0 d
    · rw [if_pos h] at hC
      rw [if_pos h, ← hC, l1, l2]
    · rw [if_neg h] at hC
      rw [if_neg h, ← hC, l1, l2]
  rw [e]
  have R0 : Rl (up3 (up3 (up3 (up3 A 1 cp 2 (A 1 cp 0)) 1 cp 3 (-1)) 17 d 3 CH) 11 0 b (A 11 0 b + CH)) (up3 (up3 (up3 (up3 (up3 (up3 B 0 0 0 0) 26 0 d CH) 6 0 b (B 6 0 b + CH)) 9 0 cp (B 8 0 cp)) 10 0 cp (-1)) 28 0 d (-1)) := by
    have h1 := (((((S.R.code 0).hold cp (B 8 0 cp)).prom cp (-1)).itch d CH).bal b (B 6 0 b + CH)).free (c := 28) (Or.inr rfl) d (-1)
    rw [show A 1 cp 0 = B 8 0 cp from congrFun S.R.C.c0 cp, S.R.C.bal]
    rw [up3_comm (show (10 : Nat) ≠ 26 by decide), up3_comm (show (9 : Nat) ≠ 26 by decide), up3_comm (show (10 : Nat) ≠ 6 by decide), up3_comm (show (9 : Nat) ≠ 6 by decide)] at h1
    exact h1
  refine S.sp hq hd ((((((((p_f0.code A B d 0).up _ (Or.inr (by simp))).up _ (Or.inr (by simp))).up _ (Or.inr (by simp))).up _ (Or.inr (by simp))).up _ (Or.inl ⟨by simp, rfl⟩))).a (fun x _ => by simp [p_kd_up])) R0 ((((((S.I.code 0).up 26 d _ (by decide) (by omega)).up 6 b _ (by decide) (by omega)).up 9 cp _ (by decide) (by omega)).up 10 cp _ (by decide) (by omega)).up 28 d _ (by decide) (by omega)) ((((((S.Z.upo 0 0 0 (by decide)).up CH (by rw [o 22 (by decide)]; exact hd) (by decide)).upo 0 b _ (by decide)).upo 0 cp _ (by decide)).upo 0 cp _ (by decide)).upo 0 d _ (by decide)) (fun c hc => by rcases hc with rfl | rfl <;> simp [p_kd_up]) (fun c hc => by rcases hc with rfl | rfl | rfl <;> simp [p_kd_up]) (by simp [p_row_up, va_up]) ew elg en hg (fun z => absurd z (by decide)) (fun z => absurd z (by decide)) ?_ (fun rs pr h3 s3 h4 h7 h5 h6 h15 H => ?_)
  · obtain ⟨c1, c2, c3, c4, -⟩ := (S.P.cd d hd).mono
    refine ⟨?_, ?_, ?_, ?_, u, g9, by omega, ?_, ?_, by omega, ?_⟩
    · simp only [p_c]; simp only [p_kd_up _ _ _ _ (show 4 ≠ 11 by decide), p_kd_up _ _ _ _ (show 4 ≠ 17 by decide), p_kd_up _ _ _ _ (show 4 ≠ 1 by decide)]; simp [p_row_up, va_up]; exact c1
    · rw [up3_self]; exact fun z => absurd z (by decide)
    · rw [up3_self]; exact fun z => absurd z (by decide)
    · left; rw [p_kd_up _ _ _ _ (by decide), up3_self]
    · simp [p_row_up]; exact e6
    · simp [p_row_up]; exact e7
    · rw [up3_self]; exact fun z => absurd z (by decide)
  · refine (H.checkIn hs).iff rfl rfl Iff.rfl (by simp) Iff.rfl (by simp) (by simp) Iff.rfl Iff.rfl Iff.rfl (by simp [p_kd_up]) (by simp [p_row_up])
