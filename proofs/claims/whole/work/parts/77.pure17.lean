/-! The supplier's steps -/
theorem p_f0.st {A A0 B B0 : ew_R} {d : Nat} (F : p_f0 A A0 B B0 d) (v w : Int32) : p_f0 A (up3 A0 17 d 0 w) B (up3 B0 23 0 d v) d := by
  have o : ∀ c, c ≠ 23 → up3 B0 23 0 d v c = B0 c := fun c h => p_kd_up _ _ _ _ h
  refine ⟨?_, ?_, fun x hx => ?_, fun x hx => ?_, fun x hx => ?_, fun x hx => ?_, fun x hx => ?_, fun x hx => ?_, fun l hl => ?_, ?_, fun l hl => ?_, ?_, fun k h1 h2 => ?_, fun c hc => ?_, fun e h1 h2 => ?_⟩
  · rw [o 22 (by decide)]; exact F.e22
  · rw [o 16 (by decide)]; exact F.e16
  · rw [up3_ne _ _ (by omega)]; exact F.o23 x hx
  · rw [o 24 (by decide)]; exact F.o24 x hx
  · rw [o 25 (by decide)]; exact F.o25 x hx
  · rw [o 27 (by decide)]; exact F.o27 x hx
  · rw [o 28 (by decide)]; exact F.o28 x hx
  · rw [p_kd_up _ _ _ _ (by decide)]; exact F.o4 x hx
  · rw [o 18 (by decide)]; exact F.o18 l hl
  · rw [o 18 (by decide)]; exact F.r18
  · rw [o 17 (by decide)]; exact F.o17 l hl
  · rw [o 17 (by decide)]; exact F.r17
  · rw [o 0 (by decide)]; exact F.e0 k h1 h2
  · rw [o c (by revert c; decide)]; exact F.eL c hc
  · rw [o 30 (by decide)]; exact F.o30 e h1 h2
theorem Sim.sp {A A0 B B0 : ew_R} {q d g n w lg : Nat} {v k t : Int32} (S : Sim A B q) (hq : q < 512) (hd : ¬ B 22 0 d = 0) (F0 : p_f0 A A0 B B0 d) (R0 : Rl A0 B0) (I0 : RfI B0 q) (Z0 : RfZ B0) (a0 : ∀ c, c = 16 ∨ c = 20 → A0 c = A c) (b0 : ∀ c, c = 18 ∨ c = 29 ∨ c = 30 → B0 c = B c) (b4 : B0 0 0 4 = B 0 0 4)
    (ew : w = wtB B) (elg : lg = lgB B) (en : n = p_n B (2 * d + 1)) (hg : p_ls 16 20 A d g n) (h3 : k = 3 → ¬ p_has B (2 * d + 1) 3) (h7 : k = 7 ∨ k = 11 → ¬ t = 0) (C : p_cd A0 (up3 B0 23 0 d v) (q + 1) d)
    (P : ∀ rs pr h3 s3 h4 h7 h5 h6 h15, Ph (B 23 0 d) rs pr h3 s3 h4 h7 h5 h6 h15 (A 4 d 4 = (-1)) (B 25 0 d = 0) → Ph v rs pr (k = 3 ∨ h3) s3 (k = 4 ∨ h4) (k = 7 ∨ h7) h5 h6 h15 (A0 4 d 4 = (-1)) (B0 25 0 d = 0)) : Sim (z_L_supplierWrites A0 d g n w v k t) (s_write (up3 B0 23 0 d v) (2 * d + 1) k t w lg) (q + 1) := by
  have o : ∀ c, c ≠ 23 → up3 B0 23 0 d v c = B0 c := fun c h => p_kd_up _ _ _ _ h
  have H := S.P.ph d hd
  unfold p_ph at H
  unfold z_L_supplierWrites
  have hd0 : ¬ B0 22 0 d = 0 := by rw [F0.e22]; exact hd
  have hin := S.I.L.in hd
  refine S.wr15 hq (F0.st v v) (R0.itst d v) (I0.up 23 d v (by decide) (by omega)) (Z0.up v hd0 (by decide)) hd ?_ ?_ ?_ ?_ h3 h7 ?_ ?_ ?_
  · rw [ew]; unfold wtB; rw [o 0 (by decide), b4]
  · rw [elg, (F0.st v v).lg]
  · rw [en]; unfold p_n; rw [o 29 (by decide), b0 29 (by simp)]
  · unfold p_ls at hg ⊢; rw [p_kd_up _ _ _ _ (by decide), p_kd_up _ _ _ _ (by decide), a0 16 (by simp), a0 20 (by simp)]; exact hg
  · rw [o 18 (by decide), b0 18 (by simp)]; exact S.P.rs _ hin.1
  · exact C.cg (by rw [p_kd_up _ _ _ _ (by decide)]) rfl rfl (fun _ _ => rfl)
  · refine (P _ _ _ _ _ _ _ _ _ H).iff (by rw [up3_self]) (by rw [o 18 (by decide), b0 18 (by simp)]) Iff.rfl Iff.rfl ?_ Iff.rfl Iff.rfl (by simp) (by simp) (by simp) (by rw [p_kd_up _ _ _ _ (by decide)]) (by rw [o 25 (by decide)])
    exact p_saw_cg ((F0.st v v).e0 5 (by decide) (by decide)) ((F0.st v v).eL 32 (by decide)) ((F0.st v v).eL 33 (by decide)) ((F0.st v v).eL 34 (by decide)) d (by simp only [p_s]; rw [o 30 (by decide), b0 30 (by simp)])
theorem p_f0.code (A B : ew_R) (d : Nat) (x : Int32) : p_f0 A A B (up3 B 0 0 0 x) d := by
  have o : ∀ c, c ≠ 0 → up3 B 0 0 0 x c = B c := fun c h => p_kd_up _ _ _ _ h
  refine ⟨by rw [o 22 (by decide)], by rw [o 16 (by decide)], fun _ _ => by rw [o 23 (by decide)], fun _ _ => by rw [o 24 (by decide)], fun _ _ => by rw [o 25 (by decide)], fun _ _ => by rw [o 27 (by decide)], fun _ _ => by rw [o 28 (by decide)], fun _ _ => rfl, fun _ _ => by rw [o 18 (by decide)], Or.inl (by rw [o 18 (by decide)]), fun _ _ => by rw [o 17 (by decide)], Or.inl (by rw [o 17 (by decide)]), fun k h1 _ => up3_ne _ _ (by omega), fun c hc => by rw [o c (by revert c; decide)], fun _ _ _ => by rw [o 30 (by decide)]⟩
/-- one more update of the deal's own -/
theorem p_f0.up {A A0 B B0 : ew_R} {d : Nat} (F : p_f0 A A0 B B0 d) {c i : Nat} (x : Int32) (hc : (c = 24 ∨ c = 25 ∨ c = 27 ∨ c = 28) ∧ i = d ∨ (c = 6 ∨ c = 9 ∨ c = 10 ∨ c = 26)) : p_f0 A A0 B (up3 B0 c 0 i x) d := by
  have o : ∀ c' i', ¬ (c' = c ∧ i' = i) → up3 B0 c 0 i x c' 0 i' = B0 c' 0 i' := fun c' i' h => up3_ne _ _ (fun z => h ⟨z.1, z.2.2⟩)
  have r : ∀ c', c' ≠ c → up3 B0 c 0 i x c' = B0 c' := fun c' h => p_kd_up _ _ _ _ h
  refine ⟨?_, ?_, fun x hx => ?_, fun x hx => ?_, fun x hx => ?_, fun x hx => ?_, fun x hx => ?_, F.o4, fun l hl => ?_, ?_, fun l hl => ?_, ?_, fun k h1 h2 => ?_, fun c hc => ?_, fun e h1 h2 => ?_⟩
  · rw [r 22 (by omega)]; exact F.e22
  · rw [r 16 (by omega)]; exact F.e16
  · rw [o 23 _ (by omega)]; exact F.o23 _ hx
  · rw [o 24 _ (by omega)]; exact F.o24 _ hx
  · rw [o 25 _ (by omega)]; exact F.o25 _ hx
  · rw [o 27 _ (by omega)]; exact F.o27 _ hx
  · rw [o 28 _ (by omega)]; exact F.o28 _ hx
  · rw [o 18 _ (by omega)]; exact F.o18 l hl
  · rw [o 18 _ (by omega)]; exact F.r18
  · rw [o 17 _ (by omega)]; exact F.o17 l hl
  · rw [o 17 _ (by omega)]; exact F.r17
  · rw [r 0 (by omega)]; exact F.e0 k h1 h2
  · rw [r _ (by simp at hc; omega)]; exact F.eL _ hc
  · rw [r 30 (by omega)]; exact F.o30 e h1 h2
theorem p_f0.a {A A0 A1 B B0 : ew_R} {d : Nat} (F : p_f0 A A0 B B0 d) (h : ∀ x, x ≠ d → A1 4 x 4 = A0 4 x 4) : p_f0 A A1 B B0 d := ⟨F.e22, F.e16, F.o23, F.o24, F.o25, F.o27, F.o28, fun x hx => by rw [h x hx]; exact F.o4 x hx, F.o18, F.r18, F.o17, F.r17, F.e0, F.eL, F.o30⟩
theorem p_f0.up17 {A A0 B B0 : ew_R} {d : Nat} (F : p_f0 A A0 B B0 d) (x : Int32) (hp : p_k B (d / 6) = d % 6) : p_f0 A A0 B (up3 B0 17 0 (d / 6) x) d := by
  have r : ∀ c', c' ≠ 17 → up3 B0 17 0 (d / 6) x c' = B0 c' := fun c' h => p_kd_up _ _ _ _ h
  refine ⟨?_, ?_, fun x hx => ?_, fun x hx => ?_, fun x hx => ?_, fun x hx => ?_, fun x hx => ?_, F.o4, fun l hl => ?_, ?_, fun l hl => ?_, Or.inr hp, fun k h1 h2 => ?_, fun c hc => ?_, fun e h1 h2 => ?_⟩
  · rw [r 22 (by omega)]; exact F.e22
  · rw [r 16 (by omega)]; exact F.e16
  · rw [r 23 (by omega)]; exact F.o23 _ hx
  · rw [r 24 (by omega)]; exact F.o24 _ hx
  · rw [r 25 (by omega)]; exact F.o25 _ hx
  · rw [r 27 (by omega)]; exact F.o27 _ hx
  · rw [r 28 (by omega)]; exact F.o28 _ hx
  · rw [r 18 (by omega)]; exact F.o18 l hl
  · rw [r 18 (by omega)]; exact F.r18
  · rw [up3_ne _ _ (by omega)]; exact F.o17 l hl
  · rw [r 0 (by omega)]; exact F.e0 k h1 h2
  · rw [r _ (by simp at hc; omega)]; exact F.eL _ hc
  · rw [r 30 (by omega)]; exact F.o30 e h1 h2
