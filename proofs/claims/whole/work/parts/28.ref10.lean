def lgB (B : ew_R) : Nat := (B 0 0 5).toNatClampNeg
def wtB (B : ew_R) : Nat := (B 0 0 4).toNatClampNeg
def nxB (B : ew_R) (fr to : Nat) : Int32 := s_find B (nI fr) (B 30 0 to + 1) (lgB B)
theorem s_fd_in (A : ew_R) (en nn : Int32) : ∀ r k, s_fd A en nn r k = (-1) ∨ ∃ j, k ≤ j ∧ j < k + r ∧ s_fd A en nn r k = nI j
  | 0, _ => Or.inl rfl
  | r + 1, k => by
    rw [s_fd_s]
    have h := s_fd_in A en nn r (k + 1)
    split
    · split
      · exact Or.inr ⟨k, by omega, by omega, rfl⟩
      · rcases h with h | ⟨j, h1, h2, h3⟩
        · exact Or.inl h
        · exact Or.inr ⟨j, by omega, by omega, h3⟩
    · rcases h with h | ⟨j, h1, h2, h3⟩
      · exact Or.inl h
      · exact Or.inr ⟨j, by omega, by omega, h3⟩
theorem nxB_in {B : ew_R} {fr to : Nat} (hl : lgB B ≤ 3000) (h : ¬ nxB B fr to = (-1)) : vp_in (nxB B fr to) 3000 := by
  rcases s_fd_in B (nI fr) (B 30 0 to + 1) (lgB B) 0 with q | ⟨j, -, h2, h3⟩
  · exact absurd q h
  · show vp_in (s_fd B (nI fr) (B 30 0 to + 1) (lgB B) 0) 3000
    rw [h3]
    exact vp_in_nI (by omega) (by decide)
/-- a letter is taken by the supplier / by the requester -/
def s_tk_e (B : ew_R) (ln b : Nat) : ew_R := s_takeSupplier (up3 B 30 0 ((2 * (6 * ln + b)) + 1) (B 30 0 ((2 * (6 * ln + b)) + 1) + 1)) ln (6 * ln + b) (B 34 0 (nxB B (2 * (6 * ln + b)) ((2 * (6 * ln + b)) + 1)).toNatClampNeg) (wtB B) (lgB B)
def s_tk_o (B : ew_R) (ln b : Nat) : ew_R := if nI b = B 16 0 ln then s_takeRequester (up3 B 30 0 (2 * (6 * ln + b)) (B 30 0 (2 * (6 * ln + b)) + 1)) ln (B 34 0 (nxB B ((2 * (6 * ln + b)) + 1) (2 * (6 * ln + b))).toNatClampNeg) (B 35 0 (nxB B ((2 * (6 * ln + b)) + 1) (2 * (6 * ln + b))).toNatClampNeg) (B 14 0 ln).toNatClampNeg (B 15 0 ln).toNatClampNeg (B 11 0 ln).toNatClampNeg (wtB B) (lgB B) else up3 B 30 0 (2 * (6 * ln + b)) (B 30 0 (2 * (6 * ln + b)) + 1)
def s_cl_e (ln b : Nat) : Nat → ew_R → Int32 × ew_R
  | 0, B => (0, B)
  | f + 1, B => if nxB B (2 * (6 * ln + b)) ((2 * (6 * ln + b)) + 1) = (-1) then (0, B) else if B 36 0 (nxB B (2 * (6 * ln + b)) ((2 * (6 * ln + b)) + 1)).toNatClampNeg = 0 then (0, B) else ((s_cl_e ln b f (s_tk_e B ln b)).1 + 1, (s_cl_e ln b f (s_tk_e B ln b)).2)
theorem s_cl_e_s (ln b f : Nat) (B : ew_R) : s_cl_e ln b (f + 1) B = if nxB B (2 * (6 * ln + b)) ((2 * (6 * ln + b)) + 1) = (-1) then (0, B) else if B 36 0 (nxB B (2 * (6 * ln + b)) ((2 * (6 * ln + b)) + 1)).toNatClampNeg = 0 then (0, B) else ((s_cl_e ln b f (s_tk_e B ln b)).1 + 1, (s_cl_e ln b f (s_tk_e B ln b)).2) := rfl
def s_cpre_e (A : ew_R) (i w ln b : Nat) : ew_R :=
  if A 39 0 i ≤ A 31 0 ((2 * (6 * ln + b)) + 1) then
    if A 37 0 i = (-1) then
      up3 A 0 0 0 0
    else
      if A 33 0 ((A 37 0 i).toNatClampNeg) ≤ A 30 0 ((2 * (6 * ln + b)) + 1) then
        up3 A 0 0 0 0
      else
        up3 (up3 A 0 0 0 0) 36 0 ((A 37 0 i).toNatClampNeg) 1
  else
    if A 37 0 i = (-1) then
      up3 (up3 A 0 0 0 0) 31 0 ((2 * (6 * ln + b)) + 1) (A 39 0 i)
    else
      if A 33 0 ((A 37 0 i).toNatClampNeg) ≤ A 30 0 ((2 * (6 * ln + b)) + 1) then
        up3 (up3 A 0 0 0 0) 31 0 ((2 * (6 * ln + b)) + 1) (A 39 0 i)
      else
        up3 (up3 (up3 A 0 0 0 0) 31 0 ((2 * (6 * ln + b)) + 1) (A 39 0 i)) 36 0 ((A 37 0 i).toNatClampNeg) 1
def s_carry_e (A : ew_R) (i w ln b f0 : Nat) : Int32 × ew_R := s_cl_e ln b f0 (s_cpre_e A i w ln b)

set_option maxHeartbeats 4000000 in
set_option maxRecDepth 100000 in
theorem r_carry_e (l : Launch) (D : va_G) (T : Nat → ClassId) (X : Nat → Nat → Nat) (L : List Nat) (tg : Nat → Nat × Nat) (sz : Nat) (hE : eR_E X L tg) (A : ew_R) (i : Nat) (w : Nat) (ln : Nat) (b : Nat) (f0 : Nat) (hi : i < w) (hw : w ≤ 64) (hq : A 0 0 4 = nI w) (hln : ln < 32) (hb6 : b < 6) (q38 : A 38 0 i = nI (2 * (6 * ln + b))) (q37 : A 37 0 i = (-1) ∨ vp_in (A 37 0 i) 3000) (Iv : Nat → ew_R → Prop) (Iv_g : ∀ f B, Iv f B → B 0 0 5 = nI (lgB B) ∧ lgB B ≤ 3000) (Iv_z : ∀ B, Iv 0 B → nxB B (2 * (6 * ln + b)) ((2 * (6 * ln + b)) + 1) = (-1) ∨ B 36 0 (nxB B (2 * (6 * ln + b)) ((2 * (6 * ln + b)) + 1)).toNatClampNeg = 0) (Iv_s : ∀ f B, Iv (f + 1) B → ¬ nxB B (2 * (6 * ln + b)) ((2 * (6 * ln + b)) + 1) = (-1) → ¬ B 36 0 (nxB B (2 * (6 * ln + b)) ((2 * (6 * ln + b)) + 1)).toNatClampNeg = 0 → (B 0 0 4 = nI (wtB B) ∧ wtB B ≤ 64 ∧ lgB B < 3000 ∧ (B 28 0 (6 * ln + b) = (-1) ∨ vp_in (B 28 0 (6 * ln + b)) 32)) ∧ Iv f (s_tk_e B ln b)) (Iv_0 : Iv f0 (s_cpre_e A i w ln b)) : Met l yM_carry wsM_carry ({ frames := 5, cells := 0, slots := 0, locals := 114 }) (er_Pc D vwCl (tysA T) (cfR T) X L tg A sz [.ref (X 0 0), .int (nI i)]) (er_Qi D vwCl (cfR T) X L tg sz (fun r u => r = (s_carry_e A i w ln b f0).1 ∧ u = (s_carry_e A i w ln b f0).2)) 0 0 (ew_A L sz) := by
  refine er_met (by decide) rfl (Nat.le_of_ble_eq_true rfl) ?_
  intro p e s m below meth c ls hx hb hr hts hown hlocks hml hV hK hS hA hl hsz
  subst hsz
  have hi0 := hE 0 (by decide)
  have hl : lv_has ls 7 [(0, .ref (X 0 0)), (1, .int (nI i))] := hl
  have tail : ∀ (H : Heap) (locs : List Loc) (ls : Array Slot), ew_V D vwCl (cfR T) (ew_A L s.heap.size) X L tg (s_cpre_e A i w ln b) [] H → va_S (ew_A L s.heap.size) s.heap H locs → lv_has ls 7 [(3, .int (nI ((2 * (6 * ln + b)) + 1))), (2, .int (nI (2 * (6 * ln + b)))), (0, .ref (X 0 0)), (1, .int (nI i))] → W p l e ({ frames := 5, cells := 0, slots := 0, locals := 114 }) s m ([.ref (X 0 0), .int (nI i)] : List Value).toArray below meth c H locs 0 0 (MQ below (er_Qi D vwCl (cfR T) X L tg s.heap.size (fun r u => r = (s_carry_e A i w ln b f0).1 ∧ u = (s_carry_e A i w ln b f0).2)) ([.ref (X 0 0), .int (nI i)] : List Value).toArray s 0 0 (ew_A L s.heap.size)) (F0 m 111 ls []) := by
    intro H locs ls hV hS hl
    obtain ⟨hg, hlg⟩ := Iv_g _ _ Iv_0
    refine lv_iload_n hx hb dM_carry_111 rfl (lv_at hl 1 rfl) ?_
    refine lv_bipush (v := 12) hx hb dM_carry_112 (by decide) ?_
    refine lv_idiv hx hb dM_carry_114 (by decide) ?_
    refine lv_toe (y := nI ((2 * (6 * ln + b)) / 12)) (pk_div (a := (2 * (6 * ln + b))) (d := 12) (by omega) (by decide) (by decide)) ?_
    refine lv_toe (y := nI ln) (by rw [show (2 * (6 * ln + b)) / 12 = ln by omega]) ?_
    refine lv_istore (lv' := [(4, .int (nI ln)), (3, .int (nI ((2 * (6 * ln + b)) + 1))), (2, .int (nI (2 * (6 * ln + b)))), (0, .ref (X 0 0)), (1, .int (nI i))]) hx hb dM_carry_115 hl (by decide) rfl (fun ls hl => ?_)
    refine lv_iconst (v := 0) hx hb dM_carry_117 (by decide) ?_
    refine lv_istore (lv' := [(5, .int 0), (4, .int (nI ln)), (3, .int (nI ((2 * (6 * ln + b)) + 1))), (2, .int (nI (2 * (6 * ln + b)))), (0, .ref (X 0 0)), (1, .int (nI i))]) hx hb dM_carry_118 hl (by decide) rfl (fun ls hl => ?_)
    refine lv_aload_n hx hb dM_carry_120 rfl (lv_at hl 4 rfl) ?_
    refine lv_iload_n hx hb dM_carry_121 rfl (lv_at hl 3 rfl) ?_
    refine lv_aload_n hx hb dM_carry_122 rfl (lv_at hl 4 rfl) ?_
    refine ew_get (v := .ref (X 30 0)) hx hb hts hown hK hV fM_83 hi0 (cR_0 _ _ _) rfl dM_carry_123 ?_
    refine lv_iload_n hx hb dM_carry_126 rfl (lv_at hl 2 rfl) ?_
    refine ew_iald (v := (s_cpre_e A i w ln b) 30 0 ((2 * (6 * ln + b)) + 1)) hx hb hK hV (hE 30 (by decide)) (cR_30 _ _ _) 0 rfl (vp_in_nI (by omega) (by decide)) (er_ix (by omega) rfl) dM_carry_127 ?_
    refine lv_iconst (v := 1) hx hb dM_carry_128 (by decide) ?_
    refine lv_iadd hx hb dM_carry_129 ?_
    refine er_calli (va_runV (As := [.int (nI (2 * (6 * ln + b))), .int (((s_cpre_e A i w ln b) 30 0 ((2 * (6 * ln + b)) + 1)) + 1)]) (rest := []) ⟨hx, hb, hml, hown, hts⟩ (r_find l D T X L tg _ hE (s_cpre_e A i w ln b) (nI (2 * (6 * ln + b))) (((s_cpre_e A i w ln b) 30 0 ((2 * (6 * ln + b)) + 1)) + 1) (lgB (s_cpre_e A i w ln b)) hlg hg) (cwV 2 hts gM_190 rfl rfl rfl (by decide +kernel) ⟨Nat.le_of_ble_eq_true rfl, Nat.le_of_ble_eq_true rfl⟩) (er_preV hK hV hi0 (cR_0 _ _ _) rfl) rfl rfl hl.1 rfl (lv_room (Nat.le_of_ble_eq_true rfl)) dM_carry_130 ⟨Nat.le_of_ble_eq_true rfl, Nat.le_of_ble_eq_true rfl⟩) hV hS hA (fun r u H locs hp hV hS => ?_)
    obtain ⟨rfl, eu9⟩ := hp
    rw [eu9] at hV
    refine lv_toe (y := nxB (s_cpre_e A i w ln b) (2 * (6 * ln + b)) ((2 * (6 * ln + b)) + 1)) rfl ?_
    refine lv_istore (lv' := [(6, .int (nxB (s_cpre_e A i w ln b) (2 * (6 * ln + b)) ((2 * (6 * ln + b)) + 1))), (5, .int 0), (4, .int (nI ln)), (3, .int (nI ((2 * (6 * ln + b)) + 1))), (2, .int (nI (2 * (6 * ln + b)))), (0, .ref (X 0 0)), (1, .int (nI i))]) hx hb dM_carry_133 hl (by decide) rfl (fun ls hl => ?_)
    have loop : ∀ (f : Nat) (B : ew_R) (acc : Int32), Iv f B → acc + (s_cl_e ln b f B).1 = (s_cl_e ln b f0 (s_cpre_e A i w ln b)).1 → (s_cl_e ln b f B).2 = (s_cl_e ln b f0 (s_cpre_e A i w ln b)).2 → ∀ (H : Heap) (locs : List Loc) (ls : Array Slot), ew_V D vwCl (cfR T) (ew_A L s.heap.size) X L tg B [] H → va_S (ew_A L s.heap.size) s.heap H locs → lv_has ls 7 [(6, .int (nxB B (2 * (6 * ln + b)) ((2 * (6 * ln + b)) + 1))), (5, .int acc), (4, .int (nI ln)), (3, .int (nI ((2 * (6 * ln + b)) + 1))), (2, .int (nI (2 * (6 * ln + b)))), (0, .ref (X 0 0)), (1, .int (nI i))] → W p l e ({ frames := 5, cells := 0, slots := 0, locals := 114 }) s m ([.ref (X 0 0), .int (nI i)] : List Value).toArray below meth c H locs 0 0 (MQ below (er_Qi D vwCl (cfR T) X L tg s.heap.size (fun r u => r = (s_carry_e A i w ln b f0).1 ∧ u = (s_carry_e A i w ln b f0).2)) ([.ref (X 0 0), .int (nI i)] : List Value).toArray s 0 0 (ew_A L s.heap.size)) (F0 m 135 ls []) := by
      intro f
      induction f with
      | zero =>
        intro B acc hIv hac hAc H locs ls hV hS hl
        obtain ⟨hg, hlg⟩ := Iv_g _ _ hIv
        refine lv_iload hx hb dM_carry_135 (lv_at hl 0 rfl) ?_
        refine lv_iconst (v := (-1)) hx hb dM_carry_137 (by decide) ?_
        refine lv_icmp_eq (tgt := 247) hx hb dM_carry_138 rfl (fun h1 => ?_) (fun h1 => ?_)
        · refine lv_iload hx hb dM_carry_247 (lv_at hl 1 rfl) ?_
          exact er_iret hx hb hr hlocks hV hS dM_carry_249 ⟨by show acc = (s_cl_e ln b f0 (s_cpre_e A i w ln b)).1; rw [← hac]; exact (Int32.add_zero _).symm, hAc⟩
        · refine lv_aload_n hx hb dM_carry_141 rfl (lv_at hl 5 rfl) ?_
          refine ew_get (v := .ref (X 36 0)) hx hb hts hown hK hV fM_101 hi0 (cR_0 _ _ _) rfl dM_carry_142 ?_
          refine lv_iload hx hb dM_carry_145 (lv_at hl 0 rfl) ?_
          refine ew_zald (v := B 36 0 ((nxB B (2 * (6 * ln + b)) ((2 * (6 * ln + b)) + 1)).toNatClampNeg)) hx hb hK hV (hE 36 (by decide)) (cR_36 _ _ _) 1 rfl (nxB_in hlg h1) rfl dM_carry_147 ?_
          refine lv_if_eq (tgt := 247) hx hb dM_carry_148 rfl (fun h2 => ?_) (fun h2 => ?_)
          · refine lv_iload hx hb dM_carry_247 (lv_at hl 1 rfl) ?_
            exact er_iret hx hb hr hlocks hV hS dM_carry_249 ⟨by show acc = (s_cl_e ln b f0 (s_cpre_e A i w ln b)).1; rw [← hac]; exact (Int32.add_zero _).symm, hAc⟩
          · exact absurd (Iv_z _ hIv) (fun q => q.elim h1 h2)
      | succ f ih =>
        intro B acc hIv hac hAc H locs ls hV hS hl
        obtain ⟨hg, hlg⟩ := Iv_g _ _ hIv
        refine lv_iload hx hb dM_carry_135 (lv_at hl 0 rfl) ?_
        refine lv_iconst (v := (-1)) hx hb dM_carry_137 (by decide) ?_
        refine lv_icmp_eq (tgt := 247) hx hb dM_carry_138 rfl (fun h1 => ?_) (fun h1 => ?_)
        · refine lv_iload hx hb dM_carry_247 (lv_at hl 1 rfl) ?_
          exact er_iret hx hb hr hlocks hV hS dM_carry_249 ⟨by show acc = (s_cl_e ln b f0 (s_cpre_e A i w ln b)).1; rw [← hac, s_cl_e_s, if_pos h1]; exact (Int32.add_zero _).symm, by show B = (s_cl_e ln b f0 (s_cpre_e A i w ln b)).2; rw [← hAc, s_cl_e_s, if_pos h1]⟩
        · refine lv_aload_n hx hb dM_carry_141 rfl (lv_at hl 5 rfl) ?_
          refine ew_get (v := .ref (X 36 0)) hx hb hts hown hK hV fM_101 hi0 (cR_0 _ _ _) rfl dM_carry_142 ?_
          refine lv_iload hx hb dM_carry_145 (lv_at hl 0 rfl) ?_
          refine ew_zald (v := B 36 0 ((nxB B (2 * (6 * ln + b)) ((2 * (6 * ln + b)) + 1)).toNatClampNeg)) hx hb hK hV (hE 36 (by decide)) (cR_36 _ _ _) 1 rfl (nxB_in hlg h1) rfl dM_carry_147 ?_
          refine lv_if_eq (tgt := 247) hx hb dM_carry_148 rfl (fun h2 => ?_) (fun h2 => ?_)
          · refine lv_iload hx hb dM_carry_247 (lv_at hl 1 rfl) ?_
            exact er_iret hx hb hr hlocks hV hS dM_carry_249 ⟨by show acc = (s_cl_e ln b f0 (s_cpre_e A i w ln b)).1; rw [← hac, s_cl_e_s, if_neg h1, if_pos h2]; exact (Int32.add_zero _).symm, by show B = (s_cl_e ln b f0 (s_cpre_e A i w ln b)).2; rw [← hAc, s_cl_e_s, if_neg h1, if_pos h2]⟩
          · obtain ⟨⟨hq, hw, hlg2, hcp⟩, -⟩ := Iv_s _ _ hIv h1 h2
            refine lv_aload_n hx hb dM_carry_151 rfl (lv_at hl 5 rfl) ?_
            refine ew_get (v := .ref (X 30 0)) hx hb hts hown hK hV fM_83 hi0 (cR_0 _ _ _) rfl dM_carry_152 ?_
            refine lv_iload_n hx hb dM_carry_155 rfl (lv_at hl 3 rfl) ?_
            refine lv_dup2_11 hx hb dM_carry_156 rfl rfl ?_
            refine ew_iald (v := B 30 0 ((2 * (6 * ln + b)) + 1)) hx hb hK hV (hE 30 (by decide)) (cR_30 _ _ _) 0 rfl (vp_in_nI (by omega) (by decide)) (er_ix (by omega) rfl) dM_carry_157 ?_
            refine lv_iconst (v := 1) hx hb dM_carry_158 (by decide) ?_
            refine lv_iadd hx hb dM_carry_159 ?_
            refine ew_iast hx hb hK hV hS (hE 30 (by decide)) (cR_30 _ _ _) 0 rfl (vp_in_nI (by omega) (by decide)) ((2 * (6 * ln + b)) + 1) (nI_clamp (by omega)) (qR_30 _ _ _ _ _) dM_carry_160 (fun H locs hV hS => ?_)
            refine lv_iinc (k := 1) (v := acc + 1) (lv' := [(5, .int (acc + 1)), (6, .int (nxB B (2 * (6 * ln + b)) ((2 * (6 * ln + b)) + 1))), (4, .int (nI ln)), (3, .int (nI ((2 * (6 * ln + b)) + 1))), (2, .int (nI (2 * (6 * ln + b)))), (0, .ref (X 0 0)), (1, .int (nI i))]) hx hb dM_carry_161 hl rfl rfl (by decide) rfl (fun ls hl => ?_)
            refine lv_iload_n hx hb dM_carry_164 rfl (lv_at hl 3 rfl) ?_
            refine lv_iconst (v := 2) hx hb dM_carry_165 (by decide) ?_
            refine lv_irem hx hb dM_carry_166 (by decide) ?_
            refine lv_toe (y := nI (((2 * (6 * ln + b)) + 1) % 2)) (pk_rem (a := ((2 * (6 * ln + b)) + 1)) (d := 2) (by omega) (by decide) (by decide)) ?_
            refine lv_iconst (v := 1) hx hb dM_carry_167 (by decide) ?_
            refine lv_icmp_ne (tgt := 190) hx hb dM_carry_168 rfl (fun h9 => absurd ((nI_eq (a := ((2 * (6 * ln + b)) + 1) % 2) (b := 1) (by omega) (by omega)).mpr (show ((2 * (6 * ln + b)) + 1) % 2 = 1 by omega)) h9) (fun _ => ?_)
            refine lv_aload_n hx hb dM_carry_171 rfl (lv_at hl 5 rfl) ?_
            refine lv_iload hx hb dM_carry_172 (lv_at hl 2 rfl) ?_
            refine lv_iload_n hx hb dM_carry_174 rfl (lv_at hl 3 rfl) ?_
            refine lv_iconst (v := 2) hx hb dM_carry_175 (by decide) ?_
            refine lv_idiv hx hb dM_carry_176 (by decide) ?_
            refine lv_toe (y := nI (((2 * (6 * ln + b)) + 1) / 2)) (pk_div (a := ((2 * (6 * ln + b)) + 1)) (d := 2) (by omega) (by decide) (by decide)) ?_
            refine lv_toe (y := nI (6 * ln + b)) (by rw [show ((2 * (6 * ln + b)) + 1) / 2 = 6 * ln + b by omega]) ?_
            refine lv_aload_n hx hb dM_carry_177 rfl (lv_at hl 5 rfl) ?_
            refine ew_get (v := .ref (X 34 0)) hx hb hts hown hK hV fM_95 hi0 (cR_0 _ _ _) rfl dM_carry_178 ?_
            refine lv_iload hx hb dM_carry_181 (lv_at hl 1 rfl) ?_
            refine ew_iald (v := B 34 0 ((nxB B (2 * (6 * ln + b)) ((2 * (6 * ln + b)) + 1)).toNatClampNeg)) hx hb hK hV (hE 34 (by decide)) (cR_34 _ _ _) 0 rfl (nxB_in hlg h1) rfl dM_carry_183 ?_
            refine er_callv (va_runV (As := [.int (nI ln), .int (nI (6 * ln + b)), .int (B 34 0 ((nxB B (2 * (6 * ln + b)) ((2 * (6 * ln + b)) + 1)).toNatClampNeg))]) (rest := []) ⟨hx, hb, hml, hown, hts⟩ (r_takeSupplier l D T X L tg _ hE (up3 B 30 0 ((2 * (6 * ln + b)) + 1) ((B 30 0 ((2 * (6 * ln + b)) + 1)) + 1)) ln (6 * ln + b) (B 34 0 ((nxB B (2 * (6 * ln + b)) ((2 * (6 * ln + b)) + 1)).toNatClampNeg)) (wtB B) (lgB B) (by omega) hln (by omega) (by omega) hcp hw hq hlg2 hg) (cwV 3 hts gM_194 rfl rfl rfl (by decide +kernel) ⟨Nat.le_of_ble_eq_true rfl, Nat.le_of_ble_eq_true rfl⟩) (er_preV hK hV hi0 (cR_0 _ _ _) rfl) rfl rfl hl.1 rfl (lv_room (Nat.le_of_ble_eq_true rfl)) dM_carry_184 ⟨Nat.le_of_ble_eq_true rfl, Nat.le_of_ble_eq_true rfl⟩) hV hS hA (fun u3 H locs eu3 hV hS => ?_)
            have eu3 : u3 = s_takeSupplier (up3 B 30 0 ((2 * (6 * ln + b)) + 1) ((B 30 0 ((2 * (6 * ln + b)) + 1)) + 1)) ln (6 * ln + b) (B 34 0 ((nxB B (2 * (6 * ln + b)) ((2 * (6 * ln + b)) + 1)).toNatClampNeg)) (wtB B) (lgB B) := eu3
            refine lv_goto (tgt := 229) hx hb dM_carry_187 rfl ?_
            refine lv_aload_n hx hb dM_carry_229 rfl (lv_at hl 5 rfl) ?_
            refine lv_iload_n hx hb dM_carry_230 rfl (lv_at hl 4 rfl) ?_
            refine lv_aload_n hx hb dM_carry_231 rfl (lv_at hl 5 rfl) ?_
            refine ew_get (v := .ref (X 30 0)) hx hb hts hown hK hV fM_83 hi0 (cR_0 _ _ _) rfl dM_carry_232 ?_
            refine lv_iload_n hx hb dM_carry_235 rfl (lv_at hl 3 rfl) ?_
            refine ew_iald (v := u3 30 0 ((2 * (6 * ln + b)) + 1)) hx hb hK hV (hE 30 (by decide)) (cR_30 _ _ _) 0 rfl (vp_in_nI (by omega) (by decide)) (er_ix (by omega) rfl) dM_carry_236 ?_
            refine lv_iconst (v := 1) hx hb dM_carry_237 (by decide) ?_
            refine lv_iadd hx hb dM_carry_238 ?_
            refine er_calli (va_runV (As := [.int (nI (2 * (6 * ln + b))), .int ((u3 30 0 ((2 * (6 * ln + b)) + 1)) + 1)]) (rest := []) ⟨hx, hb, hml, hown, hts⟩ (r_find l D T X L tg _ hE u3 (nI (2 * (6 * ln + b))) ((u3 30 0 ((2 * (6 * ln + b)) + 1)) + 1) (lgB u3) (by have z9 := (Iv_g _ _ (Iv_s _ _ hIv h1 h2).2).2; rw [eu3]; exact z9) (by have z9 := (Iv_g _ _ (Iv_s _ _ hIv h1 h2).2).1; rw [eu3]; exact z9)) (cwV 2 hts gM_190 rfl rfl rfl (by decide +kernel) ⟨Nat.le_of_ble_eq_true rfl, Nat.le_of_ble_eq_true rfl⟩) (er_preV hK hV hi0 (cR_0 _ _ _) rfl) rfl rfl hl.1 rfl (lv_room (Nat.le_of_ble_eq_true rfl)) dM_carry_239 ⟨Nat.le_of_ble_eq_true rfl, Nat.le_of_ble_eq_true rfl⟩) hV hS hA (fun r u H locs hp hV hS => ?_)
            obtain ⟨rfl, eu9⟩ := hp
            rw [eu9] at hV
            refine lv_toe (y := nxB u3 (2 * (6 * ln + b)) ((2 * (6 * ln + b)) + 1)) (by first | rfl | (unfold nxB; rw [up3_self])) ?_
            refine lv_istore (lv' := [(6, .int (nxB u3 (2 * (6 * ln + b)) ((2 * (6 * ln + b)) + 1))), (5, .int (acc + 1)), (4, .int (nI ln)), (3, .int (nI ((2 * (6 * ln + b)) + 1))), (2, .int (nI (2 * (6 * ln + b)))), (0, .ref (X 0 0)), (1, .int (nI i))]) hx hb dM_carry_242 hl (by decide) rfl (fun ls hl => ?_)
            refine lv_goto (tgt := 135) hx hb dM_carry_244 rfl ?_
            subst eu3
            have eT : (s_takeSupplier (up3 B 30 0 ((2 * (6 * ln + b)) + 1) ((B 30 0 ((2 * (6 * ln + b)) + 1)) + 1)) ln (6 * ln + b) (B 34 0 ((nxB B (2 * (6 * ln + b)) ((2 * (6 * ln + b)) + 1)).toNatClampNeg)) (wtB B) (lgB B)) = s_tk_e B ln b := rfl
            rw [eT] at hV hl
            exact ih (s_tk_e B ln b) (acc + 1) (Iv_s _ _ hIv h1 h2).2 (by rw [← hac, s_cl_e_s, if_neg h1, if_neg h2]; show acc + 1 + _ = acc + (_ + 1); rw [Int32.add_assoc, Int32.add_comm 1]) (by rw [← hAc, s_cl_e_s, if_neg h1, if_neg h2]) _ _ ls hV hS (lv_sub hl [0, 1, 2, 3, 4, 5, 6] rfl)
    exact loop f0 _ 0 Iv_0 (Int32.zero_add _) rfl _ _ ls hV hS (lv_sub hl [0, 1, 2, 3, 4, 5, 6] rfl)
  refine lv_aload_n hx hb dM_carry_0 rfl (lv_at hl 0 rfl) ?_
  refine lv_iconst (v := 0) hx hb dM_carry_1 (by decide) ?_
  refine ew_put (ty := .int) hx hb hts hown hK hV hS fM_113 gM hi0 (cR_0 _ _ _) 0 _ (pR_0 _ _ _ _) rfl (by decide +kernel) rfl rfl (Nat.le_of_ble_eq_true rfl) dM_carry_2 (fun H locs hV hS => ?_)
  refine lv_iload_n hx hb dM_carry_5 rfl (lv_at hl 1 rfl) ?_
  refine lv_if_lt (tgt := 17) hx hb dM_carry_6 rfl (fun h9 => absurd h9 (fun z9 => (show ¬ (i < 0) by omega) ((nI_ltI (a := i) (b := 0) (by omega) (by omega)).mp z9))) (fun _ => ?_)
  refine lv_iload_n hx hb dM_carry_9 rfl (lv_at hl 1 rfl) ?_
  refine lv_aload_n hx hb dM_carry_10 rfl (lv_at hl 0 rfl) ?_
  refine ew_get (v := .int (A 0 0 4)) hx hb hts hown hK hV fM_120 hi0 (cR_0 _ _ _) rfl dM_carry_11 ?_
  refine lv_toe (y := nI w) hq ?_
  refine lv_icmp_lt (tgt := 19) hx hb dM_carry_14 rfl (fun _ => ?_) (fun h9 => absurd ((nI_ltI (a := i) (b := w) (by omega) (by omega)).mpr (show i < w by omega)) h9)
  refine lv_aload_n hx hb dM_carry_19 rfl (lv_at hl 0 rfl) ?_
  refine ew_get (v := .ref (X 38 0)) hx hb hts hown hK hV fM_107 hi0 (cR_0 _ _ _) rfl dM_carry_20 ?_
  refine lv_iload_n hx hb dM_carry_23 rfl (lv_at hl 1 rfl) ?_
  refine ew_iald (v := A 38 0 i) hx hb hK hV (hE 38 (by decide)) (cR_38 _ _ _) 0 rfl (vp_in_nI (by omega) (by decide)) (er_ix (by omega) rfl) dM_carry_24 ?_
  refine lv_toe (y := nI (2 * (6 * ln + b))) q38 ?_
  refine lv_istore_n (lv' := [(2, .int (nI (2 * (6 * ln + b)))), (0, .ref (X 0 0)), (1, .int (nI i))]) hx hb dM_carry_25 rfl hl (by decide) rfl (fun ls hl => ?_)
  refine lv_iload_n hx hb dM_carry_26 rfl (lv_at hl 0 rfl) ?_
  refine lv_iconst (v := 2) hx hb dM_carry_27 (by decide) ?_
  refine lv_irem hx hb dM_carry_28 (by decide) ?_
  refine lv_toe (y := nI ((2 * (6 * ln + b)) % 2)) (pk_rem (a := (2 * (6 * ln + b))) (d := 2) (by omega) (by decide) (by decide)) ?_
  refine lv_if_ne (tgt := 38) hx hb dM_carry_29 rfl (fun h9 => absurd ((nI_eq (a := (2 * (6 * ln + b)) % 2) (b := 0) (by omega) (by omega)).mpr (show (2 * (6 * ln + b)) % 2 = 0 by omega)) h9) (fun _ => ?_)
  refine lv_iload_n hx hb dM_carry_32 rfl (lv_at hl 0 rfl) ?_
  refine lv_iconst (v := 1) hx hb dM_carry_33 (by decide) ?_
  refine lv_iadd hx hb dM_carry_34 ?_
  refine lv_toe (y := nI ((2 * (6 * ln + b)) + 1)) (nI_add (2 * (6 * ln + b)) 1) ?_
  refine lv_goto (tgt := 41) hx hb dM_carry_35 rfl ?_
  refine lv_istore_n (lv' := [(3, .int (nI ((2 * (6 * ln + b)) + 1))), (2, .int (nI (2 * (6 * ln + b)))), (0, .ref (X 0 0)), (1, .int (nI i))]) hx hb dM_carry_41 rfl hl (by decide) rfl (fun ls hl => ?_)
  refine lv_aload_n hx hb dM_carry_42 rfl (lv_at hl 2 rfl) ?_
  refine ew_get (v := .ref (X 39 0)) hx hb hts hown hK hV fM_110 hi0 (cR_0 _ _ _) rfl dM_carry_43 ?_
  refine lv_iload_n hx hb dM_carry_46 rfl (lv_at hl 3 rfl) ?_
  refine ew_iald (v := A 39 0 i) hx hb hK hV (hE 39 (by decide)) (cR_39 _ _ _) 0 rfl (vp_in_nI (by omega) (by decide)) (er_ix (by omega) rfl) dM_carry_47 ?_
  refine lv_aload_n hx hb dM_carry_48 rfl (lv_at hl 2 rfl) ?_
  refine ew_get (v := .ref (X 31 0)) hx hb hts hown hK hV fM_86 hi0 (cR_0 _ _ _) rfl dM_carry_49 ?_
  refine lv_iload_n hx hb dM_carry_52 rfl (lv_at hl 0 rfl) ?_
  refine ew_iald (v := A 31 0 ((2 * (6 * ln + b)) + 1)) hx hb hK hV (hE 31 (by decide)) (cR_31 _ _ _) 0 rfl (vp_in_nI (by omega) (by decide)) (er_ix (by omega) rfl) dM_carry_53 ?_
  refine lv_icmp_le (tgt := 69) hx hb dM_carry_54 rfl (fun h4 => ?_) (fun h4 => ?_)
  · refine lv_aload_n hx hb dM_carry_69 rfl (lv_at hl 2 rfl) ?_
    refine ew_get (v := .ref (X 37 0)) hx hb hts hown hK hV fM_104 hi0 (cR_0 _ _ _) rfl dM_carry_70 ?_
    refine lv_iload_n hx hb dM_carry_73 rfl (lv_at hl 3 rfl) ?_
    refine ew_iald (v := A 37 0 i) hx hb hK hV (hE 37 (by decide)) (cR_37 _ _ _) 0 rfl (vp_in_nI (by omega) (by decide)) (er_ix (by omega) rfl) dM_carry_74 ?_
    refine lv_iconst (v := (-1)) hx hb dM_carry_75 (by decide) ?_
    refine lv_icmp_eq (tgt := 111) hx hb dM_carry_76 rfl (fun h5 => ?_) (fun h5 => ?_)
    · have eB : up3 A 0 0 0 0 = s_cpre_e A i w ln b := Eq.symm (by unfold s_cpre_e; simp only [if_pos h4, if_pos h5])
      rw [eB] at hV
      exact tail _ _ ls hV hS (lv_sub hl [0, 1, 2, 3] rfl)
    · refine lv_aload_n hx hb dM_carry_79 rfl (lv_at hl 2 rfl) ?_
      refine ew_get (v := .ref (X 33 0)) hx hb hts hown hK hV fM_92 hi0 (cR_0 _ _ _) rfl dM_carry_80 ?_
      refine lv_aload_n hx hb dM_carry_83 rfl (lv_at hl 2 rfl) ?_
      refine ew_get (v := .ref (X 37 0)) hx hb hts hown hK hV fM_104 hi0 (cR_0 _ _ _) rfl dM_carry_84 ?_
      refine lv_iload_n hx hb dM_carry_87 rfl (lv_at hl 3 rfl) ?_
      refine ew_iald (v := A 37 0 i) hx hb hK hV (hE 37 (by decide)) (cR_37 _ _ _) 0 rfl (vp_in_nI (by omega) (by decide)) (er_ix (by omega) rfl) dM_carry_88 ?_
      refine ew_iald (v := A 33 0 ((A 37 0 i).toNatClampNeg)) hx hb hK hV (hE 33 (by decide)) (cR_33 _ _ _) 0 rfl (q37.resolve_left h5) rfl dM_carry_89 ?_
      refine lv_aload_n hx hb dM_carry_90 rfl (lv_at hl 2 rfl) ?_
      refine ew_get (v := .ref (X 30 0)) hx hb hts hown hK hV fM_83 hi0 (cR_0 _ _ _) rfl dM_carry_91 ?_
      refine lv_iload_n hx hb dM_carry_94 rfl (lv_at hl 0 rfl) ?_
      refine ew_iald (v := A 30 0 ((2 * (6 * ln + b)) + 1)) hx hb hK hV (hE 30 (by decide)) (cR_30 _ _ _) 0 rfl (vp_in_nI (by omega) (by decide)) (er_ix (by omega) rfl) dM_carry_95 ?_
      refine lv_icmp_le (tgt := 111) hx hb dM_carry_96 rfl (fun h6 => ?_) (fun h6 => ?_)
      · have eB : up3 A 0 0 0 0 = s_cpre_e A i w ln b := Eq.symm (by unfold s_cpre_e; simp only [if_pos h4, if_neg h5, if_pos h6])
        rw [eB] at hV
        exact tail _ _ ls hV hS (lv_sub hl [0, 1, 2, 3] rfl)
      · refine lv_aload_n hx hb dM_carry_99 rfl (lv_at hl 2 rfl) ?_
        refine ew_get (v := .ref (X 36 0)) hx hb hts hown hK hV fM_101 hi0 (cR_0 _ _ _) rfl dM_carry_100 ?_
        refine lv_aload_n hx hb dM_carry_103 rfl (lv_at hl 2 rfl) ?_
        refine ew_get (v := .ref (X 37 0)) hx hb hts hown hK hV fM_104 hi0 (cR_0 _ _ _) rfl dM_carry_104 ?_
        refine lv_iload_n hx hb dM_carry_107 rfl (lv_at hl 3 rfl) ?_
        refine ew_iald (v := A 37 0 i) hx hb hK hV (hE 37 (by decide)) (cR_37 _ _ _) 0 rfl (vp_in_nI (by omega) (by decide)) (er_ix (by omega) rfl) dM_carry_108 ?_
        refine lv_iconst (v := 1) hx hb dM_carry_109 (by decide) ?_
        refine ew_zast hx hb hK hV hS (hE 36 (by decide)) (cR_36 _ _ _) 1 rfl (q37.resolve_left h5) (by decide) ((A 37 0 i).toNatClampNeg) rfl (qR_36 _ _ _ _ _) dM_carry_110 (fun H locs hV hS => ?_)
        have eB : up3 (up3 A 0 0 0 0) 36 0 ((A 37 0 i).toNatClampNeg) 1 = s_cpre_e A i w ln b := Eq.symm (by unfold s_cpre_e; simp only [if_pos h4, if_neg h5, if_neg h6])
        rw [eB] at hV
        exact tail _ _ ls hV hS (lv_sub hl [0, 1, 2, 3] rfl)
  · refine lv_aload_n hx hb dM_carry_57 rfl (lv_at hl 2 rfl) ?_
    refine ew_get (v := .ref (X 31 0)) hx hb hts hown hK hV fM_86 hi0 (cR_0 _ _ _) rfl dM_carry_58 ?_
    refine lv_iload_n hx hb dM_carry_61 rfl (lv_at hl 0 rfl) ?_
    refine lv_aload_n hx hb dM_carry_62 rfl (lv_at hl 2 rfl) ?_
    refine ew_get (v := .ref (X 39 0)) hx hb hts hown hK hV fM_110 hi0 (cR_0 _ _ _) rfl dM_carry_63 ?_
    refine lv_iload_n hx hb dM_carry_66 rfl (lv_at hl 3 rfl) ?_
    refine ew_iald (v := A 39 0 i) hx hb hK hV (hE 39 (by decide)) (cR_39 _ _ _) 0 rfl (vp_in_nI (by omega) (by decide)) (er_ix (by omega) rfl) dM_carry_67 ?_
    refine ew_iast hx hb hK hV hS (hE 31 (by decide)) (cR_31 _ _ _) 0 rfl (vp_in_nI (by omega) (by decide)) ((2 * (6 * ln + b)) + 1) (nI_clamp (by omega)) (qR_31 _ _ _ _ _) dM_carry_68 (fun H locs hV hS => ?_)
    refine lv_aload_n hx hb dM_carry_69 rfl (lv_at hl 2 rfl) ?_
    refine ew_get (v := .ref (X 37 0)) hx hb hts hown hK hV fM_104 hi0 (cR_0 _ _ _) rfl dM_carry_70 ?_
    refine lv_iload_n hx hb dM_carry_73 rfl (lv_at hl 3 rfl) ?_
    refine ew_iald (v := A 37 0 i) hx hb hK hV (hE 37 (by decide)) (cR_37 _ _ _) 0 rfl (vp_in_nI (by omega) (by decide)) (er_ix (by omega) rfl) dM_carry_74 ?_
    refine lv_iconst (v := (-1)) hx hb dM_carry_75 (by decide) ?_
    refine lv_icmp_eq (tgt := 111) hx hb dM_carry_76 rfl (fun h7 => ?_) (fun h7 => ?_)
    · have eB : up3 (up3 A 0 0 0 0) 31 0 ((2 * (6 * ln + b)) + 1) (A 39 0 i) = s_cpre_e A i w ln b := Eq.symm (by unfold s_cpre_e; simp only [if_neg h4, if_pos h7])
      rw [eB] at hV
      exact tail _ _ ls hV hS (lv_sub hl [0, 1, 2, 3] rfl)
    · refine lv_aload_n hx hb dM_carry_79 rfl (lv_at hl 2 rfl) ?_
      refine ew_get (v := .ref (X 33 0)) hx hb hts hown hK hV fM_92 hi0 (cR_0 _ _ _) rfl dM_carry_80 ?_
      refine lv_aload_n hx hb dM_carry_83 rfl (lv_at hl 2 rfl) ?_
      refine ew_get (v := .ref (X 37 0)) hx hb hts hown hK hV fM_104 hi0 (cR_0 _ _ _) rfl dM_carry_84 ?_
      refine lv_iload_n hx hb dM_carry_87 rfl (lv_at hl 3 rfl) ?_
      refine ew_iald (v := A 37 0 i) hx hb hK hV (hE 37 (by decide)) (cR_37 _ _ _) 0 rfl (vp_in_nI (by omega) (by decide)) (er_ix (by omega) rfl) dM_carry_88 ?_
      refine ew_iald (v := A 33 0 ((A 37 0 i).toNatClampNeg)) hx hb hK hV (hE 33 (by decide)) (cR_33 _ _ _) 0 rfl (q37.resolve_left h7) rfl dM_carry_89 ?_
      refine lv_aload_n hx hb dM_carry_90 rfl (lv_at hl 2 rfl) ?_
      refine ew_get (v := .ref (X 30 0)) hx hb hts hown hK hV fM_83 hi0 (cR_0 _ _ _) rfl dM_carry_91 ?_
      refine lv_iload_n hx hb dM_carry_94 rfl (lv_at hl 0 rfl) ?_
      refine ew_iald (v := A 30 0 ((2 * (6 * ln + b)) + 1)) hx hb hK hV (hE 30 (by decide)) (cR_30 _ _ _) 0 rfl (vp_in_nI (by omega) (by decide)) (er_ix (by omega) rfl) dM_carry_95 ?_
      refine lv_icmp_le (tgt := 111) hx hb dM_carry_96 rfl (fun h8 => ?_) (fun h8 => ?_)
      · have eB : up3 (up3 A 0 0 0 0) 31 0 ((2 * (6 * ln + b)) + 1) (A 39 0 i) = s_cpre_e A i w ln b := Eq.symm (by unfold s_cpre_e; simp only [if_neg h4, if_neg h7, if_pos h8])
        rw [eB] at hV
        exact tail _ _ ls hV hS (lv_sub hl [0, 1, 2, 3] rfl)
      · refine lv_aload_n hx hb dM_carry_99 rfl (lv_at hl 2 rfl) ?_
        refine ew_get (v := .ref (X 36 0)) hx hb hts hown hK hV fM_101 hi0 (cR_0 _ _ _) rfl dM_carry_100 ?_
        refine lv_aload_n hx hb dM_carry_103 rfl (lv_at hl 2 rfl) ?_
        refine ew_get (v := .ref (X 37 0)) hx hb hts hown hK hV fM_104 hi0 (cR_0 _ _ _) rfl dM_carry_104 ?_
        refine lv_iload_n hx hb dM_carry_107 rfl (lv_at hl 3 rfl) ?_
        refine ew_iald (v := A 37 0 i) hx hb hK hV (hE 37 (by decide)) (cR_37 _ _ _) 0 rfl (vp_in_nI (by omega) (by decide)) (er_ix (by omega) rfl) dM_carry_108 ?_
        refine lv_iconst (v := 1) hx hb dM_carry_109 (by decide) ?_
        refine ew_zast hx hb hK hV hS (hE 36 (by decide)) (cR_36 _ _ _) 1 rfl (q37.resolve_left h7) (by decide) ((A 37 0 i).toNatClampNeg) rfl (qR_36 _ _ _ _ _) dM_carry_110 (fun H locs hV hS => ?_)
        have eB : up3 (up3 (up3 A 0 0 0 0) 31 0 ((2 * (6 * ln + b)) + 1) (A 39 0 i)) 36 0 ((A 37 0 i).toNatClampNeg) 1 = s_cpre_e A i w ln b := Eq.symm (by unfold s_cpre_e; simp only [if_neg h4, if_neg h7, if_neg h8])
        rw [eB] at hV
        exact tail _ _ ls hV hS (lv_sub hl [0, 1, 2, 3] rfl)

def s_cl_o (ln b : Nat) : Nat → ew_R → Int32 × ew_R
  | 0, B => (0, B)
  | f + 1, B => if nxB B ((2 * (6 * ln + b)) + 1) (2 * (6 * ln + b)) = (-1) then (0, B) else if B 36 0 (nxB B ((2 * (6 * ln + b)) + 1) (2 * (6 * ln + b))).toNatClampNeg = 0 then (0, B) else ((s_cl_o ln b f (s_tk_o B ln b)).1 + 1, (s_cl_o ln b f (s_tk_o B ln b)).2)
theorem s_cl_o_s (ln b f : Nat) (B : ew_R) : s_cl_o ln b (f + 1) B = if nxB B ((2 * (6 * ln + b)) + 1) (2 * (6 * ln + b)) = (-1) then (0, B) else if B 36 0 (nxB B ((2 * (6 * ln + b)) + 1) (2 * (6 * ln + b))).toNatClampNeg = 0 then (0, B) else ((s_cl_o ln b f (s_tk_o B ln b)).1 + 1, (s_cl_o ln b f (s_tk_o B ln b)).2) := rfl
def s_cpre_o (A : ew_R) (i w ln b : Nat) : ew_R :=
  if A 39 0 i ≤ A 31 0 (2 * (6 * ln + b)) then
    if A 37 0 i = (-1) then
      up3 A 0 0 0 0
    else
      if A 33 0 ((A 37 0 i).toNatClampNeg) ≤ A 30 0 (2 * (6 * ln + b)) then
        up3 A 0 0 0 0
      else
        up3 (up3 A 0 0 0 0) 36 0 ((A 37 0 i).toNatClampNeg) 1
  else
    if A 37 0 i = (-1) then
      up3 (up3 A 0 0 0 0) 31 0 (2 * (6 * ln + b)) (A 39 0 i)
    else
      if A 33 0 ((A 37 0 i).toNatClampNeg) ≤ A 30 0 (2 * (6 * ln + b)) then
        up3 (up3 A 0 0 0 0) 31 0 (2 * (6 * ln + b)) (A 39 0 i)
      else
        up3 (up3 (up3 A 0 0 0 0) 31 0 (2 * (6 * ln + b)) (A 39 0 i)) 36 0 ((A 37 0 i).toNatClampNeg) 1
def s_carry_o (A : ew_R) (i w ln b f0 : Nat) : Int32 × ew_R := s_cl_o ln b f0 (s_cpre_o A i w ln b)

set_option maxHeartbeats 4000000 in
set_option maxRecDepth 100000 in
theorem r_carry_o (l : Launch) (D : va_G) (T : Nat → ClassId) (X : Nat → Nat → Nat) (L : List Nat) (tg : Nat → Nat × Nat) (sz : Nat) (hE : eR_E X L tg) (A : ew_R) (i : Nat) (w : Nat) (ln : Nat) (b : Nat) (f0 : Nat) (hi : i < w) (hw : w ≤ 64) (hq : A 0 0 4 = nI w) (hln : ln < 32) (hb6 : b < 6) (q38 : A 38 0 i = nI ((2 * (6 * ln + b)) + 1)) (q37 : A 37 0 i = (-1) ∨ vp_in (A 37 0 i) 3000) (Iv : Nat → ew_R → Prop) (Iv_g : ∀ f B, Iv f B → B 0 0 5 = nI (lgB B) ∧ lgB B ≤ 3000) (Iv_z : ∀ B, Iv 0 B → nxB B ((2 * (6 * ln + b)) + 1) (2 * (6 * ln + b)) = (-1) ∨ B 36 0 (nxB B ((2 * (6 * ln + b)) + 1) (2 * (6 * ln + b))).toNatClampNeg = 0) (Iv_s : ∀ f B, Iv (f + 1) B → ¬ nxB B ((2 * (6 * ln + b)) + 1) (2 * (6 * ln + b)) = (-1) → ¬ B 36 0 (nxB B ((2 * (6 * ln + b)) + 1) (2 * (6 * ln + b))).toNatClampNeg = 0 → (B 0 0 4 = nI (wtB B) ∧ wtB B ≤ 64 ∧ lgB B < 3000 ∧ B 14 0 ln = nI (B 14 0 ln).toNatClampNeg ∧ (B 14 0 ln).toNatClampNeg < 6 ∧ B 15 0 ln = nI (B 15 0 ln).toNatClampNeg ∧ (B 15 0 ln).toNatClampNeg ≤ 8 ∧ B 11 0 ln = nI (B 11 0 ln).toNatClampNeg ∧ (B 11 0 ln).toNatClampNeg < 6) ∧ Iv f (s_tk_o B ln b)) (Iv_0 : Iv f0 (s_cpre_o A i w ln b)) : Met l yM_carry wsM_carry ({ frames := 5, cells := 0, slots := 0, locals := 114 }) (er_Pc D vwCl (tysA T) (cfR T) X L tg A sz [.ref (X 0 0), .int (nI i)]) (er_Qi D vwCl (cfR T) X L tg sz (fun r u => r = (s_carry_o A i w ln b f0).1 ∧ u = (s_carry_o A i w ln b f0).2)) 0 0 (ew_A L sz) := by
  refine er_met (by decide) rfl (Nat.le_of_ble_eq_true rfl) ?_
  intro p e s m below meth c ls hx hb hr hts hown hlocks hml hV hK hS hA hl hsz
  subst hsz
  have hi0 := hE 0 (by decide)
  have hl : lv_has ls 7 [(0, .ref (X 0 0)), (1, .int (nI i))] := hl
  have tail : ∀ (H : Heap) (locs : List Loc) (ls : Array Slot), ew_V D vwCl (cfR T) (ew_A L s.heap.size) X L tg (s_cpre_o A i w ln b) [] H → va_S (ew_A L s.heap.size) s.heap H locs → lv_has ls 7 [(3, .int (nI (2 * (6 * ln + b)))), (2, .int (nI ((2 * (6 * ln + b)) + 1))), (0, .ref (X 0 0)), (1, .int (nI i))] → W p l e ({ frames := 5, cells := 0, slots := 0, locals := 114 }) s m ([.ref (X 0 0), .int (nI i)] : List Value).toArray below meth c H locs 0 0 (MQ below (er_Qi D vwCl (cfR T) X L tg s.heap.size (fun r u => r = (s_carry_o A i w ln b f0).1 ∧ u = (s_carry_o A i w ln b f0).2)) ([.ref (X 0 0), .int (nI i)] : List Value).toArray s 0 0 (ew_A L s.heap.size)) (F0 m 111 ls []) := by
    intro H locs ls hV hS hl
    obtain ⟨hg, hlg⟩ := Iv_g _ _ Iv_0
    refine lv_iload_n hx hb dM_carry_111 rfl (lv_at hl 1 rfl) ?_
    refine lv_bipush (v := 12) hx hb dM_carry_112 (by decide) ?_
    refine lv_idiv hx hb dM_carry_114 (by decide) ?_
    refine lv_toe (y := nI (((2 * (6 * ln + b)) + 1) / 12)) (pk_div (a := ((2 * (6 * ln + b)) + 1)) (d := 12) (by omega) (by decide) (by decide)) ?_
    refine lv_toe (y := nI ln) (by rw [show ((2 * (6 * ln + b)) + 1) / 12 = ln by omega]) ?_
    refine lv_istore (lv' := [(4, .int (nI ln)), (3, .int (nI (2 * (6 * ln + b)))), (2, .int (nI ((2 * (6 * ln + b)) + 1))), (0, .ref (X 0 0)), (1, .int (nI i))]) hx hb dM_carry_115 hl (by decide) rfl (fun ls hl => ?_)
    refine lv_iconst (v := 0) hx hb dM_carry_117 (by decide) ?_
    refine lv_istore (lv' := [(5, .int 0), (4, .int (nI ln)), (3, .int (nI (2 * (6 * ln + b)))), (2, .int (nI ((2 * (6 * ln + b)) + 1))), (0, .ref (X 0 0)), (1, .int (nI i))]) hx hb dM_carry_118 hl (by decide) rfl (fun ls hl => ?_)
    refine lv_aload_n hx hb dM_carry_120 rfl (lv_at hl 4 rfl) ?_
    refine lv_iload_n hx hb dM_carry_121 rfl (lv_at hl 3 rfl) ?_
    refine lv_aload_n hx hb dM_carry_122 rfl (lv_at hl 4 rfl) ?_
    refine ew_get (v := .ref (X 30 0)) hx hb hts hown hK hV fM_83 hi0 (cR_0 _ _ _) rfl dM_carry_123 ?_
    refine lv_iload_n hx hb dM_carry_126 rfl (lv_at hl 2 rfl) ?_
    refine ew_iald (v := (s_cpre_o A i w ln b) 30 0 (2 * (6 * ln + b))) hx hb hK hV (hE 30 (by decide)) (cR_30 _ _ _) 0 rfl (vp_in_nI (by omega) (by decide)) (er_ix (by omega) rfl) dM_carry_127 ?_
    refine lv_iconst (v := 1) hx hb dM_carry_128 (by decide) ?_
    refine lv_iadd hx hb dM_carry_129 ?_
    refine er_calli (va_runV (As := [.int (nI ((2 * (6 * ln + b)) + 1)), .int (((s_cpre_o A i w ln b) 30 0 (2 * (6 * ln + b))) + 1)]) (rest := []) ⟨hx, hb, hml, hown, hts⟩ (r_find l D T X L tg _ hE (s_cpre_o A i w ln b) (nI ((2 * (6 * ln + b)) + 1)) (((s_cpre_o A i w ln b) 30 0 (2 * (6 * ln + b))) + 1) (lgB (s_cpre_o A i w ln b)) hlg hg) (cwV 2 hts gM_190 rfl rfl rfl (by decide +kernel) ⟨Nat.le_of_ble_eq_true rfl, Nat.le_of_ble_eq_true rfl⟩) (er_preV hK hV hi0 (cR_0 _ _ _) rfl) rfl rfl hl.1 rfl (lv_room (Nat.le_of_ble_eq_true rfl)) dM_carry_130 ⟨Nat.le_of_ble_eq_true rfl, Nat.le_of_ble_eq_true rfl⟩) hV hS hA (fun r u H locs hp hV hS => ?_)
    obtain ⟨rfl, eu9⟩ := hp
    rw [eu9] at hV
    refine lv_toe (y := nxB (s_cpre_o A i w ln b) ((2 * (6 * ln + b)) + 1) (2 * (6 * ln + b))) rfl ?_
    refine lv_istore (lv' := [(6, .int (nxB (s_cpre_o A i w ln b) ((2 * (6 * ln + b)) + 1) (2 * (6 * ln + b)))), (5, .int 0), (4, .int (nI ln)), (3, .int (nI (2 * (6 * ln + b)))), (2, .int (nI ((2 * (6 * ln + b)) + 1))), (0, .ref (X 0 0)), (1, .int (nI i))]) hx hb dM_carry_133 hl (by decide) rfl (fun ls hl => ?_)
    have loop : ∀ (f : Nat) (B : ew_R) (acc : Int32), Iv f B → acc + (s_cl_o ln b f B).1 = (s_cl_o ln b f0 (s_cpre_o A i w ln b)).1 → (s_cl_o ln b f B).2 = (s_cl_o ln b f0 (s_cpre_o A i w ln b)).2 → ∀ (H : Heap) (locs : List Loc) (ls : Array Slot), ew_V D vwCl (cfR T) (ew_A L s.heap.size) X L tg B [] H → va_S (ew_A L s.heap.size) s.heap H locs → lv_has ls 7 [(6, .int (nxB B ((2 * (6 * ln + b)) + 1) (2 * (6 * ln + b)))), (5, .int acc), (4, .int (nI ln)), (3, .int (nI (2 * (6 * ln + b)))), (2, .int (nI ((2 * (6 * ln + b)) + 1))), (0, .ref (X 0 0)), (1, .int (nI i))] → W p l e ({ frames := 5, cells := 0, slots := 0, locals := 114 }) s m ([.ref (X 0 0), .int (nI i)] : List Value).toArray below meth c H locs 0 0 (MQ below (er_Qi D vwCl (cfR T) X L tg s.heap.size (fun r u => r = (s_carry_o A i w ln b f0).1 ∧ u = (s_carry_o A i w ln b f0).2)) ([.ref (X 0 0), .int (nI i)] : List Value).toArray s 0 0 (ew_A L s.heap.size)) (F0 m 135 ls []) := by
      intro f
      induction f with
      | zero =>
        intro B acc hIv hac hAc H locs ls hV hS hl
        obtain ⟨hg, hlg⟩ := Iv_g _ _ hIv
        refine lv_iload hx hb dM_carry_135 (lv_at hl 0 rfl) ?_
        refine lv_iconst (v := (-1)) hx hb dM_carry_137 (by decide) ?_
        refine lv_icmp_eq (tgt := 247) hx hb dM_carry_138 rfl (fun h1 => ?_) (fun h1 => ?_)
        · refine lv_iload hx hb dM_carry_247 (lv_at hl 1 rfl) ?_
          exact er_iret hx hb hr hlocks hV hS dM_carry_249 ⟨by show acc = (s_cl_o ln b f0 (s_cpre_o A i w ln b)).1; rw [← hac]; exact (Int32.add_zero _).symm, hAc⟩
        · refine lv_aload_n hx hb dM_carry_141 rfl (lv_at hl 5 rfl) ?_
          refine ew_get (v := .ref (X 36 0)) hx hb hts hown hK hV fM_101 hi0 (cR_0 _ _ _) rfl dM_carry_142 ?_
          refine lv_iload hx hb dM_carry_145 (lv_at hl 0 rfl) ?_
          refine ew_zald (v := B 36 0 ((nxB B ((2 * (6 * ln + b)) + 1) (2 * (6 * ln + b))).toNatClampNeg)) hx hb hK hV (hE 36 (by decide)) (cR_36 _ _ _) 1 rfl (nxB_in hlg h1) rfl dM_carry_147 ?_
          refine lv_if_eq (tgt := 247) hx hb dM_carry_148 rfl (fun h2 => ?_) (fun h2 => ?_)
          · refine lv_iload hx hb dM_carry_247 (lv_at hl 1 rfl) ?_
            exact er_iret hx hb hr hlocks hV hS dM_carry_249 ⟨by show acc = (s_cl_o ln b f0 (s_cpre_o A i w ln b)).1; rw [← hac]; exact (Int32.add_zero _).symm, hAc⟩
          · exact absurd (Iv_z _ hIv) (fun q => q.elim h1 h2)
      | succ f ih =>
        intro B acc hIv hac hAc H locs ls hV hS hl
        obtain ⟨hg, hlg⟩ := Iv_g _ _ hIv
        refine lv_iload hx hb dM_carry_135 (lv_at hl 0 rfl) ?_
        refine lv_iconst (v := (-1)) hx hb dM_carry_137 (by decide) ?_
        refine lv_icmp_eq (tgt := 247) hx hb dM_carry_138 rfl (fun h1 => ?_) (fun h1 => ?_)
        · refine lv_iload hx hb dM_carry_247 (lv_at hl 1 rfl) ?_
          exact er_iret hx hb hr hlocks hV hS dM_carry_249 ⟨by show acc = (s_cl_o ln b f0 (s_cpre_o A i w ln b)).1; rw [← hac, s_cl_o_s, if_pos h1]; exact (Int32.add_zero _).symm, by show B = (s_cl_o ln b f0 (s_cpre_o A i w ln b)).2; rw [← hAc, s_cl_o_s, if_pos h1]⟩
        · refine lv_aload_n hx hb dM_carry_141 rfl (lv_at hl 5 rfl) ?_
          refine ew_get (v := .ref (X 36 0)) hx hb hts hown hK hV fM_101 hi0 (cR_0 _ _ _) rfl dM_carry_142 ?_
          refine lv_iload hx hb dM_carry_145 (lv_at hl 0 rfl) ?_
          refine ew_zald (v := B 36 0 ((nxB B ((2 * (6 * ln + b)) + 1) (2 * (6 * ln + b))).toNatClampNeg)) hx hb hK hV (hE 36 (by decide)) (cR_36 _ _ _) 1 rfl (nxB_in hlg h1) rfl dM_carry_147 ?_
          refine lv_if_eq (tgt := 247) hx hb dM_carry_148 rfl (fun h2 => ?_) (fun h2 => ?_)
          · refine lv_iload hx hb dM_carry_247 (lv_at hl 1 rfl) ?_
            exact er_iret hx hb hr hlocks hV hS dM_carry_249 ⟨by show acc = (s_cl_o ln b f0 (s_cpre_o A i w ln b)).1; rw [← hac, s_cl_o_s, if_neg h1, if_pos h2]; exact (Int32.add_zero _).symm, by show B = (s_cl_o ln b f0 (s_cpre_o A i w ln b)).2; rw [← hAc, s_cl_o_s, if_neg h1, if_pos h2]⟩
          · obtain ⟨⟨hq, hw, hlg2, q14, hst, q15, hak, q11, hrq⟩, -⟩ := Iv_s _ _ hIv h1 h2
            refine lv_aload_n hx hb dM_carry_151 rfl (lv_at hl 5 rfl) ?_
            refine ew_get (v := .ref (X 30 0)) hx hb hts hown hK hV fM_83 hi0 (cR_0 _ _ _) rfl dM_carry_152 ?_
            refine lv_iload_n hx hb dM_carry_155 rfl (lv_at hl 3 rfl) ?_
            refine lv_dup2_11 hx hb dM_carry_156 rfl rfl ?_
            refine ew_iald (v := B 30 0 (2 * (6 * ln + b))) hx hb hK hV (hE 30 (by decide)) (cR_30 _ _ _) 0 rfl (vp_in_nI (by omega) (by decide)) (er_ix (by omega) rfl) dM_carry_157 ?_
            refine lv_iconst (v := 1) hx hb dM_carry_158 (by decide) ?_
            refine lv_iadd hx hb dM_carry_159 ?_
            refine ew_iast hx hb hK hV hS (hE 30 (by decide)) (cR_30 _ _ _) 0 rfl (vp_in_nI (by omega) (by decide)) (2 * (6 * ln + b)) (nI_clamp (by omega)) (qR_30 _ _ _ _ _) dM_carry_160 (fun H locs hV hS => ?_)
            refine lv_iinc (k := 1) (v := acc + 1) (lv' := [(5, .int (acc + 1)), (6, .int (nxB B ((2 * (6 * ln + b)) + 1) (2 * (6 * ln + b)))), (4, .int (nI ln)), (3, .int (nI (2 * (6 * ln + b)))), (2, .int (nI ((2 * (6 * ln + b)) + 1))), (0, .ref (X 0 0)), (1, .int (nI i))]) hx hb dM_carry_161 hl rfl rfl (by decide) rfl (fun ls hl => ?_)
            refine lv_iload_n hx hb dM_carry_164 rfl (lv_at hl 3 rfl) ?_
            refine lv_iconst (v := 2) hx hb dM_carry_165 (by decide) ?_
            refine lv_irem hx hb dM_carry_166 (by decide) ?_
            refine lv_toe (y := nI ((2 * (6 * ln + b)) % 2)) (pk_rem (a := (2 * (6 * ln + b))) (d := 2) (by omega) (by decide) (by decide)) ?_
            refine lv_iconst (v := 1) hx hb dM_carry_167 (by decide) ?_
            refine lv_icmp_ne (tgt := 190) hx hb dM_carry_168 rfl (fun _ => ?_) (fun h9 => absurd h9 (fun z9 => (show ¬ ((2 * (6 * ln + b)) % 2 = 1) by omega) ((nI_eq (a := (2 * (6 * ln + b)) % 2) (b := 1) (by omega) (by omega)).mp z9)))
            refine lv_iload_n hx hb dM_carry_190 rfl (lv_at hl 3 rfl) ?_
            refine lv_iconst (v := 2) hx hb dM_carry_191 (by decide) ?_
            refine lv_idiv hx hb dM_carry_192 (by decide) ?_
            refine lv_toe (y := nI ((2 * (6 * ln + b)) / 2)) (pk_div (a := (2 * (6 * ln + b))) (d := 2) (by omega) (by decide) (by decide)) ?_
            refine lv_toe (y := nI (6 * ln + b)) (by rw [show (2 * (6 * ln + b)) / 2 = 6 * ln + b by omega]) ?_
            refine lv_bipush (v := 6) hx hb dM_carry_193 (by decide) ?_
            refine lv_iload hx hb dM_carry_195 (lv_at hl 2 rfl) ?_
            refine lv_imul hx hb dM_carry_197 ?_
            refine lv_toe (y := nI (6 * ln)) (pk_mul 6 ln) ?_
            refine lv_isub hx hb dM_carry_198 ?_
            refine lv_toe (y := nI ((6 * ln + b) - (6 * ln))) (pk_sub (a := 6 * ln + b) (b := 6 * ln) (by omega)) ?_
            refine lv_toe (y := nI b) (by rw [show (6 * ln + b) - (6 * ln) = b by omega]) ?_
            refine lv_aload_n hx hb dM_carry_199 rfl (lv_at hl 5 rfl) ?_
            refine ew_get (v := .ref (X 16 0)) hx hb hts hown hK hV fM_40 hi0 (cR_0 _ _ _) rfl dM_carry_200 ?_
            refine lv_iload hx hb dM_carry_203 (lv_at hl 2 rfl) ?_
            refine ew_iald (v := B 16 0 ln) hx hb hK hV (hE 16 (by decide)) (cR_16 _ _ _) 0 rfl (vp_in_nI (by omega) (by decide)) (er_ix (by omega) rfl) dM_carry_205 ?_
            refine lv_icmp_ne (tgt := 229) hx hb dM_carry_206 rfl (fun h3 => ?_) (fun h3 => ?_)
            · refine lv_aload_n hx hb dM_carry_229 rfl (lv_at hl 5 rfl) ?_
              refine lv_iload_n hx hb dM_carry_230 rfl (lv_at hl 4 rfl) ?_
              refine lv_aload_n hx hb dM_carry_231 rfl (lv_at hl 5 rfl) ?_
              refine ew_get (v := .ref (X 30 0)) hx hb hts hown hK hV fM_83 hi0 (cR_0 _ _ _) rfl dM_carry_232 ?_
              refine lv_iload_n hx hb dM_carry_235 rfl (lv_at hl 3 rfl) ?_
              refine ew_iald (v := (B 30 0 (2 * (6 * ln + b))) + 1) hx hb hK hV (hE 30 (by decide)) (cR_30 _ _ _) 0 rfl (vp_in_nI (by omega) (by decide)) (er_ix (by omega) (by simp [up3, va_up])) dM_carry_236 ?_
              refine lv_iconst (v := 1) hx hb dM_carry_237 (by decide) ?_
              refine lv_iadd hx hb dM_carry_238 ?_
              refine er_calli (va_runV (As := [.int (nI ((2 * (6 * ln + b)) + 1)), .int (((B 30 0 (2 * (6 * ln + b))) + 1) + 1)]) (rest := []) ⟨hx, hb, hml, hown, hts⟩ (r_find l D T X L tg _ hE (up3 B 30 0 (2 * (6 * ln + b)) ((B 30 0 (2 * (6 * ln + b))) + 1)) (nI ((2 * (6 * ln + b)) + 1)) (((B 30 0 (2 * (6 * ln + b))) + 1) + 1) (lgB (up3 B 30 0 (2 * (6 * ln + b)) ((B 30 0 (2 * (6 * ln + b))) + 1))) (by have z9 := (Iv_g _ _ (Iv_s _ _ hIv h1 h2).2).2; unfold s_tk_o at z9; rw [if_neg h3] at z9; exact z9) (by have z9 := (Iv_g _ _ (Iv_s _ _ hIv h1 h2).2).1; unfold s_tk_o at z9; rw [if_neg h3] at z9; exact z9)) (cwV 2 hts gM_190 rfl rfl rfl (by decide +kernel) ⟨Nat.le_of_ble_eq_true rfl, Nat.le_of_ble_eq_true rfl⟩) (er_preV hK hV hi0 (cR_0 _ _ _) rfl) rfl rfl hl.1 rfl (lv_room (Nat.le_of_ble_eq_true rfl)) dM_carry_239 ⟨Nat.le_of_ble_eq_true rfl, Nat.le_of_ble_eq_true rfl⟩) hV hS hA (fun r u H locs hp hV hS => ?_)
              obtain ⟨rfl, eu9⟩ := hp
              rw [eu9] at hV
              refine lv_toe (y := nxB (up3 B 30 0 (2 * (6 * ln + b)) ((B 30 0 (2 * (6 * ln + b))) + 1)) ((2 * (6 * ln + b)) + 1) (2 * (6 * ln + b))) (by first | rfl | (unfold nxB; rw [up3_self])) ?_
              refine lv_istore (lv' := [(6, .int (nxB (up3 B 30 0 (2 * (6 * ln + b)) ((B 30 0 (2 * (6 * ln + b))) + 1)) ((2 * (6 * ln + b)) + 1) (2 * (6 * ln + b)))), (5, .int (acc + 1)), (4, .int (nI ln)), (3, .int (nI (2 * (6 * ln + b)))), (2, .int (nI ((2 * (6 * ln + b)) + 1))), (0, .ref (X 0 0)), (1, .int (nI i))]) hx hb dM_carry_242 hl (by decide) rfl (fun ls hl => ?_)
              refine lv_goto (tgt := 135) hx hb dM_carry_244 rfl ?_
              have eT : up3 B 30 0 (2 * (6 * ln + b)) ((B 30 0 (2 * (6 * ln + b))) + 1) = s_tk_o B ln b := Eq.symm (by unfold s_tk_o; rw [if_neg h3])
              rw [eT] at hV hl
              exact ih (s_tk_o B ln b) (acc + 1) (Iv_s _ _ hIv h1 h2).2 (by rw [← hac, s_cl_o_s, if_neg h1, if_neg h2]; show acc + 1 + _ = acc + (_ + 1); rw [Int32.add_assoc, Int32.add_comm 1]) (by rw [← hAc, s_cl_o_s, if_neg h1, if_neg h2]) _ _ ls hV hS (lv_sub hl [0, 1, 2, 3, 4, 5, 6] rfl)
            · refine lv_aload_n hx hb dM_carry_209 rfl (lv_at hl 5 rfl) ?_
              refine lv_iload hx hb dM_carry_210 (lv_at hl 2 rfl) ?_
              refine lv_aload_n hx hb dM_carry_212 rfl (lv_at hl 5 rfl) ?_
              refine ew_get (v := .ref (X 34 0)) hx hb hts hown hK hV fM_95 hi0 (cR_0 _ _ _) rfl dM_carry_213 ?_
              refine lv_iload hx hb dM_carry_216 (lv_at hl 1 rfl) ?_
              refine ew_iald (v := B 34 0 ((nxB B ((2 * (6 * ln + b)) + 1) (2 * (6 * ln + b))).toNatClampNeg)) hx hb hK hV (hE 34 (by decide)) (cR_34 _ _ _) 0 rfl (nxB_in hlg h1) rfl dM_carry_218 ?_
              refine lv_aload_n hx hb dM_carry_219 rfl (lv_at hl 5 rfl) ?_
              refine ew_get (v := .ref (X 35 0)) hx hb hts hown hK hV fM_98 hi0 (cR_0 _ _ _) rfl dM_carry_220 ?_
              refine lv_iload hx hb dM_carry_223 (lv_at hl 1 rfl) ?_
              refine ew_iald (v := B 35 0 ((nxB B ((2 * (6 * ln + b)) + 1) (2 * (6 * ln + b))).toNatClampNeg)) hx hb hK hV (hE 35 (by decide)) (cR_35 _ _ _) 0 rfl (nxB_in hlg h1) rfl dM_carry_225 ?_
              refine er_callv (va_runV (As := [.int (nI ln), .int (B 34 0 ((nxB B ((2 * (6 * ln + b)) + 1) (2 * (6 * ln + b))).toNatClampNeg)), .int (B 35 0 ((nxB B ((2 * (6 * ln + b)) + 1) (2 * (6 * ln + b))).toNatClampNeg))]) (rest := []) ⟨hx, hb, hml, hown, hts⟩ (r_takeRequester l D T X L tg _ hE (up3 B 30 0 (2 * (6 * ln + b)) ((B 30 0 (2 * (6 * ln + b))) + 1)) ln (B 34 0 ((nxB B ((2 * (6 * ln + b)) + 1) (2 * (6 * ln + b))).toNatClampNeg)) (B 35 0 ((nxB B ((2 * (6 * ln + b)) + 1) (2 * (6 * ln + b))).toNatClampNeg)) ((B 14 0 ln).toNatClampNeg) ((B 15 0 ln).toNatClampNeg) ((B 11 0 ln).toNatClampNeg) (wtB B) (lgB B) hln hst hak hrq hw hq hlg2 hg q14 q15 q11) (cwV 3 hts gM_197 rfl rfl rfl (by decide +kernel) ⟨Nat.le_of_ble_eq_true rfl, Nat.le_of_ble_eq_true rfl⟩) (er_preV hK hV hi0 (cR_0 _ _ _) rfl) rfl rfl hl.1 rfl (lv_room (Nat.le_of_ble_eq_true rfl)) dM_carry_226 ⟨Nat.le_of_ble_eq_true rfl, Nat.le_of_ble_eq_true rfl⟩) hV hS hA (fun u4 H locs eu4 hV hS => ?_)
              have eu4 : u4 = s_takeRequester (up3 B 30 0 (2 * (6 * ln + b)) ((B 30 0 (2 * (6 * ln + b))) + 1)) ln (B 34 0 ((nxB B ((2 * (6 * ln + b)) + 1) (2 * (6 * ln + b))).toNatClampNeg)) (B 35 0 ((nxB B ((2 * (6 * ln + b)) + 1) (2 * (6 * ln + b))).toNatClampNeg)) ((B 14 0 ln).toNatClampNeg) ((B 15 0 ln).toNatClampNeg) ((B 11 0 ln).toNatClampNeg) (wtB B) (lgB B) := eu4
              refine lv_aload_n hx hb dM_carry_229 rfl (lv_at hl 5 rfl) ?_
              refine lv_iload_n hx hb dM_carry_230 rfl (lv_at hl 4 rfl) ?_
              refine lv_aload_n hx hb dM_carry_231 rfl (lv_at hl 5 rfl) ?_
              refine ew_get (v := .ref (X 30 0)) hx hb hts hown hK hV fM_83 hi0 (cR_0 _ _ _) rfl dM_carry_232 ?_
              refine lv_iload_n hx hb dM_carry_235 rfl (lv_at hl 3 rfl) ?_
              refine ew_iald (v := u4 30 0 (2 * (6 * ln + b))) hx hb hK hV (hE 30 (by decide)) (cR_30 _ _ _) 0 rfl (vp_in_nI (by omega) (by decide)) (er_ix (by omega) rfl) dM_carry_236 ?_
              refine lv_iconst (v := 1) hx hb dM_carry_237 (by decide) ?_
              refine lv_iadd hx hb dM_carry_238 ?_
              refine er_calli (va_runV (As := [.int (nI ((2 * (6 * ln + b)) + 1)), .int ((u4 30 0 (2 * (6 * ln + b))) + 1)]) (rest := []) ⟨hx, hb, hml, hown, hts⟩ (r_find l D T X L tg _ hE u4 (nI ((2 * (6 * ln + b)) + 1)) ((u4 30 0 (2 * (6 * ln + b))) + 1) (lgB u4) (by have z9 := (Iv_g _ _ (Iv_s _ _ hIv h1 h2).2).2; unfold s_tk_o at z9; rw [if_pos h3] at z9; rw [eu4]; exact z9) (by have z9 := (Iv_g _ _ (Iv_s _ _ hIv h1 h2).2).1; unfold s_tk_o at z9; rw [if_pos h3] at z9; rw [eu4]; exact z9)) (cwV 2 hts gM_190 rfl rfl rfl (by decide +kernel) ⟨Nat.le_of_ble_eq_true rfl, Nat.le_of_ble_eq_true rfl⟩) (er_preV hK hV hi0 (cR_0 _ _ _) rfl) rfl rfl hl.1 rfl (lv_room (Nat.le_of_ble_eq_true rfl)) dM_carry_239 ⟨Nat.le_of_ble_eq_true rfl, Nat.le_of_ble_eq_true rfl⟩) hV hS hA (fun r u H locs hp hV hS => ?_)
              obtain ⟨rfl, eu9⟩ := hp
              rw [eu9] at hV
              refine lv_toe (y := nxB u4 ((2 * (6 * ln + b)) + 1) (2 * (6 * ln + b))) (by first | rfl | (unfold nxB; rw [up3_self])) ?_
              refine lv_istore (lv' := [(6, .int (nxB u4 ((2 * (6 * ln + b)) + 1) (2 * (6 * ln + b)))), (5, .int (acc + 1)), (4, .int (nI ln)), (3, .int (nI (2 * (6 * ln + b)))), (2, .int (nI ((2 * (6 * ln + b)) + 1))), (0, .ref (X 0 0)), (1, .int (nI i))]) hx hb dM_carry_242 hl (by decide) rfl (fun ls hl => ?_)
              refine lv_goto (tgt := 135) hx hb dM_carry_244 rfl ?_
              subst eu4
              have eT : (s_takeRequester (up3 B 30 0 (2 * (6 * ln + b)) ((B 30 0 (2 * (6 * ln + b))) + 1)) ln (B 34 0 ((nxB B ((2 * (6 * ln + b)) + 1) (2 * (6 * ln + b))).toNatClampNeg)) (B 35 0 ((nxB B ((2 * (6 * ln + b)) + 1) (2 * (6 * ln + b))).toNatClampNeg)) ((B 14 0 ln).toNatClampNeg) ((B 15 0 ln).toNatClampNeg) ((B 11 0 ln).toNatClampNeg) (wtB B) (lgB B)) = s_tk_o B ln b := Eq.symm (by unfold s_tk_o; rw [if_pos h3])
              rw [eT] at hV hl
              exact ih (s_tk_o B ln b) (acc + 1) (Iv_s _ _ hIv h1 h2).2 (by rw [← hac, s_cl_o_s, if_neg h1, if_neg h2]; show acc + 1 + _ = acc + (_ + 1); rw [Int32.add_assoc, Int32.add_comm 1]) (by rw [← hAc, s_cl_o_s, if_neg h1, if_neg h2]) _ _ ls hV hS (lv_sub hl [0, 1, 2, 3, 4, 5, 6] rfl)
    exact loop f0 _ 0 Iv_0 (Int32.zero_add _) rfl _ _ ls hV hS (lv_sub hl [0, 1, 2, 3, 4, 5, 6] rfl)
  refine lv_aload_n hx hb dM_carry_0 rfl (lv_at hl 0 rfl) ?_
  refine lv_iconst (v := 0) hx hb dM_carry_1 (by decide) ?_
  refine ew_put (ty := .int) hx hb hts hown hK hV hS fM_113 gM hi0 (cR_0 _ _ _) 0 _ (pR_0 _ _ _ _) rfl (by decide +kernel) rfl rfl (Nat.le_of_ble_eq_true rfl) dM_carry_2 (fun H locs hV hS => ?_)
  refine lv_iload_n hx hb dM_carry_5 rfl (lv_at hl 1 rfl) ?_
  refine lv_if_lt (tgt := 17) hx hb dM_carry_6 rfl (fun h9 => absurd h9 (fun z9 => (show ¬ (i < 0) by omega) ((nI_ltI (a := i) (b := 0) (by omega) (by omega)).mp z9))) (fun _ => ?_)
  refine lv_iload_n hx hb dM_carry_9 rfl (lv_at hl 1 rfl) ?_
  refine lv_aload_n hx hb dM_carry_10 rfl (lv_at hl 0 rfl) ?_
  refine ew_get (v := .int (A 0 0 4)) hx hb hts hown hK hV fM_120 hi0 (cR_0 _ _ _) rfl dM_carry_11 ?_
  refine lv_toe (y := nI w) hq ?_
  refine lv_icmp_lt (tgt := 19) hx hb dM_carry_14 rfl (fun _ => ?_) (fun h9 => absurd ((nI_ltI (a := i) (b := w) (by omega) (by omega)).mpr (show i < w by omega)) h9)
  refine lv_aload_n hx hb dM_carry_19 rfl (lv_at hl 0 rfl) ?_
  refine ew_get (v := .ref (X 38 0)) hx hb hts hown hK hV fM_107 hi0 (cR_0 _ _ _) rfl dM_carry_20 ?_
  refine lv_iload_n hx hb dM_carry_23 rfl (lv_at hl 1 rfl) ?_
  refine ew_iald (v := A 38 0 i) hx hb hK hV (hE 38 (by decide)) (cR_38 _ _ _) 0 rfl (vp_in_nI (by omega) (by decide)) (er_ix (by omega) rfl) dM_carry_24 ?_
  refine lv_toe (y := nI ((2 * (6 * ln + b)) + 1)) q38 ?_
  refine lv_istore_n (lv' := [(2, .int (nI ((2 * (6 * ln + b)) + 1))), (0, .ref (X 0 0)), (1, .int (nI i))]) hx hb dM_carry_25 rfl hl (by decide) rfl (fun ls hl => ?_)
  refine lv_iload_n hx hb dM_carry_26 rfl (lv_at hl 0 rfl) ?_
  refine lv_iconst (v := 2) hx hb dM_carry_27 (by decide) ?_
  refine lv_irem hx hb dM_carry_28 (by decide) ?_
  refine lv_toe (y := nI (((2 * (6 * ln + b)) + 1) % 2)) (pk_rem (a := ((2 * (6 * ln + b)) + 1)) (d := 2) (by omega) (by decide) (by decide)) ?_
  refine lv_if_ne (tgt := 38) hx hb dM_carry_29 rfl (fun _ => ?_) (fun h9 => absurd h9 (fun z9 => (show ¬ (((2 * (6 * ln + b)) + 1) % 2 = 0) by omega) ((nI_eq (a := ((2 * (6 * ln + b)) + 1) % 2) (b := 0) (by omega) (by omega)).mp z9)))
  refine lv_iload_n hx hb dM_carry_38 rfl (lv_at hl 0 rfl) ?_
  refine lv_iconst (v := 1) hx hb dM_carry_39 (by decide) ?_
  refine lv_isub hx hb dM_carry_40 ?_
  refine lv_toe (y := nI (2 * (6 * ln + b))) (nI_pred (2 * (6 * ln + b))) ?_
  refine lv_istore_n (lv' := [(3, .int (nI (2 * (6 * ln + b)))), (2, .int (nI ((2 * (6 * ln + b)) + 1))), (0, .ref (X 0 0)), (1, .int (nI i))]) hx hb dM_carry_41 rfl hl (by decide) rfl (fun ls hl => ?_)
  refine lv_aload_n hx hb dM_carry_42 rfl (lv_at hl 2 rfl) ?_
  refine ew_get (v := .ref (X 39 0)) hx hb hts hown hK hV fM_110 hi0 (cR_0 _ _ _) rfl dM_carry_43 ?_
  refine lv_iload_n hx hb dM_carry_46 rfl (lv_at hl 3 rfl) ?_
  refine ew_iald (v := A 39 0 i) hx hb hK hV (hE 39 (by decide)) (cR_39 _ _ _) 0 rfl (vp_in_nI (by omega) (by decide)) (er_ix (by omega) rfl) dM_carry_47 ?_
  refine lv_aload_n hx hb dM_carry_48 rfl (lv_at hl 2 rfl) ?_
  refine ew_get (v := .ref (X 31 0)) hx hb hts hown hK hV fM_86 hi0 (cR_0 _ _ _) rfl dM_carry_49 ?_
  refine lv_iload_n hx hb dM_carry_52 rfl (lv_at hl 0 rfl) ?_
  refine ew_iald (v := A 31 0 (2 * (6 * ln + b))) hx hb hK hV (hE 31 (by decide)) (cR_31 _ _ _) 0 rfl (vp_in_nI (by omega) (by decide)) (er_ix (by omega) rfl) dM_carry_53 ?_
  refine lv_icmp_le (tgt := 69) hx hb dM_carry_54 rfl (fun h5 => ?_) (fun h5 => ?_)
  · refine lv_aload_n hx hb dM_carry_69 rfl (lv_at hl 2 rfl) ?_
    refine ew_get (v := .ref (X 37 0)) hx hb hts hown hK hV fM_104 hi0 (cR_0 _ _ _) rfl dM_carry_70 ?_
    refine lv_iload_n hx hb dM_carry_73 rfl (lv_at hl 3 rfl) ?_
    refine ew_iald (v := A 37 0 i) hx hb hK hV (hE 37 (by decide)) (cR_37 _ _ _) 0 rfl (vp_in_nI (by omega) (by decide)) (er_ix (by omega) rfl) dM_carry_74 ?_
    refine lv_iconst (v := (-1)) hx hb dM_carry_75 (by decide) ?_
    refine lv_icmp_eq (tgt := 111) hx hb dM_carry_76 rfl (fun h6 => ?_) (fun h6 => ?_)
    · have eB : up3 A 0 0 0 0 = s_cpre_o A i w ln b := Eq.symm (by unfold s_cpre_o; simp only [if_pos h5, if_pos h6])
      rw [eB] at hV
      exact tail _ _ ls hV hS (lv_sub hl [0, 1, 2, 3] rfl)
    · refine lv_aload_n hx hb dM_carry_79 rfl (lv_at hl 2 rfl) ?_
      refine ew_get (v := .ref (X 33 0)) hx hb hts hown hK hV fM_92 hi0 (cR_0 _ _ _) rfl dM_carry_80 ?_
      refine lv_aload_n hx hb dM_carry_83 rfl (lv_at hl 2 rfl) ?_
      refine ew_get (v := .ref (X 37 0)) hx hb hts hown hK hV fM_104 hi0 (cR_0 _ _ _) rfl dM_carry_84 ?_
      refine lv_iload_n hx hb dM_carry_87 rfl (lv_at hl 3 rfl) ?_
      refine ew_iald (v := A 37 0 i) hx hb hK hV (hE 37 (by decide)) (cR_37 _ _ _) 0 rfl (vp_in_nI (by omega) (by decide)) (er_ix (by omega) rfl) dM_carry_88 ?_
      refine ew_iald (v := A 33 0 ((A 37 0 i).toNatClampNeg)) hx hb hK hV (hE 33 (by decide)) (cR_33 _ _ _) 0 rfl (q37.resolve_left h6) rfl dM_carry_89 ?_
      refine lv_aload_n hx hb dM_carry_90 rfl (lv_at hl 2 rfl) ?_
      refine ew_get (v := .ref (X 30 0)) hx hb hts hown hK hV fM_83 hi0 (cR_0 _ _ _) rfl dM_carry_91 ?_
      refine lv_iload_n hx hb dM_carry_94 rfl (lv_at hl 0 rfl) ?_
      refine ew_iald (v := A 30 0 (2 * (6 * ln + b))) hx hb hK hV (hE 30 (by decide)) (cR_30 _ _ _) 0 rfl (vp_in_nI (by omega) (by decide)) (er_ix (by omega) rfl) dM_carry_95 ?_
      refine lv_icmp_le (tgt := 111) hx hb dM_carry_96 rfl (fun h7 => ?_) (fun h7 => ?_)
      · have eB : up3 A 0 0 0 0 = s_cpre_o A i w ln b := Eq.symm (by unfold s_cpre_o; simp only [if_pos h5, if_neg h6, if_pos h7])
        rw [eB] at hV
        exact tail _ _ ls hV hS (lv_sub hl [0, 1, 2, 3] rfl)
      · refine lv_aload_n hx hb dM_carry_99 rfl (lv_at hl 2 rfl) ?_
        refine ew_get (v := .ref (X 36 0)) hx hb hts hown hK hV fM_101 hi0 (cR_0 _ _ _) rfl dM_carry_100 ?_
        refine lv_aload_n hx hb dM_carry_103 rfl (lv_at hl 2 rfl) ?_
        refine ew_get (v := .ref (X 37 0)) hx hb hts hown hK hV fM_104 hi0 (cR_0 _ _ _) rfl dM_carry_104 ?_
        refine lv_iload_n hx hb dM_carry_107 rfl (lv_at hl 3 rfl) ?_
        refine ew_iald (v := A 37 0 i) hx hb hK hV (hE 37 (by decide)) (cR_37 _ _ _) 0 rfl (vp_in_nI (by omega) (by decide)) (er_ix (by omega) rfl) dM_carry_108 ?_
        refine lv_iconst (v := 1) hx hb dM_carry_109 (by decide) ?_
        refine ew_zast hx hb hK hV hS (hE 36 (by decide)) (cR_36 _ _ _) 1 rfl (q37.resolve_left h6) (by decide) ((A 37 0 i).toNatClampNeg) rfl (qR_36 _ _ _ _ _) dM_carry_110 (fun H locs hV hS => ?_)
        have eB : up3 (up3 A 0 0 0 0) 36 0 ((A 37 0 i).toNatClampNeg) 1 = s_cpre_o A i w ln b := Eq.symm (by unfold s_cpre_o; simp only [if_pos h5, if_neg h6, if_neg h7])
        rw [eB] at hV
        exact tail _ _ ls hV hS (lv_sub hl [0, 1, 2, 3] rfl)
  · refine lv_aload_n hx hb dM_carry_57 rfl (lv_at hl 2 rfl) ?_
    refine ew_get (v := .ref (X 31 0)) hx hb hts hown hK hV fM_86 hi0 (cR_0 _ _ _) rfl dM_carry_58 ?_
    refine lv_iload_n hx hb dM_carry_61 rfl (lv_at hl 0 rfl) ?_
    refine lv_aload_n hx hb dM_carry_62 rfl (lv_at hl 2 rfl) ?_
    refine ew_get (v := .ref (X 39 0)) hx hb hts hown hK hV fM_110 hi0 (cR_0 _ _ _) rfl dM_carry_63 ?_
    refine lv_iload_n hx hb dM_carry_66 rfl (lv_at hl 3 rfl) ?_
    refine ew_iald (v := A 39 0 i) hx hb hK hV (hE 39 (by decide)) (cR_39 _ _ _) 0 rfl (vp_in_nI (by omega) (by decide)) (er_ix (by omega) rfl) dM_carry_67 ?_
    refine ew_iast hx hb hK hV hS (hE 31 (by decide)) (cR_31 _ _ _) 0 rfl (vp_in_nI (by omega) (by decide)) (2 * (6 * ln + b)) (nI_clamp (by omega)) (qR_31 _ _ _ _ _) dM_carry_68 (fun H locs hV hS => ?_)
    refine lv_aload_n hx hb dM_carry_69 rfl (lv_at hl 2 rfl) ?_
    refine ew_get (v := .ref (X 37 0)) hx hb hts hown hK hV fM_104 hi0 (cR_0 _ _ _) rfl dM_carry_70 ?_
    refine lv_iload_n hx hb dM_carry_73 rfl (lv_at hl 3 rfl) ?_
    refine ew_iald (v := A 37 0 i) hx hb hK hV (hE 37 (by decide)) (cR_37 _ _ _) 0 rfl (vp_in_nI (by omega) (by decide)) (er_ix (by omega) rfl) dM_carry_74 ?_
    refine lv_iconst (v := (-1)) hx hb dM_carry_75 (by decide) ?_
    refine lv_icmp_eq (tgt := 111) hx hb dM_carry_76 rfl (fun h8 => ?_) (fun h8 => ?_)
    · have eB : up3 (up3 A 0 0 0 0) 31 0 (2 * (6 * ln + b)) (A 39 0 i) = s_cpre_o A i w ln b := Eq.symm (by unfold s_cpre_o; simp only [if_neg h5, if_pos h8])
      rw [eB] at hV
      exact tail _ _ ls hV hS (lv_sub hl [0, 1, 2, 3] rfl)
    · refine lv_aload_n hx hb dM_carry_79 rfl (lv_at hl 2 rfl) ?_
      refine ew_get (v := .ref (X 33 0)) hx hb hts hown hK hV fM_92 hi0 (cR_0 _ _ _) rfl dM_carry_80 ?_
      refine lv_aload_n hx hb dM_carry_83 rfl (lv_at hl 2 rfl) ?_
      refine ew_get (v := .ref (X 37 0)) hx hb hts hown hK hV fM_104 hi0 (cR_0 _ _ _) rfl dM_carry_84 ?_
      refine lv_iload_n hx hb dM_carry_87 rfl (lv_at hl 3 rfl) ?_
      refine ew_iald (v := A 37 0 i) hx hb hK hV (hE 37 (by decide)) (cR_37 _ _ _) 0 rfl (vp_in_nI (by omega) (by decide)) (er_ix (by omega) rfl) dM_carry_88 ?_
      refine ew_iald (v := A 33 0 ((A 37 0 i).toNatClampNeg)) hx hb hK hV (hE 33 (by decide)) (cR_33 _ _ _) 0 rfl (q37.resolve_left h8) rfl dM_carry_89 ?_
      refine lv_aload_n hx hb dM_carry_90 rfl (lv_at hl 2 rfl) ?_
      refine ew_get (v := .ref (X 30 0)) hx hb hts hown hK hV fM_83 hi0 (cR_0 _ _ _) rfl dM_carry_91 ?_
      refine lv_iload_n hx hb dM_carry_94 rfl (lv_at hl 0 rfl) ?_
      refine ew_iald (v := A 30 0 (2 * (6 * ln + b))) hx hb hK hV (hE 30 (by decide)) (cR_30 _ _ _) 0 rfl (vp_in_nI (by omega) (by decide)) (er_ix (by omega) rfl) dM_carry_95 ?_
      refine lv_icmp_le (tgt := 111) hx hb dM_carry_96 rfl (fun h9 => ?_) (fun h9 => ?_)
      · have eB : up3 (up3 A 0 0 0 0) 31 0 (2 * (6 * ln + b)) (A 39 0 i) = s_cpre_o A i w ln b := Eq.symm (by unfold s_cpre_o; simp only [if_neg h5, if_neg h8, if_pos h9])
        rw [eB] at hV
        exact tail _ _ ls hV hS (lv_sub hl [0, 1, 2, 3] rfl)
      · refine lv_aload_n hx hb dM_carry_99 rfl (lv_at hl 2 rfl) ?_
        refine ew_get (v := .ref (X 36 0)) hx hb hts hown hK hV fM_101 hi0 (cR_0 _ _ _) rfl dM_carry_100 ?_
        refine lv_aload_n hx hb dM_carry_103 rfl (lv_at hl 2 rfl) ?_
        refine ew_get (v := .ref (X 37 0)) hx hb hts hown hK hV fM_104 hi0 (cR_0 _ _ _) rfl dM_carry_104 ?_
        refine lv_iload_n hx hb dM_carry_107 rfl (lv_at hl 3 rfl) ?_
        refine ew_iald (v := A 37 0 i) hx hb hK hV (hE 37 (by decide)) (cR_37 _ _ _) 0 rfl (vp_in_nI (by omega) (by decide)) (er_ix (by omega) rfl) dM_carry_108 ?_
        refine lv_iconst (v := 1) hx hb dM_carry_109 (by decide) ?_
        refine ew_zast hx hb hK hV hS (hE 36 (by decide)) (cR_36 _ _ _) 1 rfl (q37.resolve_left h8) (by decide) ((A 37 0 i).toNatClampNeg) rfl (qR_36 _ _ _ _ _) dM_carry_110 (fun H locs hV hS => ?_)
        have eB : up3 (up3 (up3 A 0 0 0 0) 31 0 (2 * (6 * ln + b)) (A 39 0 i)) 36 0 ((A 37 0 i).toNatClampNeg) 1 = s_cpre_o A i w ln b := Eq.symm (by unfold s_cpre_o; simp only [if_neg h5, if_neg h8, if_neg h9])
        rw [eB] at hV
        exact tail _ _ ls hV hS (lv_sub hl [0, 1, 2, 3] rfl)

def s_carry_neg (A : ew_R) (i : Int32) : Int32 × ew_R :=
  ((-1), up3 A 0 0 0 0)
set_option maxHeartbeats 4000000 in
set_option maxRecDepth 100000 in
theorem r_carry_neg (l : Launch) (D : va_G) (T : Nat → ClassId) (X : Nat → Nat → Nat) (L : List Nat) (tg : Nat → Nat × Nat) (sz : Nat) (hE : eR_E X L tg) (A : ew_R) (i : Int32) (hn0 : i < 0) : Met l yM_carry wsM_carry ({ frames := 5, cells := 0, slots := 0, locals := 114 }) (er_Pc D vwCl (tysA T) (cfR T) X L tg A sz [.ref (X 0 0), .int i]) (er_Qi D vwCl (cfR T) X L tg sz (fun r u => r = (s_carry_neg A i).1 ∧ u = (s_carry_neg A i).2)) 0 0 (ew_A L sz) := by
  refine er_met (by decide) rfl (Nat.le_of_ble_eq_true rfl) ?_
  intro p e s m below meth c ls hx hb hr hts hown hlocks hml hV hK hS hA hl hsz
  subst hsz
  have hi0 := hE 0 (by decide)
  have hl : lv_has ls 7 [(0, .ref (X 0 0)), (1, .int i)] := hl
  refine lv_aload_n hx hb dM_carry_0 rfl (lv_at hl 0 rfl) ?_
  refine lv_iconst (v := 0) hx hb dM_carry_1 (by decide) ?_
  refine ew_put (ty := .int) hx hb hts hown hK hV hS fM_113 gM hi0 (cR_0 _ _ _) 0 _ (pR_0 _ _ _ _) rfl (by decide +kernel) rfl rfl (Nat.le_of_ble_eq_true rfl) dM_carry_2 (fun H locs hV hS => ?_)
  refine lv_iload_n hx hb dM_carry_5 rfl (lv_at hl 1 rfl) ?_
  refine lv_if_lt (tgt := 17) hx hb dM_carry_6 rfl (fun _ => ?_) (fun h9 => absurd hn0 h9)
  refine lv_iconst (v := (-1)) hx hb dM_carry_17 (by decide) ?_
  exact er_iret hx hb hr hlocks hV hS dM_carry_18 ⟨Eq.symm (by unfold s_carry_neg; rfl), Eq.symm (by unfold s_carry_neg; rfl)⟩

def s_carry_big (A : ew_R) (i : Int32) (w : Nat) : Int32 × ew_R :=
  ((-1), up3 A 0 0 0 0)
set_option maxHeartbeats 4000000 in
set_option maxRecDepth 100000 in
theorem r_carry_big (l : Launch) (D : va_G) (T : Nat → ClassId) (X : Nat → Nat → Nat) (L : List Nat) (tg : Nat → Nat × Nat) (sz : Nat) (hE : eR_E X L tg) (A : ew_R) (i : Int32) (w : Nat) (hn0 : ¬ i < 0) (hno : nI w ≤ i) (hq : A 0 0 4 = nI w) : Met l yM_carry wsM_carry ({ frames := 5, cells := 0, slots := 0, locals := 114 }) (er_Pc D vwCl (tysA T) (cfR T) X L tg A sz [.ref (X 0 0), .int i]) (er_Qi D vwCl (cfR T) X L tg sz (fun r u => r = (s_carry_big A i w).1 ∧ u = (s_carry_big A i w).2)) 0 0 (ew_A L sz) := by
  refine er_met (by decide) rfl (Nat.le_of_ble_eq_true rfl) ?_
  intro p e s m below meth c ls hx hb hr hts hown hlocks hml hV hK hS hA hl hsz
  subst hsz
  have hi0 := hE 0 (by decide)
  have hl : lv_has ls 7 [(0, .ref (X 0 0)), (1, .int i)] := hl
  refine lv_aload_n hx hb dM_carry_0 rfl (lv_at hl 0 rfl) ?_
  refine lv_iconst (v := 0) hx hb dM_carry_1 (by decide) ?_
  refine ew_put (ty := .int) hx hb hts hown hK hV hS fM_113 gM hi0 (cR_0 _ _ _) 0 _ (pR_0 _ _ _ _) rfl (by decide +kernel) rfl rfl (Nat.le_of_ble_eq_true rfl) dM_carry_2 (fun H locs hV hS => ?_)
  refine lv_iload_n hx hb dM_carry_5 rfl (lv_at hl 1 rfl) ?_
  refine lv_if_lt (tgt := 17) hx hb dM_carry_6 rfl (fun h9 => absurd h9 hn0) (fun _ => ?_)
  refine lv_iload_n hx hb dM_carry_9 rfl (lv_at hl 1 rfl) ?_
  refine lv_aload_n hx hb dM_carry_10 rfl (lv_at hl 0 rfl) ?_
  refine ew_get (v := .int (A 0 0 4)) hx hb hts hown hK hV fM_120 hi0 (cR_0 _ _ _) rfl dM_carry_11 ?_
  refine lv_toe (y := nI w) hq ?_
  refine lv_icmp_lt (tgt := 19) hx hb dM_carry_14 rfl (fun h9 => absurd h9 (i3_nlt hno)) (fun _ => ?_)
  refine lv_iconst (v := (-1)) hx hb dM_carry_17 (by decide) ?_
  exact er_iret hx hb hr hlocks hV hS dM_carry_18 ⟨Eq.symm (by unfold s_carry_big; rfl), Eq.symm (by unfold s_carry_big; rfl)⟩
