def s_sh (A : ew_R) (i : Nat) : Nat → ew_R
  | 0 => A
  | n + 1 => up3 (up3 (up3 (s_sh A i n) 37 0 (i + n) (s_sh A i n 37 0 ((i + n) + 1))) 38 0 (i + n) (s_sh A i n 38 0 ((i + n) + 1))) 39 0 (i + n) (s_sh A i n 39 0 ((i + n) + 1))
theorem s_sh_oth (A : ew_R) (i : Nat) {c : Nat} (h : c < 37) (a k : Nat) : ∀ n, s_sh A i n c a k = A c a k
  | 0 => rfl
  | n + 1 => by
    unfold s_sh
    rw [up3_ne _ _ (by omega), up3_ne _ _ (by omega), up3_ne _ _ (by omega)]
    exact s_sh_oth A i h a k n
def s_takeOut (A : ew_R) (i w : Nat) : ew_R := s_sh (up3 A 0 0 4 (nI (w - 1))) i (w - 1 - i)

set_option maxHeartbeats 4000000 in
set_option maxRecDepth 100000 in
theorem r_takeOut (l : Launch) (D : va_G) (T : Nat → ClassId) (X : Nat → Nat → Nat) (L : List Nat) (tg : Nat → Nat × Nat) (sz : Nat) (hE : eR_E X L tg) (A : ew_R) (i : Nat) (w : Nat) (hi : i < w) (hw : w ≤ 64) (hq : A 0 0 4 = nI w) : Met l yM_takeOut wsM_takeOut ({ frames := 0, cells := 0, slots := 0, locals := 0 }) (er_Pc D vwCl (tysA T) (cfR T) X L tg A sz [.ref (X 0 0), .int (nI i)]) (er_Qv D vwCl (cfR T) X L tg sz (fun u => u = s_takeOut A i w)) 0 0 (ew_A L sz) := by
  refine er_met (by decide) rfl (Nat.le_of_ble_eq_true rfl) ?_
  intro p e s m below meth c ls hx hb hr hts hown hlocks hml hV hK hS hA hl hsz
  subst hsz
  have hi0 := hE 0 (by decide)
  have hl : lv_has ls 3 [(0, .ref (X 0 0)), (1, .int (nI i))] := hl
  refine lv_aload_n hx hb dM_takeOut_0 rfl (lv_at hl 0 rfl) ?_
  refine lv_dup hx hb dM_takeOut_1 rfl ?_
  refine ew_get (v := .int (A 0 0 4)) hx hb hts hown hK hV fM_120 hi0 (cR_0 _ _ _) rfl dM_takeOut_2 ?_
  refine lv_toe (y := nI w) hq ?_
  refine lv_iconst (v := 1) hx hb dM_takeOut_5 (by decide) ?_
  refine lv_isub hx hb dM_takeOut_6 ?_
  refine lv_toe (y := nI (w - 1)) (pk_sub (a := w) (b := 1) (by omega)) ?_
  refine ew_put (ty := .int) hx hb hts hown hK hV hS fM_120 gM hi0 (cR_0 _ _ _) 4 _ (pR_4 _ _ _ _) rfl (by decide +kernel) rfl rfl (Nat.le_of_ble_eq_true rfl) dM_takeOut_7 (fun H locs hV hS => ?_)
  refine lv_iload_n hx hb dM_takeOut_10 rfl (lv_at hl 1 rfl) ?_
  refine lv_istore_n (lv' := [(2, .int (nI i)), (0, .ref (X 0 0)), (1, .int (nI i))]) hx hb dM_takeOut_11 rfl hl (by decide) rfl (fun ls hl => ?_)
  have loop : ∀ (r n : Nat), i + n + r = w - 1 → ∀ (H : Heap) (locs : List Loc) (ls : Array Slot), ew_V D vwCl (cfR T) (ew_A L s.heap.size) X L tg (s_sh (up3 A 0 0 4 (nI (w - 1))) i n) [] H → va_S (ew_A L s.heap.size) s.heap H locs → lv_has ls 3 [(2, .int (nI (i + n))), (0, .ref (X 0 0)), (1, .int (nI i))] → W p l e ({ frames := 0, cells := 0, slots := 0, locals := 0 }) s m ([.ref (X 0 0), .int (nI i)] : List Value).toArray below meth c H locs 0 0 (MQ below (er_Qv D vwCl (cfR T) X L tg s.heap.size (fun u => u = s_takeOut A i w)) ([.ref (X 0 0), .int (nI i)] : List Value).toArray s 0 0 (ew_A L s.heap.size)) (F0 m 12 ls []) := by
    intro r
    induction r with
    | zero =>
      intro n hn H locs ls hV hS hl
      refine lv_iload_n hx hb dM_takeOut_12 rfl (lv_at hl 0 rfl) ?_
      refine lv_aload_n hx hb dM_takeOut_13 rfl (lv_at hl 1 rfl) ?_
      refine ew_get (v := .int ((s_sh (up3 A 0 0 4 (nI (w - 1))) i n) 0 0 4)) hx hb hts hown hK hV fM_120 hi0 (cR_0 _ _ _) rfl dM_takeOut_14 ?_
      refine lv_toe (y := nI (w - 1)) (s_sh_oth (up3 A 0 0 4 (nI (w - 1))) i (by decide) 0 4 n) ?_
      refine lv_icmp_ge (tgt := 68) hx hb dM_takeOut_17 rfl (fun _ => ?_) (fun h9 => absurd ((nI_leI (a := w - 1) (b := i + n) (by omega) (by omega)).mpr (show w - 1 ≤ i + n by omega)) h9)
      exact er_vret hx hb hr hlocks hV hS dM_takeOut_68 (by unfold s_takeOut; rw [show w - 1 - i = n by omega])
    | succ r ih =>
      intro n hn H locs ls hV hS hl
      refine lv_iload_n hx hb dM_takeOut_12 rfl (lv_at hl 0 rfl) ?_
      refine lv_aload_n hx hb dM_takeOut_13 rfl (lv_at hl 1 rfl) ?_
      refine ew_get (v := .int ((s_sh (up3 A 0 0 4 (nI (w - 1))) i n) 0 0 4)) hx hb hts hown hK hV fM_120 hi0 (cR_0 _ _ _) rfl dM_takeOut_14 ?_
      refine lv_toe (y := nI (w - 1)) (s_sh_oth (up3 A 0 0 4 (nI (w - 1))) i (by decide) 0 4 n) ?_
      refine lv_icmp_ge (tgt := 68) hx hb dM_takeOut_17 rfl (fun h9 => absurd h9 (fun z9 => (show ¬ (w - 1 ≤ i + n) by omega) ((nI_leI (a := w - 1) (b := i + n) (by omega) (by omega)).mp z9))) (fun _ => ?_)
      refine lv_aload_n hx hb dM_takeOut_20 rfl (lv_at hl 1 rfl) ?_
      refine ew_get (v := .ref (X 37 0)) hx hb hts hown hK hV fM_104 hi0 (cR_0 _ _ _) rfl dM_takeOut_21 ?_
      refine lv_iload_n hx hb dM_takeOut_24 rfl (lv_at hl 0 rfl) ?_
      refine lv_aload_n hx hb dM_takeOut_25 rfl (lv_at hl 1 rfl) ?_
      refine ew_get (v := .ref (X 37 0)) hx hb hts hown hK hV fM_104 hi0 (cR_0 _ _ _) rfl dM_takeOut_26 ?_
      refine lv_iload_n hx hb dM_takeOut_29 rfl (lv_at hl 0 rfl) ?_
      refine lv_iconst (v := 1) hx hb dM_takeOut_30 (by decide) ?_
      refine lv_iadd hx hb dM_takeOut_31 ?_
      refine lv_toe (y := nI ((i + n) + 1)) (nI_add (i + n) 1) ?_
      refine ew_iald (v := (s_sh (up3 A 0 0 4 (nI (w - 1))) i n) 37 0 ((i + n) + 1)) hx hb hK hV (hE 37 (by decide)) (cR_37 _ _ _) 0 rfl (vp_in_nI (by omega) (by decide)) (er_ix (by omega) rfl) dM_takeOut_32 ?_
      refine ew_iast hx hb hK hV hS (hE 37 (by decide)) (cR_37 _ _ _) 0 rfl (vp_in_nI (by omega) (by decide)) (i + n) (nI_clamp (by omega)) (qR_37 _ _ _ _ _) dM_takeOut_33 (fun H locs hV hS => ?_)
      refine lv_aload_n hx hb dM_takeOut_34 rfl (lv_at hl 1 rfl) ?_
      refine ew_get (v := .ref (X 38 0)) hx hb hts hown hK hV fM_107 hi0 (cR_0 _ _ _) rfl dM_takeOut_35 ?_
      refine lv_iload_n hx hb dM_takeOut_38 rfl (lv_at hl 0 rfl) ?_
      refine lv_aload_n hx hb dM_takeOut_39 rfl (lv_at hl 1 rfl) ?_
      refine ew_get (v := .ref (X 38 0)) hx hb hts hown hK hV fM_107 hi0 (cR_0 _ _ _) rfl dM_takeOut_40 ?_
      refine lv_iload_n hx hb dM_takeOut_43 rfl (lv_at hl 0 rfl) ?_
      refine lv_iconst (v := 1) hx hb dM_takeOut_44 (by decide) ?_
      refine lv_iadd hx hb dM_takeOut_45 ?_
      refine lv_toe (y := nI ((i + n) + 1)) (nI_add (i + n) 1) ?_
      refine ew_iald (v := (s_sh (up3 A 0 0 4 (nI (w - 1))) i n) 38 0 ((i + n) + 1)) hx hb hK hV (hE 38 (by decide)) (cR_38 _ _ _) 0 rfl (vp_in_nI (by omega) (by decide)) (er_ix (by omega) rfl) dM_takeOut_46 ?_
      refine ew_iast hx hb hK hV hS (hE 38 (by decide)) (cR_38 _ _ _) 0 rfl (vp_in_nI (by omega) (by decide)) (i + n) (nI_clamp (by omega)) (qR_38 _ _ _ _ _) dM_takeOut_47 (fun H locs hV hS => ?_)
      refine lv_aload_n hx hb dM_takeOut_48 rfl (lv_at hl 1 rfl) ?_
      refine ew_get (v := .ref (X 39 0)) hx hb hts hown hK hV fM_110 hi0 (cR_0 _ _ _) rfl dM_takeOut_49 ?_
      refine lv_iload_n hx hb dM_takeOut_52 rfl (lv_at hl 0 rfl) ?_
      refine lv_aload_n hx hb dM_takeOut_53 rfl (lv_at hl 1 rfl) ?_
      refine ew_get (v := .ref (X 39 0)) hx hb hts hown hK hV fM_110 hi0 (cR_0 _ _ _) rfl dM_takeOut_54 ?_
      refine lv_iload_n hx hb dM_takeOut_57 rfl (lv_at hl 0 rfl) ?_
      refine lv_iconst (v := 1) hx hb dM_takeOut_58 (by decide) ?_
      refine lv_iadd hx hb dM_takeOut_59 ?_
      refine lv_toe (y := nI ((i + n) + 1)) (nI_add (i + n) 1) ?_
      refine ew_iald (v := (s_sh (up3 A 0 0 4 (nI (w - 1))) i n) 39 0 ((i + n) + 1)) hx hb hK hV (hE 39 (by decide)) (cR_39 _ _ _) 0 rfl (vp_in_nI (by omega) (by decide)) (er_ix (by omega) rfl) dM_takeOut_60 ?_
      refine ew_iast hx hb hK hV hS (hE 39 (by decide)) (cR_39 _ _ _) 0 rfl (vp_in_nI (by omega) (by decide)) (i + n) (nI_clamp (by omega)) (qR_39 _ _ _ _ _) dM_takeOut_61 (fun H locs hV hS => ?_)
      refine lv_iinc (k := 0) (v := nI ((i + n) + 1)) (lv' := [(2, .int (nI ((i + n) + 1))), (0, .ref (X 0 0)), (1, .int (nI i))]) hx hb dM_takeOut_62 hl rfl (nI_add (i + n) 1) (by decide) rfl (fun ls hl => ?_)
      refine lv_goto (tgt := 12) hx hb dM_takeOut_65 rfl ?_
      exact ih (n + 1) (by omega) H locs ls hV hS hl
  exact loop (w - 1 - i) 0 (by omega) H locs ls hV hS hl

def s_fd (A : ew_R) (en nn : Int32) : Nat → Nat → Int32
  | 0, _ => -1
  | r + 1, k => if A 32 0 k = en then (if A 33 0 k = nn then nI k else s_fd A en nn r (k + 1)) else s_fd A en nn r (k + 1)
theorem s_fd_s (A : ew_R) (en nn : Int32) (r k : Nat) : s_fd A en nn (r + 1) k = if A 32 0 k = en then (if A 33 0 k = nn then nI k else s_fd A en nn r (k + 1)) else s_fd A en nn r (k + 1) := rfl
def s_find (A : ew_R) (en nn : Int32) (lg : Nat) : Int32 := s_fd A en nn lg 0

set_option maxHeartbeats 4000000 in
set_option maxRecDepth 100000 in
theorem r_find (l : Launch) (D : va_G) (T : Nat → ClassId) (X : Nat → Nat → Nat) (L : List Nat) (tg : Nat → Nat × Nat) (sz : Nat) (hE : eR_E X L tg) (A : ew_R) (en : Int32) (nn : Int32) (lg : Nat) (hlg : lg ≤ 3000) (hq : A 0 0 5 = nI lg) : Met l yM_find wsM_find ({ frames := 0, cells := 0, slots := 0, locals := 0 }) (er_Pc D vwCl (tysA T) (cfR T) X L tg A sz [.ref (X 0 0), .int en, .int nn]) (er_Qi D vwCl (cfR T) X L tg sz (fun r u => r = s_find A en nn lg ∧ u = A)) 0 0 (ew_A L sz) := by
  refine er_met (by decide) rfl (Nat.le_of_ble_eq_true rfl) ?_
  intro p e s m below meth c ls hx hb hr hts hown hlocks hml hV hK hS hA hl hsz
  subst hsz
  have hi0 := hE 0 (by decide)
  have hl : lv_has ls 4 [(0, .ref (X 0 0)), (1, .int en), (2, .int nn)] := hl
  refine lv_iconst (v := 0) hx hb dM_find_0 (by decide) ?_
  refine lv_istore_n (lv' := [(3, .int 0), (0, .ref (X 0 0)), (1, .int en), (2, .int nn)]) hx hb dM_find_1 rfl hl (by decide) rfl (fun ls hl => ?_)
  have loop : ∀ (r k : Nat), k + r = lg → s_find A en nn lg = s_fd A en nn r k → ∀ (ls : Array Slot), lv_has ls 4 [(3, .int (nI k)), (0, .ref (X 0 0)), (1, .int en), (2, .int nn)] → W p l e ({ frames := 0, cells := 0, slots := 0, locals := 0 }) s m ([.ref (X 0 0), .int en, .int nn] : List Value).toArray below meth c s.heap [] 0 0 (MQ below (er_Qi D vwCl (cfR T) X L tg s.heap.size (fun r u => r = s_find A en nn lg ∧ u = A)) ([.ref (X 0 0), .int en, .int nn] : List Value).toArray s 0 0 (ew_A L s.heap.size)) (F0 m 2 ls []) := by
    intro r
    induction r with
    | zero =>
      intro k hk heq ls hl
      refine lv_iload_n hx hb dM_find_2 rfl (lv_at hl 0 rfl) ?_
      refine lv_aload_n hx hb dM_find_3 rfl (lv_at hl 1 rfl) ?_
      refine ew_get (v := .int (A 0 0 5)) hx hb hts hown hK hV fM_127 hi0 (cR_0 _ _ _) rfl dM_find_4 ?_
      refine lv_toe (y := nI lg) hq ?_
      refine lv_icmp_ge (tgt := 36) hx hb dM_find_7 rfl (fun _ => ?_) (fun h9 => absurd ((nI_leI (a := lg) (b := k) (by omega) (by omega)).mpr (show lg ≤ k by omega)) h9)
      refine lv_iload_n hx hb dM_find_36 rfl (lv_at hl 0 rfl) ?_
      refine lv_aload_n hx hb dM_find_37 rfl (lv_at hl 1 rfl) ?_
      refine ew_get (v := .int (A 0 0 5)) hx hb hts hown hK hV fM_127 hi0 (cR_0 _ _ _) rfl dM_find_38 ?_
      refine lv_toe (y := nI lg) hq ?_
      refine lv_icmp_ge (tgt := 48) hx hb dM_find_41 rfl (fun _ => ?_) (fun h9 => absurd ((nI_leI (a := lg) (b := k) (by omega) (by omega)).mpr (show lg ≤ k by omega)) h9)
      refine lv_iconst (v := (-1)) hx hb dM_find_48 (by decide) ?_
      exact er_iret hx hb hr hlocks hV hS dM_find_49 ⟨heq.symm, rfl⟩
    | succ r ih =>
      intro k hk heq ls hl
      refine lv_iload_n hx hb dM_find_2 rfl (lv_at hl 0 rfl) ?_
      refine lv_aload_n hx hb dM_find_3 rfl (lv_at hl 1 rfl) ?_
      refine ew_get (v := .int (A 0 0 5)) hx hb hts hown hK hV fM_127 hi0 (cR_0 _ _ _) rfl dM_find_4 ?_
      refine lv_toe (y := nI lg) hq ?_
      refine lv_icmp_ge (tgt := 36) hx hb dM_find_7 rfl (fun h9 => absurd h9 (fun z9 => (show ¬ (lg ≤ k) by omega) ((nI_leI (a := lg) (b := k) (by omega) (by omega)).mp z9))) (fun _ => ?_)
      refine lv_aload_n hx hb dM_find_10 rfl (lv_at hl 1 rfl) ?_
      refine ew_get (v := .ref (X 32 0)) hx hb hts hown hK hV fM_89 hi0 (cR_0 _ _ _) rfl dM_find_11 ?_
      refine lv_iload_n hx hb dM_find_14 rfl (lv_at hl 0 rfl) ?_
      refine ew_iald (v := A 32 0 k) hx hb hK hV (hE 32 (by decide)) (cR_32 _ _ _) 0 rfl (vp_in_nI (by omega) (by decide)) (er_ix (by omega) rfl) dM_find_15 ?_
      refine lv_iload_n hx hb dM_find_16 rfl (lv_at hl 2 rfl) ?_
      refine lv_icmp_ne (tgt := 30) hx hb dM_find_17 rfl (fun h1 => ?_) (fun h1 => ?_)
      · refine lv_iinc (k := 0) (v := nI (k + 1)) (lv' := [(3, .int (nI (k + 1))), (0, .ref (X 0 0)), (1, .int en), (2, .int nn)]) hx hb dM_find_30 hl rfl (nI_add k 1) (by decide) rfl (fun ls hl => ?_)
        refine lv_goto (tgt := 2) hx hb dM_find_33 rfl ?_
        exact ih (k + 1) (by omega) (heq.trans (by rw [s_fd_s, if_neg h1])) ls hl
      · refine lv_aload_n hx hb dM_find_20 rfl (lv_at hl 1 rfl) ?_
        refine ew_get (v := .ref (X 33 0)) hx hb hts hown hK hV fM_92 hi0 (cR_0 _ _ _) rfl dM_find_21 ?_
        refine lv_iload_n hx hb dM_find_24 rfl (lv_at hl 0 rfl) ?_
        refine ew_iald (v := A 33 0 k) hx hb hK hV (hE 33 (by decide)) (cR_33 _ _ _) 0 rfl (vp_in_nI (by omega) (by decide)) (er_ix (by omega) rfl) dM_find_25 ?_
        refine lv_iload_n hx hb dM_find_26 rfl (lv_at hl 3 rfl) ?_
        refine lv_icmp_eq (tgt := 36) hx hb dM_find_27 rfl (fun h2 => ?_) (fun h2 => ?_)
        · refine lv_iload_n hx hb dM_find_36 rfl (lv_at hl 0 rfl) ?_
          refine lv_aload_n hx hb dM_find_37 rfl (lv_at hl 1 rfl) ?_
          refine ew_get (v := .int (A 0 0 5)) hx hb hts hown hK hV fM_127 hi0 (cR_0 _ _ _) rfl dM_find_38 ?_
          refine lv_toe (y := nI lg) hq ?_
          refine lv_icmp_ge (tgt := 48) hx hb dM_find_41 rfl (fun h9 => absurd h9 (fun z9 => (show ¬ (lg ≤ k) by omega) ((nI_leI (a := lg) (b := k) (by omega) (by omega)).mp z9))) (fun _ => ?_)
          refine lv_iload_n hx hb dM_find_44 rfl (lv_at hl 0 rfl) ?_
          refine lv_goto (tgt := 49) hx hb dM_find_45 rfl ?_
          exact er_iret hx hb hr hlocks hV hS dM_find_49 ⟨(heq.trans (by rw [s_fd_s, if_pos h1, if_pos h2])).symm, rfl⟩
        · refine lv_iinc (k := 0) (v := nI (k + 1)) (lv' := [(3, .int (nI (k + 1))), (0, .ref (X 0 0)), (1, .int en), (2, .int nn)]) hx hb dM_find_30 hl rfl (nI_add k 1) (by decide) rfl (fun ls hl => ?_)
          refine lv_goto (tgt := 2) hx hb dM_find_33 rfl ?_
          exact ih (k + 1) (by omega) (heq.trans (by rw [s_fd_s, if_pos h1, if_neg h2])) ls hl
  exact loop lg 0 (by omega) rfl ls hl

theorem s_takeOut_w (A : ew_R) (i w : Nat) : s_takeOut A i w 0 0 4 = nI (w - 1) := by
  unfold s_takeOut
  rw [s_sh_oth _ _ (by decide)]
  rfl
theorem s_takeOut_lt (A : ew_R) (i w : Nat) {c : Nat} (h : c < 37) {k : Nat} (h0 : ¬ (c = 0 ∧ k = 4)) (a : Nat) : s_takeOut A i w c a k = A c a k := by
  unfold s_takeOut
  rw [s_sh_oth _ _ h, up3_ne _ _ (by omega)]

def s_lay (A : ew_R) (lt : Int32) (en : Nat) (w : Nat) : ew_R :=
  if w = 64 then
    up3 (up3 (up3 (up3 (s_takeOut A 0 64) 37 0 63 lt) 38 0 63 (nI en)) 39 0 63 ((s_takeOut A 0 64) 30 0 en)) 0 0 4 (nI (63 + 1))
  else
    up3 (up3 (up3 (up3 A 37 0 w lt) 38 0 w (nI en)) 39 0 w (A 30 0 en)) 0 0 4 (nI (w + 1))
set_option maxHeartbeats 4000000 in
set_option maxRecDepth 100000 in
theorem r_lay (l : Launch) (D : va_G) (T : Nat → ClassId) (X : Nat → Nat → Nat) (L : List Nat) (tg : Nat → Nat × Nat) (sz : Nat) (hE : eR_E X L tg) (A : ew_R) (lt : Int32) (en : Nat) (w : Nat) (hen : en < 384) (hw : w ≤ 64) (hq : A 0 0 4 = nI w) : Met l yM_lay wsM_lay ({ frames := 1, cells := 0, slots := 0, locals := 22 }) (er_Pc D vwCl (tysA T) (cfR T) X L tg A sz [.ref (X 0 0), .int lt, .int (nI en)]) (er_Qv D vwCl (cfR T) X L tg sz (fun u => u = s_lay A lt en w)) 0 0 (ew_A L sz) := by
  refine er_met (by decide) rfl (Nat.le_of_ble_eq_true rfl) ?_
  intro p e s m below meth c ls hx hb hr hts hown hlocks hml hV hK hS hA hl hsz
  subst hsz
  have hi0 := hE 0 (by decide)
  have hl : lv_has ls 3 [(0, .ref (X 0 0)), (1, .int lt), (2, .int (nI en))] := hl
  refine lv_aload_n hx hb dM_lay_0 rfl (lv_at hl 0 rfl) ?_
  refine ew_get (v := .int (A 0 0 4)) hx hb hts hown hK hV fM_120 hi0 (cR_0 _ _ _) rfl dM_lay_1 ?_
  refine lv_toe (y := nI w) hq ?_
  refine lv_bipush (v := 64) hx hb dM_lay_4 (by decide) ?_
  refine lv_icmp_ne (tgt := 14) hx hb dM_lay_6 rfl (fun h1 => ?_) (fun h1 => ?_)
  · replace h1 : ¬ (w = 64) := fun z9 => h1 ((nI_eq (a := w) (b := 64) (by omega) (by omega)).mpr z9)
    refine lv_aload_n hx hb dM_lay_14 rfl (lv_at hl 0 rfl) ?_
    refine ew_get (v := .ref (X 37 0)) hx hb hts hown hK hV fM_104 hi0 (cR_0 _ _ _) rfl dM_lay_15 ?_
    refine lv_aload_n hx hb dM_lay_18 rfl (lv_at hl 0 rfl) ?_
    refine ew_get (v := .int (A 0 0 4)) hx hb hts hown hK hV fM_120 hi0 (cR_0 _ _ _) rfl dM_lay_19 ?_
    refine lv_toe (y := nI w) hq ?_
    refine lv_iload_n hx hb dM_lay_22 rfl (lv_at hl 1 rfl) ?_
    refine ew_iast hx hb hK hV hS (hE 37 (by decide)) (cR_37 _ _ _) 0 rfl (vp_in_nI (by omega) (by decide)) w (nI_clamp (by omega)) (qR_37 _ _ _ _ _) dM_lay_23 (fun H locs hV hS => ?_)
    refine lv_aload_n hx hb dM_lay_24 rfl (lv_at hl 0 rfl) ?_
    refine ew_get (v := .ref (X 38 0)) hx hb hts hown hK hV fM_107 hi0 (cR_0 _ _ _) rfl dM_lay_25 ?_
    refine lv_aload_n hx hb dM_lay_28 rfl (lv_at hl 0 rfl) ?_
    refine ew_get (v := .int (A 0 0 4)) hx hb hts hown hK hV fM_120 hi0 (cR_0 _ _ _) rfl dM_lay_29 ?_
    refine lv_toe (y := nI w) hq ?_
    refine lv_iload_n hx hb dM_lay_32 rfl (lv_at hl 2 rfl) ?_
    refine ew_iast hx hb hK hV hS (hE 38 (by decide)) (cR_38 _ _ _) 0 rfl (vp_in_nI (by omega) (by decide)) w (nI_clamp (by omega)) (qR_38 _ _ _ _ _) dM_lay_33 (fun H locs hV hS => ?_)
    refine lv_aload_n hx hb dM_lay_34 rfl (lv_at hl 0 rfl) ?_
    refine ew_get (v := .ref (X 39 0)) hx hb hts hown hK hV fM_110 hi0 (cR_0 _ _ _) rfl dM_lay_35 ?_
    refine lv_aload_n hx hb dM_lay_38 rfl (lv_at hl 0 rfl) ?_
    refine ew_get (v := .int (A 0 0 4)) hx hb hts hown hK hV fM_120 hi0 (cR_0 _ _ _) rfl dM_lay_39 ?_
    refine lv_toe (y := nI w) hq ?_
    refine lv_aload_n hx hb dM_lay_42 rfl (lv_at hl 0 rfl) ?_
    refine ew_get (v := .ref (X 30 0)) hx hb hts hown hK hV fM_83 hi0 (cR_0 _ _ _) rfl dM_lay_43 ?_
    refine lv_iload_n hx hb dM_lay_46 rfl (lv_at hl 2 rfl) ?_
    refine ew_iald (v := A 30 0 en) hx hb hK hV (hE 30 (by decide)) (cR_30 _ _ _) 0 rfl (vp_in_nI (by omega) (by decide)) (er_ix (by omega) rfl) dM_lay_47 ?_
    refine ew_iast hx hb hK hV hS (hE 39 (by decide)) (cR_39 _ _ _) 0 rfl (vp_in_nI (by omega) (by decide)) w (nI_clamp (by omega)) (qR_39 _ _ _ _ _) dM_lay_48 (fun H locs hV hS => ?_)
    refine lv_aload_n hx hb dM_lay_49 rfl (lv_at hl 0 rfl) ?_
    refine lv_dup hx hb dM_lay_50 rfl ?_
    refine ew_get (v := .int (A 0 0 4)) hx hb hts hown hK hV fM_120 hi0 (cR_0 _ _ _) rfl dM_lay_51 ?_
    refine lv_toe (y := nI w) hq ?_
    refine lv_iconst (v := 1) hx hb dM_lay_54 (by decide) ?_
    refine lv_iadd hx hb dM_lay_55 ?_
    refine lv_toe (y := nI (w + 1)) (nI_add w 1) ?_
    refine ew_put (ty := .int) hx hb hts hown hK hV hS fM_120 gM hi0 (cR_0 _ _ _) 4 _ (pR_4 _ _ _ _) rfl (by decide +kernel) rfl rfl (Nat.le_of_ble_eq_true rfl) dM_lay_56 (fun H locs hV hS => ?_)
    exact er_vret hx hb hr hlocks hV hS dM_lay_59 (Eq.symm (by unfold s_lay; simp only [if_neg h1]))
  · replace h1 := (nI_eq (a := w) (b := 64) (by omega) (by omega)).mp h1
    refine lv_aload_n hx hb dM_lay_9 rfl (lv_at hl 0 rfl) ?_
    refine lv_iconst (v := 0) hx hb dM_lay_10 (by decide) ?_
    refine er_callv (va_runV (As := [.int 0]) (rest := []) ⟨hx, hb, hml, hown, hts⟩ (r_takeOut l D T X L tg _ hE A 0 64 (by decide) (by decide) (hq.trans (by rw [h1]))) (cwV 1 hts gM_123 rfl rfl rfl (by decide +kernel) ⟨Nat.le_of_ble_eq_true rfl, Nat.le_of_ble_eq_true rfl⟩) (er_preV hK hV hi0 (cR_0 _ _ _) rfl) rfl rfl hl.1 rfl (lv_room (Nat.le_of_ble_eq_true rfl)) dM_lay_11 ⟨Nat.le_of_ble_eq_true rfl, Nat.le_of_ble_eq_true rfl⟩) hV hS hA (fun u2 H locs eu2 hV hS => ?_)
    have eu2 : u2 = s_takeOut A 0 64 := eu2
    refine lv_aload_n hx hb dM_lay_14 rfl (lv_at hl 0 rfl) ?_
    refine ew_get (v := .ref (X 37 0)) hx hb hts hown hK hV fM_104 hi0 (cR_0 _ _ _) rfl dM_lay_15 ?_
    refine lv_aload_n hx hb dM_lay_18 rfl (lv_at hl 0 rfl) ?_
    refine ew_get (v := .int (u2 0 0 4)) hx hb hts hown hK hV fM_120 hi0 (cR_0 _ _ _) rfl dM_lay_19 ?_
    refine lv_toe (y := nI 63) (by rw [eu2]; exact (s_takeOut_w A 0 64)) ?_
    refine lv_iload_n hx hb dM_lay_22 rfl (lv_at hl 1 rfl) ?_
    refine ew_iast hx hb hK hV hS (hE 37 (by decide)) (cR_37 _ _ _) 0 rfl (vp_in_nI (by omega) (by decide)) 63 (nI_clamp (by omega)) (qR_37 _ _ _ _ _) dM_lay_23 (fun H locs hV hS => ?_)
    refine lv_aload_n hx hb dM_lay_24 rfl (lv_at hl 0 rfl) ?_
    refine ew_get (v := .ref (X 38 0)) hx hb hts hown hK hV fM_107 hi0 (cR_0 _ _ _) rfl dM_lay_25 ?_
    refine lv_aload_n hx hb dM_lay_28 rfl (lv_at hl 0 rfl) ?_
    refine ew_get (v := .int (u2 0 0 4)) hx hb hts hown hK hV fM_120 hi0 (cR_0 _ _ _) rfl dM_lay_29 ?_
    refine lv_toe (y := nI 63) (by rw [eu2]; exact (s_takeOut_w A 0 64)) ?_
    refine lv_iload_n hx hb dM_lay_32 rfl (lv_at hl 2 rfl) ?_
    refine ew_iast hx hb hK hV hS (hE 38 (by decide)) (cR_38 _ _ _) 0 rfl (vp_in_nI (by omega) (by decide)) 63 (nI_clamp (by omega)) (qR_38 _ _ _ _ _) dM_lay_33 (fun H locs hV hS => ?_)
    refine lv_aload_n hx hb dM_lay_34 rfl (lv_at hl 0 rfl) ?_
    refine ew_get (v := .ref (X 39 0)) hx hb hts hown hK hV fM_110 hi0 (cR_0 _ _ _) rfl dM_lay_35 ?_
    refine lv_aload_n hx hb dM_lay_38 rfl (lv_at hl 0 rfl) ?_
    refine ew_get (v := .int (u2 0 0 4)) hx hb hts hown hK hV fM_120 hi0 (cR_0 _ _ _) rfl dM_lay_39 ?_
    refine lv_toe (y := nI 63) (by rw [eu2]; exact (s_takeOut_w A 0 64)) ?_
    refine lv_aload_n hx hb dM_lay_42 rfl (lv_at hl 0 rfl) ?_
    refine ew_get (v := .ref (X 30 0)) hx hb hts hown hK hV fM_83 hi0 (cR_0 _ _ _) rfl dM_lay_43 ?_
    refine lv_iload_n hx hb dM_lay_46 rfl (lv_at hl 2 rfl) ?_
    refine ew_iald (v := u2 30 0 en) hx hb hK hV (hE 30 (by decide)) (cR_30 _ _ _) 0 rfl (vp_in_nI (by omega) (by decide)) (er_ix (by omega) rfl) dM_lay_47 ?_
    refine ew_iast hx hb hK hV hS (hE 39 (by decide)) (cR_39 _ _ _) 0 rfl (vp_in_nI (by omega) (by decide)) 63 (nI_clamp (by omega)) (qR_39 _ _ _ _ _) dM_lay_48 (fun H locs hV hS => ?_)
    refine lv_aload_n hx hb dM_lay_49 rfl (lv_at hl 0 rfl) ?_
    refine lv_dup hx hb dM_lay_50 rfl ?_
    refine ew_get (v := .int (u2 0 0 4)) hx hb hts hown hK hV fM_120 hi0 (cR_0 _ _ _) rfl dM_lay_51 ?_
    refine lv_toe (y := nI 63) (by rw [eu2]; exact (s_takeOut_w A 0 64)) ?_
    refine lv_iconst (v := 1) hx hb dM_lay_54 (by decide) ?_
    refine lv_iadd hx hb dM_lay_55 ?_
    refine lv_toe (y := nI (63 + 1)) (nI_add 63 1) ?_
    refine ew_put (ty := .int) hx hb hts hown hK hV hS fM_120 gM hi0 (cR_0 _ _ _) 4 _ (pR_4 _ _ _ _) rfl (by decide +kernel) rfl rfl (Nat.le_of_ble_eq_true rfl) dM_lay_56 (fun H locs hV hS => ?_)
    subst eu2
    exact er_vret hx hb hr hlocks hV hS dM_lay_59 (Eq.symm (by unfold s_lay; simp only [if_pos h1]))

theorem s_lay_lt (A : ew_R) (lt : Int32) (en w : Nat) {c : Nat} (h : c < 37) {k : Nat} (h0 : ¬ (c = 0 ∧ k = 4)) (a : Nat) : s_lay A lt en w c a k = A c a k := by
  unfold s_lay
  split
  · rw [up3_ne _ _ (by omega), up3_ne _ _ (by omega), up3_ne _ _ (by omega), up3_ne _ _ (by omega), s_takeOut_lt _ _ _ h h0]
  · rw [up3_ne _ _ (by omega), up3_ne _ _ (by omega), up3_ne _ _ (by omega), up3_ne _ _ (by omega)]
theorem s_lay_w (A : ew_R) (lt : Int32) (en w : Nat) (hw : w ≤ 64) : s_lay A lt en w 0 0 4 = nI (if w = 64 then 64 else w + 1) := by
  unfold s_lay
  split
  · rw [up3_self]
  · rw [up3_self]

def s_write (A : ew_R) (en : Nat) (what : Int32) (tells : Int32) (w : Nat) (lg : Nat) : ew_R :=
  up3 (s_lay (up3 (up3 (up3 (up3 (up3 (up3 A 29 0 en ((A 29 0 en) + 1)) 32 0 lg (nI en)) 33 0 lg ((A 29 0 en) + 1)) 34 0 lg what) 35 0 lg tells) 36 0 lg 0) (nI lg) en w) 0 0 5 (nI (lg + 1))
set_option maxHeartbeats 4000000 in
set_option maxRecDepth 100000 in
theorem r_write (l : Launch) (D : va_G) (T : Nat → ClassId) (X : Nat → Nat → Nat) (L : List Nat) (tg : Nat → Nat × Nat) (sz : Nat) (hE : eR_E X L tg) (A : ew_R) (en : Nat) (what : Int32) (tells : Int32) (w : Nat) (lg : Nat) (hen : en < 384) (hw : w ≤ 64) (hq : A 0 0 4 = nI w) (hlg : lg < 3000) (hg : A 0 0 5 = nI lg) : Met l yM_write wsM_write ({ frames := 2, cells := 0, slots := 0, locals := 44 }) (er_Pc D vwCl (tysA T) (cfR T) X L tg A sz [.ref (X 0 0), .int (nI en), .int what, .int tells]) (er_Qv D vwCl (cfR T) X L tg sz (fun u => u = s_write A en what tells w lg)) 0 0 (ew_A L sz) := by
  refine er_met (by decide) rfl (Nat.le_of_ble_eq_true rfl) ?_
  intro p e s m below meth c ls hx hb hr hts hown hlocks hml hV hK hS hA hl hsz
  subst hsz
  have hi0 := hE 0 (by decide)
  have hl : lv_has ls 4 [(0, .ref (X 0 0)), (1, .int (nI en)), (2, .int what), (3, .int tells)] := hl
  refine lv_aload_n hx hb dM_write_0 rfl (lv_at hl 0 rfl) ?_
  refine ew_get (v := .ref (X 29 0)) hx hb hts hown hK hV fM_80 hi0 (cR_0 _ _ _) rfl dM_write_1 ?_
  refine lv_iload_n hx hb dM_write_4 rfl (lv_at hl 1 rfl) ?_
  refine lv_dup2_11 hx hb dM_write_5 rfl rfl ?_
  refine ew_iald (v := A 29 0 en) hx hb hK hV (hE 29 (by decide)) (cR_29 _ _ _) 0 rfl (vp_in_nI (by omega) (by decide)) (er_ix (by omega) rfl) dM_write_6 ?_
  refine lv_iconst (v := 1) hx hb dM_write_7 (by decide) ?_
  refine lv_iadd hx hb dM_write_8 ?_
  refine ew_iast hx hb hK hV hS (hE 29 (by decide)) (cR_29 _ _ _) 0 rfl (vp_in_nI (by omega) (by decide)) en (nI_clamp (by omega)) (qR_29 _ _ _ _ _) dM_write_9 (fun H locs hV hS => ?_)
  refine lv_aload_n hx hb dM_write_10 rfl (lv_at hl 0 rfl) ?_
  refine ew_get (v := .ref (X 32 0)) hx hb hts hown hK hV fM_89 hi0 (cR_0 _ _ _) rfl dM_write_11 ?_
  refine lv_aload_n hx hb dM_write_14 rfl (lv_at hl 0 rfl) ?_
  refine ew_get (v := .int (A 0 0 5)) hx hb hts hown hK hV fM_127 hi0 (cR_0 _ _ _) rfl dM_write_15 ?_
  refine lv_toe (y := nI lg) hg ?_
  refine lv_iload_n hx hb dM_write_18 rfl (lv_at hl 1 rfl) ?_
  refine ew_iast hx hb hK hV hS (hE 32 (by decide)) (cR_32 _ _ _) 0 rfl (vp_in_nI (by omega) (by decide)) lg (nI_clamp (by omega)) (qR_32 _ _ _ _ _) dM_write_19 (fun H locs hV hS => ?_)
  refine lv_aload_n hx hb dM_write_20 rfl (lv_at hl 0 rfl) ?_
  refine ew_get (v := .ref (X 33 0)) hx hb hts hown hK hV fM_92 hi0 (cR_0 _ _ _) rfl dM_write_21 ?_
  refine lv_aload_n hx hb dM_write_24 rfl (lv_at hl 0 rfl) ?_
  refine ew_get (v := .int (A 0 0 5)) hx hb hts hown hK hV fM_127 hi0 (cR_0 _ _ _) rfl dM_write_25 ?_
  refine lv_toe (y := nI lg) hg ?_
  refine lv_aload_n hx hb dM_write_28 rfl (lv_at hl 0 rfl) ?_
  refine ew_get (v := .ref (X 29 0)) hx hb hts hown hK hV fM_80 hi0 (cR_0 _ _ _) rfl dM_write_29 ?_
  refine lv_iload_n hx hb dM_write_32 rfl (lv_at hl 1 rfl) ?_
  refine ew_iald (v := (A 29 0 en) + 1) hx hb hK hV (hE 29 (by decide)) (cR_29 _ _ _) 0 rfl (vp_in_nI (by omega) (by decide)) (er_ix (by omega) (by simp [up3, va_up])) dM_write_33 ?_
  refine ew_iast hx hb hK hV hS (hE 33 (by decide)) (cR_33 _ _ _) 0 rfl (vp_in_nI (by omega) (by decide)) lg (nI_clamp (by omega)) (qR_33 _ _ _ _ _) dM_write_34 (fun H locs hV hS => ?_)
  refine lv_aload_n hx hb dM_write_35 rfl (lv_at hl 0 rfl) ?_
  refine ew_get (v := .ref (X 34 0)) hx hb hts hown hK hV fM_95 hi0 (cR_0 _ _ _) rfl dM_write_36 ?_
  refine lv_aload_n hx hb dM_write_39 rfl (lv_at hl 0 rfl) ?_
  refine ew_get (v := .int (A 0 0 5)) hx hb hts hown hK hV fM_127 hi0 (cR_0 _ _ _) rfl dM_write_40 ?_
  refine lv_toe (y := nI lg) hg ?_
  refine lv_iload_n hx hb dM_write_43 rfl (lv_at hl 2 rfl) ?_
  refine ew_iast hx hb hK hV hS (hE 34 (by decide)) (cR_34 _ _ _) 0 rfl (vp_in_nI (by omega) (by decide)) lg (nI_clamp (by omega)) (qR_34 _ _ _ _ _) dM_write_44 (fun H locs hV hS => ?_)
  refine lv_aload_n hx hb dM_write_45 rfl (lv_at hl 0 rfl) ?_
  refine ew_get (v := .ref (X 35 0)) hx hb hts hown hK hV fM_98 hi0 (cR_0 _ _ _) rfl dM_write_46 ?_
  refine lv_aload_n hx hb dM_write_49 rfl (lv_at hl 0 rfl) ?_
  refine ew_get (v := .int (A 0 0 5)) hx hb hts hown hK hV fM_127 hi0 (cR_0 _ _ _) rfl dM_write_50 ?_
  refine lv_toe (y := nI lg) hg ?_
  refine lv_iload_n hx hb dM_write_53 rfl (lv_at hl 3 rfl) ?_
  refine ew_iast hx hb hK hV hS (hE 35 (by decide)) (cR_35 _ _ _) 0 rfl (vp_in_nI (by omega) (by decide)) lg (nI_clamp (by omega)) (qR_35 _ _ _ _ _) dM_write_54 (fun H locs hV hS => ?_)
  refine lv_aload_n hx hb dM_write_55 rfl (lv_at hl 0 rfl) ?_
  refine ew_get (v := .ref (X 36 0)) hx hb hts hown hK hV fM_101 hi0 (cR_0 _ _ _) rfl dM_write_56 ?_
  refine lv_aload_n hx hb dM_write_59 rfl (lv_at hl 0 rfl) ?_
  refine ew_get (v := .int (A 0 0 5)) hx hb hts hown hK hV fM_127 hi0 (cR_0 _ _ _) rfl dM_write_60 ?_
  refine lv_toe (y := nI lg) hg ?_
  refine lv_iconst (v := 0) hx hb dM_write_63 (by decide) ?_
  refine ew_zast hx hb hK hV hS (hE 36 (by decide)) (cR_36 _ _ _) 1 rfl (vp_in_nI (by omega) (by decide)) (by decide) lg (nI_clamp (by omega)) (qR_36 _ _ _ _ _) dM_write_64 (fun H locs hV hS => ?_)
  refine lv_aload_n hx hb dM_write_65 rfl (lv_at hl 0 rfl) ?_
  refine lv_aload_n hx hb dM_write_66 rfl (lv_at hl 0 rfl) ?_
  refine ew_get (v := .int (A 0 0 5)) hx hb hts hown hK hV fM_127 hi0 (cR_0 _ _ _) rfl dM_write_67 ?_
  refine lv_toe (y := nI lg) hg ?_
  refine lv_iload_n hx hb dM_write_70 rfl (lv_at hl 1 rfl) ?_
  refine er_callv (va_runV (As := [.int (nI lg), .int (nI en)]) (rest := []) ⟨hx, hb, hml, hown, hts⟩ (r_lay l D T X L tg _ hE (up3 (up3 (up3 (up3 (up3 (up3 A 29 0 en ((A 29 0 en) + 1)) 32 0 lg (nI en)) 33 0 lg ((A 29 0 en) + 1)) 34 0 lg what) 35 0 lg tells) 36 0 lg 0) (nI lg) en w hen hw hq) (cwV 2 hts gM_130 rfl rfl rfl (by decide +kernel) ⟨Nat.le_of_ble_eq_true rfl, Nat.le_of_ble_eq_true rfl⟩) (er_preV hK hV hi0 (cR_0 _ _ _) rfl) rfl rfl hl.1 rfl (lv_room (Nat.le_of_ble_eq_true rfl)) dM_write_71 ⟨Nat.le_of_ble_eq_true rfl, Nat.le_of_ble_eq_true rfl⟩) hV hS hA (fun u1 H locs eu1 hV hS => ?_)
  have eu1 : u1 = s_lay (up3 (up3 (up3 (up3 (up3 (up3 A 29 0 en ((A 29 0 en) + 1)) 32 0 lg (nI en)) 33 0 lg ((A 29 0 en) + 1)) 34 0 lg what) 35 0 lg tells) 36 0 lg 0) (nI lg) en w := eu1
  refine lv_aload_n hx hb dM_write_74 rfl (lv_at hl 0 rfl) ?_
  refine lv_dup hx hb dM_write_75 rfl ?_
  refine ew_get (v := .int (u1 0 0 5)) hx hb hts hown hK hV fM_127 hi0 (cR_0 _ _ _) rfl dM_write_76 ?_
  refine lv_toe (y := nI lg) (by rw [eu1]; exact ((s_lay_lt _ _ _ _ (by decide) (by decide) _).trans hg)) ?_
  refine lv_iconst (v := 1) hx hb dM_write_79 (by decide) ?_
  refine lv_iadd hx hb dM_write_80 ?_
  refine lv_toe (y := nI (lg + 1)) (nI_add lg 1) ?_
  refine ew_put (ty := .int) hx hb hts hown hK hV hS fM_127 gM hi0 (cR_0 _ _ _) 5 _ (pR_5 _ _ _ _) rfl (by decide +kernel) rfl rfl (Nat.le_of_ble_eq_true rfl) dM_write_81 (fun H locs hV hS => ?_)
  subst eu1
  exact er_vret hx hb hr hlocks hV hS dM_write_84 (Eq.symm (by unfold s_write; rfl))

def s_askNext (A : ew_R) (ln : Nat) (st : Nat) (ak : Nat) (rq : Nat) (w : Nat) (lg : Nat) : ew_R :=
  if (st + ak) % 6 = rq then
    if ak + 1 < 6 then
      (s_write (up3 (up3 (up3 (up3 (up3 (up3 (up3 (up3 (up3 (up3 A 19 0 ln 0) 20 0 ln 0) 21 0 ln 0) 15 0 ln (nI (ak + 1))) 18 0 ln 9) 15 0 ln (nI ((ak + 1) + 1))) 16 0 ln (nI ((st + (ak + 1)) % 6))) 22 0 ((6 * ln) + ((st + (ak + 1)) % 6)) 1) 28 0 ((6 * ln) + ((st + (ak + 1)) % 6)) (-1)) 18 0 ln 0) (2 * (6 * ln + ((st + (ak + 1)) % 6))) 1 (A 13 0 ln) w lg)
    else
      up3 (up3 (up3 (up3 (up3 A 19 0 ln 0) 20 0 ln 0) 21 0 ln 0) 15 0 ln (nI (ak + 1))) 18 0 ln 9
  else
    if ak < 6 then
      (s_write (up3 (up3 (up3 (up3 (up3 (up3 (up3 (up3 (up3 A 19 0 ln 0) 20 0 ln 0) 21 0 ln 0) 18 0 ln 9) 15 0 ln (nI (ak + 1))) 16 0 ln (nI ((st + ak) % 6))) 22 0 ((6 * ln) + ((st + ak) % 6)) 1) 28 0 ((6 * ln) + ((st + ak) % 6)) (-1)) 18 0 ln 0) (2 * (6 * ln + ((st + ak) % 6))) 1 (A 13 0 ln) w lg)
    else
      up3 (up3 (up3 (up3 A 19 0 ln 0) 20 0 ln 0) 21 0 ln 0) 18 0 ln 9
set_option maxHeartbeats 4000000 in
set_option maxRecDepth 100000 in
theorem r_askNext (l : Launch) (D : va_G) (T : Nat → ClassId) (X : Nat → Nat → Nat) (L : List Nat) (tg : Nat → Nat × Nat) (sz : Nat) (hE : eR_E X L tg) (A : ew_R) (ln : Nat) (st : Nat) (ak : Nat) (rq : Nat) (w : Nat) (lg : Nat) (hln : ln < 32) (hst : st < 6) (hak : ak ≤ 8) (hrq : rq < 6) (hw : w ≤ 64) (hq : A 0 0 4 = nI w) (hlg : lg < 3000) (hg : A 0 0 5 = nI lg) (q14 : A 14 0 ln = nI st) (q15 : A 15 0 ln = nI ak) (q11 : A 11 0 ln = nI rq) : Met l yM_askNext wsM_askNext ({ frames := 3, cells := 0, slots := 0, locals := 67 }) (er_Pc D vwCl (tysA T) (cfR T) X L tg A sz [.ref (X 0 0), .int (nI ln)]) (er_Qv D vwCl (cfR T) X L tg sz (fun u => u = s_askNext A ln st ak rq w lg)) 0 0 (ew_A L sz) := by
  refine er_met (by decide) rfl (Nat.le_of_ble_eq_true rfl) ?_
  intro p e s m below meth c ls hx hb hr hts hown hlocks hml hV hK hS hA hl hsz
  subst hsz
  have hi0 := hE 0 (by decide)
  have hl : lv_has ls 3 [(0, .ref (X 0 0)), (1, .int (nI ln))] := hl
  refine lv_aload_n hx hb dM_askNext_0 rfl (lv_at hl 0 rfl) ?_
  refine ew_get (v := .ref (X 19 0)) hx hb hts hown hK hV fM_49 hi0 (cR_0 _ _ _) rfl dM_askNext_1 ?_
  refine lv_iload_n hx hb dM_askNext_4 rfl (lv_at hl 1 rfl) ?_
  refine lv_iconst (v := 0) hx hb dM_askNext_5 (by decide) ?_
  refine ew_iast hx hb hK hV hS (hE 19 (by decide)) (cR_19 _ _ _) 0 rfl (vp_in_nI (by omega) (by decide)) ln (nI_clamp (by omega)) (qR_19 _ _ _ _ _) dM_askNext_6 (fun H locs hV hS => ?_)
  refine lv_aload_n hx hb dM_askNext_7 rfl (lv_at hl 0 rfl) ?_
  refine ew_get (v := .ref (X 20 0)) hx hb hts hown hK hV fM_52 hi0 (cR_0 _ _ _) rfl dM_askNext_8 ?_
  refine lv_iload_n hx hb dM_askNext_11 rfl (lv_at hl 1 rfl) ?_
  refine lv_iconst (v := 0) hx hb dM_askNext_12 (by decide) ?_
  refine ew_iast hx hb hK hV hS (hE 20 (by decide)) (cR_20 _ _ _) 0 rfl (vp_in_nI (by omega) (by decide)) ln (nI_clamp (by omega)) (qR_20 _ _ _ _ _) dM_askNext_13 (fun H locs hV hS => ?_)
  refine lv_aload_n hx hb dM_askNext_14 rfl (lv_at hl 0 rfl) ?_
  refine ew_get (v := .ref (X 21 0)) hx hb hts hown hK hV fM_55 hi0 (cR_0 _ _ _) rfl dM_askNext_15 ?_
  refine lv_iload_n hx hb dM_askNext_18 rfl (lv_at hl 1 rfl) ?_
  refine lv_iconst (v := 0) hx hb dM_askNext_19 (by decide) ?_
  refine ew_iast hx hb hK hV hS (hE 21 (by decide)) (cR_21 _ _ _) 0 rfl (vp_in_nI (by omega) (by decide)) ln (nI_clamp (by omega)) (qR_21 _ _ _ _ _) dM_askNext_20 (fun H locs hV hS => ?_)
  refine lv_aload_n hx hb dM_askNext_21 rfl (lv_at hl 0 rfl) ?_
  refine ew_get (v := .ref (X 14 0)) hx hb hts hown hK hV fM_34 hi0 (cR_0 _ _ _) rfl dM_askNext_22 ?_
  refine lv_iload_n hx hb dM_askNext_25 rfl (lv_at hl 1 rfl) ?_
  refine ew_iald (v := A 14 0 ln) hx hb hK hV (hE 14 (by decide)) (cR_14 _ _ _) 0 rfl (vp_in_nI (by omega) (by decide)) (er_ix (by omega) rfl) dM_askNext_26 ?_
  refine lv_toe (y := nI st) q14 ?_
  refine lv_aload_n hx hb dM_askNext_27 rfl (lv_at hl 0 rfl) ?_
  refine ew_get (v := .ref (X 15 0)) hx hb hts hown hK hV fM_37 hi0 (cR_0 _ _ _) rfl dM_askNext_28 ?_
  refine lv_iload_n hx hb dM_askNext_31 rfl (lv_at hl 1 rfl) ?_
  refine ew_iald (v := A 15 0 ln) hx hb hK hV (hE 15 (by decide)) (cR_15 _ _ _) 0 rfl (vp_in_nI (by omega) (by decide)) (er_ix (by omega) rfl) dM_askNext_32 ?_
  refine lv_toe (y := nI ak) q15 ?_
  refine lv_iadd hx hb dM_askNext_33 ?_
  refine lv_toe (y := nI (st + ak)) (nI_add st ak) ?_
  refine lv_bipush (v := 6) hx hb dM_askNext_34 (by decide) ?_
  refine lv_irem hx hb dM_askNext_36 (by decide) ?_
  refine lv_toe (y := nI ((st + ak) % 6)) (pk_rem (a := (st + ak)) (d := 6) (by omega) (by decide) (by decide)) ?_
  refine lv_istore_n (lv' := [(2, .int (nI ((st + ak) % 6))), (0, .ref (X 0 0)), (1, .int (nI ln))]) hx hb dM_askNext_37 rfl hl (by decide) rfl (fun ls hl => ?_)
  refine lv_iload_n hx hb dM_askNext_38 rfl (lv_at hl 0 rfl) ?_
  refine lv_aload_n hx hb dM_askNext_39 rfl (lv_at hl 1 rfl) ?_
  refine ew_get (v := .ref (X 11 0)) hx hb hts hown hK hV fM_25 hi0 (cR_0 _ _ _) rfl dM_askNext_40 ?_
  refine lv_iload_n hx hb dM_askNext_43 rfl (lv_at hl 2 rfl) ?_
  refine ew_iald (v := A 11 0 ln) hx hb hK hV (hE 11 (by decide)) (cR_11 _ _ _) 0 rfl (vp_in_nI (by omega) (by decide)) (er_ix (by omega) rfl) dM_askNext_44 ?_
  refine lv_toe (y := nI rq) q11 ?_
  refine lv_icmp_ne (tgt := 75) hx hb dM_askNext_45 rfl (fun h1 => ?_) (fun h1 => ?_)
  · replace h1 : ¬ ((st + ak) % 6 = rq) := fun z9 => h1 ((nI_eq (a := (st + ak) % 6) (b := rq) (by omega) (by omega)).mpr z9)
    refine lv_aload_n hx hb dM_askNext_75 rfl (lv_at hl 1 rfl) ?_
    refine ew_get (v := .ref (X 18 0)) hx hb hts hown hK hV fM_46 hi0 (cR_0 _ _ _) rfl dM_askNext_76 ?_
    refine lv_iload_n hx hb dM_askNext_79 rfl (lv_at hl 2 rfl) ?_
    refine lv_bipush (v := 9) hx hb dM_askNext_80 (by decide) ?_
    refine ew_iast hx hb hK hV hS (hE 18 (by decide)) (cR_18 _ _ _) 0 rfl (vp_in_nI (by omega) (by decide)) ln (nI_clamp (by omega)) (qR_18 _ _ _ _ _) dM_askNext_82 (fun H locs hV hS => ?_)
    refine lv_aload_n hx hb dM_askNext_83 rfl (lv_at hl 1 rfl) ?_
    refine ew_get (v := .ref (X 15 0)) hx hb hts hown hK hV fM_37 hi0 (cR_0 _ _ _) rfl dM_askNext_84 ?_
    refine lv_iload_n hx hb dM_askNext_87 rfl (lv_at hl 2 rfl) ?_
    refine ew_iald (v := A 15 0 ln) hx hb hK hV (hE 15 (by decide)) (cR_15 _ _ _) 0 rfl (vp_in_nI (by omega) (by decide)) (er_ix (by omega) rfl) dM_askNext_88 ?_
    refine lv_toe (y := nI ak) q15 ?_
    refine lv_bipush (v := 6) hx hb dM_askNext_89 (by decide) ?_
    refine lv_icmp_lt (tgt := 95) hx hb dM_askNext_91 rfl (fun h2 => ?_) (fun h2 => ?_)
    · replace h2 := (nI_ltI (a := ak) (b := 6) (by omega) (by omega)).mp h2
      refine lv_aload_n hx hb dM_askNext_95 rfl (lv_at hl 1 rfl) ?_
      refine ew_get (v := .ref (X 15 0)) hx hb hts hown hK hV fM_37 hi0 (cR_0 _ _ _) rfl dM_askNext_96 ?_
      refine lv_iload_n hx hb dM_askNext_99 rfl (lv_at hl 2 rfl) ?_
      refine lv_dup2_11 hx hb dM_askNext_100 rfl rfl ?_
      refine ew_iald (v := A 15 0 ln) hx hb hK hV (hE 15 (by decide)) (cR_15 _ _ _) 0 rfl (vp_in_nI (by omega) (by decide)) (er_ix (by omega) rfl) dM_askNext_101 ?_
      refine lv_toe (y := nI ak) q15 ?_
      refine lv_iconst (v := 1) hx hb dM_askNext_102 (by decide) ?_
      refine lv_iadd hx hb dM_askNext_103 ?_
      refine lv_toe (y := nI (ak + 1)) (nI_add ak 1) ?_
      refine ew_iast hx hb hK hV hS (hE 15 (by decide)) (cR_15 _ _ _) 0 rfl (vp_in_nI (by omega) (by decide)) ln (nI_clamp (by omega)) (qR_15 _ _ _ _ _) dM_askNext_104 (fun H locs hV hS => ?_)
      refine lv_aload_n hx hb dM_askNext_105 rfl (lv_at hl 1 rfl) ?_
      refine ew_get (v := .ref (X 16 0)) hx hb hts hown hK hV fM_40 hi0 (cR_0 _ _ _) rfl dM_askNext_106 ?_
      refine lv_iload_n hx hb dM_askNext_109 rfl (lv_at hl 2 rfl) ?_
      refine lv_iload_n hx hb dM_askNext_110 rfl (lv_at hl 0 rfl) ?_
      refine ew_iast hx hb hK hV hS (hE 16 (by decide)) (cR_16 _ _ _) 0 rfl (vp_in_nI (by omega) (by decide)) ln (nI_clamp (by omega)) (qR_16 _ _ _ _ _) dM_askNext_111 (fun H locs hV hS => ?_)
      refine lv_aload_n hx hb dM_askNext_112 rfl (lv_at hl 1 rfl) ?_
      refine ew_get (v := .ref (X 22 0)) hx hb hts hown hK hV fM_58 hi0 (cR_0 _ _ _) rfl dM_askNext_113 ?_
      refine lv_bipush (v := 6) hx hb dM_askNext_116 (by decide) ?_
      refine lv_iload_n hx hb dM_askNext_118 rfl (lv_at hl 2 rfl) ?_
      refine lv_imul hx hb dM_askNext_119 ?_
      refine lv_toe (y := nI (6 * ln)) (pk_mul 6 ln) ?_
      refine lv_iload_n hx hb dM_askNext_120 rfl (lv_at hl 0 rfl) ?_
      refine lv_iadd hx hb dM_askNext_121 ?_
      refine lv_toe (y := nI ((6 * ln) + ((st + ak) % 6))) (nI_add (6 * ln) ((st + ak) % 6)) ?_
      refine lv_iconst (v := 1) hx hb dM_askNext_122 (by decide) ?_
      refine ew_zast hx hb hK hV hS (hE 22 (by decide)) (cR_22 _ _ _) 1 rfl (vp_in_nI (by omega) (by decide)) (by decide) ((6 * ln) + ((st + ak) % 6)) (nI_clamp (by omega)) (qR_22 _ _ _ _ _) dM_askNext_123 (fun H locs hV hS => ?_)
      refine lv_aload_n hx hb dM_askNext_124 rfl (lv_at hl 1 rfl) ?_
      refine ew_get (v := .ref (X 28 0)) hx hb hts hown hK hV fM_77 hi0 (cR_0 _ _ _) rfl dM_askNext_125 ?_
      refine lv_bipush (v := 6) hx hb dM_askNext_128 (by decide) ?_
      refine lv_iload_n hx hb dM_askNext_130 rfl (lv_at hl 2 rfl) ?_
      refine lv_imul hx hb dM_askNext_131 ?_
      refine lv_toe (y := nI (6 * ln)) (pk_mul 6 ln) ?_
      refine lv_iload_n hx hb dM_askNext_132 rfl (lv_at hl 0 rfl) ?_
      refine lv_iadd hx hb dM_askNext_133 ?_
      refine lv_toe (y := nI ((6 * ln) + ((st + ak) % 6))) (nI_add (6 * ln) ((st + ak) % 6)) ?_
      refine lv_iconst (v := (-1)) hx hb dM_askNext_134 (by decide) ?_
      refine ew_iast hx hb hK hV hS (hE 28 (by decide)) (cR_28 _ _ _) 0 rfl (vp_in_nI (by omega) (by decide)) ((6 * ln) + ((st + ak) % 6)) (nI_clamp (by omega)) (qR_28 _ _ _ _ _) dM_askNext_135 (fun H locs hV hS => ?_)
      refine lv_aload_n hx hb dM_askNext_136 rfl (lv_at hl 1 rfl) ?_
      refine ew_get (v := .ref (X 18 0)) hx hb hts hown hK hV fM_46 hi0 (cR_0 _ _ _) rfl dM_askNext_137 ?_
      refine lv_iload_n hx hb dM_askNext_140 rfl (lv_at hl 2 rfl) ?_
      refine lv_iconst (v := 0) hx hb dM_askNext_141 (by decide) ?_
      refine ew_iast hx hb hK hV hS (hE 18 (by decide)) (cR_18 _ _ _) 0 rfl (vp_in_nI (by omega) (by decide)) ln (nI_clamp (by omega)) (qR_18 _ _ _ _ _) dM_askNext_142 (fun H locs hV hS => ?_)
      refine lv_aload_n hx hb dM_askNext_143 rfl (lv_at hl 1 rfl) ?_
      refine lv_aload_n hx hb dM_askNext_144 rfl (lv_at hl 1 rfl) ?_
      refine lv_iload_n hx hb dM_askNext_145 rfl (lv_at hl 2 rfl) ?_
      refine er_calli (va_runV (As := [.int (nI ln)]) (rest := [.ref (X 0 0)]) ⟨hx, hb, hml, hown, hts⟩ (r_endOf l D T X L tg _ hE (up3 (up3 (up3 (up3 (up3 (up3 (up3 (up3 (up3 A 19 0 ln 0) 20 0 ln 0) 21 0 ln 0) 18 0 ln 9) 15 0 ln (nI (ak + 1))) 16 0 ln (nI ((st + ak) % 6))) 22 0 ((6 * ln) + ((st + ak) % 6)) 1) 28 0 ((6 * ln) + ((st + ak) % 6)) (-1)) 18 0 ln 0) ln ((st + ak) % 6) hln (Nat.mod_lt _ (by decide)) (by simp [up3, va_up])) (cwV 1 hts gM_134 rfl rfl rfl (by decide +kernel) ⟨Nat.le_of_ble_eq_true rfl, Nat.le_of_ble_eq_true rfl⟩) (er_preV hK hV hi0 (cR_0 _ _ _) rfl) rfl rfl hl.1 rfl (lv_room (Nat.le_of_ble_eq_true rfl)) dM_askNext_146 ⟨Nat.le_of_ble_eq_true rfl, Nat.le_of_ble_eq_true rfl⟩) hV hS hA (fun r u H locs hp hV hS => ?_)
      obtain ⟨rfl, rfl⟩ := hp
      refine lv_iconst (v := 1) hx hb dM_askNext_149 (by decide) ?_
      refine lv_aload_n hx hb dM_askNext_150 rfl (lv_at hl 1 rfl) ?_
      refine ew_get (v := .ref (X 13 0)) hx hb hts hown hK hV fM_31 hi0 (cR_0 _ _ _) rfl dM_askNext_151 ?_
      refine lv_iload_n hx hb dM_askNext_154 rfl (lv_at hl 2 rfl) ?_
      refine ew_iald (v := A 13 0 ln) hx hb hK hV (hE 13 (by decide)) (cR_13 _ _ _) 0 rfl (vp_in_nI (by omega) (by decide)) (er_ix (by omega) rfl) dM_askNext_155 ?_
      refine er_callv (va_runV (As := [.int (nI (2 * (6 * ln + ((st + ak) % 6)))), .int 1, .int (A 13 0 ln)]) (rest := []) ⟨hx, hb, hml, hown, hts⟩ (r_write l D T X L tg _ hE (up3 (up3 (up3 (up3 (up3 (up3 (up3 (up3 (up3 A 19 0 ln 0) 20 0 ln 0) 21 0 ln 0) 18 0 ln 9) 15 0 ln (nI (ak + 1))) 16 0 ln (nI ((st + ak) % 6))) 22 0 ((6 * ln) + ((st + ak) % 6)) 1) 28 0 ((6 * ln) + ((st + ak) % 6)) (-1)) 18 0 ln 0) (2 * (6 * ln + ((st + ak) % 6))) 1 (A 13 0 ln) w lg (by omega) hw hq hlg hg) (cwV 3 hts gM_138 rfl rfl rfl (by decide +kernel) ⟨Nat.le_of_ble_eq_true rfl, Nat.le_of_ble_eq_true rfl⟩) (er_preV hK hV hi0 (cR_0 _ _ _) rfl) rfl rfl hl.1 rfl (lv_room (Nat.le_of_ble_eq_true rfl)) dM_askNext_156 ⟨Nat.le_of_ble_eq_true rfl, Nat.le_of_ble_eq_true rfl⟩) hV hS hA (fun u3 H locs eu3 hV hS => ?_)
      have eu3 : u3 = s_write (up3 (up3 (up3 (up3 (up3 (up3 (up3 (up3 (up3 A 19 0 ln 0) 20 0 ln 0) 21 0 ln 0) 18 0 ln 9) 15 0 ln (nI (ak + 1))) 16 0 ln (nI ((st + ak) % 6))) 22 0 ((6 * ln) + ((st + ak) % 6)) 1) 28 0 ((6 * ln) + ((st + ak) % 6)) (-1)) 18 0 ln 0) (2 * (6 * ln + ((st + ak) % 6))) 1 (A 13 0 ln) w lg := eu3
      subst eu3
      exact er_vret hx hb hr hlocks hV hS dM_askNext_159 (Eq.symm (by unfold s_askNext; simp only [if_neg h1, if_pos h2]))
    · replace h2 : ¬ (ak < 6) := fun z9 => h2 ((nI_ltI (a := ak) (b := 6) (by omega) (by omega)).mpr z9)
      exact er_vret hx hb hr hlocks hV hS dM_askNext_94 (Eq.symm (by unfold s_askNext; simp only [if_neg h1, if_neg h2]))
  · replace h1 := (nI_eq (a := (st + ak) % 6) (b := rq) (by omega) (by omega)).mp h1
    refine lv_aload_n hx hb dM_askNext_48 rfl (lv_at hl 1 rfl) ?_
    refine ew_get (v := .ref (X 15 0)) hx hb hts hown hK hV fM_37 hi0 (cR_0 _ _ _) rfl dM_askNext_49 ?_
    refine lv_iload_n hx hb dM_askNext_52 rfl (lv_at hl 2 rfl) ?_
    refine lv_dup2_11 hx hb dM_askNext_53 rfl rfl ?_
    refine ew_iald (v := A 15 0 ln) hx hb hK hV (hE 15 (by decide)) (cR_15 _ _ _) 0 rfl (vp_in_nI (by omega) (by decide)) (er_ix (by omega) rfl) dM_askNext_54 ?_
    refine lv_toe (y := nI ak) q15 ?_
    refine lv_iconst (v := 1) hx hb dM_askNext_55 (by decide) ?_
    refine lv_iadd hx hb dM_askNext_56 ?_
    refine lv_toe (y := nI (ak + 1)) (nI_add ak 1) ?_
    refine ew_iast hx hb hK hV hS (hE 15 (by decide)) (cR_15 _ _ _) 0 rfl (vp_in_nI (by omega) (by decide)) ln (nI_clamp (by omega)) (qR_15 _ _ _ _ _) dM_askNext_57 (fun H locs hV hS => ?_)
    refine lv_aload_n hx hb dM_askNext_58 rfl (lv_at hl 1 rfl) ?_
    refine ew_get (v := .ref (X 14 0)) hx hb hts hown hK hV fM_34 hi0 (cR_0 _ _ _) rfl dM_askNext_59 ?_
    refine lv_iload_n hx hb dM_askNext_62 rfl (lv_at hl 2 rfl) ?_
    refine ew_iald (v := A 14 0 ln) hx hb hK hV (hE 14 (by decide)) (cR_14 _ _ _) 0 rfl (vp_in_nI (by omega) (by decide)) (er_ix (by omega) rfl) dM_askNext_63 ?_
    refine lv_toe (y := nI st) q14 ?_
    refine lv_aload_n hx hb dM_askNext_64 rfl (lv_at hl 1 rfl) ?_
    refine ew_get (v := .ref (X 15 0)) hx hb hts hown hK hV fM_37 hi0 (cR_0 _ _ _) rfl dM_askNext_65 ?_
    refine lv_iload_n hx hb dM_askNext_68 rfl (lv_at hl 2 rfl) ?_
    refine ew_iald (v := nI (ak + 1)) hx hb hK hV (hE 15 (by decide)) (cR_15 _ _ _) 0 rfl (vp_in_nI (by omega) (by decide)) (er_ix (by omega) (by simp [up3, va_up])) dM_askNext_69 ?_
    refine lv_iadd hx hb dM_askNext_70 ?_
    refine lv_toe (y := nI (st + (ak + 1))) (nI_add st (ak + 1)) ?_
    refine lv_bipush (v := 6) hx hb dM_askNext_71 (by decide) ?_
    refine lv_irem hx hb dM_askNext_73 (by decide) ?_
    refine lv_toe (y := nI ((st + (ak + 1)) % 6)) (pk_rem (a := (st + (ak + 1))) (d := 6) (by omega) (by decide) (by decide)) ?_
    refine lv_istore_n (lv' := [(2, .int (nI ((st + (ak + 1)) % 6))), (0, .ref (X 0 0)), (1, .int (nI ln))]) hx hb dM_askNext_74 rfl hl (by decide) rfl (fun ls hl => ?_)
    refine lv_aload_n hx hb dM_askNext_75 rfl (lv_at hl 1 rfl) ?_
    refine ew_get (v := .ref (X 18 0)) hx hb hts hown hK hV fM_46 hi0 (cR_0 _ _ _) rfl dM_askNext_76 ?_
    refine lv_iload_n hx hb dM_askNext_79 rfl (lv_at hl 2 rfl) ?_
    refine lv_bipush (v := 9) hx hb dM_askNext_80 (by decide) ?_
    refine ew_iast hx hb hK hV hS (hE 18 (by decide)) (cR_18 _ _ _) 0 rfl (vp_in_nI (by omega) (by decide)) ln (nI_clamp (by omega)) (qR_18 _ _ _ _ _) dM_askNext_82 (fun H locs hV hS => ?_)
    refine lv_aload_n hx hb dM_askNext_83 rfl (lv_at hl 1 rfl) ?_
    refine ew_get (v := .ref (X 15 0)) hx hb hts hown hK hV fM_37 hi0 (cR_0 _ _ _) rfl dM_askNext_84 ?_
    refine lv_iload_n hx hb dM_askNext_87 rfl (lv_at hl 2 rfl) ?_
    refine ew_iald (v := nI (ak + 1)) hx hb hK hV (hE 15 (by decide)) (cR_15 _ _ _) 0 rfl (vp_in_nI (by omega) (by decide)) (er_ix (by omega) (by simp [up3, va_up])) dM_askNext_88 ?_
    refine lv_bipush (v := 6) hx hb dM_askNext_89 (by decide) ?_
    refine lv_icmp_lt (tgt := 95) hx hb dM_askNext_91 rfl (fun h4 => ?_) (fun h4 => ?_)
    · replace h4 := (nI_ltI (a := ak + 1) (b := 6) (by omega) (by omega)).mp h4
      refine lv_aload_n hx hb dM_askNext_95 rfl (lv_at hl 1 rfl) ?_
      refine ew_get (v := .ref (X 15 0)) hx hb hts hown hK hV fM_37 hi0 (cR_0 _ _ _) rfl dM_askNext_96 ?_
      refine lv_iload_n hx hb dM_askNext_99 rfl (lv_at hl 2 rfl) ?_
      refine lv_dup2_11 hx hb dM_askNext_100 rfl rfl ?_
      refine ew_iald (v := nI (ak + 1)) hx hb hK hV (hE 15 (by decide)) (cR_15 _ _ _) 0 rfl (vp_in_nI (by omega) (by decide)) (er_ix (by omega) (by simp [up3, va_up])) dM_askNext_101 ?_
      refine lv_iconst (v := 1) hx hb dM_askNext_102 (by decide) ?_
      refine lv_iadd hx hb dM_askNext_103 ?_
      refine lv_toe (y := nI ((ak + 1) + 1)) (nI_add (ak + 1) 1) ?_
      refine ew_iast hx hb hK hV hS (hE 15 (by decide)) (cR_15 _ _ _) 0 rfl (vp_in_nI (by omega) (by decide)) ln (nI_clamp (by omega)) (qR_15 _ _ _ _ _) dM_askNext_104 (fun H locs hV hS => ?_)
      refine lv_aload_n hx hb dM_askNext_105 rfl (lv_at hl 1 rfl) ?_
      refine ew_get (v := .ref (X 16 0)) hx hb hts hown hK hV fM_40 hi0 (cR_0 _ _ _) rfl dM_askNext_106 ?_
      refine lv_iload_n hx hb dM_askNext_109 rfl (lv_at hl 2 rfl) ?_
      refine lv_iload_n hx hb dM_askNext_110 rfl (lv_at hl 0 rfl) ?_
      refine ew_iast hx hb hK hV hS (hE 16 (by decide)) (cR_16 _ _ _) 0 rfl (vp_in_nI (by omega) (by decide)) ln (nI_clamp (by omega)) (qR_16 _ _ _ _ _) dM_askNext_111 (fun H locs hV hS => ?_)
      refine lv_aload_n hx hb dM_askNext_112 rfl (lv_at hl 1 rfl) ?_
      refine ew_get (v := .ref (X 22 0)) hx hb hts hown hK hV fM_58 hi0 (cR_0 _ _ _) rfl dM_askNext_113 ?_
      refine lv_bipush (v := 6) hx hb dM_askNext_116 (by decide) ?_
      refine lv_iload_n hx hb dM_askNext_118 rfl (lv_at hl 2 rfl) ?_
      refine lv_imul hx hb dM_askNext_119 ?_
      refine lv_toe (y := nI (6 * ln)) (pk_mul 6 ln) ?_
      refine lv_iload_n hx hb dM_askNext_120 rfl (lv_at hl 0 rfl) ?_
      refine lv_iadd hx hb dM_askNext_121 ?_
      refine lv_toe (y := nI ((6 * ln) + ((st + (ak + 1)) % 6))) (nI_add (6 * ln) ((st + (ak + 1)) % 6)) ?_
      refine lv_iconst (v := 1) hx hb dM_askNext_122 (by decide) ?_
      refine ew_zast hx hb hK hV hS (hE 22 (by decide)) (cR_22 _ _ _) 1 rfl (vp_in_nI (by omega) (by decide)) (by decide) ((6 * ln) + ((st + (ak + 1)) % 6)) (nI_clamp (by omega)) (qR_22 _ _ _ _ _) dM_askNext_123 (fun H locs hV hS => ?_)
      refine lv_aload_n hx hb dM_askNext_124 rfl (lv_at hl 1 rfl) ?_
      refine ew_get (v := .ref (X 28 0)) hx hb hts hown hK hV fM_77 hi0 (cR_0 _ _ _) rfl dM_askNext_125 ?_
      refine lv_bipush (v := 6) hx hb dM_askNext_128 (by decide) ?_
      refine lv_iload_n hx hb dM_askNext_130 rfl (lv_at hl 2 rfl) ?_
      refine lv_imul hx hb dM_askNext_131 ?_
      refine lv_toe (y := nI (6 * ln)) (pk_mul 6 ln) ?_
      refine lv_iload_n hx hb dM_askNext_132 rfl (lv_at hl 0 rfl) ?_
      refine lv_iadd hx hb dM_askNext_133 ?_
      refine lv_toe (y := nI ((6 * ln) + ((st + (ak + 1)) % 6))) (nI_add (6 * ln) ((st + (ak + 1)) % 6)) ?_
      refine lv_iconst (v := (-1)) hx hb dM_askNext_134 (by decide) ?_
      refine ew_iast hx hb hK hV hS (hE 28 (by decide)) (cR_28 _ _ _) 0 rfl (vp_in_nI (by omega) (by decide)) ((6 * ln) + ((st + (ak + 1)) % 6)) (nI_clamp (by omega)) (qR_28 _ _ _ _ _) dM_askNext_135 (fun H locs hV hS => ?_)
      refine lv_aload_n hx hb dM_askNext_136 rfl (lv_at hl 1 rfl) ?_
      refine ew_get (v := .ref (X 18 0)) hx hb hts hown hK hV fM_46 hi0 (cR_0 _ _ _) rfl dM_askNext_137 ?_
      refine lv_iload_n hx hb dM_askNext_140 rfl (lv_at hl 2 rfl) ?_
      refine lv_iconst (v := 0) hx hb dM_askNext_141 (by decide) ?_
      refine ew_iast hx hb hK hV hS (hE 18 (by decide)) (cR_18 _ _ _) 0 rfl (vp_in_nI (by omega) (by decide)) ln (nI_clamp (by omega)) (qR_18 _ _ _ _ _) dM_askNext_142 (fun H locs hV hS => ?_)
      refine lv_aload_n hx hb dM_askNext_143 rfl (lv_at hl 1 rfl) ?_
      refine lv_aload_n hx hb dM_askNext_144 rfl (lv_at hl 1 rfl) ?_
      refine lv_iload_n hx hb dM_askNext_145 rfl (lv_at hl 2 rfl) ?_
      refine er_calli (va_runV (As := [.int (nI ln)]) (rest := [.ref (X 0 0)]) ⟨hx, hb, hml, hown, hts⟩ (r_endOf l D T X L tg _ hE (up3 (up3 (up3 (up3 (up3 (up3 (up3 (up3 (up3 (up3 A 19 0 ln 0) 20 0 ln 0) 21 0 ln 0) 15 0 ln (nI (ak + 1))) 18 0 ln 9) 15 0 ln (nI ((ak + 1) + 1))) 16 0 ln (nI ((st + (ak + 1)) % 6))) 22 0 ((6 * ln) + ((st + (ak + 1)) % 6)) 1) 28 0 ((6 * ln) + ((st + (ak + 1)) % 6)) (-1)) 18 0 ln 0) ln ((st + (ak + 1)) % 6) hln (Nat.mod_lt _ (by decide)) (by simp [up3, va_up])) (cwV 1 hts gM_134 rfl rfl rfl (by decide +kernel) ⟨Nat.le_of_ble_eq_true rfl, Nat.le_of_ble_eq_true rfl⟩) (er_preV hK hV hi0 (cR_0 _ _ _) rfl) rfl rfl hl.1 rfl (lv_room (Nat.le_of_ble_eq_true rfl)) dM_askNext_146 ⟨Nat.le_of_ble_eq_true rfl, Nat.le_of_ble_eq_true rfl⟩) hV hS hA (fun r u H locs hp hV hS => ?_)
      obtain ⟨rfl, rfl⟩ := hp
      refine lv_iconst (v := 1) hx hb dM_askNext_149 (by decide) ?_
      refine lv_aload_n hx hb dM_askNext_150 rfl (lv_at hl 1 rfl) ?_
      refine ew_get (v := .ref (X 13 0)) hx hb hts hown hK hV fM_31 hi0 (cR_0 _ _ _) rfl dM_askNext_151 ?_
      refine lv_iload_n hx hb dM_askNext_154 rfl (lv_at hl 2 rfl) ?_
      refine ew_iald (v := A 13 0 ln) hx hb hK hV (hE 13 (by decide)) (cR_13 _ _ _) 0 rfl (vp_in_nI (by omega) (by decide)) (er_ix (by omega) rfl) dM_askNext_155 ?_
      refine er_callv (va_runV (As := [.int (nI (2 * (6 * ln + ((st + (ak + 1)) % 6)))), .int 1, .int (A 13 0 ln)]) (rest := []) ⟨hx, hb, hml, hown, hts⟩ (r_write l D T X L tg _ hE (up3 (up3 (up3 (up3 (up3 (up3 (up3 (up3 (up3 (up3 A 19 0 ln 0) 20 0 ln 0) 21 0 ln 0) 15 0 ln (nI (ak + 1))) 18 0 ln 9) 15 0 ln (nI ((ak + 1) + 1))) 16 0 ln (nI ((st + (ak + 1)) % 6))) 22 0 ((6 * ln) + ((st + (ak + 1)) % 6)) 1) 28 0 ((6 * ln) + ((st + (ak + 1)) % 6)) (-1)) 18 0 ln 0) (2 * (6 * ln + ((st + (ak + 1)) % 6))) 1 (A 13 0 ln) w lg (by omega) hw hq hlg hg) (cwV 3 hts gM_138 rfl rfl rfl (by decide +kernel) ⟨Nat.le_of_ble_eq_true rfl, Nat.le_of_ble_eq_true rfl⟩) (er_preV hK hV hi0 (cR_0 _ _ _) rfl) rfl rfl hl.1 rfl (lv_room (Nat.le_of_ble_eq_true rfl)) dM_askNext_156 ⟨Nat.le_of_ble_eq_true rfl, Nat.le_of_ble_eq_true rfl⟩) hV hS hA (fun u5 H locs eu5 hV hS => ?_)
      have eu5 : u5 = s_write (up3 (up3 (up3 (up3 (up3 (up3 (up3 (up3 (up3 (up3 A 19 0 ln 0) 20 0 ln 0) 21 0 ln 0) 15 0 ln (nI (ak + 1))) 18 0 ln 9) 15 0 ln (nI ((ak + 1) + 1))) 16 0 ln (nI ((st + (ak + 1)) % 6))) 22 0 ((6 * ln) + ((st + (ak + 1)) % 6)) 1) 28 0 ((6 * ln) + ((st + (ak + 1)) % 6)) (-1)) 18 0 ln 0) (2 * (6 * ln + ((st + (ak + 1)) % 6))) 1 (A 13 0 ln) w lg := eu5
      subst eu5
      exact er_vret hx hb hr hlocks hV hS dM_askNext_159 (Eq.symm (by unfold s_askNext; simp only [if_pos h1, if_pos h4]))
    · replace h4 : ¬ (ak + 1 < 6) := fun z9 => h4 ((nI_ltI (a := ak + 1) (b := 6) (by omega) (by omega)).mpr z9)
      exact er_vret hx hb hr hlocks hV hS dM_askNext_94 (Eq.symm (by unfold s_askNext; simp only [if_pos h1, if_neg h4]))
