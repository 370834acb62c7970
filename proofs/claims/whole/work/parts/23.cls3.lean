def z_Row_add_5_6 (A : ew_R) (d : Nat) (t : Nat) (w : Nat) : ew_R :=
  if w < 64 then
    up3 (up3 (up3 (up3 (up3 (up3 (up3 (up3 A 12 0 ((w * 7) + 0) (A 5 d 0)) 12 0 ((w * 7) + 1) (A 5 d 1)) 12 0 ((w * 7) + 2) (A 5 d 2)) 12 0 ((w * 7) + 3) (A 6 t 0)) 12 0 ((w * 7) + 4) (A 5 d 4)) 12 0 ((w * 7) + 5) (A 6 t 1)) 12 0 ((w * 7) + 6) (A 6 t 2)) 7 0 1 (nI (w + 1))
  else
    up3 (up3 (up3 (up3 (up3 (up3 (up3 (up3 (upr (up3 A 7 0 1 63) 12 0 (va_cpy ((up3 A 7 0 1 63) 12 0) ((up3 A 7 0 1 63) 12 0) 7 0 441)) 12 0 441 (A 5 d 0)) 12 0 442 (A 5 d 1)) 12 0 443 (A 5 d 2)) 12 0 444 (A 6 t 0)) 12 0 445 (A 5 d 4)) 12 0 446 (A 6 t 1)) 12 0 447 (A 6 t 2)) 7 0 1 64
set_option maxHeartbeats 4000000 in
set_option maxRecDepth 100000 in
theorem c_Row_add_5_6 (l : Launch) (D : va_G) (T : Nat → ClassId) (X : Nat → Nat → Nat) (L : List Nat) (tg : Nat → Nat × Nat) (sz : Nat) (A : ew_R) (d : Nat) (t : Nat) (th : Nat) (hth : ew_in X L tg 7 0 th) (sd : Nat) (hsd : ew_in X L tg 5 d sd) (lt : Nat) (hlt : ew_in X L tg 6 t lt) (w : Nat) (e12_0 : ew_in X L tg 12 0 (X 12 0)) (hw : w ≤ 64) (qw : A 7 0 1 = nI w) : Met l yRow_add wsRow_add ({ frames := 1, cells := 0, slots := 0, locals := 26 }) (ec_Pc D vwCl (tysA T) (cfC T) X L tg A sz [.ref th, .ref sd, .ref lt]) (er_Qv D vwCl (cfC T) X L tg sz (fun u => u = z_Row_add_5_6 A d t w)) 0 0 (ew_A L sz) := by
  refine ec_met (by decide) rfl (Nat.le_of_ble_eq_true rfl) ?_
  intro p e s m below meth c ls hx hb hr hts hown hlocks hml hV hK hN hS hA hl hsz
  subst hsz
  have hl : lv_has ls 4 [(0, .ref th), (1, .ref sd), (2, .ref lt)] := hl
  refine lv_aload_n hx hb dRow_add_0 rfl (lv_at hl 0 rfl) ?_
  refine ew_get (v := .int (A 7 0 1)) hx hb hts hown hK hV fRow_13 hth (cC_7 _ _ _ _) rfl dRow_add_1 ?_
  refine lv_toe (y := nI w) qw ?_
  refine lv_bipush (v := 64) hx hb dRow_add_4 (by decide) ?_
  refine lv_icmp_lt (tgt := 36) hx hb dRow_add_6 rfl (fun h1 => ?_) (fun h1 => ?_)
  · replace h1 := (nI_ltI (a := w) (b := 64) (by omega) (by omega)).mp h1
    refine lv_aload_n hx hb dRow_add_36 rfl (lv_at hl 0 rfl) ?_
    refine ew_get (v := .int (A 7 0 1)) hx hb hts hown hK hV fRow_13 hth (cC_7 _ _ _ _) rfl dRow_add_37 ?_
    refine lv_toe (y := nI w) qw ?_
    refine lv_bipush (v := 7) hx hb dRow_add_40 (by decide) ?_
    refine lv_imul hx hb dRow_add_42 ?_
    refine lv_toe (y := nI (w * 7)) (pk_mul w 7) ?_
    refine lv_istore_n (lv' := [(3, .int (nI (w * 7))), (0, .ref th), (1, .ref sd), (2, .ref lt)]) hx hb dRow_add_43 rfl hl (by decide) rfl (fun ls hl => ?_)
    refine lv_aload_n hx hb dRow_add_44 rfl (lv_at hl 1 rfl) ?_
    refine ew_get (v := .ref (X 12 0)) hx hb hts hown hK hV fRow_9 hth (cC_7 _ _ _ _) rfl dRow_add_45 ?_
    refine lv_iload_n hx hb dRow_add_48 rfl (lv_at hl 0 rfl) ?_
    refine lv_iconst (v := 0) hx hb dRow_add_49 (by decide) ?_
    refine lv_iadd hx hb dRow_add_50 ?_
    refine lv_toe (y := nI ((w * 7) + 0)) (nI_add (w * 7) 0) ?_
    refine lv_aload_n hx hb dRow_add_51 rfl (lv_at hl 2 rfl) ?_
    refine ew_get (v := .int (A 5 d 0)) hx hb hts hown hK hV fRow_25 hsd (cC_5 _ _ _ _) rfl dRow_add_52 ?_
    refine ew_iast hx hb hK hV hS e12_0 (cC_12 _ _ _ _) 0 rfl (vp_in_nI (by omega) (by decide)) ((w * 7) + 0) (nI_clamp (by omega)) (qC_12 _ _ _ _ _ _) dRow_add_55 (fun H locs hV hS => ?_)
    refine lv_aload_n hx hb dRow_add_56 rfl (lv_at hl 1 rfl) ?_
    refine ew_get (v := .ref (X 12 0)) hx hb hts hown hK hV fRow_9 hth (cC_7 _ _ _ _) rfl dRow_add_57 ?_
    refine lv_iload_n hx hb dRow_add_60 rfl (lv_at hl 0 rfl) ?_
    refine lv_iconst (v := 1) hx hb dRow_add_61 (by decide) ?_
    refine lv_iadd hx hb dRow_add_62 ?_
    refine lv_toe (y := nI ((w * 7) + 1)) (nI_add (w * 7) 1) ?_
    refine lv_aload_n hx hb dRow_add_63 rfl (lv_at hl 2 rfl) ?_
    refine ew_get (v := .int (A 5 d 1)) hx hb hts hown hK hV fRow_30 hsd (cC_5 _ _ _ _) rfl dRow_add_64 ?_
    refine ew_iast hx hb hK hV hS e12_0 (cC_12 _ _ _ _) 0 rfl (vp_in_nI (by omega) (by decide)) ((w * 7) + 1) (nI_clamp (by omega)) (qC_12 _ _ _ _ _ _) dRow_add_67 (fun H locs hV hS => ?_)
    refine lv_aload_n hx hb dRow_add_68 rfl (lv_at hl 1 rfl) ?_
    refine ew_get (v := .ref (X 12 0)) hx hb hts hown hK hV fRow_9 hth (cC_7 _ _ _ _) rfl dRow_add_69 ?_
    refine lv_iload_n hx hb dRow_add_72 rfl (lv_at hl 0 rfl) ?_
    refine lv_iconst (v := 2) hx hb dRow_add_73 (by decide) ?_
    refine lv_iadd hx hb dRow_add_74 ?_
    refine lv_toe (y := nI ((w * 7) + 2)) (nI_add (w * 7) 2) ?_
    refine lv_aload_n hx hb dRow_add_75 rfl (lv_at hl 2 rfl) ?_
    refine ew_get (v := .int (A 5 d 2)) hx hb hts hown hK hV fRow_33 hsd (cC_5 _ _ _ _) rfl dRow_add_76 ?_
    refine ew_iast hx hb hK hV hS e12_0 (cC_12 _ _ _ _) 0 rfl (vp_in_nI (by omega) (by decide)) ((w * 7) + 2) (nI_clamp (by omega)) (qC_12 _ _ _ _ _ _) dRow_add_79 (fun H locs hV hS => ?_)
    refine lv_aload_n hx hb dRow_add_80 rfl (lv_at hl 1 rfl) ?_
    refine ew_get (v := .ref (X 12 0)) hx hb hts hown hK hV fRow_9 hth (cC_7 _ _ _ _) rfl dRow_add_81 ?_
    refine lv_iload_n hx hb dRow_add_84 rfl (lv_at hl 0 rfl) ?_
    refine lv_iconst (v := 3) hx hb dRow_add_85 (by decide) ?_
    refine lv_iadd hx hb dRow_add_86 ?_
    refine lv_toe (y := nI ((w * 7) + 3)) (nI_add (w * 7) 3) ?_
    refine lv_aload_n hx hb dRow_add_87 rfl (lv_at hl 3 rfl) ?_
    refine ew_get (v := .int (A 6 t 0)) hx hb hts hown hK hV fRow_36 hlt (cC_6 _ _ _ _) rfl dRow_add_88 ?_
    refine ew_iast hx hb hK hV hS e12_0 (cC_12 _ _ _ _) 0 rfl (vp_in_nI (by omega) (by decide)) ((w * 7) + 3) (nI_clamp (by omega)) (qC_12 _ _ _ _ _ _) dRow_add_91 (fun H locs hV hS => ?_)
    refine lv_aload_n hx hb dRow_add_92 rfl (lv_at hl 1 rfl) ?_
    refine ew_get (v := .ref (X 12 0)) hx hb hts hown hK hV fRow_9 hth (cC_7 _ _ _ _) rfl dRow_add_93 ?_
    refine lv_iload_n hx hb dRow_add_96 rfl (lv_at hl 0 rfl) ?_
    refine lv_iconst (v := 4) hx hb dRow_add_97 (by decide) ?_
    refine lv_iadd hx hb dRow_add_98 ?_
    refine lv_toe (y := nI ((w * 7) + 4)) (nI_add (w * 7) 4) ?_
    refine lv_aload_n hx hb dRow_add_99 rfl (lv_at hl 2 rfl) ?_
    refine ew_get (v := .int (A 5 d 4)) hx hb hts hown hK hV fRow_41 hsd (cC_5 _ _ _ _) rfl dRow_add_100 ?_
    refine ew_iast hx hb hK hV hS e12_0 (cC_12 _ _ _ _) 0 rfl (vp_in_nI (by omega) (by decide)) ((w * 7) + 4) (nI_clamp (by omega)) (qC_12 _ _ _ _ _ _) dRow_add_103 (fun H locs hV hS => ?_)
    refine lv_aload_n hx hb dRow_add_104 rfl (lv_at hl 1 rfl) ?_
    refine ew_get (v := .ref (X 12 0)) hx hb hts hown hK hV fRow_9 hth (cC_7 _ _ _ _) rfl dRow_add_105 ?_
    refine lv_iload_n hx hb dRow_add_108 rfl (lv_at hl 0 rfl) ?_
    refine lv_iconst (v := 5) hx hb dRow_add_109 (by decide) ?_
    refine lv_iadd hx hb dRow_add_110 ?_
    refine lv_toe (y := nI ((w * 7) + 5)) (nI_add (w * 7) 5) ?_
    refine lv_aload_n hx hb dRow_add_111 rfl (lv_at hl 3 rfl) ?_
    refine ew_get (v := .int (A 6 t 1)) hx hb hts hown hK hV fRow_44 hlt (cC_6 _ _ _ _) rfl dRow_add_112 ?_
    refine ew_iast hx hb hK hV hS e12_0 (cC_12 _ _ _ _) 0 rfl (vp_in_nI (by omega) (by decide)) ((w * 7) + 5) (nI_clamp (by omega)) (qC_12 _ _ _ _ _ _) dRow_add_115 (fun H locs hV hS => ?_)
    refine lv_aload_n hx hb dRow_add_116 rfl (lv_at hl 1 rfl) ?_
    refine ew_get (v := .ref (X 12 0)) hx hb hts hown hK hV fRow_9 hth (cC_7 _ _ _ _) rfl dRow_add_117 ?_
    refine lv_iload_n hx hb dRow_add_120 rfl (lv_at hl 0 rfl) ?_
    refine lv_bipush (v := 6) hx hb dRow_add_121 (by decide) ?_
    refine lv_iadd hx hb dRow_add_123 ?_
    refine lv_toe (y := nI ((w * 7) + 6)) (nI_add (w * 7) 6) ?_
    refine lv_aload_n hx hb dRow_add_124 rfl (lv_at hl 3 rfl) ?_
    refine ew_get (v := .int (A 6 t 2)) hx hb hts hown hK hV fRow_47 hlt (cC_6 _ _ _ _) rfl dRow_add_125 ?_
    refine ew_iast hx hb hK hV hS e12_0 (cC_12 _ _ _ _) 0 rfl (vp_in_nI (by omega) (by decide)) ((w * 7) + 6) (nI_clamp (by omega)) (qC_12 _ _ _ _ _ _) dRow_add_128 (fun H locs hV hS => ?_)
    refine lv_aload_n hx hb dRow_add_129 rfl (lv_at hl 1 rfl) ?_
    refine lv_dup hx hb dRow_add_130 rfl ?_
    refine ew_get (v := .int (A 7 0 1)) hx hb hts hown hK hV fRow_13 hth (cC_7 _ _ _ _) rfl dRow_add_131 ?_
    refine lv_toe (y := nI w) qw ?_
    refine lv_iconst (v := 1) hx hb dRow_add_134 (by decide) ?_
    refine lv_iadd hx hb dRow_add_135 ?_
    refine lv_toe (y := nI (w + 1)) (nI_add w 1) ?_
    refine ew_put (ty := .int) hx hb hts hown hK hV hS fRow_13 gRow hth (cC_7 _ _ _ _) 1 _ (pC_7_1 _ _ _ _ _) rfl (by decide +kernel) rfl rfl (Nat.le_of_ble_eq_true rfl) dRow_add_136 (fun H locs hV hS => ?_)
    exact er_vret hx hb hr hlocks hV hS dRow_add_139 (Eq.symm (by unfold z_Row_add_5_6; simp only [if_pos h1]))
  · replace h1 : ¬ (w < 64) := fun z9 => h1 ((nI_ltI (a := w) (b := 64) (by omega) (by omega)).mpr z9)
    refine lv_aload_n hx hb dRow_add_9 rfl (lv_at hl 0 rfl) ?_
    refine lv_bipush (v := 63) hx hb dRow_add_10 (by decide) ?_
    refine ew_put (ty := .int) hx hb hts hown hK hV hS fRow_13 gRow hth (cC_7 _ _ _ _) 1 _ (pC_7_1 _ _ _ _ _) rfl (by decide +kernel) rfl rfl (Nat.le_of_ble_eq_true rfl) dRow_add_12 (fun H locs hV hS => ?_)
    refine lv_aload_n hx hb dRow_add_15 rfl (lv_at hl 0 rfl) ?_
    refine ew_get (v := .ref (X 12 0)) hx hb hts hown hK hV fRow_9 hth (cC_7 _ _ _ _) rfl dRow_add_16 ?_
    refine lv_bipush (v := 7) hx hb dRow_add_19 (by decide) ?_
    refine lv_aload_n hx hb dRow_add_21 rfl (lv_at hl 0 rfl) ?_
    refine ew_get (v := .ref (X 12 0)) hx hb hts hown hK hV fRow_9 hth (cC_7 _ _ _ _) rfl dRow_add_22 ?_
    refine lv_iconst (v := 0) hx hb dRow_add_25 (by decide) ?_
    refine lv_aload_n hx hb dRow_add_26 rfl (lv_at hl 0 rfl) ?_
    refine ew_get (v := .int 63) hx hb hts hown hK hV fRow_13 hth (cC_7 _ _ _ _) rfl dRow_add_27 ?_
    refine lv_bipush (v := 7) hx hb dRow_add_30 (by decide) ?_
    refine lv_imul hx hb dRow_add_32 ?_
    refine lv_toe (y := 441) (by decide) ?_
    refine ew_copyi (T0 := 0) (sn := 7) (dn := 0) (nn := 441) hx hb (hml.trans hl.1.symm) hown (hts _ km_acp_Row) hts hK hV hS e12_0 (cC_12 _ _ _ _) rfl rfl rfl rfl (by omega) (by omega) (by omega) (by omega) (Nat.le_of_ble_eq_true rfl) (Nat.le_of_ble_eq_true rfl) (cC_12 _ _ _ _) dRow_add_33 (fun H locs hV hS => ?_)
    refine lv_aload_n hx hb dRow_add_36 rfl (lv_at hl 0 rfl) ?_
    refine ew_get (v := .int 63) hx hb hts hown hK hV fRow_13 hth (cC_7 _ _ _ _) rfl dRow_add_37 ?_
    refine lv_bipush (v := 7) hx hb dRow_add_40 (by decide) ?_
    refine lv_imul hx hb dRow_add_42 ?_
    refine lv_toe (y := 441) (by decide) ?_
    refine lv_istore_n (lv' := [(3, .int 441), (0, .ref th), (1, .ref sd), (2, .ref lt)]) hx hb dRow_add_43 rfl hl (by decide) rfl (fun ls hl => ?_)
    refine lv_aload_n hx hb dRow_add_44 rfl (lv_at hl 1 rfl) ?_
    refine ew_get (v := .ref (X 12 0)) hx hb hts hown hK hV fRow_9 hth (cC_7 _ _ _ _) rfl dRow_add_45 ?_
    refine lv_iload_n hx hb dRow_add_48 rfl (lv_at hl 0 rfl) ?_
    refine lv_iconst (v := 0) hx hb dRow_add_49 (by decide) ?_
    refine lv_iadd hx hb dRow_add_50 ?_
    refine lv_toe (y := 441) (by decide) ?_
    refine lv_aload_n hx hb dRow_add_51 rfl (lv_at hl 2 rfl) ?_
    refine ew_get (v := .int (A 5 d 0)) hx hb hts hown hK hV fRow_25 hsd (cC_5 _ _ _ _) rfl dRow_add_52 ?_
    refine ew_iast hx hb hK hV hS e12_0 (cC_12 _ _ _ _) 0 rfl (by unfold vp_in; decide) 441 (by decide) (qC_12 _ _ _ _ _ _) dRow_add_55 (fun H locs hV hS => ?_)
    refine lv_aload_n hx hb dRow_add_56 rfl (lv_at hl 1 rfl) ?_
    refine ew_get (v := .ref (X 12 0)) hx hb hts hown hK hV fRow_9 hth (cC_7 _ _ _ _) rfl dRow_add_57 ?_
    refine lv_iload_n hx hb dRow_add_60 rfl (lv_at hl 0 rfl) ?_
    refine lv_iconst (v := 1) hx hb dRow_add_61 (by decide) ?_
    refine lv_iadd hx hb dRow_add_62 ?_
    refine lv_toe (y := 442) (by decide) ?_
    refine lv_aload_n hx hb dRow_add_63 rfl (lv_at hl 2 rfl) ?_
    refine ew_get (v := .int (A 5 d 1)) hx hb hts hown hK hV fRow_30 hsd (cC_5 _ _ _ _) rfl dRow_add_64 ?_
    refine ew_iast hx hb hK hV hS e12_0 (cC_12 _ _ _ _) 0 rfl (by unfold vp_in; decide) 442 (by decide) (qC_12 _ _ _ _ _ _) dRow_add_67 (fun H locs hV hS => ?_)
    refine lv_aload_n hx hb dRow_add_68 rfl (lv_at hl 1 rfl) ?_
    refine ew_get (v := .ref (X 12 0)) hx hb hts hown hK hV fRow_9 hth (cC_7 _ _ _ _) rfl dRow_add_69 ?_
    refine lv_iload_n hx hb dRow_add_72 rfl (lv_at hl 0 rfl) ?_
    refine lv_iconst (v := 2) hx hb dRow_add_73 (by decide) ?_
    refine lv_iadd hx hb dRow_add_74 ?_
    refine lv_toe (y := 443) (by decide) ?_
    refine lv_aload_n hx hb dRow_add_75 rfl (lv_at hl 2 rfl) ?_
    refine ew_get (v := .int (A 5 d 2)) hx hb hts hown hK hV fRow_33 hsd (cC_5 _ _ _ _) rfl dRow_add_76 ?_
    refine ew_iast hx hb hK hV hS e12_0 (cC_12 _ _ _ _) 0 rfl (by unfold vp_in; decide) 443 (by decide) (qC_12 _ _ _ _ _ _) dRow_add_79 (fun H locs hV hS => ?_)
    refine lv_aload_n hx hb dRow_add_80 rfl (lv_at hl 1 rfl) ?_
    refine ew_get (v := .ref (X 12 0)) hx hb hts hown hK hV fRow_9 hth (cC_7 _ _ _ _) rfl dRow_add_81 ?_
    refine lv_iload_n hx hb dRow_add_84 rfl (lv_at hl 0 rfl) ?_
    refine lv_iconst (v := 3) hx hb dRow_add_85 (by decide) ?_
    refine lv_iadd hx hb dRow_add_86 ?_
    refine lv_toe (y := 444) (by decide) ?_
    refine lv_aload_n hx hb dRow_add_87 rfl (lv_at hl 3 rfl) ?_
    refine ew_get (v := .int (A 6 t 0)) hx hb hts hown hK hV fRow_36 hlt (cC_6 _ _ _ _) rfl dRow_add_88 ?_
    refine ew_iast hx hb hK hV hS e12_0 (cC_12 _ _ _ _) 0 rfl (by unfold vp_in; decide) 444 (by decide) (qC_12 _ _ _ _ _ _) dRow_add_91 (fun H locs hV hS => ?_)
    refine lv_aload_n hx hb dRow_add_92 rfl (lv_at hl 1 rfl) ?_
    refine ew_get (v := .ref (X 12 0)) hx hb hts hown hK hV fRow_9 hth (cC_7 _ _ _ _) rfl dRow_add_93 ?_
    refine lv_iload_n hx hb dRow_add_96 rfl (lv_at hl 0 rfl) ?_
    refine lv_iconst (v := 4) hx hb dRow_add_97 (by decide) ?_
    refine lv_iadd hx hb dRow_add_98 ?_
    refine lv_toe (y := 445) (by decide) ?_
    refine lv_aload_n hx hb dRow_add_99 rfl (lv_at hl 2 rfl) ?_
    refine ew_get (v := .int (A 5 d 4)) hx hb hts hown hK hV fRow_41 hsd (cC_5 _ _ _ _) rfl dRow_add_100 ?_
    refine ew_iast hx hb hK hV hS e12_0 (cC_12 _ _ _ _) 0 rfl (by unfold vp_in; decide) 445 (by decide) (qC_12 _ _ _ _ _ _) dRow_add_103 (fun H locs hV hS => ?_)
    refine lv_aload_n hx hb dRow_add_104 rfl (lv_at hl 1 rfl) ?_
    refine ew_get (v := .ref (X 12 0)) hx hb hts hown hK hV fRow_9 hth (cC_7 _ _ _ _) rfl dRow_add_105 ?_
    refine lv_iload_n hx hb dRow_add_108 rfl (lv_at hl 0 rfl) ?_
    refine lv_iconst (v := 5) hx hb dRow_add_109 (by decide) ?_
    refine lv_iadd hx hb dRow_add_110 ?_
    refine lv_toe (y := 446) (by decide) ?_
    refine lv_aload_n hx hb dRow_add_111 rfl (lv_at hl 3 rfl) ?_
    refine ew_get (v := .int (A 6 t 1)) hx hb hts hown hK hV fRow_44 hlt (cC_6 _ _ _ _) rfl dRow_add_112 ?_
    refine ew_iast hx hb hK hV hS e12_0 (cC_12 _ _ _ _) 0 rfl (by unfold vp_in; decide) 446 (by decide) (qC_12 _ _ _ _ _ _) dRow_add_115 (fun H locs hV hS => ?_)
    refine lv_aload_n hx hb dRow_add_116 rfl (lv_at hl 1 rfl) ?_
    refine ew_get (v := .ref (X 12 0)) hx hb hts hown hK hV fRow_9 hth (cC_7 _ _ _ _) rfl dRow_add_117 ?_
    refine lv_iload_n hx hb dRow_add_120 rfl (lv_at hl 0 rfl) ?_
    refine lv_bipush (v := 6) hx hb dRow_add_121 (by decide) ?_
    refine lv_iadd hx hb dRow_add_123 ?_
    refine lv_toe (y := 447) (by decide) ?_
    refine lv_aload_n hx hb dRow_add_124 rfl (lv_at hl 3 rfl) ?_
    refine ew_get (v := .int (A 6 t 2)) hx hb hts hown hK hV fRow_47 hlt (cC_6 _ _ _ _) rfl dRow_add_125 ?_
    refine ew_iast hx hb hK hV hS e12_0 (cC_12 _ _ _ _) 0 rfl (by unfold vp_in; decide) 447 (by decide) (qC_12 _ _ _ _ _ _) dRow_add_128 (fun H locs hV hS => ?_)
    refine lv_aload_n hx hb dRow_add_129 rfl (lv_at hl 1 rfl) ?_
    refine lv_dup hx hb dRow_add_130 rfl ?_
    refine ew_get (v := .int 63) hx hb hts hown hK hV fRow_13 hth (cC_7 _ _ _ _) rfl dRow_add_131 ?_
    refine lv_iconst (v := 1) hx hb dRow_add_134 (by decide) ?_
    refine lv_iadd hx hb dRow_add_135 ?_
    refine lv_toe (y := 64) (by decide) ?_
    refine ew_put (ty := .int) hx hb hts hown hK hV hS fRow_13 gRow hth (cC_7 _ _ _ _) 1 _ (pC_7_1 _ _ _ _ _) rfl (by decide +kernel) rfl rfl (Nat.le_of_ble_eq_true rfl) dRow_add_136 (fun H locs hV hS => ?_)
    exact er_vret hx hb hr hlocks hV hS dRow_add_139 (Eq.symm (by unfold z_Row_add_5_6; simp only [if_neg h1]))

def z_Row_add_5_18 (A : ew_R) (d : Nat) (t : Nat) (w : Nat) : ew_R :=
  if w < 64 then
    up3 (up3 (up3 (up3 (up3 (up3 (up3 (up3 A 12 0 ((w * 7) + 0) (A 5 d 0)) 12 0 ((w * 7) + 1) (A 5 d 1)) 12 0 ((w * 7) + 2) (A 5 d 2)) 12 0 ((w * 7) + 3) (A 18 t 0)) 12 0 ((w * 7) + 4) (A 5 d 4)) 12 0 ((w * 7) + 5) (A 18 t 1)) 12 0 ((w * 7) + 6) (A 18 t 2)) 7 0 1 (nI (w + 1))
  else
    up3 (up3 (up3 (up3 (up3 (up3 (up3 (up3 (upr (up3 A 7 0 1 63) 12 0 (va_cpy ((up3 A 7 0 1 63) 12 0) ((up3 A 7 0 1 63) 12 0) 7 0 441)) 12 0 441 (A 5 d 0)) 12 0 442 (A 5 d 1)) 12 0 443 (A 5 d 2)) 12 0 444 (A 18 t 0)) 12 0 445 (A 5 d 4)) 12 0 446 (A 18 t 1)) 12 0 447 (A 18 t 2)) 7 0 1 64
set_option maxHeartbeats 4000000 in
set_option maxRecDepth 100000 in
theorem c_Row_add_5_18 (l : Launch) (D : va_G) (T : Nat → ClassId) (X : Nat → Nat → Nat) (L : List Nat) (tg : Nat → Nat × Nat) (sz : Nat) (A : ew_R) (d : Nat) (t : Nat) (th : Nat) (hth : ew_in X L tg 7 0 th) (sd : Nat) (hsd : ew_in X L tg 5 d sd) (lt : Nat) (hlt : ew_in X L tg 18 t lt) (w : Nat) (e12_0 : ew_in X L tg 12 0 (X 12 0)) (hw : w ≤ 64) (qw : A 7 0 1 = nI w) : Met l yRow_add wsRow_add ({ frames := 1, cells := 0, slots := 0, locals := 26 }) (ec_Pc D vwCl (tysA T) (cfC T) X L tg A sz [.ref th, .ref sd, .ref lt]) (er_Qv D vwCl (cfC T) X L tg sz (fun u => u = z_Row_add_5_18 A d t w)) 0 0 (ew_A L sz) := by
  refine ec_met (by decide) rfl (Nat.le_of_ble_eq_true rfl) ?_
  intro p e s m below meth c ls hx hb hr hts hown hlocks hml hV hK hN hS hA hl hsz
  subst hsz
  have hl : lv_has ls 4 [(0, .ref th), (1, .ref sd), (2, .ref lt)] := hl
  refine lv_aload_n hx hb dRow_add_0 rfl (lv_at hl 0 rfl) ?_
  refine ew_get (v := .int (A 7 0 1)) hx hb hts hown hK hV fRow_13 hth (cC_7 _ _ _ _) rfl dRow_add_1 ?_
  refine lv_toe (y := nI w) qw ?_
  refine lv_bipush (v := 64) hx hb dRow_add_4 (by decide) ?_
  refine lv_icmp_lt (tgt := 36) hx hb dRow_add_6 rfl (fun h1 => ?_) (fun h1 => ?_)
  · replace h1 := (nI_ltI (a := w) (b := 64) (by omega) (by omega)).mp h1
    refine lv_aload_n hx hb dRow_add_36 rfl (lv_at hl 0 rfl) ?_
    refine ew_get (v := .int (A 7 0 1)) hx hb hts hown hK hV fRow_13 hth (cC_7 _ _ _ _) rfl dRow_add_37 ?_
    refine lv_toe (y := nI w) qw ?_
    refine lv_bipush (v := 7) hx hb dRow_add_40 (by decide) ?_
    refine lv_imul hx hb dRow_add_42 ?_
    refine lv_toe (y := nI (w * 7)) (pk_mul w 7) ?_
    refine lv_istore_n (lv' := [(3, .int (nI (w * 7))), (0, .ref th), (1, .ref sd), (2, .ref lt)]) hx hb dRow_add_43 rfl hl (by decide) rfl (fun ls hl => ?_)
    refine lv_aload_n hx hb dRow_add_44 rfl (lv_at hl 1 rfl) ?_
    refine ew_get (v := .ref (X 12 0)) hx hb hts hown hK hV fRow_9 hth (cC_7 _ _ _ _) rfl dRow_add_45 ?_
    refine lv_iload_n hx hb dRow_add_48 rfl (lv_at hl 0 rfl) ?_
    refine lv_iconst (v := 0) hx hb dRow_add_49 (by decide) ?_
    refine lv_iadd hx hb dRow_add_50 ?_
    refine lv_toe (y := nI ((w * 7) + 0)) (nI_add (w * 7) 0) ?_
    refine lv_aload_n hx hb dRow_add_51 rfl (lv_at hl 2 rfl) ?_
    refine ew_get (v := .int (A 5 d 0)) hx hb hts hown hK hV fRow_25 hsd (cC_5 _ _ _ _) rfl dRow_add_52 ?_
    refine ew_iast hx hb hK hV hS e12_0 (cC_12 _ _ _ _) 0 rfl (vp_in_nI (by omega) (by decide)) ((w * 7) + 0) (nI_clamp (by omega)) (qC_12 _ _ _ _ _ _) dRow_add_55 (fun H locs hV hS => ?_)
    refine lv_aload_n hx hb dRow_add_56 rfl (lv_at hl 1 rfl) ?_
    refine ew_get (v := .ref (X 12 0)) hx hb hts hown hK hV fRow_9 hth (cC_7 _ _ _ _) rfl dRow_add_57 ?_
    refine lv_iload_n hx hb dRow_add_60 rfl (lv_at hl 0 rfl) ?_
    refine lv_iconst (v := 1) hx hb dRow_add_61 (by decide) ?_
    refine lv_iadd hx hb dRow_add_62 ?_
    refine lv_toe (y := nI ((w * 7) + 1)) (nI_add (w * 7) 1) ?_
    refine lv_aload_n hx hb dRow_add_63 rfl (lv_at hl 2 rfl) ?_
    refine ew_get (v := .int (A 5 d 1)) hx hb hts hown hK hV fRow_30 hsd (cC_5 _ _ _ _) rfl dRow_add_64 ?_
    refine ew_iast hx hb hK hV hS e12_0 (cC_12 _ _ _ _) 0 rfl (vp_in_nI (by omega) (by decide)) ((w * 7) + 1) (nI_clamp (by omega)) (qC_12 _ _ _ _ _ _) dRow_add_67 (fun H locs hV hS => ?_)
    refine lv_aload_n hx hb dRow_add_68 rfl (lv_at hl 1 rfl) ?_
    refine ew_get (v := .ref (X 12 0)) hx hb hts hown hK hV fRow_9 hth (cC_7 _ _ _ _) rfl dRow_add_69 ?_
    refine lv_iload_n hx hb dRow_add_72 rfl (lv_at hl 0 rfl) ?_
    refine lv_iconst (v := 2) hx hb dRow_add_73 (by decide) ?_
    refine lv_iadd hx hb dRow_add_74 ?_
    refine lv_toe (y := nI ((w * 7) + 2)) (nI_add (w * 7) 2) ?_
    refine lv_aload_n hx hb dRow_add_75 rfl (lv_at hl 2 rfl) ?_
    refine ew_get (v := .int (A 5 d 2)) hx hb hts hown hK hV fRow_33 hsd (cC_5 _ _ _ _) rfl dRow_add_76 ?_
    refine ew_iast hx hb hK hV hS e12_0 (cC_12 _ _ _ _) 0 rfl (vp_in_nI (by omega) (by decide)) ((w * 7) + 2) (nI_clamp (by omega)) (qC_12 _ _ _ _ _ _) dRow_add_79 (fun H locs hV hS => ?_)
    refine lv_aload_n hx hb dRow_add_80 rfl (lv_at hl 1 rfl) ?_
    refine ew_get (v := .ref (X 12 0)) hx hb hts hown hK hV fRow_9 hth (cC_7 _ _ _ _) rfl dRow_add_81 ?_
    refine lv_iload_n hx hb dRow_add_84 rfl (lv_at hl 0 rfl) ?_
    refine lv_iconst (v := 3) hx hb dRow_add_85 (by decide) ?_
    refine lv_iadd hx hb dRow_add_86 ?_
    refine lv_toe (y := nI ((w * 7) + 3)) (nI_add (w * 7) 3) ?_
    refine lv_aload_n hx hb dRow_add_87 rfl (lv_at hl 3 rfl) ?_
    refine ew_get (v := .int (A 18 t 0)) hx hb hts hown hK hV fRow_36 hlt (cC_18 _ _ _ _) rfl dRow_add_88 ?_
    refine ew_iast hx hb hK hV hS e12_0 (cC_12 _ _ _ _) 0 rfl (vp_in_nI (by omega) (by decide)) ((w * 7) + 3) (nI_clamp (by omega)) (qC_12 _ _ _ _ _ _) dRow_add_91 (fun H locs hV hS => ?_)
    refine lv_aload_n hx hb dRow_add_92 rfl (lv_at hl 1 rfl) ?_
    refine ew_get (v := .ref (X 12 0)) hx hb hts hown hK hV fRow_9 hth (cC_7 _ _ _ _) rfl dRow_add_93 ?_
    refine lv_iload_n hx hb dRow_add_96 rfl (lv_at hl 0 rfl) ?_
    refine lv_iconst (v := 4) hx hb dRow_add_97 (by decide) ?_
    refine lv_iadd hx hb dRow_add_98 ?_
    refine lv_toe (y := nI ((w * 7) + 4)) (nI_add (w * 7) 4) ?_
    refine lv_aload_n hx hb dRow_add_99 rfl (lv_at hl 2 rfl) ?_
    refine ew_get (v := .int (A 5 d 4)) hx hb hts hown hK hV fRow_41 hsd (cC_5 _ _ _ _) rfl dRow_add_100 ?_
    refine ew_iast hx hb hK hV hS e12_0 (cC_12 _ _ _ _) 0 rfl (vp_in_nI (by omega) (by decide)) ((w * 7) + 4) (nI_clamp (by omega)) (qC_12 _ _ _ _ _ _) dRow_add_103 (fun H locs hV hS => ?_)
    refine lv_aload_n hx hb dRow_add_104 rfl (lv_at hl 1 rfl) ?_
    refine ew_get (v := .ref (X 12 0)) hx hb hts hown hK hV fRow_9 hth (cC_7 _ _ _ _) rfl dRow_add_105 ?_
    refine lv_iload_n hx hb dRow_add_108 rfl (lv_at hl 0 rfl) ?_
    refine lv_iconst (v := 5) hx hb dRow_add_109 (by decide) ?_
    refine lv_iadd hx hb dRow_add_110 ?_
    refine lv_toe (y := nI ((w * 7) + 5)) (nI_add (w * 7) 5) ?_
    refine lv_aload_n hx hb dRow_add_111 rfl (lv_at hl 3 rfl) ?_
    refine ew_get (v := .int (A 18 t 1)) hx hb hts hown hK hV fRow_44 hlt (cC_18 _ _ _ _) rfl dRow_add_112 ?_
    refine ew_iast hx hb hK hV hS e12_0 (cC_12 _ _ _ _) 0 rfl (vp_in_nI (by omega) (by decide)) ((w * 7) + 5) (nI_clamp (by omega)) (qC_12 _ _ _ _ _ _) dRow_add_115 (fun H locs hV hS => ?_)
    refine lv_aload_n hx hb dRow_add_116 rfl (lv_at hl 1 rfl) ?_
    refine ew_get (v := .ref (X 12 0)) hx hb hts hown hK hV fRow_9 hth (cC_7 _ _ _ _) rfl dRow_add_117 ?_
    refine lv_iload_n hx hb dRow_add_120 rfl (lv_at hl 0 rfl) ?_
    refine lv_bipush (v := 6) hx hb dRow_add_121 (by decide) ?_
    refine lv_iadd hx hb dRow_add_123 ?_
    refine lv_toe (y := nI ((w * 7) + 6)) (nI_add (w * 7) 6) ?_
    refine lv_aload_n hx hb dRow_add_124 rfl (lv_at hl 3 rfl) ?_
    refine ew_get (v := .int (A 18 t 2)) hx hb hts hown hK hV fRow_47 hlt (cC_18 _ _ _ _) rfl dRow_add_125 ?_
    refine ew_iast hx hb hK hV hS e12_0 (cC_12 _ _ _ _) 0 rfl (vp_in_nI (by omega) (by decide)) ((w * 7) + 6) (nI_clamp (by omega)) (qC_12 _ _ _ _ _ _) dRow_add_128 (fun H locs hV hS => ?_)
    refine lv_aload_n hx hb dRow_add_129 rfl (lv_at hl 1 rfl) ?_
    refine lv_dup hx hb dRow_add_130 rfl ?_
    refine ew_get (v := .int (A 7 0 1)) hx hb hts hown hK hV fRow_13 hth (cC_7 _ _ _ _) rfl dRow_add_131 ?_
    refine lv_toe (y := nI w) qw ?_
    refine lv_iconst (v := 1) hx hb dRow_add_134 (by decide) ?_
    refine lv_iadd hx hb dRow_add_135 ?_
    refine lv_toe (y := nI (w + 1)) (nI_add w 1) ?_
    refine ew_put (ty := .int) hx hb hts hown hK hV hS fRow_13 gRow hth (cC_7 _ _ _ _) 1 _ (pC_7_1 _ _ _ _ _) rfl (by decide +kernel) rfl rfl (Nat.le_of_ble_eq_true rfl) dRow_add_136 (fun H locs hV hS => ?_)
    exact er_vret hx hb hr hlocks hV hS dRow_add_139 (Eq.symm (by unfold z_Row_add_5_18; simp only [if_pos h1]))
  · replace h1 : ¬ (w < 64) := fun z9 => h1 ((nI_ltI (a := w) (b := 64) (by omega) (by omega)).mpr z9)
    refine lv_aload_n hx hb dRow_add_9 rfl (lv_at hl 0 rfl) ?_
    refine lv_bipush (v := 63) hx hb dRow_add_10 (by decide) ?_
    refine ew_put (ty := .int) hx hb hts hown hK hV hS fRow_13 gRow hth (cC_7 _ _ _ _) 1 _ (pC_7_1 _ _ _ _ _) rfl (by decide +kernel) rfl rfl (Nat.le_of_ble_eq_true rfl) dRow_add_12 (fun H locs hV hS => ?_)
    refine lv_aload_n hx hb dRow_add_15 rfl (lv_at hl 0 rfl) ?_
    refine ew_get (v := .ref (X 12 0)) hx hb hts hown hK hV fRow_9 hth (cC_7 _ _ _ _) rfl dRow_add_16 ?_
    refine lv_bipush (v := 7) hx hb dRow_add_19 (by decide) ?_
    refine lv_aload_n hx hb dRow_add_21 rfl (lv_at hl 0 rfl) ?_
    refine ew_get (v := .ref (X 12 0)) hx hb hts hown hK hV fRow_9 hth (cC_7 _ _ _ _) rfl dRow_add_22 ?_
    refine lv_iconst (v := 0) hx hb dRow_add_25 (by decide) ?_
    refine lv_aload_n hx hb dRow_add_26 rfl (lv_at hl 0 rfl) ?_
    refine ew_get (v := .int 63) hx hb hts hown hK hV fRow_13 hth (cC_7 _ _ _ _) rfl dRow_add_27 ?_
    refine lv_bipush (v := 7) hx hb dRow_add_30 (by decide) ?_
    refine lv_imul hx hb dRow_add_32 ?_
    refine lv_toe (y := 441) (by decide) ?_
    refine ew_copyi (T0 := 0) (sn := 7) (dn := 0) (nn := 441) hx hb (hml.trans hl.1.symm) hown (hts _ km_acp_Row) hts hK hV hS e12_0 (cC_12 _ _ _ _) rfl rfl rfl rfl (by omega) (by omega) (by omega) (by omega) (Nat.le_of_ble_eq_true rfl) (Nat.le_of_ble_eq_true rfl) (cC_12 _ _ _ _) dRow_add_33 (fun H locs hV hS => ?_)
    refine lv_aload_n hx hb dRow_add_36 rfl (lv_at hl 0 rfl) ?_
    refine ew_get (v := .int 63) hx hb hts hown hK hV fRow_13 hth (cC_7 _ _ _ _) rfl dRow_add_37 ?_
    refine lv_bipush (v := 7) hx hb dRow_add_40 (by decide) ?_
    refine lv_imul hx hb dRow_add_42 ?_
    refine lv_toe (y := 441) (by decide) ?_
    refine lv_istore_n (lv' := [(3, .int 441), (0, .ref th), (1, .ref sd), (2, .ref lt)]) hx hb dRow_add_43 rfl hl (by decide) rfl (fun ls hl => ?_)
    refine lv_aload_n hx hb dRow_add_44 rfl (lv_at hl 1 rfl) ?_
    refine ew_get (v := .ref (X 12 0)) hx hb hts hown hK hV fRow_9 hth (cC_7 _ _ _ _) rfl dRow_add_45 ?_
    refine lv_iload_n hx hb dRow_add_48 rfl (lv_at hl 0 rfl) ?_
    refine lv_iconst (v := 0) hx hb dRow_add_49 (by decide) ?_
    refine lv_iadd hx hb dRow_add_50 ?_
    refine lv_toe (y := 441) (by decide) ?_
    refine lv_aload_n hx hb dRow_add_51 rfl (lv_at hl 2 rfl) ?_
    refine ew_get (v := .int (A 5 d 0)) hx hb hts hown hK hV fRow_25 hsd (cC_5 _ _ _ _) rfl dRow_add_52 ?_
    refine ew_iast hx hb hK hV hS e12_0 (cC_12 _ _ _ _) 0 rfl (by unfold vp_in; decide) 441 (by decide) (qC_12 _ _ _ _ _ _) dRow_add_55 (fun H locs hV hS => ?_)
    refine lv_aload_n hx hb dRow_add_56 rfl (lv_at hl 1 rfl) ?_
    refine ew_get (v := .ref (X 12 0)) hx hb hts hown hK hV fRow_9 hth (cC_7 _ _ _ _) rfl dRow_add_57 ?_
    refine lv_iload_n hx hb dRow_add_60 rfl (lv_at hl 0 rfl) ?_
    refine lv_iconst (v := 1) hx hb dRow_add_61 (by decide) ?_
    refine lv_iadd hx hb dRow_add_62 ?_
    refine lv_toe (y := 442) (by decide) ?_
    refine lv_aload_n hx hb dRow_add_63 rfl (lv_at hl 2 rfl) ?_
    refine ew_get (v := .int (A 5 d 1)) hx hb hts hown hK hV fRow_30 hsd (cC_5 _ _ _ _) rfl dRow_add_64 ?_
    refine ew_iast hx hb hK hV hS e12_0 (cC_12 _ _ _ _) 0 rfl (by unfold vp_in; decide) 442 (by decide) (qC_12 _ _ _ _ _ _) dRow_add_67 (fun H locs hV hS => ?_)
    refine lv_aload_n hx hb dRow_add_68 rfl (lv_at hl 1 rfl) ?_
    refine ew_get (v := .ref (X 12 0)) hx hb hts hown hK hV fRow_9 hth (cC_7 _ _ _ _) rfl dRow_add_69 ?_
    refine lv_iload_n hx hb dRow_add_72 rfl (lv_at hl 0 rfl) ?_
    refine lv_iconst (v := 2) hx hb dRow_add_73 (by decide) ?_
    refine lv_iadd hx hb dRow_add_74 ?_
    refine lv_toe (y := 443) (by decide) ?_
    refine lv_aload_n hx hb dRow_add_75 rfl (lv_at hl 2 rfl) ?_
    refine ew_get (v := .int (A 5 d 2)) hx hb hts hown hK hV fRow_33 hsd (cC_5 _ _ _ _) rfl dRow_add_76 ?_
    refine ew_iast hx hb hK hV hS e12_0 (cC_12 _ _ _ _) 0 rfl (by unfold vp_in; decide) 443 (by decide) (qC_12 _ _ _ _ _ _) dRow_add_79 (fun H locs hV hS => ?_)
    refine lv_aload_n hx hb dRow_add_80 rfl (lv_at hl 1 rfl) ?_
    refine ew_get (v := .ref (X 12 0)) hx hb hts hown hK hV fRow_9 hth (cC_7 _ _ _ _) rfl dRow_add_81 ?_
    refine lv_iload_n hx hb dRow_add_84 rfl (lv_at hl 0 rfl) ?_
    refine lv_iconst (v := 3) hx hb dRow_add_85 (by decide) ?_
    refine lv_iadd hx hb dRow_add_86 ?_
    refine lv_toe (y := 444) (by decide) ?_
    refine lv_aload_n hx hb dRow_add_87 rfl (lv_at hl 3 rfl) ?_
    refine ew_get (v := .int (A 18 t 0)) hx hb hts hown hK hV fRow_36 hlt (cC_18 _ _ _ _) rfl dRow_add_88 ?_
    refine ew_iast hx hb hK hV hS e12_0 (cC_12 _ _ _ _) 0 rfl (by unfold vp_in; decide) 444 (by decide) (qC_12 _ _ _ _ _ _) dRow_add_91 (fun H locs hV hS => ?_)
    refine lv_aload_n hx hb dRow_add_92 rfl (lv_at hl 1 rfl) ?_
    refine ew_get (v := .ref (X 12 0)) hx hb hts hown hK hV fRow_9 hth (cC_7 _ _ _ _) rfl dRow_add_93 ?_
    refine lv_iload_n hx hb dRow_add_96 rfl (lv_at hl 0 rfl) ?_
    refine lv_iconst (v := 4) hx hb dRow_add_97 (by decide) ?_
    refine lv_iadd hx hb dRow_add_98 ?_
    refine lv_toe (y := 445) (by decide) ?_
    refine lv_aload_n hx hb dRow_add_99 rfl (lv_at hl 2 rfl) ?_
    refine ew_get (v := .int (A 5 d 4)) hx hb hts hown hK hV fRow_41 hsd (cC_5 _ _ _ _) rfl dRow_add_100 ?_
    refine ew_iast hx hb hK hV hS e12_0 (cC_12 _ _ _ _) 0 rfl (by unfold vp_in; decide) 445 (by decide) (qC_12 _ _ _ _ _ _) dRow_add_103 (fun H locs hV hS => ?_)
    refine lv_aload_n hx hb dRow_add_104 rfl (lv_at hl 1 rfl) ?_
    refine ew_get (v := .ref (X 12 0)) hx hb hts hown hK hV fRow_9 hth (cC_7 _ _ _ _) rfl dRow_add_105 ?_
    refine lv_iload_n hx hb dRow_add_108 rfl (lv_at hl 0 rfl) ?_
    refine lv_iconst (v := 5) hx hb dRow_add_109 (by decide) ?_
    refine lv_iadd hx hb dRow_add_110 ?_
    refine lv_toe (y := 446) (by decide) ?_
    refine lv_aload_n hx hb dRow_add_111 rfl (lv_at hl 3 rfl) ?_
    refine ew_get (v := .int (A 18 t 1)) hx hb hts hown hK hV fRow_44 hlt (cC_18 _ _ _ _) rfl dRow_add_112 ?_
    refine ew_iast hx hb hK hV hS e12_0 (cC_12 _ _ _ _) 0 rfl (by unfold vp_in; decide) 446 (by decide) (qC_12 _ _ _ _ _ _) dRow_add_115 (fun H locs hV hS => ?_)
    refine lv_aload_n hx hb dRow_add_116 rfl (lv_at hl 1 rfl) ?_
    refine ew_get (v := .ref (X 12 0)) hx hb hts hown hK hV fRow_9 hth (cC_7 _ _ _ _) rfl dRow_add_117 ?_
    refine lv_iload_n hx hb dRow_add_120 rfl (lv_at hl 0 rfl) ?_
    refine lv_bipush (v := 6) hx hb dRow_add_121 (by decide) ?_
    refine lv_iadd hx hb dRow_add_123 ?_
    refine lv_toe (y := 447) (by decide) ?_
    refine lv_aload_n hx hb dRow_add_124 rfl (lv_at hl 3 rfl) ?_
    refine ew_get (v := .int (A 18 t 2)) hx hb hts hown hK hV fRow_47 hlt (cC_18 _ _ _ _) rfl dRow_add_125 ?_
    refine ew_iast hx hb hK hV hS e12_0 (cC_12 _ _ _ _) 0 rfl (by unfold vp_in; decide) 447 (by decide) (qC_12 _ _ _ _ _ _) dRow_add_128 (fun H locs hV hS => ?_)
    refine lv_aload_n hx hb dRow_add_129 rfl (lv_at hl 1 rfl) ?_
    refine lv_dup hx hb dRow_add_130 rfl ?_
    refine ew_get (v := .int 63) hx hb hts hown hK hV fRow_13 hth (cC_7 _ _ _ _) rfl dRow_add_131 ?_
    refine lv_iconst (v := 1) hx hb dRow_add_134 (by decide) ?_
    refine lv_iadd hx hb dRow_add_135 ?_
    refine lv_toe (y := 64) (by decide) ?_
    refine ew_put (ty := .int) hx hb hts hown hK hV hS fRow_13 gRow hth (cC_7 _ _ _ _) 1 _ (pC_7_1 _ _ _ _ _) rfl (by decide +kernel) rfl rfl (Nat.le_of_ble_eq_true rfl) dRow_add_136 (fun H locs hV hS => ?_)
    exact er_vret hx hb hr hlocks hV hS dRow_add_139 (Eq.symm (by unfold z_Row_add_5_18; simp only [if_neg h1]))

def z_Row_add_15_19 (A : ew_R) (d : Nat) (t : Nat) (w : Nat) : ew_R :=
  if w < 64 then
    up3 (up3 (up3 (up3 (up3 (up3 (up3 (up3 A 12 0 ((w * 7) + 0) (A 15 d 0)) 12 0 ((w * 7) + 1) (A 15 d 1)) 12 0 ((w * 7) + 2) (A 15 d 2)) 12 0 ((w * 7) + 3) (A 19 t 0)) 12 0 ((w * 7) + 4) (A 15 d 4)) 12 0 ((w * 7) + 5) (A 19 t 1)) 12 0 ((w * 7) + 6) (A 19 t 2)) 7 0 1 (nI (w + 1))
  else
    up3 (up3 (up3 (up3 (up3 (up3 (up3 (up3 (upr (up3 A 7 0 1 63) 12 0 (va_cpy ((up3 A 7 0 1 63) 12 0) ((up3 A 7 0 1 63) 12 0) 7 0 441)) 12 0 441 (A 15 d 0)) 12 0 442 (A 15 d 1)) 12 0 443 (A 15 d 2)) 12 0 444 (A 19 t 0)) 12 0 445 (A 15 d 4)) 12 0 446 (A 19 t 1)) 12 0 447 (A 19 t 2)) 7 0 1 64
set_option maxHeartbeats 4000000 in
set_option maxRecDepth 100000 in
theorem c_Row_add_15_19 (l : Launch) (D : va_G) (T : Nat → ClassId) (X : Nat → Nat → Nat) (L : List Nat) (tg : Nat → Nat × Nat) (sz : Nat) (A : ew_R) (d : Nat) (t : Nat) (th : Nat) (hth : ew_in X L tg 7 0 th) (sd : Nat) (hsd : ew_in X L tg 15 d sd) (lt : Nat) (hlt : ew_in X L tg 19 t lt) (w : Nat) (e12_0 : ew_in X L tg 12 0 (X 12 0)) (hw : w ≤ 64) (qw : A 7 0 1 = nI w) : Met l yRow_add wsRow_add ({ frames := 1, cells := 0, slots := 0, locals := 26 }) (ec_Pc D vwCl (tysA T) (cfC T) X L tg A sz [.ref th, .ref sd, .ref lt]) (er_Qv D vwCl (cfC T) X L tg sz (fun u => u = z_Row_add_15_19 A d t w)) 0 0 (ew_A L sz) := by
  refine ec_met (by decide) rfl (Nat.le_of_ble_eq_true rfl) ?_
  intro p e s m below meth c ls hx hb hr hts hown hlocks hml hV hK hN hS hA hl hsz
  subst hsz
  have hl : lv_has ls 4 [(0, .ref th), (1, .ref sd), (2, .ref lt)] := hl
  refine lv_aload_n hx hb dRow_add_0 rfl (lv_at hl 0 rfl) ?_
  refine ew_get (v := .int (A 7 0 1)) hx hb hts hown hK hV fRow_13 hth (cC_7 _ _ _ _) rfl dRow_add_1 ?_
  refine lv_toe (y := nI w) qw ?_
  refine lv_bipush (v := 64) hx hb dRow_add_4 (by decide) ?_
  refine lv_icmp_lt (tgt := 36) hx hb dRow_add_6 rfl (fun h1 => ?_) (fun h1 => ?_)
  · replace h1 := (nI_ltI (a := w) (b := 64) (by omega) (by omega)).mp h1
    refine lv_aload_n hx hb dRow_add_36 rfl (lv_at hl 0 rfl) ?_
    refine ew_get (v := .int (A 7 0 1)) hx hb hts hown hK hV fRow_13 hth (cC_7 _ _ _ _) rfl dRow_add_37 ?_
    refine lv_toe (y := nI w) qw ?_
    refine lv_bipush (v := 7) hx hb dRow_add_40 (by decide) ?_
    refine lv_imul hx hb dRow_add_42 ?_
    refine lv_toe (y := nI (w * 7)) (pk_mul w 7) ?_
    refine lv_istore_n (lv' := [(3, .int (nI (w * 7))), (0, .ref th), (1, .ref sd), (2, .ref lt)]) hx hb dRow_add_43 rfl hl (by decide) rfl (fun ls hl => ?_)
    refine lv_aload_n hx hb dRow_add_44 rfl (lv_at hl 1 rfl) ?_
    refine ew_get (v := .ref (X 12 0)) hx hb hts hown hK hV fRow_9 hth (cC_7 _ _ _ _) rfl dRow_add_45 ?_
    refine lv_iload_n hx hb dRow_add_48 rfl (lv_at hl 0 rfl) ?_
    refine lv_iconst (v := 0) hx hb dRow_add_49 (by decide) ?_
    refine lv_iadd hx hb dRow_add_50 ?_
    refine lv_toe (y := nI ((w * 7) + 0)) (nI_add (w * 7) 0) ?_
    refine lv_aload_n hx hb dRow_add_51 rfl (lv_at hl 2 rfl) ?_
    refine ew_get (v := .int (A 15 d 0)) hx hb hts hown hK hV fRow_25 hsd (cC_15 _ _ _ _) rfl dRow_add_52 ?_
    refine ew_iast hx hb hK hV hS e12_0 (cC_12 _ _ _ _) 0 rfl (vp_in_nI (by omega) (by decide)) ((w * 7) + 0) (nI_clamp (by omega)) (qC_12 _ _ _ _ _ _) dRow_add_55 (fun H locs hV hS => ?_)
    refine lv_aload_n hx hb dRow_add_56 rfl (lv_at hl 1 rfl) ?_
    refine ew_get (v := .ref (X 12 0)) hx hb hts hown hK hV fRow_9 hth (cC_7 _ _ _ _) rfl dRow_add_57 ?_
    refine lv_iload_n hx hb dRow_add_60 rfl (lv_at hl 0 rfl) ?_
    refine lv_iconst (v := 1) hx hb dRow_add_61 (by decide) ?_
    refine lv_iadd hx hb dRow_add_62 ?_
    refine lv_toe (y := nI ((w * 7) + 1)) (nI_add (w * 7) 1) ?_
    refine lv_aload_n hx hb dRow_add_63 rfl (lv_at hl 2 rfl) ?_
    refine ew_get (v := .int (A 15 d 1)) hx hb hts hown hK hV fRow_30 hsd (cC_15 _ _ _ _) rfl dRow_add_64 ?_
    refine ew_iast hx hb hK hV hS e12_0 (cC_12 _ _ _ _) 0 rfl (vp_in_nI (by omega) (by decide)) ((w * 7) + 1) (nI_clamp (by omega)) (qC_12 _ _ _ _ _ _) dRow_add_67 (fun H locs hV hS => ?_)
    refine lv_aload_n hx hb dRow_add_68 rfl (lv_at hl 1 rfl) ?_
    refine ew_get (v := .ref (X 12 0)) hx hb hts hown hK hV fRow_9 hth (cC_7 _ _ _ _) rfl dRow_add_69 ?_
    refine lv_iload_n hx hb dRow_add_72 rfl (lv_at hl 0 rfl) ?_
    refine lv_iconst (v := 2) hx hb dRow_add_73 (by decide) ?_
    refine lv_iadd hx hb dRow_add_74 ?_
    refine lv_toe (y := nI ((w * 7) + 2)) (nI_add (w * 7) 2) ?_
    refine lv_aload_n hx hb dRow_add_75 rfl (lv_at hl 2 rfl) ?_
    refine ew_get (v := .int (A 15 d 2)) hx hb hts hown hK hV fRow_33 hsd (cC_15 _ _ _ _) rfl dRow_add_76 ?_
    refine ew_iast hx hb hK hV hS e12_0 (cC_12 _ _ _ _) 0 rfl (vp_in_nI (by omega) (by decide)) ((w * 7) + 2) (nI_clamp (by omega)) (qC_12 _ _ _ _ _ _) dRow_add_79 (fun H locs hV hS => ?_)
    refine lv_aload_n hx hb dRow_add_80 rfl (lv_at hl 1 rfl) ?_
    refine ew_get (v := .ref (X 12 0)) hx hb hts hown hK hV fRow_9 hth (cC_7 _ _ _ _) rfl dRow_add_81 ?_
    refine lv_iload_n hx hb dRow_add_84 rfl (lv_at hl 0 rfl) ?_
    refine lv_iconst (v := 3) hx hb dRow_add_85 (by decide) ?_
    refine lv_iadd hx hb dRow_add_86 ?_
    refine lv_toe (y := nI ((w * 7) + 3)) (nI_add (w * 7) 3) ?_
    refine lv_aload_n hx hb dRow_add_87 rfl (lv_at hl 3 rfl) ?_
    refine ew_get (v := .int (A 19 t 0)) hx hb hts hown hK hV fRow_36 hlt (cC_19 _ _ _ _) rfl dRow_add_88 ?_
    refine ew_iast hx hb hK hV hS e12_0 (cC_12 _ _ _ _) 0 rfl (vp_in_nI (by omega) (by decide)) ((w * 7) + 3) (nI_clamp (by omega)) (qC_12 _ _ _ _ _ _) dRow_add_91 (fun H locs hV hS => ?_)
    refine lv_aload_n hx hb dRow_add_92 rfl (lv_at hl 1 rfl) ?_
    refine ew_get (v := .ref (X 12 0)) hx hb hts hown hK hV fRow_9 hth (cC_7 _ _ _ _) rfl dRow_add_93 ?_
    refine lv_iload_n hx hb dRow_add_96 rfl (lv_at hl 0 rfl) ?_
    refine lv_iconst (v := 4) hx hb dRow_add_97 (by decide) ?_
    refine lv_iadd hx hb dRow_add_98 ?_
    refine lv_toe (y := nI ((w * 7) + 4)) (nI_add (w * 7) 4) ?_
    refine lv_aload_n hx hb dRow_add_99 rfl (lv_at hl 2 rfl) ?_
    refine ew_get (v := .int (A 15 d 4)) hx hb hts hown hK hV fRow_41 hsd (cC_15 _ _ _ _) rfl dRow_add_100 ?_
    refine ew_iast hx hb hK hV hS e12_0 (cC_12 _ _ _ _) 0 rfl (vp_in_nI (by omega) (by decide)) ((w * 7) + 4) (nI_clamp (by omega)) (qC_12 _ _ _ _ _ _) dRow_add_103 (fun H locs hV hS => ?_)
    refine lv_aload_n hx hb dRow_add_104 rfl (lv_at hl 1 rfl) ?_
    refine ew_get (v := .ref (X 12 0)) hx hb hts hown hK hV fRow_9 hth (cC_7 _ _ _ _) rfl dRow_add_105 ?_
    refine lv_iload_n hx hb dRow_add_108 rfl (lv_at hl 0 rfl) ?_
    refine lv_iconst (v := 5) hx hb dRow_add_109 (by decide) ?_
    refine lv_iadd hx hb dRow_add_110 ?_
    refine lv_toe (y := nI ((w * 7) + 5)) (nI_add (w * 7) 5) ?_
    refine lv_aload_n hx hb dRow_add_111 rfl (lv_at hl 3 rfl) ?_
    refine ew_get (v := .int (A 19 t 1)) hx hb hts hown hK hV fRow_44 hlt (cC_19 _ _ _ _) rfl dRow_add_112 ?_
    refine ew_iast hx hb hK hV hS e12_0 (cC_12 _ _ _ _) 0 rfl (vp_in_nI (by omega) (by decide)) ((w * 7) + 5) (nI_clamp (by omega)) (qC_12 _ _ _ _ _ _) dRow_add_115 (fun H locs hV hS => ?_)
    refine lv_aload_n hx hb dRow_add_116 rfl (lv_at hl 1 rfl) ?_
    refine ew_get (v := .ref (X 12 0)) hx hb hts hown hK hV fRow_9 hth (cC_7 _ _ _ _) rfl dRow_add_117 ?_
    refine lv_iload_n hx hb dRow_add_120 rfl (lv_at hl 0 rfl) ?_
    refine lv_bipush (v := 6) hx hb dRow_add_121 (by decide) ?_
    refine lv_iadd hx hb dRow_add_123 ?_
    refine lv_toe (y := nI ((w * 7) + 6)) (nI_add (w * 7) 6) ?_
    refine lv_aload_n hx hb dRow_add_124 rfl (lv_at hl 3 rfl) ?_
    refine ew_get (v := .int (A 19 t 2)) hx hb hts hown hK hV fRow_47 hlt (cC_19 _ _ _ _) rfl dRow_add_125 ?_
    refine ew_iast hx hb hK hV hS e12_0 (cC_12 _ _ _ _) 0 rfl (vp_in_nI (by omega) (by decide)) ((w * 7) + 6) (nI_clamp (by omega)) (qC_12 _ _ _ _ _ _) dRow_add_128 (fun H locs hV hS => ?_)
    refine lv_aload_n hx hb dRow_add_129 rfl (lv_at hl 1 rfl) ?_
    refine lv_dup hx hb dRow_add_130 rfl ?_
    refine ew_get (v := .int (A 7 0 1)) hx hb hts hown hK hV fRow_13 hth (cC_7 _ _ _ _) rfl dRow_add_131 ?_
    refine lv_toe (y := nI w) qw ?_
    refine lv_iconst (v := 1) hx hb dRow_add_134 (by decide) ?_
    refine lv_iadd hx hb dRow_add_135 ?_
    refine lv_toe (y := nI (w + 1)) (nI_add w 1) ?_
    refine ew_put (ty := .int) hx hb hts hown hK hV hS fRow_13 gRow hth (cC_7 _ _ _ _) 1 _ (pC_7_1 _ _ _ _ _) rfl (by decide +kernel) rfl rfl (Nat.le_of_ble_eq_true rfl) dRow_add_136 (fun H locs hV hS => ?_)
    exact er_vret hx hb hr hlocks hV hS dRow_add_139 (Eq.symm (by unfold z_Row_add_15_19; simp only [if_pos h1]))
  · replace h1 : ¬ (w < 64) := fun z9 => h1 ((nI_ltI (a := w) (b := 64) (by omega) (by omega)).mpr z9)
    refine lv_aload_n hx hb dRow_add_9 rfl (lv_at hl 0 rfl) ?_
    refine lv_bipush (v := 63) hx hb dRow_add_10 (by decide) ?_
    refine ew_put (ty := .int) hx hb hts hown hK hV hS fRow_13 gRow hth (cC_7 _ _ _ _) 1 _ (pC_7_1 _ _ _ _ _) rfl (by decide +kernel) rfl rfl (Nat.le_of_ble_eq_true rfl) dRow_add_12 (fun H locs hV hS => ?_)
    refine lv_aload_n hx hb dRow_add_15 rfl (lv_at hl 0 rfl) ?_
    refine ew_get (v := .ref (X 12 0)) hx hb hts hown hK hV fRow_9 hth (cC_7 _ _ _ _) rfl dRow_add_16 ?_
    refine lv_bipush (v := 7) hx hb dRow_add_19 (by decide) ?_
    refine lv_aload_n hx hb dRow_add_21 rfl (lv_at hl 0 rfl) ?_
    refine ew_get (v := .ref (X 12 0)) hx hb hts hown hK hV fRow_9 hth (cC_7 _ _ _ _) rfl dRow_add_22 ?_
    refine lv_iconst (v := 0) hx hb dRow_add_25 (by decide) ?_
    refine lv_aload_n hx hb dRow_add_26 rfl (lv_at hl 0 rfl) ?_
    refine ew_get (v := .int 63) hx hb hts hown hK hV fRow_13 hth (cC_7 _ _ _ _) rfl dRow_add_27 ?_
    refine lv_bipush (v := 7) hx hb dRow_add_30 (by decide) ?_
    refine lv_imul hx hb dRow_add_32 ?_
    refine lv_toe (y := 441) (by decide) ?_
    refine ew_copyi (T0 := 0) (sn := 7) (dn := 0) (nn := 441) hx hb (hml.trans hl.1.symm) hown (hts _ km_acp_Row) hts hK hV hS e12_0 (cC_12 _ _ _ _) rfl rfl rfl rfl (by omega) (by omega) (by omega) (by omega) (Nat.le_of_ble_eq_true rfl) (Nat.le_of_ble_eq_true rfl) (cC_12 _ _ _ _) dRow_add_33 (fun H locs hV hS => ?_)
    refine lv_aload_n hx hb dRow_add_36 rfl (lv_at hl 0 rfl) ?_
    refine ew_get (v := .int 63) hx hb hts hown hK hV fRow_13 hth (cC_7 _ _ _ _) rfl dRow_add_37 ?_
    refine lv_bipush (v := 7) hx hb dRow_add_40 (by decide) ?_
    refine lv_imul hx hb dRow_add_42 ?_
    refine lv_toe (y := 441) (by decide) ?_
    refine lv_istore_n (lv' := [(3, .int 441), (0, .ref th), (1, .ref sd), (2, .ref lt)]) hx hb dRow_add_43 rfl hl (by decide) rfl (fun ls hl => ?_)
    refine lv_aload_n hx hb dRow_add_44 rfl (lv_at hl 1 rfl) ?_
    refine ew_get (v := .ref (X 12 0)) hx hb hts hown hK hV fRow_9 hth (cC_7 _ _ _ _) rfl dRow_add_45 ?_
    refine lv_iload_n hx hb dRow_add_48 rfl (lv_at hl 0 rfl) ?_
    refine lv_iconst (v := 0) hx hb dRow_add_49 (by decide) ?_
    refine lv_iadd hx hb dRow_add_50 ?_
    refine lv_toe (y := 441) (by decide) ?_
    refine lv_aload_n hx hb dRow_add_51 rfl (lv_at hl 2 rfl) ?_
    refine ew_get (v := .int (A 15 d 0)) hx hb hts hown hK hV fRow_25 hsd (cC_15 _ _ _ _) rfl dRow_add_52 ?_
    refine ew_iast hx hb hK hV hS e12_0 (cC_12 _ _ _ _) 0 rfl (by unfold vp_in; decide) 441 (by decide) (qC_12 _ _ _ _ _ _) dRow_add_55 (fun H locs hV hS => ?_)
    refine lv_aload_n hx hb dRow_add_56 rfl (lv_at hl 1 rfl) ?_
    refine ew_get (v := .ref (X 12 0)) hx hb hts hown hK hV fRow_9 hth (cC_7 _ _ _ _) rfl dRow_add_57 ?_
    refine lv_iload_n hx hb dRow_add_60 rfl (lv_at hl 0 rfl) ?_
    refine lv_iconst (v := 1) hx hb dRow_add_61 (by decide) ?_
    refine lv_iadd hx hb dRow_add_62 ?_
    refine lv_toe (y := 442) (by decide) ?_
    refine lv_aload_n hx hb dRow_add_63 rfl (lv_at hl 2 rfl) ?_
    refine ew_get (v := .int (A 15 d 1)) hx hb hts hown hK hV fRow_30 hsd (cC_15 _ _ _ _) rfl dRow_add_64 ?_
    refine ew_iast hx hb hK hV hS e12_0 (cC_12 _ _ _ _) 0 rfl (by unfold vp_in; decide) 442 (by decide) (qC_12 _ _ _ _ _ _) dRow_add_67 (fun H locs hV hS => ?_)
    refine lv_aload_n hx hb dRow_add_68 rfl (lv_at hl 1 rfl) ?_
    refine ew_get (v := .ref (X 12 0)) hx hb hts hown hK hV fRow_9 hth (cC_7 _ _ _ _) rfl dRow_add_69 ?_
    refine lv_iload_n hx hb dRow_add_72 rfl (lv_at hl 0 rfl) ?_
    refine lv_iconst (v := 2) hx hb dRow_add_73 (by decide) ?_
    refine lv_iadd hx hb dRow_add_74 ?_
    refine lv_toe (y := 443) (by decide) ?_
    refine lv_aload_n hx hb dRow_add_75 rfl (lv_at hl 2 rfl) ?_
    refine ew_get (v := .int (A 15 d 2)) hx hb hts hown hK hV fRow_33 hsd (cC_15 _ _ _ _) rfl dRow_add_76 ?_
    refine ew_iast hx hb hK hV hS e12_0 (cC_12 _ _ _ _) 0 rfl (by unfold vp_in; decide) 443 (by decide) (qC_12 _ _ _ _ _ _) dRow_add_79 (fun H locs hV hS => ?_)
    refine lv_aload_n hx hb dRow_add_80 rfl (lv_at hl 1 rfl) ?_
    refine ew_get (v := .ref (X 12 0)) hx hb hts hown hK hV fRow_9 hth (cC_7 _ _ _ _) rfl dRow_add_81 ?_
    refine lv_iload_n hx hb dRow_add_84 rfl (lv_at hl 0 rfl) ?_
    refine lv_iconst (v := 3) hx hb dRow_add_85 (by decide) ?_
    refine lv_iadd hx hb dRow_add_86 ?_
    refine lv_toe (y := 444) (by decide) ?_
    refine lv_aload_n hx hb dRow_add_87 rfl (lv_at hl 3 rfl) ?_
    refine ew_get (v := .int (A 19 t 0)) hx hb hts hown hK hV fRow_36 hlt (cC_19 _ _ _ _) rfl dRow_add_88 ?_
    refine ew_iast hx hb hK hV hS e12_0 (cC_12 _ _ _ _) 0 rfl (by unfold vp_in; decide) 444 (by decide) (qC_12 _ _ _ _ _ _) dRow_add_91 (fun H locs hV hS => ?_)
    refine lv_aload_n hx hb dRow_add_92 rfl (lv_at hl 1 rfl) ?_
    refine ew_get (v := .ref (X 12 0)) hx hb hts hown hK hV fRow_9 hth (cC_7 _ _ _ _) rfl dRow_add_93 ?_
    refine lv_iload_n hx hb dRow_add_96 rfl (lv_at hl 0 rfl) ?_
    refine lv_iconst (v := 4) hx hb dRow_add_97 (by decide) ?_
    refine lv_iadd hx hb dRow_add_98 ?_
    refine lv_toe (y := 445) (by decide) ?_
    refine lv_aload_n hx hb dRow_add_99 rfl (lv_at hl 2 rfl) ?_
    refine ew_get (v := .int (A 15 d 4)) hx hb hts hown hK hV fRow_41 hsd (cC_15 _ _ _ _) rfl dRow_add_100 ?_
    refine ew_iast hx hb hK hV hS e12_0 (cC_12 _ _ _ _) 0 rfl (by unfold vp_in; decide) 445 (by decide) (qC_12 _ _ _ _ _ _) dRow_add_103 (fun H locs hV hS => ?_)
    refine lv_aload_n hx hb dRow_add_104 rfl (lv_at hl 1 rfl) ?_
    refine ew_get (v := .ref (X 12 0)) hx hb hts hown hK hV fRow_9 hth (cC_7 _ _ _ _) rfl dRow_add_105 ?_
    refine lv_iload_n hx hb dRow_add_108 rfl (lv_at hl 0 rfl) ?_
    refine lv_iconst (v := 5) hx hb dRow_add_109 (by decide) ?_
    refine lv_iadd hx hb dRow_add_110 ?_
    refine lv_toe (y := 446) (by decide) ?_
    refine lv_aload_n hx hb dRow_add_111 rfl (lv_at hl 3 rfl) ?_
    refine ew_get (v := .int (A 19 t 1)) hx hb hts hown hK hV fRow_44 hlt (cC_19 _ _ _ _) rfl dRow_add_112 ?_
    refine ew_iast hx hb hK hV hS e12_0 (cC_12 _ _ _ _) 0 rfl (by unfold vp_in; decide) 446 (by decide) (qC_12 _ _ _ _ _ _) dRow_add_115 (fun H locs hV hS => ?_)
    refine lv_aload_n hx hb dRow_add_116 rfl (lv_at hl 1 rfl) ?_
    refine ew_get (v := .ref (X 12 0)) hx hb hts hown hK hV fRow_9 hth (cC_7 _ _ _ _) rfl dRow_add_117 ?_
    refine lv_iload_n hx hb dRow_add_120 rfl (lv_at hl 0 rfl) ?_
    refine lv_bipush (v := 6) hx hb dRow_add_121 (by decide) ?_
    refine lv_iadd hx hb dRow_add_123 ?_
    refine lv_toe (y := 447) (by decide) ?_
    refine lv_aload_n hx hb dRow_add_124 rfl (lv_at hl 3 rfl) ?_
    refine ew_get (v := .int (A 19 t 2)) hx hb hts hown hK hV fRow_47 hlt (cC_19 _ _ _ _) rfl dRow_add_125 ?_
    refine ew_iast hx hb hK hV hS e12_0 (cC_12 _ _ _ _) 0 rfl (by unfold vp_in; decide) 447 (by decide) (qC_12 _ _ _ _ _ _) dRow_add_128 (fun H locs hV hS => ?_)
    refine lv_aload_n hx hb dRow_add_129 rfl (lv_at hl 1 rfl) ?_
    refine lv_dup hx hb dRow_add_130 rfl ?_
    refine ew_get (v := .int 63) hx hb hts hown hK hV fRow_13 hth (cC_7 _ _ _ _) rfl dRow_add_131 ?_
    refine lv_iconst (v := 1) hx hb dRow_add_134 (by decide) ?_
    refine lv_iadd hx hb dRow_add_135 ?_
    refine lv_toe (y := 64) (by decide) ?_
    refine ew_put (ty := .int) hx hb hts hown hK hV hS fRow_13 gRow hth (cC_7 _ _ _ _) 1 _ (pC_7_1 _ _ _ _ _) rfl (by decide +kernel) rfl rfl (Nat.le_of_ble_eq_true rfl) dRow_add_136 (fun H locs hV hS => ?_)
    exact er_vret hx hb hr hlocks hV hS dRow_add_139 (Eq.symm (by unfold z_Row_add_15_19; simp only [if_neg h1]))

def z_Row_add_15_18 (A : ew_R) (d : Nat) (t : Nat) (w : Nat) : ew_R :=
  if w < 64 then
    up3 (up3 (up3 (up3 (up3 (up3 (up3 (up3 A 12 0 ((w * 7) + 0) (A 15 d 0)) 12 0 ((w * 7) + 1) (A 15 d 1)) 12 0 ((w * 7) + 2) (A 15 d 2)) 12 0 ((w * 7) + 3) (A 18 t 0)) 12 0 ((w * 7) + 4) (A 15 d 4)) 12 0 ((w * 7) + 5) (A 18 t 1)) 12 0 ((w * 7) + 6) (A 18 t 2)) 7 0 1 (nI (w + 1))
  else
    up3 (up3 (up3 (up3 (up3 (up3 (up3 (up3 (upr (up3 A 7 0 1 63) 12 0 (va_cpy ((up3 A 7 0 1 63) 12 0) ((up3 A 7 0 1 63) 12 0) 7 0 441)) 12 0 441 (A 15 d 0)) 12 0 442 (A 15 d 1)) 12 0 443 (A 15 d 2)) 12 0 444 (A 18 t 0)) 12 0 445 (A 15 d 4)) 12 0 446 (A 18 t 1)) 12 0 447 (A 18 t 2)) 7 0 1 64
set_option maxHeartbeats 4000000 in
set_option maxRecDepth 100000 in
theorem c_Row_add_15_18 (l : Launch) (D : va_G) (T : Nat → ClassId) (X : Nat → Nat → Nat) (L : List Nat) (tg : Nat → Nat × Nat) (sz : Nat) (A : ew_R) (d : Nat) (t : Nat) (th : Nat) (hth : ew_in X L tg 7 0 th) (sd : Nat) (hsd : ew_in X L tg 15 d sd) (lt : Nat) (hlt : ew_in X L tg 18 t lt) (w : Nat) (e12_0 : ew_in X L tg 12 0 (X 12 0)) (hw : w ≤ 64) (qw : A 7 0 1 = nI w) : Met l yRow_add wsRow_add ({ frames := 1, cells := 0, slots := 0, locals := 26 }) (ec_Pc D vwCl (tysA T) (cfC T) X L tg A sz [.ref th, .ref sd, .ref lt]) (er_Qv D vwCl (cfC T) X L tg sz (fun u => u = z_Row_add_15_18 A d t w)) 0 0 (ew_A L sz) := by
  refine ec_met (by decide) rfl (Nat.le_of_ble_eq_true rfl) ?_
  intro p e s m below meth c ls hx hb hr hts hown hlocks hml hV hK hN hS hA hl hsz
  subst hsz
  have hl : lv_has ls 4 [(0, .ref th), (1, .ref sd), (2, .ref lt)] := hl
  refine lv_aload_n hx hb dRow_add_0 rfl (lv_at hl 0 rfl) ?_
  refine ew_get (v := .int (A 7 0 1)) hx hb hts hown hK hV fRow_13 hth (cC_7 _ _ _ _) rfl dRow_add_1 ?_
  refine lv_toe (y := nI w) qw ?_
  refine lv_bipush (v := 64) hx hb dRow_add_4 (by decide) ?_
  refine lv_icmp_lt (tgt := 36) hx hb dRow_add_6 rfl (fun h1 => ?_) (fun h1 => ?_)
  · replace h1 := (nI_ltI (a := w) (b := 64) (by omega) (by omega)).mp h1
    refine lv_aload_n hx hb dRow_add_36 rfl (lv_at hl 0 rfl) ?_
    refine ew_get (v := .int (A 7 0 1)) hx hb hts hown hK hV fRow_13 hth (cC_7 _ _ _ _) rfl dRow_add_37 ?_
    refine lv_toe (y := nI w) qw ?_
    refine lv_bipush (v := 7) hx hb dRow_add_40 (by decide) ?_
    refine lv_imul hx hb dRow_add_42 ?_
    refine lv_toe (y := nI (w * 7)) (pk_mul w 7) ?_
    refine lv_istore_n (lv' := [(3, .int (nI (w * 7))), (0, .ref th), (1, .ref sd), (2, .ref lt)]) hx hb dRow_add_43 rfl hl (by decide) rfl (fun ls hl => ?_)
    refine lv_aload_n hx hb dRow_add_44 rfl (lv_at hl 1 rfl) ?_
    refine ew_get (v := .ref (X 12 0)) hx hb hts hown hK hV fRow_9 hth (cC_7 _ _ _ _) rfl dRow_add_45 ?_
    refine lv_iload_n hx hb dRow_add_48 rfl (lv_at hl 0 rfl) ?_
    refine lv_iconst (v := 0) hx hb dRow_add_49 (by decide) ?_
    refine lv_iadd hx hb dRow_add_50 ?_
    refine lv_toe (y := nI ((w * 7) + 0)) (nI_add (w * 7) 0) ?_
    refine lv_aload_n hx hb dRow_add_51 rfl (lv_at hl 2 rfl) ?_
    refine ew_get (v := .int (A 15 d 0)) hx hb hts hown hK hV fRow_25 hsd (cC_15 _ _ _ _) rfl dRow_add_52 ?_
    refine ew_iast hx hb hK hV hS e12_0 (cC_12 _ _ _ _) 0 rfl (vp_in_nI (by omega) (by decide)) ((w * 7) + 0) (nI_clamp (by omega)) (qC_12 _ _ _ _ _ _) dRow_add_55 (fun H locs hV hS => ?_)
    refine lv_aload_n hx hb dRow_add_56 rfl (lv_at hl 1 rfl) ?_
    refine ew_get (v := .ref (X 12 0)) hx hb hts hown hK hV fRow_9 hth (cC_7 _ _ _ _) rfl dRow_add_57 ?_
    refine lv_iload_n hx hb dRow_add_60 rfl (lv_at hl 0 rfl) ?_
    refine lv_iconst (v := 1) hx hb dRow_add_61 (by decide) ?_
    refine lv_iadd hx hb dRow_add_62 ?_
    refine lv_toe (y := nI ((w * 7) + 1)) (nI_add (w * 7) 1) ?_
    refine lv_aload_n hx hb dRow_add_63 rfl (lv_at hl 2 rfl) ?_
    refine ew_get (v := .int (A 15 d 1)) hx hb hts hown hK hV fRow_30 hsd (cC_15 _ _ _ _) rfl dRow_add_64 ?_
    refine ew_iast hx hb hK hV hS e12_0 (cC_12 _ _ _ _) 0 rfl (vp_in_nI (by omega) (by decide)) ((w * 7) + 1) (nI_clamp (by omega)) (qC_12 _ _ _ _ _ _) dRow_add_67 (fun H locs hV hS => ?_)
    refine lv_aload_n hx hb dRow_add_68 rfl (lv_at hl 1 rfl) ?_
    refine ew_get (v := .ref (X 12 0)) hx hb hts hown hK hV fRow_9 hth (cC_7 _ _ _ _) rfl dRow_add_69 ?_
    refine lv_iload_n hx hb dRow_add_72 rfl (lv_at hl 0 rfl) ?_
    refine lv_iconst (v := 2) hx hb dRow_add_73 (by decide) ?_
    refine lv_iadd hx hb dRow_add_74 ?_
    refine lv_toe (y := nI ((w * 7) + 2)) (nI_add (w * 7) 2) ?_
    refine lv_aload_n hx hb dRow_add_75 rfl (lv_at hl 2 rfl) ?_
    refine ew_get (v := .int (A 15 d 2)) hx hb hts hown hK hV fRow_33 hsd (cC_15 _ _ _ _) rfl dRow_add_76 ?_
    refine ew_iast hx hb hK hV hS e12_0 (cC_12 _ _ _ _) 0 rfl (vp_in_nI (by omega) (by decide)) ((w * 7) + 2) (nI_clamp (by omega)) (qC_12 _ _ _ _ _ _) dRow_add_79 (fun H locs hV hS => ?_)
    refine lv_aload_n hx hb dRow_add_80 rfl (lv_at hl 1 rfl) ?_
    refine ew_get (v := .ref (X 12 0)) hx hb hts hown hK hV fRow_9 hth (cC_7 _ _ _ _) rfl dRow_add_81 ?_
    refine lv_iload_n hx hb dRow_add_84 rfl (lv_at hl 0 rfl) ?_
    refine lv_iconst (v := 3) hx hb dRow_add_85 (by decide) ?_
    refine lv_iadd hx hb dRow_add_86 ?_
    refine lv_toe (y := nI ((w * 7) + 3)) (nI_add (w * 7) 3) ?_
    refine lv_aload_n hx hb dRow_add_87 rfl (lv_at hl 3 rfl) ?_
    refine ew_get (v := .int (A 18 t 0)) hx hb hts hown hK hV fRow_36 hlt (cC_18 _ _ _ _) rfl dRow_add_88 ?_
    refine ew_iast hx hb hK hV hS e12_0 (cC_12 _ _ _ _) 0 rfl (vp_in_nI (by omega) (by decide)) ((w * 7) + 3) (nI_clamp (by omega)) (qC_12 _ _ _ _ _ _) dRow_add_91 (fun H locs hV hS => ?_)
    refine lv_aload_n hx hb dRow_add_92 rfl (lv_at hl 1 rfl) ?_
    refine ew_get (v := .ref (X 12 0)) hx hb hts hown hK hV fRow_9 hth (cC_7 _ _ _ _) rfl dRow_add_93 ?_
    refine lv_iload_n hx hb dRow_add_96 rfl (lv_at hl 0 rfl) ?_
    refine lv_iconst (v := 4) hx hb dRow_add_97 (by decide) ?_
    refine lv_iadd hx hb dRow_add_98 ?_
    refine lv_toe (y := nI ((w * 7) + 4)) (nI_add (w * 7) 4) ?_
    refine lv_aload_n hx hb dRow_add_99 rfl (lv_at hl 2 rfl) ?_
    refine ew_get (v := .int (A 15 d 4)) hx hb hts hown hK hV fRow_41 hsd (cC_15 _ _ _ _) rfl dRow_add_100 ?_
    refine ew_iast hx hb hK hV hS e12_0 (cC_12 _ _ _ _) 0 rfl (vp_in_nI (by omega) (by decide)) ((w * 7) + 4) (nI_clamp (by omega)) (qC_12 _ _ _ _ _ _) dRow_add_103 (fun H locs hV hS => ?_)
    refine lv_aload_n hx hb dRow_add_104 rfl (lv_at hl 1 rfl) ?_
    refine ew_get (v := .ref (X 12 0)) hx hb hts hown hK hV fRow_9 hth (cC_7 _ _ _ _) rfl dRow_add_105 ?_
    refine lv_iload_n hx hb dRow_add_108 rfl (lv_at hl 0 rfl) ?_
    refine lv_iconst (v := 5) hx hb dRow_add_109 (by decide) ?_
    refine lv_iadd hx hb dRow_add_110 ?_
    refine lv_toe (y := nI ((w * 7) + 5)) (nI_add (w * 7) 5) ?_
    refine lv_aload_n hx hb dRow_add_111 rfl (lv_at hl 3 rfl) ?_
    refine ew_get (v := .int (A 18 t 1)) hx hb hts hown hK hV fRow_44 hlt (cC_18 _ _ _ _) rfl dRow_add_112 ?_
    refine ew_iast hx hb hK hV hS e12_0 (cC_12 _ _ _ _) 0 rfl (vp_in_nI (by omega) (by decide)) ((w * 7) + 5) (nI_clamp (by omega)) (qC_12 _ _ _ _ _ _) dRow_add_115 (fun H locs hV hS => ?_)
    refine lv_aload_n hx hb dRow_add_116 rfl (lv_at hl 1 rfl) ?_
    refine ew_get (v := .ref (X 12 0)) hx hb hts hown hK hV fRow_9 hth (cC_7 _ _ _ _) rfl dRow_add_117 ?_
    refine lv_iload_n hx hb dRow_add_120 rfl (lv_at hl 0 rfl) ?_
    refine lv_bipush (v := 6) hx hb dRow_add_121 (by decide) ?_
    refine lv_iadd hx hb dRow_add_123 ?_
    refine lv_toe (y := nI ((w * 7) + 6)) (nI_add (w * 7) 6) ?_
    refine lv_aload_n hx hb dRow_add_124 rfl (lv_at hl 3 rfl) ?_
    refine ew_get (v := .int (A 18 t 2)) hx hb hts hown hK hV fRow_47 hlt (cC_18 _ _ _ _) rfl dRow_add_125 ?_
    refine ew_iast hx hb hK hV hS e12_0 (cC_12 _ _ _ _) 0 rfl (vp_in_nI (by omega) (by decide)) ((w * 7) + 6) (nI_clamp (by omega)) (qC_12 _ _ _ _ _ _) dRow_add_128 (fun H locs hV hS => ?_)
    refine lv_aload_n hx hb dRow_add_129 rfl (lv_at hl 1 rfl) ?_
    refine lv_dup hx hb dRow_add_130 rfl ?_
    refine ew_get (v := .int (A 7 0 1)) hx hb hts hown hK hV fRow_13 hth (cC_7 _ _ _ _) rfl dRow_add_131 ?_
    refine lv_toe (y := nI w) qw ?_
    refine lv_iconst (v := 1) hx hb dRow_add_134 (by decide) ?_
    refine lv_iadd hx hb dRow_add_135 ?_
    refine lv_toe (y := nI (w + 1)) (nI_add w 1) ?_
    refine ew_put (ty := .int) hx hb hts hown hK hV hS fRow_13 gRow hth (cC_7 _ _ _ _) 1 _ (pC_7_1 _ _ _ _ _) rfl (by decide +kernel) rfl rfl (Nat.le_of_ble_eq_true rfl) dRow_add_136 (fun H locs hV hS => ?_)
    exact er_vret hx hb hr hlocks hV hS dRow_add_139 (Eq.symm (by unfold z_Row_add_15_18; simp only [if_pos h1]))
  · replace h1 : ¬ (w < 64) := fun z9 => h1 ((nI_ltI (a := w) (b := 64) (by omega) (by omega)).mpr z9)
    refine lv_aload_n hx hb dRow_add_9 rfl (lv_at hl 0 rfl) ?_
    refine lv_bipush (v := 63) hx hb dRow_add_10 (by decide) ?_
    refine ew_put (ty := .int) hx hb hts hown hK hV hS fRow_13 gRow hth (cC_7 _ _ _ _) 1 _ (pC_7_1 _ _ _ _ _) rfl (by decide +kernel) rfl rfl (Nat.le_of_ble_eq_true rfl) dRow_add_12 (fun H locs hV hS => ?_)
    refine lv_aload_n hx hb dRow_add_15 rfl (lv_at hl 0 rfl) ?_
    refine ew_get (v := .ref (X 12 0)) hx hb hts hown hK hV fRow_9 hth (cC_7 _ _ _ _) rfl dRow_add_16 ?_
    refine lv_bipush (v := 7) hx hb dRow_add_19 (by decide) ?_
    refine lv_aload_n hx hb dRow_add_21 rfl (lv_at hl 0 rfl) ?_
    refine ew_get (v := .ref (X 12 0)) hx hb hts hown hK hV fRow_9 hth (cC_7 _ _ _ _) rfl dRow_add_22 ?_
    refine lv_iconst (v := 0) hx hb dRow_add_25 (by decide) ?_
    refine lv_aload_n hx hb dRow_add_26 rfl (lv_at hl 0 rfl) ?_
    refine ew_get (v := .int 63) hx hb hts hown hK hV fRow_13 hth (cC_7 _ _ _ _) rfl dRow_add_27 ?_
    refine lv_bipush (v := 7) hx hb dRow_add_30 (by decide) ?_
    refine lv_imul hx hb dRow_add_32 ?_
    refine lv_toe (y := 441) (by decide) ?_
    refine ew_copyi (T0 := 0) (sn := 7) (dn := 0) (nn := 441) hx hb (hml.trans hl.1.symm) hown (hts _ km_acp_Row) hts hK hV hS e12_0 (cC_12 _ _ _ _) rfl rfl rfl rfl (by omega) (by omega) (by omega) (by omega) (Nat.le_of_ble_eq_true rfl) (Nat.le_of_ble_eq_true rfl) (cC_12 _ _ _ _) dRow_add_33 (fun H locs hV hS => ?_)
    refine lv_aload_n hx hb dRow_add_36 rfl (lv_at hl 0 rfl) ?_
    refine ew_get (v := .int 63) hx hb hts hown hK hV fRow_13 hth (cC_7 _ _ _ _) rfl dRow_add_37 ?_
    refine lv_bipush (v := 7) hx hb dRow_add_40 (by decide) ?_
    refine lv_imul hx hb dRow_add_42 ?_
    refine lv_toe (y := 441) (by decide) ?_
    refine lv_istore_n (lv' := [(3, .int 441), (0, .ref th), (1, .ref sd), (2, .ref lt)]) hx hb dRow_add_43 rfl hl (by decide) rfl (fun ls hl => ?_)
    refine lv_aload_n hx hb dRow_add_44 rfl (lv_at hl 1 rfl) ?_
    refine ew_get (v := .ref (X 12 0)) hx hb hts hown hK hV fRow_9 hth (cC_7 _ _ _ _) rfl dRow_add_45 ?_
    refine lv_iload_n hx hb dRow_add_48 rfl (lv_at hl 0 rfl) ?_
    refine lv_iconst (v := 0) hx hb dRow_add_49 (by decide) ?_
    refine lv_iadd hx hb dRow_add_50 ?_
    refine lv_toe (y := 441) (by decide) ?_
    refine lv_aload_n hx hb dRow_add_51 rfl (lv_at hl 2 rfl) ?_
    refine ew_get (v := .int (A 15 d 0)) hx hb hts hown hK hV fRow_25 hsd (cC_15 _ _ _ _) rfl dRow_add_52 ?_
    refine ew_iast hx hb hK hV hS e12_0 (cC_12 _ _ _ _) 0 rfl (by unfold vp_in; decide) 441 (by decide) (qC_12 _ _ _ _ _ _) dRow_add_55 (fun H locs hV hS => ?_)
    refine lv_aload_n hx hb dRow_add_56 rfl (lv_at hl 1 rfl) ?_
    refine ew_get (v := .ref (X 12 0)) hx hb hts hown hK hV fRow_9 hth (cC_7 _ _ _ _) rfl dRow_add_57 ?_
    refine lv_iload_n hx hb dRow_add_60 rfl (lv_at hl 0 rfl) ?_
    refine lv_iconst (v := 1) hx hb dRow_add_61 (by decide) ?_
    refine lv_iadd hx hb dRow_add_62 ?_
    refine lv_toe (y := 442) (by decide) ?_
    refine lv_aload_n hx hb dRow_add_63 rfl (lv_at hl 2 rfl) ?_
    refine ew_get (v := .int (A 15 d 1)) hx hb hts hown hK hV fRow_30 hsd (cC_15 _ _ _ _) rfl dRow_add_64 ?_
    refine ew_iast hx hb hK hV hS e12_0 (cC_12 _ _ _ _) 0 rfl (by unfold vp_in; decide) 442 (by decide) (qC_12 _ _ _ _ _ _) dRow_add_67 (fun H locs hV hS => ?_)
    refine lv_aload_n hx hb dRow_add_68 rfl (lv_at hl 1 rfl) ?_
    refine ew_get (v := .ref (X 12 0)) hx hb hts hown hK hV fRow_9 hth (cC_7 _ _ _ _) rfl dRow_add_69 ?_
    refine lv_iload_n hx hb dRow_add_72 rfl (lv_at hl 0 rfl) ?_
    refine lv_iconst (v := 2) hx hb dRow_add_73 (by decide) ?_
    refine lv_iadd hx hb dRow_add_74 ?_
    refine lv_toe (y := 443) (by decide) ?_
    refine lv_aload_n hx hb dRow_add_75 rfl (lv_at hl 2 rfl) ?_
    refine ew_get (v := .int (A 15 d 2)) hx hb hts hown hK hV fRow_33 hsd (cC_15 _ _ _ _) rfl dRow_add_76 ?_
    refine ew_iast hx hb hK hV hS e12_0 (cC_12 _ _ _ _) 0 rfl (by unfold vp_in; decide) 443 (by decide) (qC_12 _ _ _ _ _ _) dRow_add_79 (fun H locs hV hS => ?_)
    refine lv_aload_n hx hb dRow_add_80 rfl (lv_at hl 1 rfl) ?_
    refine ew_get (v := .ref (X 12 0)) hx hb hts hown hK hV fRow_9 hth (cC_7 _ _ _ _) rfl dRow_add_81 ?_
    refine lv_iload_n hx hb dRow_add_84 rfl (lv_at hl 0 rfl) ?_
    refine lv_iconst (v := 3) hx hb dRow_add_85 (by decide) ?_
    refine lv_iadd hx hb dRow_add_86 ?_
    refine lv_toe (y := 444) (by decide) ?_
    refine lv_aload_n hx hb dRow_add_87 rfl (lv_at hl 3 rfl) ?_
    refine ew_get (v := .int (A 18 t 0)) hx hb hts hown hK hV fRow_36 hlt (cC_18 _ _ _ _) rfl dRow_add_88 ?_
    refine ew_iast hx hb hK hV hS e12_0 (cC_12 _ _ _ _) 0 rfl (by unfold vp_in; decide) 444 (by decide) (qC_12 _ _ _ _ _ _) dRow_add_91 (fun H locs hV hS => ?_)
    refine lv_aload_n hx hb dRow_add_92 rfl (lv_at hl 1 rfl) ?_
    refine ew_get (v := .ref (X 12 0)) hx hb hts hown hK hV fRow_9 hth (cC_7 _ _ _ _) rfl dRow_add_93 ?_
    refine lv_iload_n hx hb dRow_add_96 rfl (lv_at hl 0 rfl) ?_
    refine lv_iconst (v := 4) hx hb dRow_add_97 (by decide) ?_
    refine lv_iadd hx hb dRow_add_98 ?_
    refine lv_toe (y := 445) (by decide) ?_
    refine lv_aload_n hx hb dRow_add_99 rfl (lv_at hl 2 rfl) ?_
    refine ew_get (v := .int (A 15 d 4)) hx hb hts hown hK hV fRow_41 hsd (cC_15 _ _ _ _) rfl dRow_add_100 ?_
    refine ew_iast hx hb hK hV hS e12_0 (cC_12 _ _ _ _) 0 rfl (by unfold vp_in; decide) 445 (by decide) (qC_12 _ _ _ _ _ _) dRow_add_103 (fun H locs hV hS => ?_)
    refine lv_aload_n hx hb dRow_add_104 rfl (lv_at hl 1 rfl) ?_
    refine ew_get (v := .ref (X 12 0)) hx hb hts hown hK hV fRow_9 hth (cC_7 _ _ _ _) rfl dRow_add_105 ?_
    refine lv_iload_n hx hb dRow_add_108 rfl (lv_at hl 0 rfl) ?_
    refine lv_iconst (v := 5) hx hb dRow_add_109 (by decide) ?_
    refine lv_iadd hx hb dRow_add_110 ?_
    refine lv_toe (y := 446) (by decide) ?_
    refine lv_aload_n hx hb dRow_add_111 rfl (lv_at hl 3 rfl) ?_
    refine ew_get (v := .int (A 18 t 1)) hx hb hts hown hK hV fRow_44 hlt (cC_18 _ _ _ _) rfl dRow_add_112 ?_
    refine ew_iast hx hb hK hV hS e12_0 (cC_12 _ _ _ _) 0 rfl (by unfold vp_in; decide) 446 (by decide) (qC_12 _ _ _ _ _ _) dRow_add_115 (fun H locs hV hS => ?_)
    refine lv_aload_n hx hb dRow_add_116 rfl (lv_at hl 1 rfl) ?_
    refine ew_get (v := .ref (X 12 0)) hx hb hts hown hK hV fRow_9 hth (cC_7 _ _ _ _) rfl dRow_add_117 ?_
    refine lv_iload_n hx hb dRow_add_120 rfl (lv_at hl 0 rfl) ?_
    refine lv_bipush (v := 6) hx hb dRow_add_121 (by decide) ?_
    refine lv_iadd hx hb dRow_add_123 ?_
    refine lv_toe (y := 447) (by decide) ?_
    refine lv_aload_n hx hb dRow_add_124 rfl (lv_at hl 3 rfl) ?_
    refine ew_get (v := .int (A 18 t 2)) hx hb hts hown hK hV fRow_47 hlt (cC_18 _ _ _ _) rfl dRow_add_125 ?_
    refine ew_iast hx hb hK hV hS e12_0 (cC_12 _ _ _ _) 0 rfl (by unfold vp_in; decide) 447 (by decide) (qC_12 _ _ _ _ _ _) dRow_add_128 (fun H locs hV hS => ?_)
    refine lv_aload_n hx hb dRow_add_129 rfl (lv_at hl 1 rfl) ?_
    refine lv_dup hx hb dRow_add_130 rfl ?_
    refine ew_get (v := .int 63) hx hb hts hown hK hV fRow_13 hth (cC_7 _ _ _ _) rfl dRow_add_131 ?_
    refine lv_iconst (v := 1) hx hb dRow_add_134 (by decide) ?_
    refine lv_iadd hx hb dRow_add_135 ?_
    refine lv_toe (y := 64) (by decide) ?_
    refine ew_put (ty := .int) hx hb hts hown hK hV hS fRow_13 gRow hth (cC_7 _ _ _ _) 1 _ (pC_7_1 _ _ _ _ _) rfl (by decide +kernel) rfl rfl (Nat.le_of_ble_eq_true rfl) dRow_add_136 (fun H locs hV hS => ?_)
    exact er_vret hx hb hr hlocks hV hS dRow_add_139 (Eq.symm (by unfold z_Row_add_15_18; simp only [if_neg h1]))

def z_Row_remove_ok (A : ew_R) (i : Nat) (w : Nat) : Int32 × ew_R :=
  (1, upr (up3 A 7 0 1 (nI (w - 1))) 12 0 (va_cpy ((up3 A 7 0 1 (nI (w - 1))) 12 0) ((up3 A 7 0 1 (nI (w - 1))) 12 0) ((i + 1) * 7) (i * 7) (((w - 1) - i) * 7)))
set_option maxHeartbeats 4000000 in
set_option maxRecDepth 100000 in
theorem c_Row_remove_ok (l : Launch) (D : va_G) (T : Nat → ClassId) (X : Nat → Nat → Nat) (L : List Nat) (tg : Nat → Nat × Nat) (sz : Nat) (A : ew_R) (th : Nat) (hth : ew_in X L tg 7 0 th) (i : Nat) (w : Nat) (e12_0 : ew_in X L tg 12 0 (X 12 0)) (hw : w ≤ 64) (qw : A 7 0 1 = nI w) (hi : i < w) : Met l yRow_remove wsRow_remove ({ frames := 1, cells := 0, slots := 0, locals := 26 }) (ec_Pc D vwCl (tysA T) (cfC T) X L tg A sz [.ref th, .int (nI i)]) (er_Qi D vwCl (cfC T) X L tg sz (fun r u => r = (z_Row_remove_ok A i w).1 ∧ u = (z_Row_remove_ok A i w).2)) 0 0 (ew_A L sz) := by
  refine ec_met (by decide) rfl (Nat.le_of_ble_eq_true rfl) ?_
  intro p e s m below meth c ls hx hb hr hts hown hlocks hml hV hK hN hS hA hl hsz
  subst hsz
  have hl : lv_has ls 2 [(0, .ref th), (1, .int (nI i))] := hl
  refine lv_iload_n hx hb dRow_remove_0 rfl (lv_at hl 1 rfl) ?_
  refine lv_if_lt (tgt := 12) hx hb dRow_remove_1 rfl (fun h9 => absurd h9 (fun z9 => (show ¬ (i < 0) by omega) ((nI_ltI (a := i) (b := 0) (by omega) (by omega)).mp z9))) (fun _ => ?_)
  refine lv_iload_n hx hb dRow_remove_4 rfl (lv_at hl 1 rfl) ?_
  refine lv_aload_n hx hb dRow_remove_5 rfl (lv_at hl 0 rfl) ?_
  refine ew_get (v := .int (A 7 0 1)) hx hb hts hown hK hV fRow_13 hth (cC_7 _ _ _ _) rfl dRow_remove_6 ?_
  refine lv_toe (y := nI w) qw ?_
  refine lv_icmp_lt (tgt := 14) hx hb dRow_remove_9 rfl (fun _ => ?_) (fun h9 => absurd ((nI_ltI (a := i) (b := w) (by omega) (by omega)).mpr (show i < w by omega)) h9)
  refine lv_aload_n hx hb dRow_remove_14 rfl (lv_at hl 0 rfl) ?_
  refine lv_dup hx hb dRow_remove_15 rfl ?_
  refine ew_get (v := .int (A 7 0 1)) hx hb hts hown hK hV fRow_13 hth (cC_7 _ _ _ _) rfl dRow_remove_16 ?_
  refine lv_toe (y := nI w) qw ?_
  refine lv_iconst (v := 1) hx hb dRow_remove_19 (by decide) ?_
  refine lv_isub hx hb dRow_remove_20 ?_
  refine lv_toe (y := nI (w - 1)) (pk_sub (a := w) (b := 1) (by omega)) ?_
  refine ew_put (ty := .int) hx hb hts hown hK hV hS fRow_13 gRow hth (cC_7 _ _ _ _) 1 _ (pC_7_1 _ _ _ _ _) rfl (by decide +kernel) rfl rfl (Nat.le_of_ble_eq_true rfl) dRow_remove_21 (fun H locs hV hS => ?_)
  refine lv_aload_n hx hb dRow_remove_24 rfl (lv_at hl 0 rfl) ?_
  refine ew_get (v := .ref (X 12 0)) hx hb hts hown hK hV fRow_9 hth (cC_7 _ _ _ _) rfl dRow_remove_25 ?_
  refine lv_iload_n hx hb dRow_remove_28 rfl (lv_at hl 1 rfl) ?_
  refine lv_iconst (v := 1) hx hb dRow_remove_29 (by decide) ?_
  refine lv_iadd hx hb dRow_remove_30 ?_
  refine lv_toe (y := nI (i + 1)) (nI_add i 1) ?_
  refine lv_bipush (v := 7) hx hb dRow_remove_31 (by decide) ?_
  refine lv_imul hx hb dRow_remove_33 ?_
  refine lv_toe (y := nI ((i + 1) * 7)) (pk_mul (i + 1) 7) ?_
  refine lv_aload_n hx hb dRow_remove_34 rfl (lv_at hl 0 rfl) ?_
  refine ew_get (v := .ref (X 12 0)) hx hb hts hown hK hV fRow_9 hth (cC_7 _ _ _ _) rfl dRow_remove_35 ?_
  refine lv_iload_n hx hb dRow_remove_38 rfl (lv_at hl 1 rfl) ?_
  refine lv_bipush (v := 7) hx hb dRow_remove_39 (by decide) ?_
  refine lv_imul hx hb dRow_remove_41 ?_
  refine lv_toe (y := nI (i * 7)) (pk_mul i 7) ?_
  refine lv_aload_n hx hb dRow_remove_42 rfl (lv_at hl 0 rfl) ?_
  refine ew_get (v := .int (nI (w - 1))) hx hb hts hown hK hV fRow_13 hth (cC_7 _ _ _ _) rfl dRow_remove_43 ?_
  refine lv_iload_n hx hb dRow_remove_46 rfl (lv_at hl 1 rfl) ?_
  refine lv_isub hx hb dRow_remove_47 ?_
  refine lv_toe (y := nI ((w - 1) - i)) (pk_sub (a := w - 1) (b := i) (by omega)) ?_
  refine lv_bipush (v := 7) hx hb dRow_remove_48 (by decide) ?_
  refine lv_imul hx hb dRow_remove_50 ?_
  refine lv_toe (y := nI (((w - 1) - i) * 7)) (pk_mul ((w - 1) - i) 7) ?_
  refine ew_copyi (T0 := 0) (sn := (i + 1) * 7) (dn := i * 7) (nn := ((w - 1) - i) * 7) hx hb (hml.trans hl.1.symm) hown (hts _ km_acp_Row) hts hK hV hS e12_0 (cC_12 _ _ _ _) rfl rfl rfl rfl (by omega) (by omega) (by omega) (by omega) (Nat.le_of_ble_eq_true rfl) (Nat.le_of_ble_eq_true rfl) (cC_12 _ _ _ _) dRow_remove_51 (fun H locs hV hS => ?_)
  refine lv_iconst (v := 1) hx hb dRow_remove_54 (by decide) ?_
  exact er_zret hx hb hr hlocks hV hS dRow_remove_55 (by decide) ⟨Eq.symm (by unfold z_Row_remove_ok; rfl), Eq.symm (by unfold z_Row_remove_ok; rfl)⟩

set_option maxHeartbeats 4000000 in
set_option maxRecDepth 100000 in
theorem c_Row_remove_neg (l : Launch) (D : va_G) (T : Nat → ClassId) (X : Nat → Nat → Nat) (L : List Nat) (tg : Nat → Nat × Nat) (sz : Nat) (A : ew_R) (th : Nat) (hth : ew_in X L tg 7 0 th) (i : Int32) (h0 : i < 0) : Met l yRow_remove wsRow_remove ({ frames := 1, cells := 0, slots := 0, locals := 26 }) (ec_Pc D vwCl (tysA T) (cfC T) X L tg A sz [.ref th, .int i]) (er_Qi D vwCl (cfC T) X L tg sz (fun r u => r = 0 ∧ u = A)) 0 0 (ew_A L sz) := by
  refine ec_met (by decide) rfl (Nat.le_of_ble_eq_true rfl) ?_
  intro p e s m below meth c ls hx hb hr hts hown hlocks hml hV hK hN hS hA hl hsz
  subst hsz
  have hl : lv_has ls 2 [(0, .ref th), (1, .int i)] := hl
  refine lv_iload_n hx hb dRow_remove_0 rfl (lv_at hl 1 rfl) ?_
  refine lv_if_lt (tgt := 12) hx hb dRow_remove_1 rfl (fun _ => ?_) (fun h9 => absurd h0 h9)
  refine lv_iconst (v := 0) hx hb dRow_remove_12 (by decide) ?_
  exact er_zret hx hb hr hlocks hV hS dRow_remove_13 (by decide) ⟨rfl, rfl⟩

set_option maxHeartbeats 4000000 in
set_option maxRecDepth 100000 in
theorem c_Row_remove_big (l : Launch) (D : va_G) (T : Nat → ClassId) (X : Nat → Nat → Nat) (L : List Nat) (tg : Nat → Nat × Nat) (sz : Nat) (A : ew_R) (th : Nat) (hth : ew_in X L tg 7 0 th) (i : Int32) (w : Nat) (qw : A 7 0 1 = nI w) (h0 : ¬ i < 0) (h1 : nI w ≤ i) : Met l yRow_remove wsRow_remove ({ frames := 1, cells := 0, slots := 0, locals := 26 }) (ec_Pc D vwCl (tysA T) (cfC T) X L tg A sz [.ref th, .int i]) (er_Qi D vwCl (cfC T) X L tg sz (fun r u => r = 0 ∧ u = A)) 0 0 (ew_A L sz) := by
  refine ec_met (by decide) rfl (Nat.le_of_ble_eq_true rfl) ?_
  intro p e s m below meth c ls hx hb hr hts hown hlocks hml hV hK hN hS hA hl hsz
  subst hsz
  have hl : lv_has ls 2 [(0, .ref th), (1, .int i)] := hl
  refine lv_iload_n hx hb dRow_remove_0 rfl (lv_at hl 1 rfl) ?_
  refine lv_if_lt (tgt := 12) hx hb dRow_remove_1 rfl (fun h9 => absurd h9 h0) (fun _ => ?_)
  refine lv_iload_n hx hb dRow_remove_4 rfl (lv_at hl 1 rfl) ?_
  refine lv_aload_n hx hb dRow_remove_5 rfl (lv_at hl 0 rfl) ?_
  refine ew_get (v := .int (A 7 0 1)) hx hb hts hown hK hV fRow_13 hth (cC_7 _ _ _ _) rfl dRow_remove_6 ?_
  refine lv_toe (y := nI w) qw ?_
  refine lv_icmp_lt (tgt := 14) hx hb dRow_remove_9 rfl (fun h9 => absurd h9 (i3_nlt h1)) (fun _ => ?_)
  refine lv_iconst (v := 0) hx hb dRow_remove_12 (by decide) ?_
  exact er_zret hx hb hr hlocks hV hS dRow_remove_13 (by decide) ⟨rfl, rfl⟩
