section ECN
variable {l : Launch} {D : va_G} {cl : List vw_C} {cf : ew_C} {X : Nat → Nat → Nat} {L : List Nat} {tg : Nat → Nat × Nat} {A : ew_R} {tys : List (ClassId × FieldType)}
/-- as ec_met, with the method's name -/
theorem ec_metN {y : MethodName} {ws ws' : List Cond} {rm : Room} {Qc : Array Value → State → Outcome → State → Prop} {mc ms sz maxL : Nat} {free : Addr → Prop} {cc : ByteArray} {ret : Option FieldType} {av : List Value} (hy : plainName y.cls = true) (hw : ws = Cond.code y cc maxL ret :: ws') (hlen : (lg_sl av).length ≤ maxL)
    (body : ∀ (p : Program) (e : Env) (s : State) (m : MethodId) (below : List Frame) (meth : Method) (c : Code) (ls : Array Slot), p.tables.exec = Jvm.exec → c.code = cc → meth.sig.returnType = ret → (∀ w ∈ ws', w.before av.toArray s = true) → s.vm.findClass y.cls = some m.cls → meth.locks = false → c.maxLocals = maxL → meth.name = y.name →
      ew_V D cl cf (ew_A L s.heap.size) X L tg A [] s.heap → va_K D cl tys s → EN s → va_S (ew_A L s.heap.size) s.heap s.heap [] → (∀ q, s.heap.size ≤ q → ew_A L s.heap.size q) → lv_has ls maxL (lv_args 0 av) → s.heap.size = sz →
      W p l e rm s m av.toArray below meth c s.heap [] 0 0 (MQ below Qc av.toArray s mc ms free) (F0 m 0 ls [])) : Met l y ws rm (ec_Pc D cl tys cf X L tg A sz av) Qc mc ms free := by
  refine Met.ofW (cc := cc) (maxL := maxL) (ret := ret) hy hw ?_
  intro p e s m args below meth c s₁ B hml hv
  obtain ⟨rfl, hsz, hV, hK, hN⟩ := hv
  have hl := lv_entry av (n := maxL) hlen
  rw [lg_entry_eq]
  generalize (lg_sl av ++ List.replicate (maxL - (lg_sl av).length) Slot.unset).toArray = ls at hl ⊢
  exact body p e s m below meth c ls B.exec B.bytes B.returns (fun w hw2 => atoms_spec (ws := ws) B.pre w (by rw [hw]; exact List.mem_cons_of_mem _ hw2)) (findClass_of_methodNamed B.named) B.notSynchronized hml (name_of_methodNamed B.named B.method).1 (hV.regA _) hK hN va_S.rf (fun q h => Or.inr h) hl hsz
variable {p : Program} {e : Env} {R : Room} {s : State} {m : MethodId} {args : Array Value} {below : List Frame} {meth : Method} {c : Code} {H : Heap} {locs : List Loc} {cells slots : Nat} {Q : State → Prop}
variable {cc : ByteArray} {pc : Nat} {ls : Array Slot} {rest : List Value} {A0 : Nat → Prop} {ex : va_W} {H0 : Heap}
/-- a final field, in the constructor -/
theorem ew_putF (hexec : p.tables.exec = Jvm.exec) (hb : c.code = cc) {own C : String} {T : u_T} {N ci index k : Nat} {Ts : List Cond} (hts : ∀ w ∈ Ts, w.before args s = true) (hown : s.vm.findClass own = some m.cls) (hK : va_K D cl tys s) (hV : ew_V D cl cf A0 X L tg A ex H) (hS : va_S A0 H0 H locs) (hF : ew_F Ts cl own index ci C T N k) {ty0 : Nat → FieldType} (hG : ew_G T N ty0) {kd id a : Nat} (hi : ew_in X L tg kd id a) {fs : List Value} (he : cf X kd id (A kd id) = .inr (ci, fs)) (j : Nat) (x : Int32) {v : Value} (he' : cf X kd id (va_up (A kd id) j x) = .inr (ci, fs.set k v)) (hfin : (T k).2.2.2 = true) (hin2 : meth.name = "<init>") (hdecl : (T k).1 = own) {ty : FieldType} (hd : parseFieldDescriptor (T k).2.2.1 = some ty) (hn : narrow ty v = v) (hfit : fits ty v = true) (hl : k < fs.length) (hdg : decode cc pc = .ok (.putfield index, 3))
    (kk : ∀ (H1 : Heap) (locs1 : List Loc), ew_V D cl cf A0 X L tg (up3 A kd id j x) ex H1 → va_S A0 H0 H1 locs1 → W p l e R s m args below meth c H1 locs1 cells slots Q (F0 m (pc + 3) ls rest)) : W p l e R s m args below meth c H locs cells slots Q (F0 m pc ls (v :: .ref a :: rest)) := by
  obtain ⟨q0, hq⟩ := ew_at (cf := cf) (A := A) (ex := ex) hi
  have hq2 := hq
  rw [he] at hq
  exact va_putF hexec hb hts hF.1 ty0 hG.1 hG.2 hown hK hV.1 hV.2.1 hS q0 hq hF.2.1 k hF.2.2.1 (hts _ hF.2.2.2) (fun _ h => h) hfin hin2 hdecl hd hn hfit hl hdg (fun H1 locs1 hP hD hS1 => kk H1 locs1 (hV.put hi hq2 he' hP hD) hS1)
end ECN

def z_Letter_init_6 (A : ew_R) (id : Nat) (x1 : Int32) (x2 : Int32) (x3 : Int32) : ew_R := up3 (up3 (up3 (A) 6 id 0 x1) 6 id 1 x2) 6 id 2 x3
set_option maxHeartbeats 4000000 in
set_option maxRecDepth 100000 in
theorem c_Letter_init_6 (l : Launch) (D : va_G) (T : Nat → ClassId) (X : Nat → Nat → Nat) (L : List Nat) (tg : Nat → Nat × Nat) (sz : Nat) (A : ew_R) (id th : Nat) (hth : ew_in X L tg 6 id th) (x1 : Int32) (x2 : Int32) (x3 : Int32) : Met l yLetter_init wsLetter_init ({ frames := 1, cells := 0, slots := 0, locals := 12 }) (ec_Pc D vwCl (tysA T) (cfC T) X L tg A sz [.ref th, .int x1, .int x2, .int x3]) (er_Qv D vwCl (cfC T) X L tg sz (fun u => u = z_Letter_init_6 A id x1 x2 x3)) 0 0 (ew_A L sz) := by
  refine ec_metN (by decide) rfl (Nat.le_of_ble_eq_true rfl) ?_
  intro p e s m below meth c ls hx hb hr hts hown hlocks hml hnm hV hK hN hS hA hl hsz
  subst hsz
  have hl : lv_has ls 4 [(0, .ref th), (1, .int x1), (2, .int x2), (3, .int x3)] := hl
  refine lv_aload_n hx hb dLetter_init_0 rfl (lv_at hl 0 rfl) ?_
  refine W.objInit hx hb hown (hts _ kw_58) (hts _ kw_32) (hts _ kw_33) rfl (by rw [hml]; exact hl.1) rfl dLetter_init_1 (Nat.le_of_ble_eq_true rfl) (Nat.le_of_ble_eq_true rfl) ?_
  refine W.eq (g2 := F0 m 4 ls []) rfl ?_
  refine lv_aload_n hx hb dLetter_init_4 rfl (lv_at hl 0 rfl) ?_
  refine lv_iload_n hx hb dLetter_init_5 rfl (lv_at hl 1 rfl) ?_
  refine ew_putF (ty := .int) hx hb hts hown hK hV hS fLetter_7 gLetter hth (cC_6 _ _ _ _) 0 _ (pC_6_0 _ _ _ _ _) rfl hnm rfl (by decide +kernel) rfl rfl (Nat.le_of_ble_eq_true rfl) dLetter_init_6 (fun H locs hV hS => ?_)
  refine lv_aload_n hx hb dLetter_init_9 rfl (lv_at hl 0 rfl) ?_
  refine lv_iload_n hx hb dLetter_init_10 rfl (lv_at hl 2 rfl) ?_
  refine ew_putF (ty := .int) hx hb hts hown hK hV hS fLetter_13 gLetter hth (cC_6 _ _ _ _) 1 _ (pC_6_1 _ _ _ _ _) rfl hnm rfl (by decide +kernel) rfl rfl (Nat.le_of_ble_eq_true rfl) dLetter_init_11 (fun H locs hV hS => ?_)
  refine lv_aload_n hx hb dLetter_init_14 rfl (lv_at hl 0 rfl) ?_
  refine lv_iload_n hx hb dLetter_init_15 rfl (lv_at hl 3 rfl) ?_
  refine ew_putF (ty := .int) hx hb hts hown hK hV hS fLetter_16 gLetter hth (cC_6 _ _ _ _) 2 _ (pC_6_2 _ _ _ _ _) rfl hnm rfl (by decide +kernel) rfl rfl (Nat.le_of_ble_eq_true rfl) dLetter_init_16 (fun H locs hV hS => ?_)
  exact er_vret hx hb hr hlocks hV hS dLetter_init_19 rfl
def z_Letter_init_18 (A : ew_R) (id : Nat) (x1 : Int32) (x2 : Int32) (x3 : Int32) : ew_R := up3 (up3 (up3 (A) 18 id 0 x1) 18 id 1 x2) 18 id 2 x3
set_option maxHeartbeats 4000000 in
set_option maxRecDepth 100000 in
theorem c_Letter_init_18 (l : Launch) (D : va_G) (T : Nat → ClassId) (X : Nat → Nat → Nat) (L : List Nat) (tg : Nat → Nat × Nat) (sz : Nat) (A : ew_R) (id th : Nat) (hth : ew_in X L tg 18 id th) (x1 : Int32) (x2 : Int32) (x3 : Int32) : Met l yLetter_init wsLetter_init ({ frames := 1, cells := 0, slots := 0, locals := 12 }) (ec_Pc D vwCl (tysA T) (cfC T) X L tg A sz [.ref th, .int x1, .int x2, .int x3]) (er_Qv D vwCl (cfC T) X L tg sz (fun u => u = z_Letter_init_18 A id x1 x2 x3)) 0 0 (ew_A L sz) := by
  refine ec_metN (by decide) rfl (Nat.le_of_ble_eq_true rfl) ?_
  intro p e s m below meth c ls hx hb hr hts hown hlocks hml hnm hV hK hN hS hA hl hsz
  subst hsz
  have hl : lv_has ls 4 [(0, .ref th), (1, .int x1), (2, .int x2), (3, .int x3)] := hl
  refine lv_aload_n hx hb dLetter_init_0 rfl (lv_at hl 0 rfl) ?_
  refine W.objInit hx hb hown (hts _ kw_58) (hts _ kw_32) (hts _ kw_33) rfl (by rw [hml]; exact hl.1) rfl dLetter_init_1 (Nat.le_of_ble_eq_true rfl) (Nat.le_of_ble_eq_true rfl) ?_
  refine W.eq (g2 := F0 m 4 ls []) rfl ?_
  refine lv_aload_n hx hb dLetter_init_4 rfl (lv_at hl 0 rfl) ?_
  refine lv_iload_n hx hb dLetter_init_5 rfl (lv_at hl 1 rfl) ?_
  refine ew_putF (ty := .int) hx hb hts hown hK hV hS fLetter_7 gLetter hth (cC_18 _ _ _ _) 0 _ (pC_18_0 _ _ _ _ _) rfl hnm rfl (by decide +kernel) rfl rfl (Nat.le_of_ble_eq_true rfl) dLetter_init_6 (fun H locs hV hS => ?_)
  refine lv_aload_n hx hb dLetter_init_9 rfl (lv_at hl 0 rfl) ?_
  refine lv_iload_n hx hb dLetter_init_10 rfl (lv_at hl 2 rfl) ?_
  refine ew_putF (ty := .int) hx hb hts hown hK hV hS fLetter_13 gLetter hth (cC_18 _ _ _ _) 1 _ (pC_18_1 _ _ _ _ _) rfl hnm rfl (by decide +kernel) rfl rfl (Nat.le_of_ble_eq_true rfl) dLetter_init_11 (fun H locs hV hS => ?_)
  refine lv_aload_n hx hb dLetter_init_14 rfl (lv_at hl 0 rfl) ?_
  refine lv_iload_n hx hb dLetter_init_15 rfl (lv_at hl 3 rfl) ?_
  refine ew_putF (ty := .int) hx hb hts hown hK hV hS fLetter_16 gLetter hth (cC_18 _ _ _ _) 2 _ (pC_18_2 _ _ _ _ _) rfl hnm rfl (by decide +kernel) rfl rfl (Nat.le_of_ble_eq_true rfl) dLetter_init_16 (fun H locs hV hS => ?_)
  exact er_vret hx hb hr hlocks hV hS dLetter_init_19 rfl
def z_Letter_init_19 (A : ew_R) (id : Nat) (x1 : Int32) (x2 : Int32) (x3 : Int32) : ew_R := up3 (up3 (up3 (A) 19 id 0 x1) 19 id 1 x2) 19 id 2 x3
set_option maxHeartbeats 4000000 in
set_option maxRecDepth 100000 in
theorem c_Letter_init_19 (l : Launch) (D : va_G) (T : Nat → ClassId) (X : Nat → Nat → Nat) (L : List Nat) (tg : Nat → Nat × Nat) (sz : Nat) (A : ew_R) (id th : Nat) (hth : ew_in X L tg 19 id th) (x1 : Int32) (x2 : Int32) (x3 : Int32) : Met l yLetter_init wsLetter_init ({ frames := 1, cells := 0, slots := 0, locals := 12 }) (ec_Pc D vwCl (tysA T) (cfC T) X L tg A sz [.ref th, .int x1, .int x2, .int x3]) (er_Qv D vwCl (cfC T) X L tg sz (fun u => u = z_Letter_init_19 A id x1 x2 x3)) 0 0 (ew_A L sz) := by
  refine ec_metN (by decide) rfl (Nat.le_of_ble_eq_true rfl) ?_
  intro p e s m below meth c ls hx hb hr hts hown hlocks hml hnm hV hK hN hS hA hl hsz
  subst hsz
  have hl : lv_has ls 4 [(0, .ref th), (1, .int x1), (2, .int x2), (3, .int x3)] := hl
  refine lv_aload_n hx hb dLetter_init_0 rfl (lv_at hl 0 rfl) ?_
  refine W.objInit hx hb hown (hts _ kw_58) (hts _ kw_32) (hts _ kw_33) rfl (by rw [hml]; exact hl.1) rfl dLetter_init_1 (Nat.le_of_ble_eq_true rfl) (Nat.le_of_ble_eq_true rfl) ?_
  refine W.eq (g2 := F0 m 4 ls []) rfl ?_
  refine lv_aload_n hx hb dLetter_init_4 rfl (lv_at hl 0 rfl) ?_
  refine lv_iload_n hx hb dLetter_init_5 rfl (lv_at hl 1 rfl) ?_
  refine ew_putF (ty := .int) hx hb hts hown hK hV hS fLetter_7 gLetter hth (cC_19 _ _ _ _) 0 _ (pC_19_0 _ _ _ _ _) rfl hnm rfl (by decide +kernel) rfl rfl (Nat.le_of_ble_eq_true rfl) dLetter_init_6 (fun H locs hV hS => ?_)
  refine lv_aload_n hx hb dLetter_init_9 rfl (lv_at hl 0 rfl) ?_
  refine lv_iload_n hx hb dLetter_init_10 rfl (lv_at hl 2 rfl) ?_
  refine ew_putF (ty := .int) hx hb hts hown hK hV hS fLetter_13 gLetter hth (cC_19 _ _ _ _) 1 _ (pC_19_1 _ _ _ _ _) rfl hnm rfl (by decide +kernel) rfl rfl (Nat.le_of_ble_eq_true rfl) dLetter_init_11 (fun H locs hV hS => ?_)
  refine lv_aload_n hx hb dLetter_init_14 rfl (lv_at hl 0 rfl) ?_
  refine lv_iload_n hx hb dLetter_init_15 rfl (lv_at hl 3 rfl) ?_
  refine ew_putF (ty := .int) hx hb hts hown hK hV hS fLetter_16 gLetter hth (cC_19 _ _ _ _) 2 _ (pC_19_2 _ _ _ _ _) rfl hnm rfl (by decide +kernel) rfl rfl (Nat.le_of_ble_eq_true rfl) dLetter_init_16 (fun H locs hV hS => ?_)
  exact er_vret hx hb hr hlocks hV hS dLetter_init_19 rfl
def z_Page_init_3 (A : ew_R) (id : Nat) : ew_R := A
set_option maxHeartbeats 4000000 in
set_option maxRecDepth 100000 in
theorem c_Page_init_3 (l : Launch) (D : va_G) (T : Nat → ClassId) (X : Nat → Nat → Nat) (L : List Nat) (tg : Nat → Nat × Nat) (sz : Nat) (A : ew_R) (id th : Nat) (hth : ew_in X L tg 3 id th) : Met l yPage_init wsPage_init ({ frames := 1, cells := 0, slots := 0, locals := 12 }) (ec_Pc D vwCl (tysA T) (cfC T) X L tg A sz [.ref th]) (er_Qv D vwCl (cfC T) X L tg sz (fun u => u = z_Page_init_3 A id)) 0 0 (ew_A L sz) := by
  refine ec_metN (by decide) rfl (Nat.le_of_ble_eq_true rfl) ?_
  intro p e s m below meth c ls hx hb hr hts hown hlocks hml hnm hV hK hN hS hA hl hsz
  subst hsz
  have hl : lv_has ls 1 [(0, .ref th)] := hl
  refine lv_aload_n hx hb dPage_init_0 rfl (lv_at hl 0 rfl) ?_
  refine W.objInit hx hb hown (hts _ kw_189) (hts _ kw_32) (hts _ kw_33) rfl (by rw [hml]; exact hl.1) rfl dPage_init_1 (Nat.le_of_ble_eq_true rfl) (Nat.le_of_ble_eq_true rfl) ?_
  refine W.eq (g2 := F0 m 4 ls []) rfl ?_
  exact er_vret hx hb hr hlocks hV hS dPage_init_4 rfl
def z_Page_init_17 (A : ew_R) (id : Nat) : ew_R := A
set_option maxHeartbeats 4000000 in
set_option maxRecDepth 100000 in
theorem c_Page_init_17 (l : Launch) (D : va_G) (T : Nat → ClassId) (X : Nat → Nat → Nat) (L : List Nat) (tg : Nat → Nat × Nat) (sz : Nat) (A : ew_R) (id th : Nat) (hth : ew_in X L tg 17 id th) : Met l yPage_init wsPage_init ({ frames := 1, cells := 0, slots := 0, locals := 12 }) (ec_Pc D vwCl (tysA T) (cfC T) X L tg A sz [.ref th]) (er_Qv D vwCl (cfC T) X L tg sz (fun u => u = z_Page_init_17 A id)) 0 0 (ew_A L sz) := by
  refine ec_metN (by decide) rfl (Nat.le_of_ble_eq_true rfl) ?_
  intro p e s m below meth c ls hx hb hr hts hown hlocks hml hnm hV hK hN hS hA hl hsz
  subst hsz
  have hl : lv_has ls 1 [(0, .ref th)] := hl
  refine lv_aload_n hx hb dPage_init_0 rfl (lv_at hl 0 rfl) ?_
  refine W.objInit hx hb hown (hts _ kw_189) (hts _ kw_32) (hts _ kw_33) rfl (by rw [hml]; exact hl.1) rfl dPage_init_1 (Nat.le_of_ble_eq_true rfl) (Nat.le_of_ble_eq_true rfl) ?_
  refine W.eq (g2 := F0 m 4 ls []) rfl ?_
  exact er_vret hx hb hr hlocks hV hS dPage_init_4 rfl
def z_Copy_init_1 (A : ew_R) (id : Nat) (x1 : Int32) (x2 : Int32) : ew_R := up3 (up3 (up3 (up3 (A) 1 id 3 (-1)) 1 id 0 x1) 1 id 1 x2) 1 id 2 x1
set_option maxHeartbeats 4000000 in
set_option maxRecDepth 100000 in
theorem c_Copy_init_1 (l : Launch) (D : va_G) (T : Nat → ClassId) (X : Nat → Nat → Nat) (L : List Nat) (tg : Nat → Nat × Nat) (sz : Nat) (A : ew_R) (id th : Nat) (hth : ew_in X L tg 1 id th) (x1 : Int32) (x2 : Int32) : Met l yCopy_init wsCopy_init ({ frames := 1, cells := 0, slots := 0, locals := 12 }) (ec_Pc D vwCl (tysA T) (cfC T) X L tg A sz [.ref th, .int x1, .int x2]) (er_Qv D vwCl (cfC T) X L tg sz (fun u => u = z_Copy_init_1 A id x1 x2)) 0 0 (ew_A L sz) := by
  refine ec_metN (by decide) rfl (Nat.le_of_ble_eq_true rfl) ?_
  intro p e s m below meth c ls hx hb hr hts hown hlocks hml hnm hV hK hN hS hA hl hsz
  subst hsz
  have hl : lv_has ls 3 [(0, .ref th), (1, .int x1), (2, .int x2)] := hl
  refine lv_aload_n hx hb dCopy_init_0 rfl (lv_at hl 0 rfl) ?_
  refine W.objInit hx hb hown (hts _ kw_562) (hts _ kw_32) (hts _ kw_33) rfl (by rw [hml]; exact hl.1) rfl dCopy_init_1 (Nat.le_of_ble_eq_true rfl) (Nat.le_of_ble_eq_true rfl) ?_
  refine W.eq (g2 := F0 m 4 ls []) rfl ?_
  refine lv_aload_n hx hb dCopy_init_4 rfl (lv_at hl 0 rfl) ?_
  refine lv_iconst (v := (-1)) hx hb dCopy_init_5 (by decide) ?_
  refine ew_put (ty := .int) hx hb hts hown hK hV hS fCopy_9 gCopy hth (cC_1 _ _ _ _) 3 _ (pC_1_3 _ _ _ _ _) rfl (by decide +kernel) rfl rfl (Nat.le_of_ble_eq_true rfl) dCopy_init_6 (fun H locs hV hS => ?_)
  refine lv_aload_n hx hb dCopy_init_9 rfl (lv_at hl 0 rfl) ?_
  refine lv_iload_n hx hb dCopy_init_10 rfl (lv_at hl 1 rfl) ?_
  refine ew_putF (ty := .int) hx hb hts hown hK hV hS fCopy_15 gCopy hth (cC_1 _ _ _ _) 0 _ (pC_1_0 _ _ _ _ _) rfl hnm rfl (by decide +kernel) rfl rfl (Nat.le_of_ble_eq_true rfl) dCopy_init_11 (fun H locs hV hS => ?_)
  refine lv_aload_n hx hb dCopy_init_14 rfl (lv_at hl 0 rfl) ?_
  refine lv_iload_n hx hb dCopy_init_15 rfl (lv_at hl 2 rfl) ?_
  refine ew_putF (ty := .int) hx hb hts hown hK hV hS fCopy_18 gCopy hth (cC_1 _ _ _ _) 1 _ (pC_1_1 _ _ _ _ _) rfl hnm rfl (by decide +kernel) rfl rfl (Nat.le_of_ble_eq_true rfl) dCopy_init_16 (fun H locs hV hS => ?_)
  refine lv_aload_n hx hb dCopy_init_19 rfl (lv_at hl 0 rfl) ?_
  refine lv_iload_n hx hb dCopy_init_20 rfl (lv_at hl 1 rfl) ?_
  refine ew_put (ty := .int) hx hb hts hown hK hV hS fCopy_21 gCopy hth (cC_1 _ _ _ _) 2 _ (pC_1_2 _ _ _ _ _) rfl (by decide +kernel) rfl rfl (Nat.le_of_ble_eq_true rfl) dCopy_init_21 (fun H locs hV hS => ?_)
  exact er_vret hx hb hr hlocks hV hS dCopy_init_24 rfl
