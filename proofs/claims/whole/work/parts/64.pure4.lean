/-! A new deal, a new loan, a new copy -/
theorem va_up_up {α : Type} (f : Nat → α) (k : Nat) (v w : α) : va_up (va_up f k v) k w = va_up f k w := by
  funext j
  by_cases hj : j = k
  · subst hj; rw [va_up_self, va_up_self]
  · rw [va_up_ne _ _ hj, va_up_ne _ _ hj, va_up_ne _ _ hj]
/-- the next of the rota becomes the present one: asked is x + 1 then, the new one is number x of the rota -/
theorem RfL.deal {B B' : ew_R} {ln x : Nat} (hln : ln < p_l B) (hk : ∀ l, l < p_l B → RfK B l) (hp : ∀ l, l < p_l B → l ≠ ln → RfP B l) (hnt : ∀ d, 6 * p_l B ≤ d → B 22 0 d = 0) (ha : ∀ l, p_l B ≤ l → B 15 0 l = 0)
    (hx : p_x B ln ≤ x) (hx6 : x < 6) (hsk : ∀ j, p_x B ln ≤ j → j < x → (p_t B ln + j) % 6 = p_q B ln) (hne : (p_t B ln + x) % 6 ≠ p_q B ln)
    (e0 : B' 0 0 2 = B 0 0 2) (e11 : B' 11 0 = B 11 0) (e13 : B' 13 0 = B 13 0) (e14 : B' 14 0 = B 14 0) (e15 : B' 15 0 = va_up (B 15 0) ln (nI (x + 1))) (e16 : B' 16 0 = va_up (B 16 0) ln (nI ((p_t B ln + x) % 6))) (e22 : B' 22 0 = va_up (B 22 0) (6 * ln + (p_t B ln + x) % 6) 1) : RfL B' := by
  have el : p_l B' = p_l B := by simp only [p_l, e0]
  have h1 : ∀ l, l ≠ ln → ∀ b, b < 6 → B' 22 0 (6 * l + b) = B 22 0 (6 * l + b) := fun l hl b hb => by rw [e22, va_up_ne _ _ (by omega)]
  have ex : p_x B' ln = x + 1 := by simp only [p_x, e15, va_up_self]; rw [nI_clamp (by omega)]
  have et : p_t B' ln = p_t B ln := by simp only [p_t, e14]
  have eq : p_q B' ln = p_q B ln := by simp only [p_q, e11]
  refine ⟨fun l hl => ?_, fun l hl => ?_, ?_, ?_⟩
  · by_cases h2 : l = ln
    · subst h2
      have K := hk l (by omega)
      refine ⟨?_, ?_, ?_, ?_, ?_, fun j hj => ?_⟩
      · rw [eq, e11]; exact K.rq
      · rw [et, e14]; exact K.st
      · rw [ex, e15, va_up_self]; exact ⟨rfl, by omega⟩
      · rw [ex]; omega
      · rw [e13]; exact K.dy
      · have K5 := K.th j hj
        have st := K.st.2
        rw [et, ex, eq, e22]
        by_cases hj2 : j = x
        · subst hj2; rw [va_up_self, if_pos ⟨by omega, hne⟩]
        · rw [va_up_ne _ _ (by omega), K5]
          by_cases h3 : j < p_x B l
          · by_cases h4 : (p_t B l + j) % 6 = p_q B l
            · rw [if_neg (fun z => z.2 h4), if_neg (fun z => z.2 h4)]
            · rw [if_pos ⟨h3, h4⟩, if_pos ⟨by omega, h4⟩]
          · rw [if_neg (fun z => h3 z.1)]
            by_cases h5 : j < x
            · rw [if_neg (fun z => z.2 (hsk j (by omega) h5))]
            · rw [if_neg (by omega)]
    · exact (hk l (by omega)).cg (by rw [e11]) (by rw [e13]) (by rw [e14]) (by rw [e15, va_up_ne _ _ h2]) (h1 l h2)
  · by_cases h2 : l = ln
    · subst h2
      have ek : p_k B' l = (p_t B l + x) % 6 := by simp only [p_k, e16, va_up_self]; rw [nI_clamp (by omega)]
      refine ⟨by omega, ?_, by omega, ?_⟩
      · rw [ek, e16, va_up_self]
      · rw [ek, e22, va_up_self]; decide
    · exact (hp l (by omega) h2).cg (by rw [e15, va_up_ne _ _ h2]) (by rw [e16, va_up_ne _ _ h2]) (h1 l h2)
  · intro d hd; rw [e22, va_up_ne _ _ (by omega)]; exact hnt d (by omega)
  · intro l hl; rw [e15, va_up_ne _ _ (by omega)]; exact ha l (by omega)
/-- what a new deal leaves of the rest -/
theorem RfE.th {B B' : ew_R} {q : Nat} (h : RfE B q) (e29 : B' 29 0 = B 29 0) (e30 : B' 30 0 = B 30 0) (e31 : B' 31 0 = B 31 0) (e22 : ∀ d, B' 22 0 d = 0 → B 22 0 d = 0) : RfE B' q := by
  obtain ⟨h1, h2, h3, h4, h5, h6⟩ := h
  refine ⟨?_, ?_, ?_, ?_, ?_, ?_⟩ <;> simp only [p_n, p_s, p_a, e29, e30, e31] <;> try assumption
  exact fun e he => h6 e (e22 _ he)
theorem RfW.th {B B' : ew_R} (h : RfW B) (e0 : B' 0 0 4 = B 0 0 4) (e05 : B' 0 0 5 = B 0 0 5) (e22 : ∀ d, B' 22 0 d = 0 → B 22 0 d = 0) (e30 : B' 30 0 = B 30 0) (e32 : B' 32 0 = B 32 0) (e37 : B' 37 0 = B 37 0) (e38 : B' 38 0 = B 38 0) (e39 : B' 39 0 = B 39 0) : RfW B' := by
  intro i hi
  have el : lgB B' = lgB B := by simp only [lgB, e05]
  have ew : wtB B' = wtB B := by simp only [wtB, e0]
  rw [e37, e38, e39, el]
  exact p_rw_up (h i (by omega)) (fun d hd q => hd (e22 d q)) (fun e => by simp only [p_s, e30]; exact Nat.le_refl _) (Nat.le_refl _) (fun j _ => by rw [e32])
/-- the reference's updates when it asks the next (x: its place in the rota) -/
def p_nx (B B' : ew_R) (ln x : Nat) : Prop :=
  (∀ k, 1 ≤ k → B' 0 0 k = B 0 0 k) ∧
  (B' 15 0 = va_up (B 15 0) ln (nI (x + 1))) ∧
  (B' 16 0 = va_up (B 16 0) ln (nI ((p_t B ln + x) % 6))) ∧
  (B' 18 0 = va_up (B 18 0) ln 0) ∧
  (B' 19 0 = va_up (B 19 0) ln 0) ∧
  (B' 20 0 = va_up (B 20 0) ln 0) ∧
  (B' 21 0 = va_up (B 21 0) ln 0) ∧
  (B' 22 0 = va_up (B 22 0) (6 * ln + (p_t B ln + x) % 6) 1) ∧
  (B' 28 0 = va_up (B 28 0) (6 * ln + (p_t B ln + x) % 6) (-1)) ∧
  (∀ c, c ∉ [0, 15, 16, 18, 19, 20, 21, 22, 28] → B' c = B c)
theorem p_nx.e0 {B B' : ew_R} {ln x : Nat} (h9 : p_nx B B' ln x) : ∀ k, 1 ≤ k → B' 0 0 k = B 0 0 k := h9.1
theorem p_nx.e15 {B B' : ew_R} {ln x : Nat} (h9 : p_nx B B' ln x) : B' 15 0 = va_up (B 15 0) ln (nI (x + 1)) := h9.2.1
theorem p_nx.e16 {B B' : ew_R} {ln x : Nat} (h9 : p_nx B B' ln x) : B' 16 0 = va_up (B 16 0) ln (nI ((p_t B ln + x) % 6)) := h9.2.2.1
theorem p_nx.e18 {B B' : ew_R} {ln x : Nat} (h9 : p_nx B B' ln x) : B' 18 0 = va_up (B 18 0) ln 0 := h9.2.2.2.1
theorem p_nx.e19 {B B' : ew_R} {ln x : Nat} (h9 : p_nx B B' ln x) : B' 19 0 = va_up (B 19 0) ln 0 := h9.2.2.2.2.1
theorem p_nx.e20 {B B' : ew_R} {ln x : Nat} (h9 : p_nx B B' ln x) : B' 20 0 = va_up (B 20 0) ln 0 := h9.2.2.2.2.2.1
theorem p_nx.e21 {B B' : ew_R} {ln x : Nat} (h9 : p_nx B B' ln x) : B' 21 0 = va_up (B 21 0) ln 0 := h9.2.2.2.2.2.2.1
theorem p_nx.e22 {B B' : ew_R} {ln x : Nat} (h9 : p_nx B B' ln x) : B' 22 0 = va_up (B 22 0) (6 * ln + (p_t B ln + x) % 6) 1 := h9.2.2.2.2.2.2.2.1
theorem p_nx.e28 {B B' : ew_R} {ln x : Nat} (h9 : p_nx B B' ln x) : B' 28 0 = va_up (B 28 0) (6 * ln + (p_t B ln + x) % 6) (-1) := h9.2.2.2.2.2.2.2.2.1
theorem p_nx.o {B B' : ew_R} {ln x : Nat} (h9 : p_nx B B' ln x) : ∀ c, c ∉ [0, 15, 16, 18, 19, 20, 21, 22, 28] → B' c = B c := h9.2.2.2.2.2.2.2.2.2
theorem p_nx.ri {B B' : ew_R} {ln x q : Nat} (n : p_nx B B' ln x) (hS : RfS B q) (hE : RfE B q) (hG : RfG B) (hW : RfW B) (hL : RfL B') : RfI B' q := by
  have r : ∀ c, c ∉ [0, 15, 16, 18, 19, 20, 21, 22, 28] → B' c 0 = B c 0 := fun c hc => by rw [n.o c hc]
  have h22 : ∀ d, B' 22 0 d = 0 → B 22 0 d = 0 := by
    intro d hd; rw [n.e22] at hd
    by_cases h : d = 6 * ln + (p_t B ln + x) % 6
    · subst h; rw [va_up_self] at hd; exact absurd hd (by decide)
    · rw [va_up_ne _ _ h] at hd; exact hd
  exact ⟨hS.cg (Nat.le_refl _) hS.hq (fun k a _ => n.e0 k (by omega)), hL, hE.th (r _ (by decide)) (r _ (by decide)) (r _ (by decide)) h22, hG.cg (n.e0 5 (by decide)) (r _ (by decide)) (r _ (by decide)) (r _ (by decide)),
    hW.th (n.e0 4 (by decide)) (n.e0 5 (by decide)) h22 (r _ (by decide)) (r _ (by decide)) (r _ (by decide)) (r _ (by decide)) (r _ (by decide))⟩
def p_nb (B : ew_R) (ln st ak rq : Nat) : ew_R :=
  if (st + ak) % 6 = rq then up3 (up3 (up3 (up3 (up3 (up3 (up3 (up3 (up3 (up3 B 19 0 ln 0) 20 0 ln 0) 21 0 ln 0) 15 0 ln (nI (ak + 1))) 18 0 ln 9) 15 0 ln (nI ((ak + 1) + 1))) 16 0 ln (nI ((st + (ak + 1)) % 6))) 22 0 ((6 * ln) + ((st + (ak + 1)) % 6)) 1) 28 0 ((6 * ln) + ((st + (ak + 1)) % 6)) (-1)) 18 0 ln 0
  else up3 (up3 (up3 (up3 (up3 (up3 (up3 (up3 (up3 B 19 0 ln 0) 20 0 ln 0) 21 0 ln 0) 18 0 ln 9) 15 0 ln (nI (ak + 1))) 16 0 ln (nI ((st + ak) % 6))) 22 0 ((6 * ln) + ((st + ak) % 6)) 1) 28 0 ((6 * ln) + ((st + ak) % 6)) (-1)) 18 0 ln 0
def p_nxt (st ak rq : Nat) : Nat := if (st + ak) % 6 = rq then ak + 1 else ak
theorem s_askNext_go (B : ew_R) (ln st ak rq w lg : Nat) (h : p_nxt st ak rq < 6) : s_askNext B ln st ak rq w lg = s_write (p_nb B ln st ak rq) (2 * (6 * ln + (st + p_nxt st ak rq) % 6)) 1 (B 13 0 ln) w lg := by
  unfold s_askNext p_nb p_nxt at *
  split <;> rename_i h1
  · rw [if_pos h1] at h; rw [if_pos h]
  · rw [if_neg h1] at h; rw [if_pos h]
theorem p_nb_nx (B : ew_R) (ln st ak rq : Nat) (hs : p_t B ln = st) : p_nx B (p_nb B ln st ak rq) ln (p_nxt st ak rq) := by
  unfold p_nb p_nxt
  split <;> refine ⟨fun k _ => ?_, ?_, ?_, ?_, ?_, ?_, ?_, ?_, ?_, fun c hc => ?_⟩ <;> first
    | (simp only [p_row_up, hs]; simp [va_up_up]; done)
    | (simp only [List.mem_cons, List.not_mem_nil, or_false, not_or] at hc
       obtain ⟨h0, h1, h2, h3, h4, h5, h6, h7, h8⟩ := hc
       simp only [p_kd_up _ _ _ _ h1, p_kd_up _ _ _ _ h2, p_kd_up _ _ _ _ h3, p_kd_up _ _ _ _ h4, p_kd_up _ _ _ _ h5, p_kd_up _ _ _ _ h6, p_kd_up _ _ _ _ h7, p_kd_up _ _ _ _ h8])
