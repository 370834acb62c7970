/-! The class's ints against the reference's -/
/-- the columns that are the same -/
structure RlC (A B : ew_R) : Prop where
  day : A 0 0 7 = B 0 0 1
  nl : A 0 0 6 = B 0 0 2
  nc : A 0 0 5 = B 0 0 3
  w : A 7 0 1 = B 0 0 4
  bal : A 11 0 = B 6 0
  c0 : p_col A 1 0 = B 8 0
  c1 : p_col A 1 1 = B 7 0
  c2 : p_col A 1 2 = B 9 0
  c3 : p_col A 1 3 = B 10 0
  l1 : p_col A 2 1 = B 11 0
  l2 : p_col A 2 2 = B 12 0
  l3 : p_col A 2 3 = B 14 0
  l4 : p_col A 2 4 = B 13 0
  g0 : p_col A 3 0 = B 18 0
  g1 : p_col A 3 1 = B 19 0
  g2 : p_col A 3 2 = B 20 0
  g3 : p_col A 3 3 = B 21 0
  d0 : p_col A 17 0 = B 23 0
  d1 : p_col A 17 1 = B 24 0
  d2 : p_col A 17 2 = B 25 0
  d3 : p_col A 17 3 = B 26 0
  gr : p_col A 4 5 = B 27 0
  th : ∀ l b, b < 6 → A 13 l b = B 22 0 (6 * l + b)
  bare : A 18 0 0 = 0 ∧ A 18 0 1 = 0 ∧ A 18 0 2 = 0
/-- what the two sides of a deal know -/
structure RlE (A B : ew_R) : Prop where
  s : p_col A 5 4 = fun d => B 30 0 (2 * d)
  a : p_col A 5 5 = fun d => B 31 0 (2 * d)
  n : p_col A 8 2 = fun d => B 29 0 (2 * d)
  s' : p_col A 15 4 = fun d => B 30 0 (2 * d + 1)
  a' : p_col A 15 5 = fun d => B 31 0 (2 * d + 1)
  n' : p_col A 16 2 = fun d => B 29 0 (2 * d + 1)
structure p_dl (A B : ew_R) (d : Nat) : Prop where
  h0 : A 4 d 0 = nI (d % 6)
  h1 : A 5 d 0 = nI (d / 6)
  h2 : A 5 d 1 = B 11 0 (d / 6)
  h3 : A 5 d 2 = nI (d % 6)
  h4 : A 15 d 0 = nI (d / 6)
  h5 : A 15 d 1 = nI (d % 6)
  h6 : A 15 d 2 = B 11 0 (d / 6)
structure RlD (A B : ew_R) : Prop where
  ln : ∀ l, l < p_l B → A 2 l 0 = nI l ∧ A 2 l 7 = nI (6 * l + p_k B l)
  dl : ∀ d, ¬ B 22 0 d = 0 → p_dl A B d
  f9 : ∀ c, c < 32 → (A 9 0 c = 0 ↔ p_c B ≤ c)
  f10 : ∀ l, l < 32 → (A 10 0 l = 0 ↔ p_l B ≤ l)
def p_lt (A : ew_R) (kd t : Nat) (B : ew_R) (j : Nat) : Prop := A kd t 0 = B 33 0 j ∧ A kd t 1 = B 34 0 j ∧ A kd t 2 = B 35 0 j
/-- the letters -/
structure RlT (A B : ew_R) : Prop where
  t : ∀ j d k, j < lgB B → k < 512 → B 32 0 j = nI (2 * d) → B 33 0 j = nI (k + 1) → d < 192 → p_lt A 6 (512 * d + k) B j ∧ (p_s B (2 * d + 1) ≤ k → A 6 (512 * d + k) 3 = B 36 0 j)
  t' : ∀ j d k, j < lgB B → k < 512 → B 32 0 j = nI (2 * d + 1) → B 33 0 j = nI (k + 1) → d < 192 → p_lt A 19 (512 * d + k) B j ∧ (p_s B (2 * d) ≤ k → A 19 (512 * d + k) 3 = B 36 0 j)
/-- what a place of the row tells -/
def p_let (B : ew_R) (x y z : Int32) (k : Nat) : Int32 :=
  if k = 0 then nI (y.toNatClampNeg / 12)
  else if k = 1 then (if y.toNatClampNeg % 2 = 0 then B 11 0 (y.toNatClampNeg / 12) else nI (y.toNatClampNeg / 2 % 6))
  else if k = 2 then (if y.toNatClampNeg % 2 = 0 then nI (y.toNatClampNeg / 2 % 6) else B 11 0 (y.toNatClampNeg / 12))
  else if k = 3 then (if x = (-1) then 0 else B 33 0 x.toNatClampNeg)
  else if k = 4 then z
  else if k = 5 then (if x = (-1) then 0 else B 34 0 x.toNatClampNeg)
  else (if x = (-1) then 0 else B 35 0 x.toNatClampNeg)
def RlR (A B : ew_R) : Prop := ∀ i, i < wtB B → ∀ k, k < 7 → A 12 0 (7 * i + k) = p_let B (B 37 0 i) (B 38 0 i) (B 39 0 i) k
/-- a list of letters, its array g -/
def p_ls (kl k : Nat) (A : ew_R) (d g n : Nat) : Prop := g ≤ 11 ∧ n ≤ capG g ∧ A kl d 1 = nI (64 * d + g) ∧ (1 ≤ g → A k (64 * d + g) 1000 = nI (capG g) ∧ A k (64 * d + g) 1001 = nI n)
structure RlG (A B : ew_R) : Prop where
  g : ∀ d, ¬ B 22 0 d = 0 → ∃ g, p_ls 8 14 A d g (p_n B (2 * d))
  g' : ∀ d, ¬ B 22 0 d = 0 → ∃ g, p_ls 16 20 A d g (p_n B (2 * d + 1))
structure Rl (A B : ew_R) : Prop where
  C : RlC A B
  E : RlE A B
  D : RlD A B
  T : RlT A B
  R : RlR A B
  G : RlG A B
/-! The class's row -/
def p_radd (A : ew_R) (w : Nat) (v0 v1 v2 v3 v4 v5 v6 : Int32) : ew_R :=
  if w < 64 then
    up3 (up3 (up3 (up3 (up3 (up3 (up3 (up3 A 12 0 ((w * 7) + 0) v0) 12 0 ((w * 7) + 1) v1) 12 0 ((w * 7) + 2) v2) 12 0 ((w * 7) + 3) v3) 12 0 ((w * 7) + 4) v4) 12 0 ((w * 7) + 5) v5) 12 0 ((w * 7) + 6) v6) 7 0 1 (nI (w + 1))
  else
    up3 (up3 (up3 (up3 (up3 (up3 (up3 (up3 (upr (up3 A 7 0 1 63) 12 0 (va_cpy ((up3 A 7 0 1 63) 12 0) ((up3 A 7 0 1 63) 12 0) 7 0 441)) 12 0 441 v0) 12 0 442 v1) 12 0 443 v2) 12 0 444 v3) 12 0 445 v4) 12 0 446 v5) 12 0 447 v6) 7 0 1 64
theorem p_radd_5_6 (A : ew_R) (d t w : Nat) : z_Row_add_5_6 A d t w = p_radd A w (A 5 d 0) (A 5 d 1) (A 5 d 2) (A 6 t 0) (A 5 d 4) (A 6 t 1) (A 6 t 2) := rfl
theorem p_radd_5_18 (A : ew_R) (d t w : Nat) : z_Row_add_5_18 A d t w = p_radd A w (A 5 d 0) (A 5 d 1) (A 5 d 2) (A 18 t 0) (A 5 d 4) (A 18 t 1) (A 18 t 2) := rfl
theorem p_radd_15_19 (A : ew_R) (d t w : Nat) : z_Row_add_15_19 A d t w = p_radd A w (A 15 d 0) (A 15 d 1) (A 15 d 2) (A 19 t 0) (A 15 d 4) (A 19 t 1) (A 19 t 2) := rfl
theorem p_radd_15_18 (A : ew_R) (d t w : Nat) : z_Row_add_15_18 A d t w = p_radd A w (A 15 d 0) (A 15 d 1) (A 15 d 2) (A 18 t 0) (A 15 d 4) (A 18 t 1) (A 18 t 2) := rfl
theorem p_radd_oth (A : ew_R) (w : Nat) (v0 v1 v2 v3 v4 v5 v6 : Int32) {c : Nat} (h : c ≠ 12) (h7 : c ≠ 7) : p_radd A w v0 v1 v2 v3 v4 v5 v6 c = A c := by
  unfold p_radd
  split <;> simp only [p_kd_up _ _ _ _ h, p_kd_up _ _ _ _ h7, p_kd_upr _ _ _ h]
theorem p_radd_7 (A : ew_R) {w : Nat} (hw : w ≤ 64) (v0 v1 v2 v3 v4 v5 v6 : Int32) : p_radd A w v0 v1 v2 v3 v4 v5 v6 7 0 1 = nI (p_lw w) := by
  unfold p_radd p_lw
  by_cases h : w < 64
  · rw [if_pos h, up3_self, if_neg (by omega)]
  · rw [if_neg h, up3_self, if_pos (by omega)]; rfl
def p_v7 (v0 v1 v2 v3 v4 v5 v6 : Int32) (k : Nat) : Int32 := if k = 0 then v0 else if k = 1 then v1 else if k = 2 then v2 else if k = 3 then v3 else if k = 4 then v4 else if k = 5 then v5 else v6
theorem p_radd_12 (A : ew_R) {w : Nat} (hw : w ≤ 64) (v0 v1 v2 v3 v4 v5 v6 : Int32) {i k : Nat} (hi : i < p_lw w) (hk : k < 7) : p_radd A w v0 v1 v2 v3 v4 v5 v6 12 0 (7 * i + k) = if i = p_lw w - 1 then p_v7 v0 v1 v2 v3 v4 v5 v6 k else A 12 0 (7 * (if w = 64 then i + 1 else i) + k) := by
  unfold p_radd p_lw at *
  by_cases h : w < 64
  · rw [if_neg (show ¬ w = 64 by omega)] at hi ⊢
    rw [if_neg (show ¬ w = 64 by omega)]
    simp only [if_pos h, p_row_up, and_true, Nat.reduceEqDiff, false_and, if_false, if_true]
    by_cases hl : i = w
    · subst hl
      rw [if_pos (by omega)]
      have : k = 0 ∨ k = 1 ∨ k = 2 ∨ k = 3 ∨ k = 4 ∨ k = 5 ∨ k = 6 := by omega
      rcases this with rfl | rfl | rfl | rfl | rfl | rfl | rfl <;> simp [va_up, p_v7, Nat.mul_comm]
    · rw [if_neg (by omega)]
      simp only [va_up]
      rw [if_neg (by omega), if_neg (by omega), if_neg (by omega), if_neg (by omega), if_neg (by omega), if_neg (by omega), if_neg (by omega)]
  · have h6 : w = 64 := by omega
    subst h6
    simp only [if_true] at hi ⊢
    simp only [if_neg h, p_row_up, and_true, Nat.reduceEqDiff, false_and, if_false, if_true]
    by_cases hl : i = 63
    · subst hl
      have : k = 0 ∨ k = 1 ∨ k = 2 ∨ k = 3 ∨ k = 4 ∨ k = 5 ∨ k = 6 := by omega
      rcases this with rfl | rfl | rfl | rfl | rfl | rfl | rfl <;> simp [va_up, p_v7]
    · rw [if_neg (by omega)]
      simp only [va_up, upr, va_cpy, if_true]
      rw [if_neg (by omega), if_neg (by omega), if_neg (by omega), if_neg (by omega), if_neg (by omega), if_neg (by omega), if_neg (by omega), if_pos (by omega)]
      congr 1; omega
theorem p_let_cg {B B' : ew_R} {lg : Nat} {x y z : Int32} (h : p_rw B lg x y z) (hl : RfL B) (h11 : ∀ l, l < p_l B → B' 11 0 l = B 11 0 l) (hj : ∀ c, c = 33 ∨ c = 34 ∨ c = 35 → ∀ j, j < lg → B' c 0 j = B c 0 j) (hlg : lg ≤ 3000) (k : Nat) : p_let B' x y z k = p_let B x y z k := by
  obtain ⟨e, h1, h2, h3, h4, h5⟩ := h
  have hn := (hl.in h2).1
  have he : y.toNatClampNeg = e := by rw [h3, nI_clamp (by omega)]
  unfold p_let
  rw [he, h11 (e / 12) (by omega)]
  rcases h5 with h5 | ⟨j, h6, h7, -⟩
  · simp only [h5, if_true]
  · have hx : x.toNatClampNeg = j := by rw [h7, nI_clamp (by omega)]
    rw [hx, hj 33 (by simp) j h6, hj 34 (by simp) j h6, hj 35 (by simp) j h6]
