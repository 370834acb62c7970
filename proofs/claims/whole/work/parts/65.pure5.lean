/-! The class's ints against the reference's -/
/-- the columns that are the same -/
def RlC (A B : ew_R) : Prop :=
  (A 0 0 7 = B 0 0 1) ∧
  (A 0 0 6 = B 0 0 2) ∧
  (A 0 0 5 = B 0 0 3) ∧
  (A 7 0 1 = B 0 0 4) ∧
  (A 11 0 = B 6 0) ∧
  (p_col A 1 0 = B 8 0) ∧
  (p_col A 1 1 = B 7 0) ∧
  (p_col A 1 2 = B 9 0) ∧
  (p_col A 1 3 = B 10 0) ∧
  (p_col A 2 1 = B 11 0) ∧
  (p_col A 2 2 = B 12 0) ∧
  (p_col A 2 3 = B 14 0) ∧
  (p_col A 2 4 = B 13 0) ∧
  (p_col A 3 0 = B 18 0) ∧
  (p_col A 3 1 = B 19 0) ∧
  (p_col A 3 2 = B 20 0) ∧
  (p_col A 3 3 = B 21 0) ∧
  (p_col A 17 0 = B 23 0) ∧
  (p_col A 17 1 = B 24 0) ∧
  (p_col A 17 2 = B 25 0) ∧
  (p_col A 17 3 = B 26 0) ∧
  (p_col A 4 5 = B 27 0) ∧
  (∀ l b, b < 6 → A 13 l b = B 22 0 (6 * l + b)) ∧
  (A 18 0 0 = 0 ∧ A 18 0 1 = 0 ∧ A 18 0 2 = 0)
theorem RlC.day {A B : ew_R} (h9 : RlC A B) : A 0 0 7 = B 0 0 1 := h9.1
theorem RlC.nl {A B : ew_R} (h9 : RlC A B) : A 0 0 6 = B 0 0 2 := h9.2.1
theorem RlC.nc {A B : ew_R} (h9 : RlC A B) : A 0 0 5 = B 0 0 3 := h9.2.2.1
theorem RlC.w {A B : ew_R} (h9 : RlC A B) : A 7 0 1 = B 0 0 4 := h9.2.2.2.1
theorem RlC.bal {A B : ew_R} (h9 : RlC A B) : A 11 0 = B 6 0 := h9.2.2.2.2.1
theorem RlC.c0 {A B : ew_R} (h9 : RlC A B) : p_col A 1 0 = B 8 0 := h9.2.2.2.2.2.1
theorem RlC.c1 {A B : ew_R} (h9 : RlC A B) : p_col A 1 1 = B 7 0 := h9.2.2.2.2.2.2.1
theorem RlC.c2 {A B : ew_R} (h9 : RlC A B) : p_col A 1 2 = B 9 0 := h9.2.2.2.2.2.2.2.1
theorem RlC.c3 {A B : ew_R} (h9 : RlC A B) : p_col A 1 3 = B 10 0 := h9.2.2.2.2.2.2.2.2.1
theorem RlC.l1 {A B : ew_R} (h9 : RlC A B) : p_col A 2 1 = B 11 0 := h9.2.2.2.2.2.2.2.2.2.1
theorem RlC.l2 {A B : ew_R} (h9 : RlC A B) : p_col A 2 2 = B 12 0 := h9.2.2.2.2.2.2.2.2.2.2.1
theorem RlC.l3 {A B : ew_R} (h9 : RlC A B) : p_col A 2 3 = B 14 0 := h9.2.2.2.2.2.2.2.2.2.2.2.1
theorem RlC.l4 {A B : ew_R} (h9 : RlC A B) : p_col A 2 4 = B 13 0 := h9.2.2.2.2.2.2.2.2.2.2.2.2.1
theorem RlC.g0 {A B : ew_R} (h9 : RlC A B) : p_col A 3 0 = B 18 0 := h9.2.2.2.2.2.2.2.2.2.2.2.2.2.1
theorem RlC.g1 {A B : ew_R} (h9 : RlC A B) : p_col A 3 1 = B 19 0 := h9.2.2.2.2.2.2.2.2.2.2.2.2.2.2.1
theorem RlC.g2 {A B : ew_R} (h9 : RlC A B) : p_col A 3 2 = B 20 0 := h9.2.2.2.2.2.2.2.2.2.2.2.2.2.2.2.1
theorem RlC.g3 {A B : ew_R} (h9 : RlC A B) : p_col A 3 3 = B 21 0 := h9.2.2.2.2.2.2.2.2.2.2.2.2.2.2.2.2.1
theorem RlC.d0 {A B : ew_R} (h9 : RlC A B) : p_col A 17 0 = B 23 0 := h9.2.2.2.2.2.2.2.2.2.2.2.2.2.2.2.2.2.1
theorem RlC.d1 {A B : ew_R} (h9 : RlC A B) : p_col A 17 1 = B 24 0 := h9.2.2.2.2.2.2.2.2.2.2.2.2.2.2.2.2.2.2.1
theorem RlC.d2 {A B : ew_R} (h9 : RlC A B) : p_col A 17 2 = B 25 0 := h9.2.2.2.2.2.2.2.2.2.2.2.2.2.2.2.2.2.2.2.1
theorem RlC.d3 {A B : ew_R} (h9 : RlC A B) : p_col A 17 3 = B 26 0 := h9.2.2.2.2.2.2.2.2.2.2.2.2.2.2.2.2.2.2.2.2.1
theorem RlC.gr {A B : ew_R} (h9 : RlC A B) : p_col A 4 5 = B 27 0 := h9.2.2.2.2.2.2.2.2.2.2.2.2.2.2.2.2.2.2.2.2.2.1
theorem RlC.th {A B : ew_R} (h9 : RlC A B) : ∀ l b, b < 6 → A 13 l b = B 22 0 (6 * l + b) := h9.2.2.2.2.2.2.2.2.2.2.2.2.2.2.2.2.2.2.2.2.2.2.1
theorem RlC.bare {A B : ew_R} (h9 : RlC A B) : A 18 0 0 = 0 ∧ A 18 0 1 = 0 ∧ A 18 0 2 = 0 := h9.2.2.2.2.2.2.2.2.2.2.2.2.2.2.2.2.2.2.2.2.2.2.2
/-- what the two sides of a deal know -/
def RlE (A B : ew_R) : Prop :=
  (p_col A 5 4 = fun d => B 30 0 (2 * d)) ∧
  (p_col A 5 5 = fun d => B 31 0 (2 * d)) ∧
  (p_col A 8 2 = fun d => B 29 0 (2 * d)) ∧
  (p_col A 15 4 = fun d => B 30 0 (2 * d + 1)) ∧
  (p_col A 15 5 = fun d => B 31 0 (2 * d + 1)) ∧
  (p_col A 16 2 = fun d => B 29 0 (2 * d + 1))
theorem RlE.s {A B : ew_R} (h9 : RlE A B) : p_col A 5 4 = fun d => B 30 0 (2 * d) := h9.1
theorem RlE.a {A B : ew_R} (h9 : RlE A B) : p_col A 5 5 = fun d => B 31 0 (2 * d) := h9.2.1
theorem RlE.n {A B : ew_R} (h9 : RlE A B) : p_col A 8 2 = fun d => B 29 0 (2 * d) := h9.2.2.1
theorem RlE.s' {A B : ew_R} (h9 : RlE A B) : p_col A 15 4 = fun d => B 30 0 (2 * d + 1) := h9.2.2.2.1
theorem RlE.a' {A B : ew_R} (h9 : RlE A B) : p_col A 15 5 = fun d => B 31 0 (2 * d + 1) := h9.2.2.2.2.1
theorem RlE.n' {A B : ew_R} (h9 : RlE A B) : p_col A 16 2 = fun d => B 29 0 (2 * d + 1) := h9.2.2.2.2.2
def p_dl (A B : ew_R) (d : Nat) : Prop :=
  (A 4 d 0 = nI (d % 6)) ∧
  (A 5 d 0 = nI (d / 6)) ∧
  (A 5 d 1 = B 11 0 (d / 6)) ∧
  (A 5 d 2 = nI (d % 6)) ∧
  (A 15 d 0 = nI (d / 6)) ∧
  (A 15 d 1 = nI (d % 6)) ∧
  (A 15 d 2 = B 11 0 (d / 6))
theorem p_dl.h0 {A B : ew_R} {d : Nat} (h9 : p_dl A B d) : A 4 d 0 = nI (d % 6) := h9.1
theorem p_dl.h1 {A B : ew_R} {d : Nat} (h9 : p_dl A B d) : A 5 d 0 = nI (d / 6) := h9.2.1
theorem p_dl.h2 {A B : ew_R} {d : Nat} (h9 : p_dl A B d) : A 5 d 1 = B 11 0 (d / 6) := h9.2.2.1
theorem p_dl.h3 {A B : ew_R} {d : Nat} (h9 : p_dl A B d) : A 5 d 2 = nI (d % 6) := h9.2.2.2.1
theorem p_dl.h4 {A B : ew_R} {d : Nat} (h9 : p_dl A B d) : A 15 d 0 = nI (d / 6) := h9.2.2.2.2.1
theorem p_dl.h5 {A B : ew_R} {d : Nat} (h9 : p_dl A B d) : A 15 d 1 = nI (d % 6) := h9.2.2.2.2.2.1
theorem p_dl.h6 {A B : ew_R} {d : Nat} (h9 : p_dl A B d) : A 15 d 2 = B 11 0 (d / 6) := h9.2.2.2.2.2.2
def RlD (A B : ew_R) : Prop :=
  (∀ l, l < p_l B → A 2 l 0 = nI l ∧ A 2 l 7 = nI (6 * l + p_k B l)) ∧
  (∀ d, ¬ B 22 0 d = 0 → p_dl A B d) ∧
  (∀ c, c < 32 → (A 9 0 c = 0 ↔ p_c B ≤ c)) ∧
  (∀ l, l < 32 → (A 10 0 l = 0 ↔ p_l B ≤ l))
theorem RlD.ln {A B : ew_R} (h9 : RlD A B) : ∀ l, l < p_l B → A 2 l 0 = nI l ∧ A 2 l 7 = nI (6 * l + p_k B l) := h9.1
theorem RlD.dl {A B : ew_R} (h9 : RlD A B) : ∀ d, ¬ B 22 0 d = 0 → p_dl A B d := h9.2.1
theorem RlD.f9 {A B : ew_R} (h9 : RlD A B) : ∀ c, c < 32 → (A 9 0 c = 0 ↔ p_c B ≤ c) := h9.2.2.1
theorem RlD.f10 {A B : ew_R} (h9 : RlD A B) : ∀ l, l < 32 → (A 10 0 l = 0 ↔ p_l B ≤ l) := h9.2.2.2
def p_lt (A : ew_R) (kd t : Nat) (B : ew_R) (j : Nat) : Prop := A kd t 0 = B 33 0 j ∧ A kd t 1 = B 34 0 j ∧ A kd t 2 = B 35 0 j
/-- the letters -/
def RlT (A B : ew_R) : Prop :=
  (∀ j d k, j < lgB B → k < 512 → B 32 0 j = nI (2 * d) → B 33 0 j = nI (k + 1) → d < 192 → p_lt A 6 (512 * d + k) B j ∧ (p_s B (2 * d + 1) ≤ k → A 6 (512 * d + k) 3 = B 36 0 j)) ∧
  (∀ j d k, j < lgB B → k < 512 → B 32 0 j = nI (2 * d + 1) → B 33 0 j = nI (k + 1) → d < 192 → p_lt A 19 (512 * d + k) B j ∧ (p_s B (2 * d) ≤ k → A 19 (512 * d + k) 3 = B 36 0 j))
theorem RlT.t {A B : ew_R} (h9 : RlT A B) : ∀ j d k, j < lgB B → k < 512 → B 32 0 j = nI (2 * d) → B 33 0 j = nI (k + 1) → d < 192 → p_lt A 6 (512 * d + k) B j ∧ (p_s B (2 * d + 1) ≤ k → A 6 (512 * d + k) 3 = B 36 0 j) := h9.1
theorem RlT.t' {A B : ew_R} (h9 : RlT A B) : ∀ j d k, j < lgB B → k < 512 → B 32 0 j = nI (2 * d + 1) → B 33 0 j = nI (k + 1) → d < 192 → p_lt A 19 (512 * d + k) B j ∧ (p_s B (2 * d) ≤ k → A 19 (512 * d + k) 3 = B 36 0 j) := h9.2
/-- what a place of the row tells -/
def p_let (B : ew_R) (x y z : Int32) (k : Nat) : Int32 :=
  if k = 0 then nI (y.toNatClampNeg / 12)
  else if k = 1 then (if y.toNatClampNeg % 2 = 0 then B 11 0 (y.toNatClampNeg / 12) else nI (y.toNatClampNeg / 2 % 6))
  else if k = 2 then (if y.toNatClampNeg % 2 = 0 then nI (y.toNatClampNeg / 2 % 6) else B 11 0 (y.toNatClampNeg / 12))
  else if k = 3 then (if x = (-1) then 0 else B 33 0 x.toNatClampNeg)
  else if k = 4 then z
  else if k = 5 then (if x = (-1) then 0 else B 34 0 x.toNatClampNeg)
  else (if x = (-1) then 0 else B 35 0 x.toNatClampNeg)
def RlR (A B : ew_R) : Prop := ∀ i, i < wtB B → ∀ k, k < 7 → A 12 0 (7 * i + k) = p_let B (B 37 0 i) (B 38 0 i) (B 39 0 i) k
/-- a list of letters, its array g -/
def p_ls (kl k : Nat) (A : ew_R) (d g n : Nat) : Prop := g ≤ 11 ∧ n ≤ capG g ∧ A kl d 1 = nI (64 * d + g) ∧ (1 ≤ g → A k (64 * d + g) 1000 = nI (capG g) ∧ A k (64 * d + g) 1001 = nI n)
def RlG (A B : ew_R) : Prop :=
  (∀ d, ¬ B 22 0 d = 0 → ∃ g, p_ls 8 14 A d g (p_n B (2 * d))) ∧
  (∀ d, ¬ B 22 0 d = 0 → ∃ g, p_ls 16 20 A d g (p_n B (2 * d + 1)))
theorem RlG.g {A B : ew_R} (h9 : RlG A B) : ∀ d, ¬ B 22 0 d = 0 → ∃ g, p_ls 8 14 A d g (p_n B (2 * d)) := h9.1
theorem RlG.g' {A B : ew_R} (h9 : RlG A B) : ∀ d, ¬ B 22 0 d = 0 → ∃ g, p_ls 16 20 A d g (p_n B (2 * d + 1)) := h9.2
def Rl (A B : ew_R) : Prop :=
  (RlC A B) ∧
  (RlE A B) ∧
  (RlD A B) ∧
  (RlT A B) ∧
  (RlR A B) ∧
  (RlG A B)
theorem Rl.C {A B : ew_R} (h9 : Rl A B) : RlC A B := h9.1
theorem Rl.E {A B : ew_R} (h9 : Rl A B) : RlE A B := h9.2.1
theorem Rl.D {A B : ew_R} (h9 : Rl A B) : RlD A B := h9.2.2.1
theorem Rl.T {A B : ew_R} (h9 : Rl A B) : RlT A B := h9.2.2.2.1
theorem Rl.R {A B : ew_R} (h9 : Rl A B) : RlR A B := h9.2.2.2.2.1
theorem Rl.G {A B : ew_R} (h9 : Rl A B) : RlG A B := h9.2.2.2.2.2
/-! The class's row -/
def p_radd (A : ew_R) (w : Nat) (v0 v1 v2 v3 v4 v5 v6 : Int32) : ew_R :=
  if w < 64 then
    up3 (up3 (up3 (up3 (up3 (up3 (up3 (up3 A 12 0 ((w * 7) + 0) v0) 12 0 ((w * 7) + 1) v1) 12 0 ((w * 7) + 2) v2) 12 0 ((w * 7) + 3) v3) 12 0 ((w * 7) + 4) v4) 12 0 ((w * 7) + 5) v5) 12 0 ((w * 7) + 6) v6) 7 0 1 (nI (w + 1))
  else
    up3 (up3 (up3 (up3 (up3 (up3 (up3 (up3 (upr (up3 A 7 0 1 63) 12 0 (va_cpy ((up3 A 7 0 1 63) 12 0) ((up3 A 7 0 1 63) 12 0) 7 0 441)) 12 0 441 v0) 12 0 442 v1) 12 0 443 v2) 12 0 444 v3) 12 0 445 v4) 12 0 446 v5) 12 0 447 v6) 7 0 1 64
theorem p_radd_5_6 (A : ew_R) (d t w : Nat) : z_Row_add_5_6 A d t w = p_radd A w (A 5 d 0) (A 5 d 1) (A 5 d 2) (A 6 t 0) (A 5 d 4) (A 6 t 1) (A 6 t 2) := rfl
theorem p_radd_5_18 (A : ew_R) (d t w : Nat) : z_Row_add_5_18 A d t w = p_radd A w (A 5 d 0) (A 5 d 1) (A 5 d 2) (A 18 t 0) (A 5 d 4) (A 18 t 1) (A 18 t 2) := rfl
theorem p_radd_15_19 (A : ew_R) (d t w : Nat) : z_Row_add_15_19 A d t w = p_radd A w (A 15 d 0) (A 15 d 1) (A 15 d 2) (A 19 t 0) (A 15 d 4) (A 19 t 1) (A 19 t 2) := rfl
theorem p_radd_15_18 (A : ew_R) (d t w : Nat) : z_Row_add_15_18 A d t w = p_radd A w (A 15 d 0) (A 15 d 1) (A 15 d 2) (A 18 t 0) (A 15 d 4) (A 18 t 1) (A 18 t 2) := rfl
theorem p_radd_oth (A : ew_R) (w : Nat) (v0 v1 v2 v3 v4 v5 v6 : Int32) {c : Nat} (h : c ≠ 12) (h7 : c ≠ 7) : p_radd A w v0 v1 v2 v3 v4 v5 v6 c = A c := by
  unfold p_radd
  split <;> simp only [p_kd_up _ _ _ _ h, p_kd_up _ _ _ _ h7, p_kd_upr _ _ _ h]
theorem p_radd_7 (A : ew_R) {w : Nat} (hw : w ≤ 64) (v0 v1 v2 v3 v4 v5 v6 : Int32) : p_radd A w v0 v1 v2 v3 v4 v5 v6 7 0 1 = nI (p_lw w) := by
  unfold p_radd p_lw
  by_cases h : w < 64
  · rw [if_pos h, up3_self, if_neg (by omega)]
  · rw [if_neg h, up3_self, if_pos (by omega)]; rfl
def p_v7 (v0 v1 v2 v3 v4 v5 v6 : Int32) (k : Nat) : Int32 := if k = 0 then v0 else if k = 1 then v1 else if k = 2 then v2 else if k = 3 then v3 else if k = 4 then v4 else if k = 5 then v5 else v6
theorem p_radd_12 (A : ew_R) {w : Nat} (hw : w ≤ 64) (v0 v1 v2 v3 v4 v5 v6 : Int32) {i k : Nat} (hi : i < p_lw w) (hk : k < 7) : p_radd A w v0 v1 v2 v3 v4 v5 v6 12 0 (7 * i + k) = if i = p_lw w - 1 then p_v7 v0 v1 v2 v3 v4 v5 v6 k else A 12 0 (7 * (if w = 64 then i + 1 else i) + k) := by
  unfold p_radd p_lw at *
  by_cases h : w < 64
  · rw [if_neg (show ¬ w = 64 by omega)] at hi ⊢
    rw [if_neg (show ¬ w = 64 by omega)]
    simp only [if_pos h, p_row_up, and_true, Nat.reduceEqDiff, false_and, if_false, if_true]
    by_cases hl : i = w
    · subst hl
      rw [if_pos (by omega)]
      have : k = 0 ∨ k = 1 ∨ k = 2 ∨ k = 3 ∨ k = 4 ∨ k = 5 ∨ k = 6 := by omega
      rcases this with rfl | rfl | rfl | rfl | rfl | rfl | rfl <;> simp [va_up, p_v7, Nat.mul_comm]
    · rw [if_neg (by omega)]
      simp only [va_up]
      rw [if_neg (by omega), if_neg (by omega), if_neg (by omega), if_neg (by omega), if_neg (by omega), if_neg (by omega), if_neg (by omega)]
  · have h6 : w = 64 := by omega
    subst h6
    simp only [if_true] at hi ⊢
    simp only [if_neg h, p_row_up, and_true, Nat.reduceEqDiff, false_and, if_false, if_true]
    by_cases hl : i = 63
    · subst hl
      have : k = 0 ∨ k = 1 ∨ k = 2 ∨ k = 3 ∨ k = 4 ∨ k = 5 ∨ k = 6 := by omega
      rcases this with rfl | rfl | rfl | rfl | rfl | rfl | rfl <;> simp [va_up, p_v7]
    · rw [if_neg (by omega)]
      simp only [va_up, upr, va_cpy, if_true]
      rw [if_neg (by omega), if_neg (by omega), if_neg (by omega), if_neg (by omega), if_neg (by omega), if_neg (by omega), if_neg (by omega), if_pos (by omega)]
      congr 1; omega
theorem p_let_cg {B B' : ew_R} {lg : Nat} {x y z : Int32} (h : p_rw B lg x y z) (hl : RfL B) (h11 : ∀ l, l < p_l B → B' 11 0 l = B 11 0 l) (hj : ∀ c, c = 33 ∨ c = 34 ∨ c = 35 → ∀ j, j < lg → B' c 0 j = B c 0 j) (hlg : lg ≤ 3000) (k : Nat) : p_let B' x y z k = p_let B x y z k := by
  obtain ⟨e, h1, h2, h3, h4, h5⟩ := h
  have hn := (hl.in h2).1
  have he : y.toNatClampNeg = e := by rw [h3, nI_clamp (by omega)]
  unfold p_let
  rw [he, h11 (e / 12) (by omega)]
  rcases h5 with h5 | ⟨j, h6, h7, -⟩
  · simp only [h5, if_true]
  · have hx : x.toNatClampNeg = j := by rw [h7, nI_clamp (by omega)]
    rw [hx, hj 33 (by simp) j h6, hj 34 (by simp) j h6, hj 35 (by simp) j h6]
