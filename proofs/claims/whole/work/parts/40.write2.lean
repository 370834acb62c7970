/-- the room of a list's array after g growths -/
def capG : Nat → Nat
  | 0 => 0
  | 1 => 10
  | g + 2 => capG (g + 1) + capG (g + 1) / 2
theorem capG_bd : ∀ g, g ≤ 11 → 1 ≤ g → 10 ≤ capG g ∧ capG g ≤ 549 := by
  intro g h1 h2
  have key : ∀ g : Fin 12, 1 ≤ g.1 → 10 ≤ capG g.1 ∧ capG g.1 ≤ 549 := by decide +kernel
  exact key ⟨g, by omega⟩ h2
theorem capG_10 : ∀ g, g ≤ 11 → capG g < 512 → g ≤ 10 := by
  intro g h1 h2
  have key : ∀ g : Fin 12, capG g.1 < 512 → g.1 ≤ 10 := by decide +kernel
  exact key ⟨g, by omega⟩ h2
theorem capG_s (g : Nat) (h : 1 ≤ g) : capG (g + 1) = capG g + capG g / 2 := by
  obtain ⟨k, rfl⟩ : ∃ k, g = k + 1 := ⟨g - 1, by omega⟩
  rfl
/-- a list of letters: n of them, in an array that has grown g times -/
def lsC (kl k : Nat) (t0 : Nat × Nat) (X : Nat → Nat → Nat) (L : List Nat) (tg : Nat → Nat × Nat) (A : ew_R) (d g n : Nat) : Prop := g ≤ 11 ∧ n ≤ capG g ∧ A kl d 1 = nI (64 * d + g) ∧ A kl d 2 = nI n ∧ (g = 0 → X k (64 * d) = t0.1) ∧ (1 ≤ g → A k (64 * d + g) 1000 = nI (capG g) ∧ A k (64 * d + g) 1001 = nI n ∧ ew_in X L tg k (64 * d + g) (X k (64 * d + g)))

def z_Side_write_5 (A : ew_R) (d g n : Nat) (kn tl : Int32) : ew_R := if n < capG g then z_Side_write_5n A d (64 * d + g) n (capG g) kn tl else if g = 0 then z_Side_write_5s A d (64 * d + g) kn tl else z_Side_write_5f A d (64 * d + g) n kn tl
/-- what it makes -/
def nw_5 (d g n : Nat) : List (Nat × Nat) := if n < capG g then [(6, 512 * d + n)] else [(6, 512 * d + n), (14, 64 * d + g + 1)]
set_option maxHeartbeats 4000000 in
set_option maxRecDepth 100000 in
theorem c_Side_write_5 (l : Launch) (D : va_G) (T : Nat → ClassId) (t0 : Nat × Nat) (X : Nat → Nat → Nat) (L : List Nat) (tg : Nat → Nat × Nat) (sz : Nat) (A : ew_R) (d g n th ll : Nat) (kn tl : Int32) (hd : d < 192) (hn : n < 512) (hth : ew_in X L tg 5 d th) (hll : ew_in X L tg 8 d ll) (hLS : lsC 8 14 t0 X L tg A d g n) (hcl : clC X L tg A) (hnl : ∀ b ∈ L, (6, 512 * d + n) ≠ tg b) (hnew : ∀ b ∈ L, (14, 64 * d + g + 1) ≠ tg b) :
    Met l ySide_write wsSide_write ({ frames := 7, cells := 2, slots := 1004, locals := 230 }) (em_Pc D vwCl (tysA T) (cfC T) t0 X L tg A sz [.ref th, .int kn, .int tl]) (em_Qq D vwCl (cfC T) L sz (fun r u => r = some (u.1 6 (512 * d + n)) ∧ em_S (nw_5 d g n) X L tg u.1 u.2.1 u.2.2.1 ∧ u.2.2.2 = z_Side_write_5 A d g n kn tl)) 2 1004 (ew_A L sz) := by
  obtain ⟨hg, hnc, q1, qs, hst, har⟩ := hLS
  unfold nw_5 z_Side_write_5
  by_cases c1 : n < capG g
  · rw [if_pos c1, if_pos c1]
    have hg1 : 1 ≤ g := by
      rcases Nat.eq_zero_or_pos g with z | z
      · rw [z] at c1
        exact absurd c1 (by show ¬ n < 0; omega)
      · exact z
    obtain ⟨a1, a2, a3⟩ := har hg1
    have hb := capG_bd g hg hg1
    exact c_Side_write_5n l D T t0 X L tg sz A d (64 * d + g) n (capG g) th ll _ kn tl hth hll a3 q1 (by omega) (by omega) qs a1 a2 c1 (by omega) hcl hnl
  · rw [if_neg c1, if_neg c1]
    by_cases c2 : g = 0
    · rw [if_pos c2]
      have hn0 : n = 0 := by
        rw [c2] at hnc
        exact Nat.le_zero.mp hnc
      subst hn0
      exact c_Side_write_5s l D T t0 X L tg sz A d (64 * d + g) th ll kn tl hth hll (by rw [c2]; exact hst c2) q1 qs (by omega) (by omega) (by omega) hcl hnl hnew
    · rw [if_neg c2]
      have hg1 : 1 ≤ g := by omega
      obtain ⟨a1, a2, a3⟩ := har hg1
      have hb := capG_bd g hg hg1
      have e : capG g = n := by omega
      rw [e] at a1
      exact c_Side_write_5f l D T t0 X L tg sz A d (64 * d + g) n th ll _ kn tl hth hll a3 (by omega) (by omega) q1 qs (by omega) (by omega) (by omega) a1 a2 hcl hnl hnew
def z_Side_write_15 (A : ew_R) (d g n : Nat) (kn tl : Int32) : ew_R := if n < capG g then z_Side_write_15n A d (64 * d + g) n (capG g) kn tl else if g = 0 then z_Side_write_15s A d (64 * d + g) kn tl else z_Side_write_15f A d (64 * d + g) n kn tl
/-- what it makes -/
def nw_15 (d g n : Nat) : List (Nat × Nat) := if n < capG g then [(19, 512 * d + n)] else [(19, 512 * d + n), (20, 64 * d + g + 1)]
set_option maxHeartbeats 4000000 in
set_option maxRecDepth 100000 in
theorem c_Side_write_15 (l : Launch) (D : va_G) (T : Nat → ClassId) (t0 : Nat × Nat) (X : Nat → Nat → Nat) (L : List Nat) (tg : Nat → Nat × Nat) (sz : Nat) (A : ew_R) (d g n th ll : Nat) (kn tl : Int32) (hd : d < 192) (hn : n < 512) (hth : ew_in X L tg 15 d th) (hll : ew_in X L tg 16 d ll) (hLS : lsC 16 20 t0 X L tg A d g n) (hcl : clC X L tg A) (hnl : ∀ b ∈ L, (19, 512 * d + n) ≠ tg b) (hnew : ∀ b ∈ L, (20, 64 * d + g + 1) ≠ tg b) :
    Met l ySide_write wsSide_write ({ frames := 7, cells := 2, slots := 1004, locals := 230 }) (em_Pc D vwCl (tysA T) (cfC T) t0 X L tg A sz [.ref th, .int kn, .int tl]) (em_Qq D vwCl (cfC T) L sz (fun r u => r = some (u.1 19 (512 * d + n)) ∧ em_S (nw_15 d g n) X L tg u.1 u.2.1 u.2.2.1 ∧ u.2.2.2 = z_Side_write_15 A d g n kn tl)) 2 1004 (ew_A L sz) := by
  obtain ⟨hg, hnc, q1, qs, hst, har⟩ := hLS
  unfold nw_15 z_Side_write_15
  by_cases c1 : n < capG g
  · rw [if_pos c1, if_pos c1]
    have hg1 : 1 ≤ g := by
      rcases Nat.eq_zero_or_pos g with z | z
      · rw [z] at c1
        exact absurd c1 (by show ¬ n < 0; omega)
      · exact z
    obtain ⟨a1, a2, a3⟩ := har hg1
    have hb := capG_bd g hg hg1
    exact c_Side_write_15n l D T t0 X L tg sz A d (64 * d + g) n (capG g) th ll _ kn tl hth hll a3 q1 (by omega) (by omega) qs a1 a2 c1 (by omega) hcl hnl
  · rw [if_neg c1, if_neg c1]
    by_cases c2 : g = 0
    · rw [if_pos c2]
      have hn0 : n = 0 := by
        rw [c2] at hnc
        exact Nat.le_zero.mp hnc
      subst hn0
      exact c_Side_write_15s l D T t0 X L tg sz A d (64 * d + g) th ll kn tl hth hll (by rw [c2]; exact hst c2) q1 qs (by omega) (by omega) (by omega) hcl hnl hnew
    · rw [if_neg c2]
      have hg1 : 1 ≤ g := by omega
      obtain ⟨a1, a2, a3⟩ := har hg1
      have hb := capG_bd g hg hg1
      have e : capG g = n := by omega
      rw [e] at a1
      exact c_Side_write_15f l D T t0 X L tg sz A d (64 * d + g) n th ll _ kn tl hth hll a3 (by omega) (by omega) q1 qs (by omega) (by omega) (by omega) a1 a2 hcl hnl hnew
