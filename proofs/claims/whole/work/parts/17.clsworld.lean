/-! The class: kinds 0 the object, 1 copies, 2 loans, 3 loans' pages, 4 deals (6 * loan + library), 5 and 15 the sides (requester's, supplier's) of a deal, 6 and 19 their letters (512 * deal + place), 7 the row, 8 and 16 the sides' lists, 9 copies[], 10 loans[], 11 balances, 12 the row's cells, 13 a loan's deals[], 14 and 20 the lists' arrays (64 * deal + which), 17 deals' pages, 18 the bare letter -/
def oC_0 (X : Nat → Nat → Nat) (id : Nat) (r : Nat → Int32) : List Value := [.ref (X 9 0), .ref (X 10 0), .ref (X 11 0), .ref (X 7 0), .ref (X 18 0), .int (r 5), .int (r 6), .int (r 7)]
def oC_1 (X : Nat → Nat → Nat) (id : Nat) (r : Nat → Int32) : List Value := [.int (r 0), .int (r 1), .int (r 2), .int (r 3)]
def oC_2 (X : Nat → Nat → Nat) (id : Nat) (r : Nat → Int32) : List Value := [.int (r 0), .int (r 1), .int (r 2), .int (r 3), .int (r 4), .ref (X 13 id), .ref (X 3 id), .ref (X 4 (r 7).toNatClampNeg)]
def oC_3 (X : Nat → Nat → Nat) (id : Nat) (r : Nat → Int32) : List Value := [.int (r 0), .int (r 1), .int (r 2), .int (r 3)]
def oC_4 (X : Nat → Nat → Nat) (id : Nat) (r : Nat → Int32) : List Value := [.int (r 0), .ref (X 5 id), .ref (X 15 id), .ref (X 17 id), va_rf (if r 4 = (-1) then none else some (X 1 (r 4).toNatClampNeg)), .int (r 5)]
def oC_5 (X : Nat → Nat → Nat) (id : Nat) (r : Nat → Int32) : List Value := [.int (r 0), .int (r 1), .int (r 2), .ref (X 8 id), .int (r 4), .int (r 5)]
def oC_6 (X : Nat → Nat → Nat) (id : Nat) (r : Nat → Int32) : List Value := [.int (r 0), .int (r 1), .int (r 2), .int (r 3)]
def oC_7 (X : Nat → Nat → Nat) (id : Nat) (r : Nat → Int32) : List Value := [.ref (X 12 0), .int (r 1)]
def oC_8 (X : Nat → Nat → Nat) (id : Nat) (r : Nat → Int32) : List Value := [.int (r 0), .ref (X 14 (r 1).toNatClampNeg), .int (r 2)]
def oC_15 (X : Nat → Nat → Nat) (id : Nat) (r : Nat → Int32) : List Value := [.int (r 0), .int (r 1), .int (r 2), .ref (X 16 id), .int (r 4), .int (r 5)]
def oC_16 (X : Nat → Nat → Nat) (id : Nat) (r : Nat → Int32) : List Value := [.int (r 0), .ref (X 20 (r 1).toNatClampNeg), .int (r 2)]
def oC_17 (X : Nat → Nat → Nat) (id : Nat) (r : Nat → Int32) : List Value := [.int (r 0), .int (r 1), .int (r 2), .int (r 3)]
def oC_18 (X : Nat → Nat → Nat) (id : Nat) (r : Nat → Int32) : List Value := [.int (r 0), .int (r 1), .int (r 2), .int (r 3)]
def oC_19 (X : Nat → Nat → Nat) (id : Nat) (r : Nat → Int32) : List Value := [.int (r 0), .int (r 1), .int (r 2), .int (r 3)]
def cfC (T : Nat → ClassId) : ew_C := fun X kd id r => match kd with
  | 0 => .inr (0, oC_0 X id r)
  | 1 => .inr (1, oC_1 X id r)
  | 2 => .inr (2, oC_2 X id r)
  | 3 => .inr (3, oC_3 X id r)
  | 4 => .inr (4, oC_4 X id r)
  | 5 => .inr (5, oC_5 X id r)
  | 6 => .inr (6, oC_6 X id r)
  | 7 => .inr (7, oC_7 X id r)
  | 8 => .inr (8, oC_8 X id r)
  | 9 => .inl (T 2, 32, .inr (.inr (.inr (.inr (fun j => if r j = 0 then none else some (X 1 j))))))
  | 10 => .inl (T 3, 32, .inr (.inr (.inr (.inr (fun j => if r j = 0 then none else some (X 2 j))))))
  | 11 => .inl (T 0, 6, .inl r)
  | 12 => .inl (T 0, 448, .inl r)
  | 13 => .inl (T 4, 6, .inr (.inr (.inr (.inr (fun j => if r j = 0 then none else some (X 4 (6 * id + j)))))))
  | 14 => .inl (T 5, (r 1000).toNatClampNeg, .inr (.inr (.inr (.inr (fun j => if j < (r 1001).toNatClampNeg then some (X 6 (512 * (id / 64) + j)) else none)))))
  | 15 => .inr (5, oC_15 X id r)
  | 16 => .inr (8, oC_16 X id r)
  | 17 => .inr (3, oC_17 X id r)
  | 18 => .inr (6, oC_18 X id r)
  | 19 => .inr (6, oC_19 X id r)
  | 20 => .inl (T 5, (r 1000).toNatClampNeg, .inr (.inr (.inr (.inr (fun j => if j < (r 1001).toNatClampNeg then some (X 19 (512 * (id / 64) + j)) else none)))))
  | _ => .inr (0, [])
theorem cC_0 (T : Nat → ClassId) (X : Nat → Nat → Nat) (id : Nat) (r : Nat → Int32) : cfC T X 0 id r = .inr (0, oC_0 X id r) := rfl
theorem pC_0_5 (T : Nat → ClassId) (X : Nat → Nat → Nat) (id : Nat) (r : Nat → Int32) (x : Int32) : cfC T X 0 id (va_up r 5 x) = .inr (0, (oC_0 X id r).set 5 (.int x)) := rfl
theorem pC_0_6 (T : Nat → ClassId) (X : Nat → Nat → Nat) (id : Nat) (r : Nat → Int32) (x : Int32) : cfC T X 0 id (va_up r 6 x) = .inr (0, (oC_0 X id r).set 6 (.int x)) := rfl
theorem pC_0_7 (T : Nat → ClassId) (X : Nat → Nat → Nat) (id : Nat) (r : Nat → Int32) (x : Int32) : cfC T X 0 id (va_up r 7 x) = .inr (0, (oC_0 X id r).set 7 (.int x)) := rfl
theorem cC_1 (T : Nat → ClassId) (X : Nat → Nat → Nat) (id : Nat) (r : Nat → Int32) : cfC T X 1 id r = .inr (1, oC_1 X id r) := rfl
theorem pC_1_0 (T : Nat → ClassId) (X : Nat → Nat → Nat) (id : Nat) (r : Nat → Int32) (x : Int32) : cfC T X 1 id (va_up r 0 x) = .inr (1, (oC_1 X id r).set 0 (.int x)) := rfl
theorem pC_1_1 (T : Nat → ClassId) (X : Nat → Nat → Nat) (id : Nat) (r : Nat → Int32) (x : Int32) : cfC T X 1 id (va_up r 1 x) = .inr (1, (oC_1 X id r).set 1 (.int x)) := rfl
theorem pC_1_2 (T : Nat → ClassId) (X : Nat → Nat → Nat) (id : Nat) (r : Nat → Int32) (x : Int32) : cfC T X 1 id (va_up r 2 x) = .inr (1, (oC_1 X id r).set 2 (.int x)) := rfl
theorem pC_1_3 (T : Nat → ClassId) (X : Nat → Nat → Nat) (id : Nat) (r : Nat → Int32) (x : Int32) : cfC T X 1 id (va_up r 3 x) = .inr (1, (oC_1 X id r).set 3 (.int x)) := rfl
theorem cC_2 (T : Nat → ClassId) (X : Nat → Nat → Nat) (id : Nat) (r : Nat → Int32) : cfC T X 2 id r = .inr (2, oC_2 X id r) := rfl
theorem pC_2_0 (T : Nat → ClassId) (X : Nat → Nat → Nat) (id : Nat) (r : Nat → Int32) (x : Int32) : cfC T X 2 id (va_up r 0 x) = .inr (2, (oC_2 X id r).set 0 (.int x)) := rfl
theorem pC_2_1 (T : Nat → ClassId) (X : Nat → Nat → Nat) (id : Nat) (r : Nat → Int32) (x : Int32) : cfC T X 2 id (va_up r 1 x) = .inr (2, (oC_2 X id r).set 1 (.int x)) := rfl
theorem pC_2_2 (T : Nat → ClassId) (X : Nat → Nat → Nat) (id : Nat) (r : Nat → Int32) (x : Int32) : cfC T X 2 id (va_up r 2 x) = .inr (2, (oC_2 X id r).set 2 (.int x)) := rfl
theorem pC_2_3 (T : Nat → ClassId) (X : Nat → Nat → Nat) (id : Nat) (r : Nat → Int32) (x : Int32) : cfC T X 2 id (va_up r 3 x) = .inr (2, (oC_2 X id r).set 3 (.int x)) := rfl
theorem pC_2_4 (T : Nat → ClassId) (X : Nat → Nat → Nat) (id : Nat) (r : Nat → Int32) (x : Int32) : cfC T X 2 id (va_up r 4 x) = .inr (2, (oC_2 X id r).set 4 (.int x)) := rfl
theorem pC_2_7 (T : Nat → ClassId) (X : Nat → Nat → Nat) (id : Nat) (r : Nat → Int32) (x : Int32) : cfC T X 2 id (va_up r 7 x) = .inr (2, (oC_2 X id r).set 7 (.ref (X 4 x.toNatClampNeg))) := rfl
theorem cC_3 (T : Nat → ClassId) (X : Nat → Nat → Nat) (id : Nat) (r : Nat → Int32) : cfC T X 3 id r = .inr (3, oC_3 X id r) := rfl
theorem pC_3_0 (T : Nat → ClassId) (X : Nat → Nat → Nat) (id : Nat) (r : Nat → Int32) (x : Int32) : cfC T X 3 id (va_up r 0 x) = .inr (3, (oC_3 X id r).set 0 (.int x)) := rfl
theorem pC_3_1 (T : Nat → ClassId) (X : Nat → Nat → Nat) (id : Nat) (r : Nat → Int32) (x : Int32) : cfC T X 3 id (va_up r 1 x) = .inr (3, (oC_3 X id r).set 1 (.int x)) := rfl
theorem pC_3_2 (T : Nat → ClassId) (X : Nat → Nat → Nat) (id : Nat) (r : Nat → Int32) (x : Int32) : cfC T X 3 id (va_up r 2 x) = .inr (3, (oC_3 X id r).set 2 (.int x)) := rfl
theorem pC_3_3 (T : Nat → ClassId) (X : Nat → Nat → Nat) (id : Nat) (r : Nat → Int32) (x : Int32) : cfC T X 3 id (va_up r 3 x) = .inr (3, (oC_3 X id r).set 3 (.int x)) := rfl
theorem cC_4 (T : Nat → ClassId) (X : Nat → Nat → Nat) (id : Nat) (r : Nat → Int32) : cfC T X 4 id r = .inr (4, oC_4 X id r) := rfl
theorem pC_4_0 (T : Nat → ClassId) (X : Nat → Nat → Nat) (id : Nat) (r : Nat → Int32) (x : Int32) : cfC T X 4 id (va_up r 0 x) = .inr (4, (oC_4 X id r).set 0 (.int x)) := rfl
theorem pC_4_4 (T : Nat → ClassId) (X : Nat → Nat → Nat) (id : Nat) (r : Nat → Int32) (x : Int32) : cfC T X 4 id (va_up r 4 x) = .inr (4, (oC_4 X id r).set 4 (va_rf (if x = (-1) then none else some (X 1 x.toNatClampNeg)))) := rfl
theorem pC_4_5 (T : Nat → ClassId) (X : Nat → Nat → Nat) (id : Nat) (r : Nat → Int32) (x : Int32) : cfC T X 4 id (va_up r 5 x) = .inr (4, (oC_4 X id r).set 5 (.int x)) := rfl
theorem cC_5 (T : Nat → ClassId) (X : Nat → Nat → Nat) (id : Nat) (r : Nat → Int32) : cfC T X 5 id r = .inr (5, oC_5 X id r) := rfl
theorem pC_5_0 (T : Nat → ClassId) (X : Nat → Nat → Nat) (id : Nat) (r : Nat → Int32) (x : Int32) : cfC T X 5 id (va_up r 0 x) = .inr (5, (oC_5 X id r).set 0 (.int x)) := rfl
theorem pC_5_1 (T : Nat → ClassId) (X : Nat → Nat → Nat) (id : Nat) (r : Nat → Int32) (x : Int32) : cfC T X 5 id (va_up r 1 x) = .inr (5, (oC_5 X id r).set 1 (.int x)) := rfl
theorem pC_5_2 (T : Nat → ClassId) (X : Nat → Nat → Nat) (id : Nat) (r : Nat → Int32) (x : Int32) : cfC T X 5 id (va_up r 2 x) = .inr (5, (oC_5 X id r).set 2 (.int x)) := rfl
theorem pC_5_4 (T : Nat → ClassId) (X : Nat → Nat → Nat) (id : Nat) (r : Nat → Int32) (x : Int32) : cfC T X 5 id (va_up r 4 x) = .inr (5, (oC_5 X id r).set 4 (.int x)) := rfl
theorem pC_5_5 (T : Nat → ClassId) (X : Nat → Nat → Nat) (id : Nat) (r : Nat → Int32) (x : Int32) : cfC T X 5 id (va_up r 5 x) = .inr (5, (oC_5 X id r).set 5 (.int x)) := rfl
theorem cC_6 (T : Nat → ClassId) (X : Nat → Nat → Nat) (id : Nat) (r : Nat → Int32) : cfC T X 6 id r = .inr (6, oC_6 X id r) := rfl
theorem pC_6_0 (T : Nat → ClassId) (X : Nat → Nat → Nat) (id : Nat) (r : Nat → Int32) (x : Int32) : cfC T X 6 id (va_up r 0 x) = .inr (6, (oC_6 X id r).set 0 (.int x)) := rfl
theorem pC_6_1 (T : Nat → ClassId) (X : Nat → Nat → Nat) (id : Nat) (r : Nat → Int32) (x : Int32) : cfC T X 6 id (va_up r 1 x) = .inr (6, (oC_6 X id r).set 1 (.int x)) := rfl
theorem pC_6_2 (T : Nat → ClassId) (X : Nat → Nat → Nat) (id : Nat) (r : Nat → Int32) (x : Int32) : cfC T X 6 id (va_up r 2 x) = .inr (6, (oC_6 X id r).set 2 (.int x)) := rfl
theorem pC_6_3 (T : Nat → ClassId) (X : Nat → Nat → Nat) (id : Nat) (r : Nat → Int32) (x : Int32) : cfC T X 6 id (va_up r 3 x) = .inr (6, (oC_6 X id r).set 3 (.int x)) := rfl
theorem cC_7 (T : Nat → ClassId) (X : Nat → Nat → Nat) (id : Nat) (r : Nat → Int32) : cfC T X 7 id r = .inr (7, oC_7 X id r) := rfl
theorem pC_7_1 (T : Nat → ClassId) (X : Nat → Nat → Nat) (id : Nat) (r : Nat → Int32) (x : Int32) : cfC T X 7 id (va_up r 1 x) = .inr (7, (oC_7 X id r).set 1 (.int x)) := rfl
theorem cC_8 (T : Nat → ClassId) (X : Nat → Nat → Nat) (id : Nat) (r : Nat → Int32) : cfC T X 8 id r = .inr (8, oC_8 X id r) := rfl
theorem pC_8_0 (T : Nat → ClassId) (X : Nat → Nat → Nat) (id : Nat) (r : Nat → Int32) (x : Int32) : cfC T X 8 id (va_up r 0 x) = .inr (8, (oC_8 X id r).set 0 (.int x)) := rfl
theorem pC_8_1 (T : Nat → ClassId) (X : Nat → Nat → Nat) (id : Nat) (r : Nat → Int32) (x : Int32) : cfC T X 8 id (va_up r 1 x) = .inr (8, (oC_8 X id r).set 1 (.ref (X 14 x.toNatClampNeg))) := rfl
theorem pC_8_2 (T : Nat → ClassId) (X : Nat → Nat → Nat) (id : Nat) (r : Nat → Int32) (x : Int32) : cfC T X 8 id (va_up r 2 x) = .inr (8, (oC_8 X id r).set 2 (.int x)) := rfl
theorem cC_9 (T : Nat → ClassId) (X : Nat → Nat → Nat) (id : Nat) (r : Nat → Int32) : cfC T X 9 id r = .inl (T 2, 32, .inr (.inr (.inr (.inr (fun j => if r j = 0 then none else some (X 1 j)))))) := rfl
theorem cC_10 (T : Nat → ClassId) (X : Nat → Nat → Nat) (id : Nat) (r : Nat → Int32) : cfC T X 10 id r = .inl (T 3, 32, .inr (.inr (.inr (.inr (fun j => if r j = 0 then none else some (X 2 j)))))) := rfl
theorem cC_11 (T : Nat → ClassId) (X : Nat → Nat → Nat) (id : Nat) (r : Nat → Int32) : cfC T X 11 id r = .inl (T 0, 6, .inl r) := rfl
theorem qC_11 (T : Nat → ClassId) (X : Nat → Nat → Nat) (id : Nat) (r : Nat → Int32) (j : Nat) (x : Int32) : cfC T X 11 id (va_up r j x) = .inl (T 0, 6, .inl (upd r j x)) := rfl
theorem cC_12 (T : Nat → ClassId) (X : Nat → Nat → Nat) (id : Nat) (r : Nat → Int32) : cfC T X 12 id r = .inl (T 0, 448, .inl r) := rfl
theorem qC_12 (T : Nat → ClassId) (X : Nat → Nat → Nat) (id : Nat) (r : Nat → Int32) (j : Nat) (x : Int32) : cfC T X 12 id (va_up r j x) = .inl (T 0, 448, .inl (upd r j x)) := rfl
theorem cC_13 (T : Nat → ClassId) (X : Nat → Nat → Nat) (id : Nat) (r : Nat → Int32) : cfC T X 13 id r = .inl (T 4, 6, .inr (.inr (.inr (.inr (fun j => if r j = 0 then none else some (X 4 (6 * id + j))))))) := rfl
theorem cC_14 (T : Nat → ClassId) (X : Nat → Nat → Nat) (id : Nat) (r : Nat → Int32) : cfC T X 14 id r = .inl (T 5, (r 1000).toNatClampNeg, .inr (.inr (.inr (.inr (fun j => if j < (r 1001).toNatClampNeg then some (X 6 (512 * (id / 64) + j)) else none))))) := rfl
theorem cC_15 (T : Nat → ClassId) (X : Nat → Nat → Nat) (id : Nat) (r : Nat → Int32) : cfC T X 15 id r = .inr (5, oC_15 X id r) := rfl
theorem pC_15_0 (T : Nat → ClassId) (X : Nat → Nat → Nat) (id : Nat) (r : Nat → Int32) (x : Int32) : cfC T X 15 id (va_up r 0 x) = .inr (5, (oC_15 X id r).set 0 (.int x)) := rfl
theorem pC_15_1 (T : Nat → ClassId) (X : Nat → Nat → Nat) (id : Nat) (r : Nat → Int32) (x : Int32) : cfC T X 15 id (va_up r 1 x) = .inr (5, (oC_15 X id r).set 1 (.int x)) := rfl
theorem pC_15_2 (T : Nat → ClassId) (X : Nat → Nat → Nat) (id : Nat) (r : Nat → Int32) (x : Int32) : cfC T X 15 id (va_up r 2 x) = .inr (5, (oC_15 X id r).set 2 (.int x)) := rfl
theorem pC_15_4 (T : Nat → ClassId) (X : Nat → Nat → Nat) (id : Nat) (r : Nat → Int32) (x : Int32) : cfC T X 15 id (va_up r 4 x) = .inr (5, (oC_15 X id r).set 4 (.int x)) := rfl
theorem pC_15_5 (T : Nat → ClassId) (X : Nat → Nat → Nat) (id : Nat) (r : Nat → Int32) (x : Int32) : cfC T X 15 id (va_up r 5 x) = .inr (5, (oC_15 X id r).set 5 (.int x)) := rfl
theorem cC_16 (T : Nat → ClassId) (X : Nat → Nat → Nat) (id : Nat) (r : Nat → Int32) : cfC T X 16 id r = .inr (8, oC_16 X id r) := rfl
theorem pC_16_0 (T : Nat → ClassId) (X : Nat → Nat → Nat) (id : Nat) (r : Nat → Int32) (x : Int32) : cfC T X 16 id (va_up r 0 x) = .inr (8, (oC_16 X id r).set 0 (.int x)) := rfl
theorem pC_16_1 (T : Nat → ClassId) (X : Nat → Nat → Nat) (id : Nat) (r : Nat → Int32) (x : Int32) : cfC T X 16 id (va_up r 1 x) = .inr (8, (oC_16 X id r).set 1 (.ref (X 20 x.toNatClampNeg))) := rfl
theorem pC_16_2 (T : Nat → ClassId) (X : Nat → Nat → Nat) (id : Nat) (r : Nat → Int32) (x : Int32) : cfC T X 16 id (va_up r 2 x) = .inr (8, (oC_16 X id r).set 2 (.int x)) := rfl
theorem cC_17 (T : Nat → ClassId) (X : Nat → Nat → Nat) (id : Nat) (r : Nat → Int32) : cfC T X 17 id r = .inr (3, oC_17 X id r) := rfl
theorem pC_17_0 (T : Nat → ClassId) (X : Nat → Nat → Nat) (id : Nat) (r : Nat → Int32) (x : Int32) : cfC T X 17 id (va_up r 0 x) = .inr (3, (oC_17 X id r).set 0 (.int x)) := rfl
theorem pC_17_1 (T : Nat → ClassId) (X : Nat → Nat → Nat) (id : Nat) (r : Nat → Int32) (x : Int32) : cfC T X 17 id (va_up r 1 x) = .inr (3, (oC_17 X id r).set 1 (.int x)) := rfl
theorem pC_17_2 (T : Nat → ClassId) (X : Nat → Nat → Nat) (id : Nat) (r : Nat → Int32) (x : Int32) : cfC T X 17 id (va_up r 2 x) = .inr (3, (oC_17 X id r).set 2 (.int x)) := rfl
theorem pC_17_3 (T : Nat → ClassId) (X : Nat → Nat → Nat) (id : Nat) (r : Nat → Int32) (x : Int32) : cfC T X 17 id (va_up r 3 x) = .inr (3, (oC_17 X id r).set 3 (.int x)) := rfl
theorem cC_18 (T : Nat → ClassId) (X : Nat → Nat → Nat) (id : Nat) (r : Nat → Int32) : cfC T X 18 id r = .inr (6, oC_18 X id r) := rfl
theorem pC_18_0 (T : Nat → ClassId) (X : Nat → Nat → Nat) (id : Nat) (r : Nat → Int32) (x : Int32) : cfC T X 18 id (va_up r 0 x) = .inr (6, (oC_18 X id r).set 0 (.int x)) := rfl
theorem pC_18_1 (T : Nat → ClassId) (X : Nat → Nat → Nat) (id : Nat) (r : Nat → Int32) (x : Int32) : cfC T X 18 id (va_up r 1 x) = .inr (6, (oC_18 X id r).set 1 (.int x)) := rfl
theorem pC_18_2 (T : Nat → ClassId) (X : Nat → Nat → Nat) (id : Nat) (r : Nat → Int32) (x : Int32) : cfC T X 18 id (va_up r 2 x) = .inr (6, (oC_18 X id r).set 2 (.int x)) := rfl
theorem pC_18_3 (T : Nat → ClassId) (X : Nat → Nat → Nat) (id : Nat) (r : Nat → Int32) (x : Int32) : cfC T X 18 id (va_up r 3 x) = .inr (6, (oC_18 X id r).set 3 (.int x)) := rfl
theorem cC_19 (T : Nat → ClassId) (X : Nat → Nat → Nat) (id : Nat) (r : Nat → Int32) : cfC T X 19 id r = .inr (6, oC_19 X id r) := rfl
theorem pC_19_0 (T : Nat → ClassId) (X : Nat → Nat → Nat) (id : Nat) (r : Nat → Int32) (x : Int32) : cfC T X 19 id (va_up r 0 x) = .inr (6, (oC_19 X id r).set 0 (.int x)) := rfl
theorem pC_19_1 (T : Nat → ClassId) (X : Nat → Nat → Nat) (id : Nat) (r : Nat → Int32) (x : Int32) : cfC T X 19 id (va_up r 1 x) = .inr (6, (oC_19 X id r).set 1 (.int x)) := rfl
theorem pC_19_2 (T : Nat → ClassId) (X : Nat → Nat → Nat) (id : Nat) (r : Nat → Int32) (x : Int32) : cfC T X 19 id (va_up r 2 x) = .inr (6, (oC_19 X id r).set 2 (.int x)) := rfl
theorem pC_19_3 (T : Nat → ClassId) (X : Nat → Nat → Nat) (id : Nat) (r : Nat → Int32) (x : Int32) : cfC T X 19 id (va_up r 3 x) = .inr (6, (oC_19 X id r).set 3 (.int x)) := rfl
theorem cC_20 (T : Nat → ClassId) (X : Nat → Nat → Nat) (id : Nat) (r : Nat → Int32) : cfC T X 20 id r = .inl (T 5, (r 1000).toNatClampNeg, .inr (.inr (.inr (.inr (fun j => if j < (r 1001).toNatClampNeg then some (X 19 (512 * (id / 64) + j)) else none))))) := rfl
/-- words that hold of the tables alone, and aren't among the good ones -/
def enC : List Cond := [.methodLinkNest "LoanLetters" 27 ⟨"LoanLetters$Row", "<init>", "()V"⟩ "LoanLetters", .methodLinkNest "LoanLetters$Loan" 47 ⟨"LoanLetters", "isLibrary", "(I)Z"⟩ "LoanLetters", .methodLinkNest "LoanLetters$Deal" 9 ⟨"LoanLetters$Page", "<init>", "()V"⟩ "LoanLetters", .methodLinkNest "LoanLetters$Loan" 19 ⟨"LoanLetters$Page", "<init>", "()V"⟩ "LoanLetters", .castable "LoanLetters$Letter" "LoanLetters$Letter", .castable "LoanLetters$Letter" "java/lang/Object"]
def EN (U : State) : Prop := ∀ w ∈ enC, va_Nw w U
theorem EN_on : ∀ w ∈ enC, w.onTables = true := by decide +kernel
theorem EN.at {U : State} (h : EN U) (k : Nat) {w : Cond} (hk : enC[k]? = some w) : va_Nw w U := h w (List.mem_of_getElem? hk)
theorem EN.same {u U : State} (hv : u.vm = U.vm) (h : EN u) : EN U := fun w hw => va_Nw.same (EN_on w hw) hv (h w hw)
theorem EN.warm {s U : State} (hW : s.WarmedH U.vm) (h : EN s) : EN U := by
  intro w hw
  have hz := h w hw
  unfold enC at hw
  rcases List.mem_cons.mp hw with rfl | hw
  · exact va_Nw.warmM hW hz
  rcases List.mem_cons.mp hw with rfl | hw
  · exact va_Nw.warmM hW hz
  rcases List.mem_cons.mp hw with rfl | hw
  · exact va_Nw.warmM hW hz
  rcases List.mem_cons.mp hw with rfl | hw
  · exact va_Nw.warmM hW hz
  rcases List.mem_cons.mp hw with rfl | hw
  · exact va_Nw.warmC hW hz
  rcases List.mem_cons.mp hw with rfl | hw
  · exact va_Nw.warmC hW hz
  cases hw
section ECM
variable {l : Launch} {D : va_G} {cl : List vw_C} {cf : ew_C} {X : Nat → Nat → Nat} {L : List Nat} {tg : Nat → Nat × Nat} {A : ew_R} {tys : List (ClassId × FieldType)}
/-- a method of the class: its start -/
def ec_Pc (D : va_G) (cl : List vw_C) (tys : List (ClassId × FieldType)) (cf : ew_C) (X : Nat → Nat → Nat) (L : List Nat) (tg : Nat → Nat × Nat) (A : ew_R) (sz : Nat) (av : List Value) : Array Value → State → Prop := va_Pc av (fun U => U.heap.size = sz ∧ ew_V D cl cf (fun _ => True) X L tg A [] U.heap ∧ va_K D cl tys U ∧ EN U)
/-- .. its end, where it answers a reference or null -/
def er_Qq (D : va_G) (cl : List vw_C) (cf : ew_C) (X : Nat → Nat → Nat) (L : List Nat) (tg : Nat → Nat × Nat) (sz : Nat) (post : Option Nat → ew_R → Prop) : Array Value → State → Outcome → State → Prop := va_Qq post (er_B D cl cf X L tg sz) (ew_A L sz)
theorem ec_met {y : MethodName} {ws ws' : List Cond} {rm : Room} {Qc : Array Value → State → Outcome → State → Prop} {mc ms sz maxL : Nat} {free : Addr → Prop} {cc : ByteArray} {ret : Option FieldType} {av : List Value} (hy : plainName y.cls = true) (hw : ws = Cond.code y cc maxL ret :: ws') (hlen : (lg_sl av).length ≤ maxL)
    (body : ∀ (p : Program) (e : Env) (s : State) (m : MethodId) (below : List Frame) (meth : Method) (c : Code) (ls : Array Slot), p.tables.exec = Jvm.exec → c.code = cc → meth.sig.returnType = ret → (∀ w ∈ ws', w.before av.toArray s = true) → s.vm.findClass y.cls = some m.cls → meth.locks = false → c.maxLocals = maxL →
      ew_V D cl cf (ew_A L s.heap.size) X L tg A [] s.heap → va_K D cl tys s → EN s → va_S (ew_A L s.heap.size) s.heap s.heap [] → (∀ q, s.heap.size ≤ q → ew_A L s.heap.size q) → lv_has ls maxL (lv_args 0 av) → s.heap.size = sz →
      W p l e rm s m av.toArray below meth c s.heap [] 0 0 (MQ below Qc av.toArray s mc ms free) (F0 m 0 ls [])) : Met l y ws rm (ec_Pc D cl tys cf X L tg A sz av) Qc mc ms free := by
  refine Met.ofW (cc := cc) (maxL := maxL) (ret := ret) hy hw ?_
  intro p e s m args below meth c s₁ B hml hv
  obtain ⟨rfl, hsz, hV, hK, hN⟩ := hv
  have hl := lv_entry av (n := maxL) hlen
  rw [lg_entry_eq]
  generalize (lg_sl av ++ List.replicate (maxL - (lg_sl av).length) Slot.unset).toArray = ls at hl ⊢
  exact body p e s m below meth c ls B.exec B.bytes B.returns (fun w hw2 => atoms_spec (ws := ws) B.pre w (by rw [hw]; exact List.mem_cons_of_mem _ hw2)) (findClass_of_methodNamed B.named) B.notSynchronized hml (hV.regA _) hK hN va_S.rf (fun q h => Or.inr h) hl hsz
theorem ec_blind {sz : Nat} {av : List Value} : FrameBlind (ec_Pc D cl tys cf X L tg A sz av) := fun a U g mk q => by
  obtain ⟨q0, q1, qV, qK, qN⟩ := q
  exact ⟨q0, q1, qV, va_K.moved (u := U) (U := U.calling g mk a) (Vm.Alike.refl U.vm) qK, EN.same (u := U) (U := U.calling g mk a) rfl qN⟩
variable {p : Program} {e : Env} {R : Room} {s : State} {m : MethodId} {args : Array Value} {below : List Frame} {meth : Method} {c : Code} {H : Heap} {locs : List Loc} {cells slots : Nat} {cc : ByteArray} {pc : Nat} {ls : Array Slot} {A0 : Nat → Prop} {H0 : Heap} {mc ms : Nat} {rest st0 : List Value} {a : Array Value} {Q : State → Prop}
theorem ec_preS {As : List Value} (hK : va_K D cl tys s) (hN : EN s) (hV : ew_V D cl cf A0 X L tg A [] H) : PreS s H (ec_Pc D cl tys cf X L tg A H.size As) As :=
  ⟨ec_blind, fun U hU hW => ⟨rfl, by rw [hU], by rw [hU]; exact hV.reg0, va_K.moved hW.alike hK, EN.warm hW hN⟩⟩
theorem ec_preV {As : List Value} {C : String} {T : u_T} {N ci kd id b : Nat} {fs : List Value} (hK : va_K D cl tys s) (hN : EN s) (hV : ew_V D cl cf A0 X L tg A [] H) (hi : ew_in X L tg kd id b) (he : cf X kd id (A kd id) = .inr (ci, fs)) (hc : cl[ci]? = some (C, T, N)) : PreV s H C b (ec_Pc D cl tys cf X L tg A H.size (.ref b :: As)) As := by
  obtain ⟨q0, hq⟩ := ew_at (cf := cf) (A := A) (ex := []) hi
  rw [he] at hq
  exact ⟨ec_blind, va_recv hK hV.1 hc hq, fun U hU hW => ⟨rfl, by rw [hU], by rw [hU]; exact hV.reg0, va_K.moved hW.alike hK, EN.warm hW hN⟩⟩
theorem er_callq {post : Option Nat → ew_R → Prop} (hr : va_Run p l e R s m args below meth c H locs cells slots mc ms (F0 m pc ls st0) rest (er_Qq D cl cf X L tg H.size post a) (ew_A L H.size)) (hV : ew_V D cl cf A0 X L tg A [] H) (hS : va_S A0 H0 H locs) (hA : ∀ q, H0.size ≤ q → A0 q)
    (kk : ∀ (r : Option Nat) (u : ew_R) (H1 : Heap) (locs1 : List Loc), post r u → ew_V D cl cf A0 X L tg u [] H1 → va_S A0 H0 H1 locs1 → W p l e R s m args below meth c H1 locs1 (cells + mc) (slots + ms) Q (F0 m (pc + 3) ls (va_rf r :: rest))) : W p l e R s m args below meth c H locs cells slots Q (F0 m pc ls st0) :=
  va_callq hr hS (ew_hA hV) (ew_hf hV hS hA) (fun r u t H1 locs1 ht _ hp hB _ _ hS1 => kk r u H1 locs1 hp (by rw [← ht]; exact ew_V.reg hB (fun _ h => hV.own h)) hS1)
theorem er_aret {post : Option Nat → ew_R → Prop} {v : Value} {r : Option Nat} {n : String} (hx : p.tables.exec = Jvm.exec) (hb : c.code = cc) (hr : meth.sig.returnType = some (.object n)) (hlocks : meth.locks = false) (hV : ew_V D cl cf (ew_A L s.heap.size) X L tg A [] H) (hS : va_S (ew_A L s.heap.size) s.heap H locs) (hdg : decode cc pc = .ok (.areturn, 1)) (hv : va_rf r = v) (hp : post r A) :
    W p l e R s m args below meth c H locs cells slots (MQ below (er_Qq D cl cf X L tg s.heap.size post) args s cells slots (ew_A L s.heap.size)) (F0 m pc ls [v]) := by
  subst hv
  exact W.aret hx hb hr (Or.inl ⟨_, rfl⟩) (va_rf_or r) (fun t ht _ => ⟨⟨r, A, rfl, hp, by unfold er_B; rw [ht]; exact hV⟩, hS.F ht⟩) hS.2.2 hdg hlocks
end ECM
theorem ew_in.self {X : Nat → Nat → Nat} {L : List Nat} {tg : Nat → Nat × Nat} {c i a : Nat} (h : ew_in X L tg c i a) : ew_in X L tg c i (X c i) := by
  obtain ⟨rfl, h2, h3⟩ := h
  exact ⟨rfl, h2, h3⟩
theorem ec_rd {X : Nat → Nat} {x : Int32} {d : Nat} (h : x = nI d) (hd : d < 2 ^ 31) : some (Value.ref (X x.toNatClampNeg)) = some (Value.ref (X d)) := by rw [h, nI_clamp hd]
theorem ec_nn {x : Int32} {q : Nat} (h : ¬ x = 0) : va_rf (if x = 0 then none else some q) = Value.ref q := by rw [if_neg h]; rfl
theorem ec_nu {x : Int32} {q : Nat} (h : x = 0) : va_rf (if x = 0 then none else some q) = Value.null := by rw [if_pos h]; rfl
theorem ec_cn {X : Nat → Nat} {x : Int32} (h : x = (-1)) : some (va_rf (if x = (-1) then none else some (X x.toNatClampNeg))) = some Value.null := by rw [if_pos h]; rfl
theorem nI_m1 {c : Nat} (h : c < 2 ^ 31) : ¬ nI c = (-1) := fun q => by
  have a := nI_toInt h
  rw [q, show (-1 : Int32).toInt = -1 by decide] at a
  omega
theorem ec_cs {X : Nat → Nat} {x : Int32} {c : Nat} (h : x = nI c) (hc : c < 2 ^ 31) : some (va_rf (if x = (-1) then none else some (X x.toNatClampNeg))) = some (Value.ref (X c)) := by
  rw [h, if_neg (nI_m1 hc), nI_clamp hc]
  rfl
