theorem fa_lt (a b : Int32) : a < b ↔ a.toInt < b.toInt := Int32.lt_iff_toInt_lt
theorem fa_le (a b : Int32) : a ≤ b ↔ a.toInt ≤ b.toInt := Int32.le_iff_toInt_le
theorem fa_eq (a b : Int32) : a = b ↔ a.toInt = b.toInt := Int32.toInt_inj.symm
theorem ti_m1 : (-1 : Int32).toInt = -1 := by decide +kernel
theorem ti_0 : (0 : Int32).toInt = 0 := by decide +kernel
theorem ti_1 : (1 : Int32).toInt = 1 := by decide +kernel
theorem ti_2 : (2 : Int32).toInt = 2 := by decide +kernel
theorem ti_3 : (3 : Int32).toInt = 3 := by decide +kernel
theorem ti_4 : (4 : Int32).toInt = 4 := by decide +kernel
theorem ti_5 : (5 : Int32).toInt = 5 := by decide +kernel
theorem ti_6 : (6 : Int32).toInt = 6 := by decide +kernel
theorem ti_60 : (60 : Int32).toInt = 60 := by decide +kernel
/-- no table among those of the row has a game -/
def fr_T (ft : Nat → Option Nat) (TL : va_W) : Prop := ∀ j, j < 4 → ∃ (a k : Nat) (fs : List Value), ft j = some a ∧ TL[k]? = some (a, .inr (8, fs)) ∧ fs[1]? = some .null
/-- a new CardTables: no games, tables without one, nothing told -/
abbrev wX (a : Nat → Nat) (cG cT : ClassId) (ft : Nat → Option Nat) (TL : va_W) : va_W := (a 0, .inr (10, [.ref (a 1), .ref (a 2), .ref (a 4), .ref (a 5), .ref (a 6), .ref (a 7), .ref (a 3), .ref (a 8), .ref (a 9)])) :: (a 1, .inl (cG, 6, .inr (.inr (.inr (.inr (fun _ => none)))))) :: (a 2, .inl (cT, 4, .inr (.inr (.inr (.inr ft))))) :: (a 3, .inr (5, [.int 0, .ref (a 10), .ref (a 11), .int 0, .int 0, .int 0, .int 0])) :: TL
abbrev tX (cG cT : ClassId) : List (ClassId × FieldType) := [(cG, .object RX4), (cT, .object RX9)]
/-- a new reference: no tables, no games -/
abbrev wM (b : Nat → Nat) (c1 c2 c3 c4 : ClassId) (fk : Nat → Int32) : va_W := [(b 0, .inr (11, [.ref (b 5), .ref (b 1), .ref (b 6), .ref (b 2), .ref (b 3), .ref (b 4), .int 0, .int 0, .ref (b 7), .int 0, .ref (b 8), .int 0, .int 0, .ref (b 9), .int 0, .ref (b 10), .int 0, .int 0, .ref (b 11), .ref (b 12), .int 0, .ref (b 13), .ref (b 14), .int (-1), .int 0, .int 0, .ref (b 15), .int 0, .int 0, .ref (b 16), .ref (b 17), .ref (b 18), .ref (b 19), .ref (b 20), .int 0, .int 0])), (b 1, .inl (c1, 4, .inl (fun _ => 0))), (b 2, .inl (c2, 6, .inl fk)), (b 3, .inl (c3, 6, .inl (fun _ => 0))), (b 4, .inl (c4, 6, .inl (fun _ => 0)))]
abbrev tM (c1 c2 c3 c4 : ClassId) : List (ClassId × FieldType) := [(c1, .boolean), (c2, .int), (c3, .int), (c4, .int)]
/-- what game() answers when nothing is there -/
def f_game (g k : Int32) : Int32 := if g < 0 ∨ 5 < g then -2 else if k = 4 then -2 else if k < 0 ∨ 4 < k then -3 else 1
def f_finding (w : Int32) : Int32 := if w < 0 ∨ 4 < w then -3 else -1
def f_count (w : Int32) : Int32 := if w < 0 ∨ 4 < w then -3 else 0
