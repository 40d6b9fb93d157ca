/-- a card's colour, by its kind -/
def mcolK (k c : Int32) : Int32 := if k.toInt = 0 then c - c / 4 * 4 else 3 + k
def mcol (C : Nat → Int32) (o c : Int32) : Int32 := mcolK (C (o.toInt + c.toInt + 50).toNat) c
