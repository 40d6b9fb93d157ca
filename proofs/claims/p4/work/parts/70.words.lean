/-- a game stands there -/
def isG (k : Nat → Int32) (g : Int32) : Prop := 0 ≤ g.toInt ∧ g.toInt ≤ 5 ∧ (k g.toNatClampNeg).toInt ≠ -1
/-- what game answers -/
def gC1 (k : Nat → Int32) (g kind a b : Int32) : Prop := ¬ (0 ≤ g.toInt ∧ g.toInt ≤ 5) ∨ (kind.toInt = 4 ∧ (¬ isG k a ∨ ¬ isG k b))
def gC2 (kind : Int32) : Prop := ¬ (0 ≤ kind.toInt ∧ kind.toInt ≤ 4)
def gC3 (k : Nat → Int32) (kind a b : Int32) : Prop := kind.toInt = 4 ∧ ((k a.toNatClampNeg).toInt = 4 ∨ (k b.toNatClampNeg).toInt = 4)
def gaR (k : Nat → Int32) (g kind a b : Int32) (r : Int) : Prop := (gC1 k g kind a b ∧ r = -2) ∨ (¬ gC1 k g kind a b ∧ gC2 kind ∧ r = -3) ∨ (¬ gC1 k g kind a b ∧ ¬ gC2 kind ∧ gC3 k kind a b ∧ r = -4) ∨ (¬ gC1 k g kind a b ∧ ¬ gC2 kind ∧ ¬ gC3 k kind a b ∧ r = 1)
theorem gaR.one {k : Nat → Int32} {g kind a b : Int32} {r r1 : Int} (h : gaR k g kind a b r) (h1 : gaR k g kind a b r1) : r = r1 := by
  rcases h with ⟨a1, e⟩ | ⟨a1, a2, e⟩ | ⟨a1, a2, a3, e⟩ | ⟨a1, a2, a3, e⟩ <;> rcases h1 with ⟨b1, e1⟩ | ⟨b1, b2, e1⟩ | ⟨b1, b2, b3, e1⟩ | ⟨b1, b2, b3, e1⟩ <;> first | contradiction | (rw [e, e1])
