theorem z_b01 {x : Int32} (h : 0 ≤ x.toInt ∧ x.toInt ≤ 1) : x = 0 ∨ x = 1 := by
  rcases (by omega : x.toInt = 0 ∨ x.toInt = 1) with h | h
  · left; rw [fa_eq, h]; decide +kernel
  · right; rw [fa_eq, h]; decide +kernel
/-- a card's colour, by its kind -/
def mcolK (k c : Int32) : Int32 := if k.toInt = 0 then c - c / 4 * 4 else 3 + k
def mcol (C : Nat → Int32) (o c : Int32) : Int32 := mcolK (C (o.toInt + c.toInt + 50).toNat) c
/-- a seat that isn't among the first n layers -/
def nL (C : Nat → Int32) (b q n : Int) : Prop := ∀ i : Int, 0 ≤ i → i < n → (C (b + i + 31).toNat).toInt ≠ q
theorem nL.mono {C : Nat → Int32} {b q n n' : Int} (h : nL C b q n) (hn : n' ≤ n) : nL C b q n' := fun i h1 h2 => h i h1 (by omega)
theorem nL.z {C : Nat → Int32} {b q n : Int} (hn : n ≤ 0) : nL C b q n := fun i h1 h2 => by omega
theorem nL.s {C : Nat → Int32} {b q n n' : Int} (h : nL C b q n) (hn : n' = n + 1) (hc : (C (b + n + 31).toNat).toInt ≠ q) : nL C b q n' := fun i h1 h2 => by
  rcases (by omega : i < n ∨ i = n) with h9 | h9
  · exact h i h1 h9
  · rw [h9]; exact hc
/-- the first n hands have at most four cards -/
def h4 (C : Nat → Int32) (b n : Int) : Prop := ∀ q : Int, 0 ≤ q → q < n → (C (b + q + 22).toNat).toInt ≤ 4
theorem h4.z {C : Nat → Int32} {b n : Int} (hn : n ≤ 0) : h4 C b n := fun i h1 h2 => by omega
theorem h4.s {C : Nat → Int32} {b n n' : Int} (h : h4 C b n) (hn : n' = n + 1) (hc : (C (b + n + 22).toNat).toInt ≤ 4) : h4 C b n' := fun i h1 h2 => by
  rcases (by omega : i < n ∨ i = n) with h9 | h9
  · exact h i h1 h9
  · rw [h9]; exact hc
theorem h4.e {C : Nat → Int32} {b n n' : Int} (h : h4 C b n) (hn : n' = n) : h4 C b n' := by rw [hn]; exact h
theorem z_shl1 {x n : Int32} (e : x = 1 <<< (n &&& 31)) (h : 0 ≤ n.toInt ∧ n.toInt ≤ 15) : 0 < x.toInt ∧ x.toInt ≤ 65535 := by
  obtain ⟨j, hj, rfl⟩ : ∃ j : Nat, j < 16 ∧ n = nI j := by
    refine ⟨n.toInt.toNat, by omega, ?_⟩
    rw [fa_eq, nI_toInt (by omega)]
    omega
  subst e
  have : ∀ j, j < 16 → 0 < ((1 : Int32) <<< (nI j &&& 31)).toInt ∧ ((1 : Int32) <<< (nI j &&& 31)).toInt ≤ 65535 := by decide +kernel
  exact this j hj
theorem z_or16 {x a b : Int32} (e : x = a ||| b) (ha : 0 ≤ a.toInt ∧ a.toInt ≤ 65535) (hb : 0 ≤ b.toInt ∧ b.toInt ≤ 65535) : 0 ≤ x.toInt ∧ x.toInt ≤ 65535 ∧ a.toInt ≤ x.toInt ∧ b.toInt ≤ x.toInt := by
  have h1 : x.toBitVec.toNat = a.toBitVec.toNat ||| b.toBitVec.toNat := by rw [e]; rfl
  have ha2 := z_nn ha.1
  have hb2 := z_nn hb.1
  have h2 : a.toBitVec.toNat ||| b.toBitVec.toNat < 2 ^ 16 := Nat.or_lt_two_pow (by omega) (by omega)
  have h3 := z_ofN (x := x) (by rw [h1]; omega)
  have h4 : a.toBitVec.toNat ≤ a.toBitVec.toNat ||| b.toBitVec.toNat := Nat.left_le_or
  have h5 : b.toBitVec.toNat ≤ a.toBitVec.toNat ||| b.toBitVec.toNat := Nat.right_le_or
  omega
