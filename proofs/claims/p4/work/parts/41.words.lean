theorem z_0and (x : Int32) : (0 : Int32) &&& x = 0 := by
  apply Int32.toBitVec_inj.mp
  show 0#32 &&& x.toBitVec = 0#32
  simp
/-- a hand that isn't empty: the set of all places isn't -/
def aOk (C : Nat → Int32) (b all : Int) : Prop := ∀ q : Int, 0 ≤ q → q < 4 → 1 ≤ (C (b + q + 22).toNat).toInt → 0 < all
def aOkN (C : Nat → Int32) (b all n : Int) : Prop := ∀ q : Int, 0 ≤ q → q < n → 1 ≤ (C (b + q + 22).toNat).toInt → 0 < all
theorem aOkN.z {C : Nat → Int32} {b all n : Int} (hn : n ≤ 0) : aOkN C b all n := fun i h1 h2 => by omega
theorem aOkN.s {C : Nat → Int32} {b all all' n n' : Int} (h : aOkN C b all n) (hn : n' = n + 1) (ha : all ≤ all') (hc : 1 ≤ (C (b + n + 22).toNat).toInt → 0 < all') : aOkN C b all' n' := fun i h1 h2 h3 => by
  rcases (by omega : i < n ∨ i = n) with h9 | h9
  · have := h i h1 h9 h3; omega
  · rw [h9] at h3; exact hc h3
/-- the next set within a: greater, or none -/
theorem sub_next {m a x y : Int32} (ex : x = m - a) (ey : y = x &&& a) (ha : 0 ≤ a.toInt ∧ a.toInt ≤ 65535) (hm : 0 ≤ m.toInt ∧ m.toInt ≤ 65535) (hs : m &&& a = m) : y &&& a = y ∧ (y.toInt = 0 ∨ m.toInt < y.toInt) ∧ 0 ≤ y.toInt ∧ y.toInt ≤ 65535 := by
  have hy := z_and ey rfl ha.1
  have e1 : y &&& a = y := by
    apply Int32.toBitVec_inj.mp
    have : y.toBitVec = x.toBitVec &&& a.toBitVec := by rw [ey]; rfl
    show y.toBitVec &&& a.toBitVec = y.toBitVec
    rw [this, BitVec.and_assoc, BitVec.and_self]
  refine ⟨e1, ?_, hy.1, by omega⟩
  -- in numbers
  have a2 := z_nn ha.1
  have m2 := z_nn hm.1
  have y2 := z_nn hy.1
  generalize hA : a.toBitVec.toNat = na at a2
  generalize hMm : m.toBitVec.toNat = nm at m2
  have hsub : nm &&& na = nm := by
    have h := congrArg (fun z : Int32 => z.toBitVec.toNat) hs
    have h2 : (m &&& a).toBitVec.toNat = m.toBitVec.toNat &&& a.toBitVec.toNat := rfl
    simp only [h2, hA, hMm] at h
    exact h
  have hle : nm ≤ na := by rw [← hsub]; exact Nat.and_le_right
  have hx : x.toBitVec.toNat = (4294967296 - (na - nm)) % 4294967296 := by
    have h2 : x.toBitVec = m.toBitVec - a.toBitVec := by rw [ex]; rfl
    rw [h2, BitVec.toNat_sub, hA, hMm]
    omega
  have hyN : y.toBitVec.toNat = x.toBitVec.toNat &&& na := by
    have h2 : y.toBitVec = x.toBitVec &&& a.toBitVec := by rw [ey]; rfl
    rw [h2, BitVec.toNat_and, hA]
  by_cases hd : na - nm = 0
  · left
    have : y.toBitVec.toNat = 0 := by rw [hyN, hx, hd]; simp
    omega
  · right
    have hx2 : x.toBitVec.toNat = 4294967295 - (na - nm - 1) := by rw [hx]; omega
    -- the complement of (na - nm - 1), within na
    have key : (4294967295 - (na - nm - 1)) &&& na = na - ((na - nm - 1) &&& na) := by
      have hb : na - nm - 1 < 2 ^ 32 := by omega
      have hna : na < 2 ^ 32 := by omega
      have h1 : ((4294967295 - (na - nm - 1)) &&& na) + ((na - nm - 1) &&& na) = na := by
        have hbv : ∀ u v : BitVec 32, (~~~u &&& v).toNat + (u &&& v).toNat = v.toNat := by
          intro u v
          have hdis : (~~~u &&& v) &&& (u &&& v) = 0#32 := by
            rw [BitVec.and_assoc, ← BitVec.and_assoc v u v, BitVec.and_comm v u, BitVec.and_assoc u v v, BitVec.and_self, ← BitVec.and_assoc, BitVec.and_comm (~~~u) u]
            simp
          have hor : (~~~u &&& v) ||| (u &&& v) = v := by
            ext i hi
            simp
            cases u[i] <;> cases v[i] <;> rfl
          have hadd := BitVec.add_eq_or_of_and_eq_zero _ _ hdis
          rw [hor] at hadd
          have h3 := congrArg BitVec.toNat hadd
          rw [BitVec.toNat_add] at h3
          have l1 : (~~~u &&& v).toNat ≤ v.toNat := by rw [BitVec.toNat_and]; exact Nat.and_le_right
          have l2 : (u &&& v).toNat ≤ v.toNat := by rw [BitVec.toNat_and]; exact Nat.and_le_right
          have l3 := v.isLt
          by_cases hov : (~~~u &&& v).toNat + (u &&& v).toNat < 2 ^ 32
          · rw [Nat.mod_eq_of_lt hov] at h3; exact h3
          · exfalso; omega
        have h9 := hbv (BitVec.ofNat 32 (na - nm - 1)) (BitVec.ofNat 32 na)
        rw [BitVec.toNat_and, BitVec.toNat_and, BitVec.toNat_not, BitVec.toNat_ofNat, BitVec.toNat_ofNat, Nat.mod_eq_of_lt hb, Nat.mod_eq_of_lt hna] at h9
        have : 2 ^ 32 - 1 - (na - nm - 1) = 4294967295 - (na - nm - 1) := by omega
        rw [this] at h9
        exact h9
      omega
    have hlt : (na - nm - 1) &&& na ≤ na - nm - 1 := Nat.and_le_left
    rw [hx2, key] at hyN
    omega
