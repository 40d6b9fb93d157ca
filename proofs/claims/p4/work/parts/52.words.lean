/-- a row copied as far as k -/
def cpy (C C1 : Nat → Int32) (bt bf k : Int) : Prop := ∀ j : Int, 0 ≤ j → j < k → C1 (bt + j).toNat = C (bf + j).toNat
theorem cpy.z {C C1 : Nat → Int32} {bt bf k : Int} (hk : k ≤ 0) : cpy C C1 bt bf k := fun j h1 h2 => by omega
theorem cpy.s {C : Nat → Int32} {A A1 : Nat → Nat → Int32} {bt bf k k1 i i2 : Int} {x : Int32} (h : cpy C (A 40) bt bf k) (f : fC C (A 40) bt [(0, 1289)]) (hb : 0 ≤ bt ∧ 0 ≤ bf ∧ (bf + 1290 ≤ bt ∨ bt + 1290 ≤ bf)) (hk : 0 ≤ k ∧ k < 1290) (hk1 : k1 = k + 1) (e : A1 = va_up A 40 (upd (A 40) i.toNat x)) (hi : i = bt + k) (hx : x = A 40 i2.toNat) (hi2 : i2 = bf + k) : cpy C (A1 40) bt bf k1 := fun j h1 h2 => by
  rw [e, va_up_self]
  rcases (by omega : j < k ∨ j = k) with h9 | h9
  · rw [pk_un (by omega)]; exact h j h1 h9
  · rw [h9, ← hi, pk_us, hx, hi2]
    refine f (bf + k) (by omega) (fun p hp => ?_)
    rw [List.mem_singleton.mp hp]
    simp only
    omega
theorem tp_cp {f : Nat → Int32} {A : Nat → Nat → Int32} (hT : mT f A) {i : Int32} {b b2 k : Int} (hb : zRow b) (hb2 : zRow b2) (hk : 0 ≤ k ∧ k ≤ 1289) (hi : zEq i.toInt (b + k)) : tA 40 i.toNatClampNeg (A 40 (b2 + k).toNat) := by
  unfold zRow at hb hb2
  unfold zEq at hi
  have h0 := z_cl (i := i) (by omega)
  have h9 : tP ((b2 + k).toNat % 1290) (A 40 (b2 + k).toNat) := hT.2 40 (b2 + k).toNat (by show (b2 + k).toNat < 47730; omega)
  show tP (i.toNatClampNeg % 1290) _
  rwa [show i.toNatClampNeg % 1290 = (b2 + k).toNat % 1290 by omega]
theorem tp_z {i : Int32} : tA 40 i.toNatClampNeg 0 := by
  show tP (i.toNatClampNeg % 1290) 0
  have h0 := ti_0
  refine ⟨?_, ?_, ?_, ?_, ?_, ?_, ?_, ?_, ?_, ?_, ?_, ?_⟩ <;> intros <;> omega
/-- a deal has begun -/
def z4 (C : Nat → Int32) (b : Int) : Prop := (C (b + 20).toNat).toInt = 0 ∧ (C (b + 26).toNat).toInt = 0 ∧ (C (b + 43).toNat).toInt = 0 ∧ (C (b + 44).toNat).toInt = 0
theorem z4.st {A A1 : Nat → Nat → Int32} {b i : Int} {x : Int32} (h : z4 (A 40) b) (hb : 0 ≤ b) (e : A1 = va_up A 40 (upd (A 40) i.toNat x)) (hi : 0 ≤ i ∧ i ≠ b + 20 ∧ i ≠ b + 26 ∧ i ≠ b + 43 ∧ i ≠ b + 44) : z4 (A1 40) b := by
  unfold z4
  rw [e, va_up_self, pk_un (by omega), pk_un (by omega), pk_un (by omega), pk_un (by omega)]
  exact h
/-- the first n hands are not dealt -/
def hM1 (C : Nat → Int32) (b n : Int) : Prop := ∀ q : Int, 0 ≤ q → q < n → (C (b + q + 22).toNat).toInt = -1
theorem hM1.z {C : Nat → Int32} {b n : Int} (hn : n ≤ 0) : hM1 C b n := fun q h1 h2 => by omega
theorem hM1.s {A A1 : Nat → Nat → Int32} {b i n n1 : Int} {x : Int32} (h : hM1 (A 40) b n) (hb : 0 ≤ b) (hn : 0 ≤ n ∧ n1 = n + 1) (e : A1 = va_up A 40 (upd (A 40) i.toNat x)) (hi : i = b + n + 22) (hx : x.toInt = -1) : hM1 (A1 40) b n1 := fun q h1 h2 => by
  rw [e, va_up_self]
  rcases (by omega : q < n ∨ q = n) with h9 | h9
  · rw [pk_un (by omega)]; exact h q h1 h9
  · rw [h9, ← hi, pk_us]; exact hx
theorem hM1.st {A A1 : Nat → Nat → Int32} {b i n : Int} {x : Int32} (h : hM1 (A 40) b n) (hb : 0 ≤ b) (hn : n ≤ 4) (e : A1 = va_up A 40 (upd (A 40) i.toNat x)) (hi : 0 ≤ i ∧ (i < b + 22 ∨ b + 25 < i)) : hM1 (A1 40) b n := fun q h1 h2 => by
  rw [e, va_up_self, pk_un (by omega)]; exact h q h1 h2
/-- the rest in order, as far as k -/
def rI (C : Nat → Int32) (b n : Int) : Prop := ∀ k : Int, 0 ≤ k → k < n → (C (b + k + 170).toNat).toInt = k
theorem rI.z {C : Nat → Int32} {b n : Int} (hn : n ≤ 0) : rI C b n := fun q h1 h2 => by omega
theorem rI.s {A A1 : Nat → Nat → Int32} {b i n n1 : Int} {x : Int32} (h : rI (A 40) b n) (hb : 0 ≤ b) (hn : 0 ≤ n ∧ n1 = n + 1) (e : A1 = va_up A 40 (upd (A 40) i.toNat x)) (hi : i = b + n + 170) (hx : x.toInt = n) : rI (A1 40) b n1 := fun q h1 h2 => by
  rw [e, va_up_self]
  rcases (by omega : q < n ∨ q = n) with h9 | h9
  · rw [pk_un (by omega)]; exact h q h1 h9
  · rw [h9, ← hi, pk_us]; exact hx
theorem rI.st {A A1 : Nat → Nat → Int32} {b i n : Int} {x : Int32} (h : rI (A 40) b n) (hb : 0 ≤ b) (hn : n ≤ 60) (e : A1 = va_up A 40 (upd (A 40) i.toNat x)) (hi : 0 ≤ i ∧ (i < b + 170 ∨ b + 229 < i)) : rI (A1 40) b n := fun q h1 h2 => by
  rw [e, va_up_self, pk_un (by omega)]; exact h q h1 h2
/-- a deal as it begins: nothing dealt -/
def bgn (C : Nat → Int32) (b : Int) : Prop := z4 C b ∧ hM1 C b 4 ∧ (C (b + 21).toNat).toInt = (C (b + 1).toNat).toInt ∧ rK C b
theorem rK.of {C : Nat → Int32} {b n : Int} (h : rI C b n) (hn : (C (b + 1).toNat).toInt ≤ n) (h21 : (C (b + 21).toNat).toInt = (C (b + 1).toNat).toInt) : rK C b := fun c c0 c1 _ => ⟨c, c0, by omega, h c c0 (by omega)⟩
theorem hS_m1 {C : Nat → Int32} {b : Int} (h : hM1 C b 4) : hS C b = 0 := by
  have g : ∀ q : Int, 0 ≤ q → q ≤ 3 → mx (hd C b q) = 0 := fun q h1 h2 => mx_0 (by unfold hd; rw [h q h1 (by omega)]; decide)
  unfold hS
  rw [g 0 (by decide) (by decide), g 1 (by decide) (by decide), g 2 (by decide) (by decide), g 3 (by decide) (by decide)]; rfl
theorem bgn.row {C : Nat → Int32} {b : Int} (h : bgn C b) (hp : (C (b + 1).toNat).toInt ≤ 60) : rowP C b := by
  obtain ⟨⟨h1, h2, h3, h4⟩, h5, h6, h7⟩ := h
  refine ⟨?_, dL.z (by omega), h7⟩
  unfold rS
  rw [hS_m1 h5]
  omega
