theorem fa_lt (a b : Int32) : a < b ↔ a.toInt < b.toInt := Int32.lt_iff_toInt_lt
theorem fa_le (a b : Int32) : a ≤ b ↔ a.toInt ≤ b.toInt := Int32.le_iff_toInt_le
theorem fa_eq (a b : Int32) : a = b ↔ a.toInt = b.toInt := Int32.toInt_inj.symm
theorem z_rng (x : Int32) : -2147483648 ≤ x.toInt ∧ x.toInt < 2147483648 := ⟨Int32.le_toInt x, Int32.toInt_lt x⟩
theorem z_bm (x : Int) : ∃ k : Int, x.bmod 4294967296 = x + 4294967296 * k := by
  rw [Int.bmod_def]
  split
  · exact ⟨-(x / 4294967296), by omega⟩
  · exact ⟨-(x / 4294967296) - 1, by omega⟩
theorem z_inr {x : Int32} {X : Int} (e : x.toInt = X.bmod 4294967296) (h : -2147483648 ≤ X ∧ X < 2147483648) : x.toInt = X := by
  obtain ⟨k, hk⟩ := z_bm X
  have h2 := z_rng x
  omega
theorem z_add {x a b : Int32} {A B : Int} (e : x = a + b) (ha : a.toInt = A) (hb : b.toInt = B) : (x.toInt = A + B ∨ (A + B < -2147483648 ∧ x.toInt = A + B + 4294967296) ∨ (2147483648 ≤ A + B ∧ x.toInt = A + B - 4294967296)) ∧ -2147483648 ≤ x.toInt ∧ x.toInt < 2147483648 := by
  have ra := z_rng a
  have rb := z_rng b
  have h := z_rng x
  obtain ⟨k, hk⟩ := z_bm (A + B)
  have h2 : x.toInt = (A + B).bmod 4294967296 := by rw [e, Int32.toInt_add, ha, hb]
  omega
theorem z_sub {x a b : Int32} {A B : Int} (e : x = a - b) (ha : a.toInt = A) (hb : b.toInt = B) : (x.toInt = A - B ∨ (A - B < -2147483648 ∧ x.toInt = A - B + 4294967296) ∨ (2147483648 ≤ A - B ∧ x.toInt = A - B - 4294967296)) ∧ -2147483648 ≤ x.toInt ∧ x.toInt < 2147483648 := by
  have ra := z_rng a
  have rb := z_rng b
  have h := z_rng x
  obtain ⟨k, hk⟩ := z_bm (A - B)
  have h2 : x.toInt = (A - B).bmod 4294967296 := by rw [e, Int32.toInt_sub, ha, hb]
  omega
theorem z_mul {x a b : Int32} {A B : Int} (e : x = a * b) (ha : a.toInt = A) (hb : b.toInt = B) : (x.toInt = A * B ∨ A * B < -2147483648 ∨ 2147483648 ≤ A * B) ∧ -2147483648 ≤ x.toInt ∧ x.toInt < 2147483648 := by
  refine ⟨?_, z_rng x⟩
  rcases Classical.em (-2147483648 ≤ A * B ∧ A * B < 2147483648) with h | h
  · exact Or.inl (z_inr (by rw [e, Int32.toInt_mul, ha, hb]) h)
  · right; omega
theorem z_nn {x : Int32} (h : 0 ≤ x.toInt) : x.toInt = (x.toBitVec.toNat : Int) := by
  have h1 : x.toInt = x.toBitVec.toInt := rfl
  rw [h1] at h ⊢
  rw [BitVec.toInt_eq_toNat_cond] at h ⊢
  split at h <;> split <;> omega
theorem z_ofN {x : Int32} (h : x.toBitVec.toNat < 2147483648) : x.toInt = (x.toBitVec.toNat : Int) := by
  have h1 : x.toInt = x.toBitVec.toInt := rfl
  rw [h1, BitVec.toInt_eq_toNat_cond]
  split <;> omega
theorem z_and {x a b : Int32} {B : Int} (e : x = a &&& b) (hb : b.toInt = B) (h0 : 0 ≤ B) : 0 ≤ x.toInt ∧ x.toInt ≤ B := by
  have h1 : x.toBitVec.toNat = a.toBitVec.toNat &&& b.toBitVec.toNat := by rw [e]; rfl
  have h2 : x.toBitVec.toNat ≤ b.toBitVec.toNat := by rw [h1]; exact Nat.and_le_right
  have h3 := z_nn (x := b) (by omega)
  have h4 := z_rng b
  have h5 := z_ofN (x := x) (by omega)
  omega
theorem z_andL {x a b : Int32} {A : Int} (e : x = a &&& b) (ha : a.toInt = A) (h0 : 0 ≤ A) : 0 ≤ x.toInt ∧ x.toInt ≤ A := by
  have h1 : x.toBitVec.toNat = a.toBitVec.toNat &&& b.toBitVec.toNat := by rw [e]; rfl
  have h2 : x.toBitVec.toNat ≤ a.toBitVec.toNat := by rw [h1]; exact Nat.and_le_left
  have h3 := z_nn (x := a) (by omega)
  have h4 := z_rng a
  have h5 := z_ofN (x := x) (by omega)
  omega
theorem z_max {x a b : Int32} {A B : Int} (e : x = if a < b then b else a) (ha : a.toInt = A) (hb : b.toInt = B) : A ≤ x.toInt ∧ B ≤ x.toInt ∧ (x.toInt = A ∨ x.toInt = B) := by
  subst e; subst ha; subst hb
  by_cases h : a < b
  · rw [if_pos h]; rw [fa_lt] at h; omega
  · rw [if_neg h]; rw [fa_lt] at h; omega
theorem z_div {x a b : Int32} {A B : Int} (e : x = a / b) (ha : a.toInt = A) (hb : b.toInt = B) (h0 : 0 ≤ A) (h1 : 0 < B) : x.toInt = A / B := by
  subst ha; subst hb
  rw [e, Int32.toInt_div, Int.tdiv_eq_ediv_of_nonneg h0]
  have h2 := Int.ediv_nonneg h0 (by omega : 0 ≤ b.toInt)
  have h3 : a.toInt / b.toInt ≤ a.toInt := Int.ediv_le_self _ h0
  have h4 := z_rng a
  obtain ⟨k, hk⟩ := z_bm (a.toInt / b.toInt)
  have h5 := z_rng x
  rw [e, Int32.toInt_div, Int.tdiv_eq_ediv_of_nonneg h0, show ((2 : Nat) ^ 32) = 4294967296 from rfl] at h5
  rw [show ((2 : Nat) ^ 32) = 4294967296 from rfl]
  omega
theorem z_tq {A B : Int} (h1 : 0 < B) : (0 ≤ A → 0 ≤ A.tdiv B ∧ A.tdiv B ≤ A ∧ 0 ≤ B * A.tdiv B ∧ B * A.tdiv B ≤ A ∧ A < B * A.tdiv B + B ∧ A.tdiv B = A / B) := by
  intro h0
  rw [Int.tdiv_eq_ediv_of_nonneg h0]
  have h2 := Int.ediv_nonneg h0 (by omega : 0 ≤ B)
  have h3 : A / B ≤ A := Int.ediv_le_self _ h0
  have h4 := Int.emod_nonneg A (by omega : B ≠ 0)
  have h5 := Int.emod_lt_of_pos A h1
  have h6 := Int.emod_add_mul_ediv A B
  have h7 : 0 ≤ B * (A / B) := Int.mul_nonneg (by omega) h2
  refine ⟨h2, h3, h7, ?_, ?_, rfl⟩ <;> omega
theorem z_rem {x a b : Int32} {A B : Int} (e : x = a - a / b * b) (ha : a.toInt = A) (hb : b.toInt = B) (h1 : 0 < B) : -B < x.toInt ∧ x.toInt < B ∧ (0 ≤ A → x.toInt = A - A / B * B ∧ 0 ≤ x.toInt ∧ x.toInt ≤ A) := by
  have rA := z_rng a
  rw [ha] at rA
  have hq : (-2147483648 ≤ A.tdiv B ∧ A.tdiv B < 2147483648) ∧ (-2147483648 ≤ A.tdiv B * B ∧ A.tdiv B * B < 2147483648) ∧ -B < A - A.tdiv B * B ∧ A - A.tdiv B * B < B ∧ (0 ≤ A → A.tdiv B = A / B ∧ 0 ≤ A - A.tdiv B * B ∧ 0 ≤ A.tdiv B * B) := by
    rw [Int.mul_comm (A.tdiv B) B]
    rcases Int.le_total 0 A with h0 | h0
    · obtain ⟨g1, g2, g3, g4, g5, g6⟩ := z_tq h1 h0
      refine ⟨⟨by omega, by omega⟩, ⟨by omega, by omega⟩, by omega, by omega, fun _ => ⟨g6, by omega, g3⟩⟩
    · obtain ⟨g1, g2, g3, g4, g5, g6⟩ := z_tq (A := -A) h1 (by omega)
      rw [Int.neg_tdiv] at g1 g2 g3 g4 g5
      rw [Int.mul_neg] at g3 g4 g5
      refine ⟨⟨by omega, by omega⟩, ⟨by omega, by omega⟩, by omega, by omega, fun h => ?_⟩
      obtain rfl : A = 0 := by omega
      refine ⟨by simp, ?_, ?_⟩ <;> simp
  obtain ⟨q1, q2, q3, q4, q5⟩ := hq
  have d1 : (a / b).toInt = A.tdiv B := z_inr (by rw [Int32.toInt_div, ha, hb]) q1
  have d2 : (a / b * b).toInt = A.tdiv B * B := z_inr (by rw [Int32.toInt_mul, d1, hb]) q2
  have d3 : x.toInt = A - A.tdiv B * B := by
    obtain ⟨k, hk⟩ := z_bm (A - A.tdiv B * B)
    have h2 := z_rng x
    have h3 : x.toInt = (A - A.tdiv B * B).bmod 4294967296 := by rw [e, Int32.toInt_sub, ha, d2]
    have rB := z_rng b
    rw [hb] at rB
    omega
  refine ⟨by omega, by omega, fun h0 => ?_⟩
  obtain ⟨g1, g2, g3⟩ := q5 h0
  refine ⟨by rw [d3, g1], by omega, by omega⟩
theorem z_min {x a b : Int32} {A B : Int} (e : x = if b < a then b else a) (ha : a.toInt = A) (hb : b.toInt = B) : x.toInt ≤ A ∧ x.toInt ≤ B ∧ (x.toInt = A ∨ x.toInt = B) := by
  subst e; subst ha; subst hb
  by_cases h : b < a
  · rw [if_pos h]; rw [fa_lt] at h; omega
  · rw [if_neg h]; rw [fa_lt] at h; omega
theorem z_ushr8 {x a : Int32} (e : x = (a.toUInt32 >>> ((8 : Int32).toUInt32 &&& Int32.toUInt32 31)).toInt32) : 0 ≤ x.toInt ∧ x.toInt < 16777216 := by
  have h := pk_ushr a 8 8 (by decide +kernel)
  rw [← e] at h
  have h2 : a.toBitVec.toNat < 4294967296 := a.toBitVec.isLt
  have h3 := z_ofN (x := x) (by omega)
  omega
theorem z_bool {x : Int32} (h : x = 0 ∨ x = 1) : narrow .boolean (.int x) = .int x ∧ fits .boolean (.int x) = true := by
  rcases h with rfl | rfl <;> exact ⟨by decide +kernel, by decide +kernel⟩
abbrev zK : Type := (Nat → ClassId) × List Nat × (Nat → Nat) × (Nat → Nat) × (Nat → Nat → Nat) × (Nat → Int32) × (Nat → Option Nat)
def zi (K : zK) : Nat → ClassId := K.1
def zl (K : zK) : List Nat := K.2.1
def zk (K : zK) : Nat → Nat := K.2.2.1
def zn (K : zK) : Nat → Nat := K.2.2.2.1
def zr (K : zK) : Nat → Nat → Nat := K.2.2.2.2.1
def zt (K : zK) : Nat → Int32 := K.2.2.2.2.2.1
def zg (K : zK) : Nat → Option Nat := K.2.2.2.2.2.2
abbrev zV : Type := (Nat → Nat → Int32) × (Nat → Nat → Int32) × (Nat → Nat → Option Nat)
def zA (K : zK) : Nat → Prop := fun q => q ∈ zl K
def u2 {α : Type} (f : Nat → Nat → α) (a j : Nat) (v : α) : Nat → Nat → α := fun x y => if x = a ∧ y = j then v else f x y
theorem u2_ne {α : Type} {f : Nat → Nat → α} {a j : Nat} {v : α} {b : Nat} (h : b ≠ a) (k : Nat) : u2 f a j v b k = f b k := by simp [u2, h]
theorem u2_at {α : Type} {f : Nat → Nat → α} {a j : Nat} {v : α} : u2 f a j v a j = v := by simp [u2]
theorem u2_nj {α : Type} {f : Nat → Nat → α} {a j k : Nat} {v : α} {b : Nat} (h : k ≠ j) : u2 f a j v b k = f b k := by simp [u2, h]
def zVi (V : zV) (a j : Nat) (x : Int32) : zV := (u2 V.1 a j x, V.2.1, V.2.2)
def zVa (V : zV) (a : Nat) (g : Nat → Int32) : zV := (V.1, va_up V.2.1 a g, V.2.2)
def zVg (V : zV) (a j : Nat) (r : Option Nat) : zV := (V.1, V.2.1, u2 V.2.2 a j r)
/-- what lies at an address: by its kind, out of what is fixed and what changes -/
def zF (K : zK) (V : zV) : Nat → va_E := fun a => if zk K a = 0 then .inr (0, [.int (zt K a)]) else if zk K a = 1 then .inr (1, [.int (V.1 a 0), .int (V.1 a 1), .int (V.1 a 2), .int (V.1 a 3), .int (V.1 a 4), .int (V.1 a 5), .int (V.1 a 6), .int (V.1 a 7), .int (V.1 a 8), .int (V.1 a 9), .int (V.1 a 10), .ref (zr K a 11), .ref (zr K a 12), .ref (zr K a 13), .ref (zr K a 14), .ref (zr K a 15), .ref (zr K a 16), .ref (zr K a 17)]) else if zk K a = 2 then .inr (2, [.ref (zr K a 0), .ref (zr K a 1), .ref (zr K a 2), .ref (zr K a 3), .ref (zr K a 4), .ref (zr K a 5), .ref (zr K a 6), va_rf (V.2.2 a 7), va_rf (V.2.2 a 8), .int (V.1 a 9), .int (V.1 a 10), .int (V.1 a 11), .int (V.1 a 12), .int (V.1 a 13)]) else if zk K a = 3 then .inr (3, [.int (zt K a)]) else if zk K a = 4 then .inr (4, [.int (zt K a)]) else if zk K a = 5 then .inr (5, [.int (V.1 a 0), .ref (zr K a 1), .ref (zr K a 2), .int (V.1 a 3), .int (V.1 a 4), .int (V.1 a 5), .int (V.1 a 6)]) else if zk K a = 6 then .inr (6, [.int (zt K a), .ref (zr K a 1), .ref (zr K a 2)]) else if zk K a = 7 then .inr (7, [.ref (zr K a 0), .int (V.1 a 1)]) else if zk K a = 8 then .inr (8, [.int (V.1 a 0), va_rf (V.2.2 a 1), .int (V.1 a 2), .int (V.1 a 3), .int (V.1 a 4), .ref (zr K a 5), .ref (zr K a 6), .ref (zr K a 7), .ref (zr K a 8), .ref (zr K a 9), .ref (zr K a 10), .ref (zr K a 11), .ref (zr K a 12), .ref (zr K a 13)]) else if zk K a = 9 then .inr (9, [.int (zt K a)]) else if zk K a = 10 then .inr (10, [.ref (zr K a 0), .ref (zr K a 1), .ref (zr K a 2), .ref (zr K a 3), .ref (zr K a 4), .ref (zr K a 5), .ref (zr K a 6), .ref (zr K a 7), .ref (zr K a 8)]) else if zk K a = 11 then .inr (11, [.ref (zr K a 0), .ref (zr K a 1), .ref (zr K a 2), .ref (zr K a 3), .ref (zr K a 4), .ref (zr K a 5), .int (V.1 a 6), .int (V.1 a 7), .ref (zr K a 8), .int (V.1 a 9), .ref (zr K a 10), .int (V.1 a 11), .int (V.1 a 12), .ref (zr K a 13), .int (V.1 a 14), .ref (zr K a 15), .int (V.1 a 16), .int (V.1 a 17), .ref (zr K a 18), .ref (zr K a 19), .int (V.1 a 20), .ref (zr K a 21), .ref (zr K a 22), .int (V.1 a 23), .int (V.1 a 24), .int (V.1 a 25), .ref (zr K a 26), .int (V.1 a 27), .int (V.1 a 28), .ref (zr K a 29), .ref (zr K a 30), .ref (zr K a 31), .ref (zr K a 32), .ref (zr K a 33), .int (V.1 a 34), .int (V.1 a 35)]) else if zk K a = 22 then .inl (zi K a, zn K a, .inr (.inr (.inr (.inr (zg K))))) else if zk K a = 23 then .inl (zi K a, zn K a, .inr (.inr (.inr (.inr (fun j => some (zr K a j)))))) else if zk K a = 24 then .inl (zi K a, zn K a, .inr (.inr (.inr (.inr (fun j => some (zr K a j)))))) else .inl (zi K a, zn K a, .inl (V.2.1 a))
theorem zF_0 {K : zK} {V : zV} {a : Nat} (h : zk K a = 0) : zF K V a = .inr (0, [.int (zt K a)]) := by simp [zF, h]
theorem zF_1 {K : zK} {V : zV} {a : Nat} (h : zk K a = 1) : zF K V a = .inr (1, [.int (V.1 a 0), .int (V.1 a 1), .int (V.1 a 2), .int (V.1 a 3), .int (V.1 a 4), .int (V.1 a 5), .int (V.1 a 6), .int (V.1 a 7), .int (V.1 a 8), .int (V.1 a 9), .int (V.1 a 10), .ref (zr K a 11), .ref (zr K a 12), .ref (zr K a 13), .ref (zr K a 14), .ref (zr K a 15), .ref (zr K a 16), .ref (zr K a 17)]) := by simp [zF, h]
theorem zF_2 {K : zK} {V : zV} {a : Nat} (h : zk K a = 2) : zF K V a = .inr (2, [.ref (zr K a 0), .ref (zr K a 1), .ref (zr K a 2), .ref (zr K a 3), .ref (zr K a 4), .ref (zr K a 5), .ref (zr K a 6), va_rf (V.2.2 a 7), va_rf (V.2.2 a 8), .int (V.1 a 9), .int (V.1 a 10), .int (V.1 a 11), .int (V.1 a 12), .int (V.1 a 13)]) := by simp [zF, h]
theorem zF_3 {K : zK} {V : zV} {a : Nat} (h : zk K a = 3) : zF K V a = .inr (3, [.int (zt K a)]) := by simp [zF, h]
theorem zF_4 {K : zK} {V : zV} {a : Nat} (h : zk K a = 4) : zF K V a = .inr (4, [.int (zt K a)]) := by simp [zF, h]
theorem zF_5 {K : zK} {V : zV} {a : Nat} (h : zk K a = 5) : zF K V a = .inr (5, [.int (V.1 a 0), .ref (zr K a 1), .ref (zr K a 2), .int (V.1 a 3), .int (V.1 a 4), .int (V.1 a 5), .int (V.1 a 6)]) := by simp [zF, h]
theorem zF_6 {K : zK} {V : zV} {a : Nat} (h : zk K a = 6) : zF K V a = .inr (6, [.int (zt K a), .ref (zr K a 1), .ref (zr K a 2)]) := by simp [zF, h]
theorem zF_7 {K : zK} {V : zV} {a : Nat} (h : zk K a = 7) : zF K V a = .inr (7, [.ref (zr K a 0), .int (V.1 a 1)]) := by simp [zF, h]
theorem zF_8 {K : zK} {V : zV} {a : Nat} (h : zk K a = 8) : zF K V a = .inr (8, [.int (V.1 a 0), va_rf (V.2.2 a 1), .int (V.1 a 2), .int (V.1 a 3), .int (V.1 a 4), .ref (zr K a 5), .ref (zr K a 6), .ref (zr K a 7), .ref (zr K a 8), .ref (zr K a 9), .ref (zr K a 10), .ref (zr K a 11), .ref (zr K a 12), .ref (zr K a 13)]) := by simp [zF, h]
theorem zF_9 {K : zK} {V : zV} {a : Nat} (h : zk K a = 9) : zF K V a = .inr (9, [.int (zt K a)]) := by simp [zF, h]
theorem zF_10 {K : zK} {V : zV} {a : Nat} (h : zk K a = 10) : zF K V a = .inr (10, [.ref (zr K a 0), .ref (zr K a 1), .ref (zr K a 2), .ref (zr K a 3), .ref (zr K a 4), .ref (zr K a 5), .ref (zr K a 6), .ref (zr K a 7), .ref (zr K a 8)]) := by simp [zF, h]
theorem zF_11 {K : zK} {V : zV} {a : Nat} (h : zk K a = 11) : zF K V a = .inr (11, [.ref (zr K a 0), .ref (zr K a 1), .ref (zr K a 2), .ref (zr K a 3), .ref (zr K a 4), .ref (zr K a 5), .int (V.1 a 6), .int (V.1 a 7), .ref (zr K a 8), .int (V.1 a 9), .ref (zr K a 10), .int (V.1 a 11), .int (V.1 a 12), .ref (zr K a 13), .int (V.1 a 14), .ref (zr K a 15), .int (V.1 a 16), .int (V.1 a 17), .ref (zr K a 18), .ref (zr K a 19), .int (V.1 a 20), .ref (zr K a 21), .ref (zr K a 22), .int (V.1 a 23), .int (V.1 a 24), .int (V.1 a 25), .ref (zr K a 26), .int (V.1 a 27), .int (V.1 a 28), .ref (zr K a 29), .ref (zr K a 30), .ref (zr K a 31), .ref (zr K a 32), .ref (zr K a 33), .int (V.1 a 34), .int (V.1 a 35)]) := by simp [zF, h]
theorem zF_20 {K : zK} {V : zV} {a : Nat} (h : zk K a = 20) : zF K V a = .inl (zi K a, zn K a, .inl (V.2.1 a)) := by simp [zF, h]
theorem zF_25 {K : zK} {V : zV} {a : Nat} (h : zk K a = 25) : zF K V a = .inl (zi K a, zn K a, .inl (V.2.1 a)) := by simp [zF, h]
theorem zF_21 {K : zK} {V : zV} {a : Nat} (h : zk K a = 21) : zF K V a = .inl (zi K a, zn K a, .inl (V.2.1 a)) := by simp [zF, h]
theorem zF_22 {K : zK} {V : zV} {a : Nat} (h : zk K a = 22) : zF K V a = .inl (zi K a, zn K a, .inr (.inr (.inr (.inr (zg K))))) := by simp [zF, h]
theorem zF_23 {K : zK} {V : zV} {a : Nat} (h : zk K a = 23) : zF K V a = .inl (zi K a, zn K a, .inr (.inr (.inr (.inr (fun j => some (zr K a j)))))) := by simp [zF, h]
theorem zF_24 {K : zK} {V : zV} {a : Nat} (h : zk K a = 24) : zF K V a = .inl (zi K a, zn K a, .inr (.inr (.inr (.inr (fun j => some (zr K a j)))))) := by simp [zF, h]
theorem zF_40 {K : zK} {V : zV} {a : Nat} (h : zk K a = 40) : zF K V a = .inl (zi K a, zn K a, .inl (V.2.1 a)) := by simp [zF, h]
theorem zF_42 {K : zK} {V : zV} {a : Nat} (h : zk K a = 42) : zF K V a = .inl (zi K a, zn K a, .inl (V.2.1 a)) := by simp [zF, h]
theorem zF_43 {K : zK} {V : zV} {a : Nat} (h : zk K a = 43) : zF K V a = .inl (zi K a, zn K a, .inl (V.2.1 a)) := by simp [zF, h]
theorem zF_44 {K : zK} {V : zV} {a : Nat} (h : zk K a = 44) : zF K V a = .inl (zi K a, zn K a, .inl (V.2.1 a)) := by simp [zF, h]
theorem zF_45 {K : zK} {V : zV} {a : Nat} (h : zk K a = 45) : zF K V a = .inl (zi K a, zn K a, .inl (V.2.1 a)) := by simp [zF, h]
theorem zF_48 {K : zK} {V : zV} {a : Nat} (h : zk K a = 48) : zF K V a = .inl (zi K a, zn K a, .inl (V.2.1 a)) := by simp [zF, h]
theorem zF_50 {K : zK} {V : zV} {a : Nat} (h : zk K a = 50) : zF K V a = .inl (zi K a, zn K a, .inl (V.2.1 a)) := by simp [zF, h]
theorem zF_53 {K : zK} {V : zV} {a : Nat} (h : zk K a = 53) : zF K V a = .inl (zi K a, zn K a, .inl (V.2.1 a)) := by simp [zF, h]
theorem zF_55 {K : zK} {V : zV} {a : Nat} (h : zk K a = 55) : zF K V a = .inl (zi K a, zn K a, .inl (V.2.1 a)) := by simp [zF, h]
theorem zF_58 {K : zK} {V : zV} {a : Nat} (h : zk K a = 58) : zF K V a = .inl (zi K a, zn K a, .inl (V.2.1 a)) := by simp [zF, h]
theorem zF_59 {K : zK} {V : zV} {a : Nat} (h : zk K a = 59) : zF K V a = .inl (zi K a, zn K a, .inl (V.2.1 a)) := by simp [zF, h]
theorem zF_66 {K : zK} {V : zV} {a : Nat} (h : zk K a = 66) : zF K V a = .inl (zi K a, zn K a, .inl (V.2.1 a)) := by simp [zF, h]
theorem zF_69 {K : zK} {V : zV} {a : Nat} (h : zk K a = 69) : zF K V a = .inl (zi K a, zn K a, .inl (V.2.1 a)) := by simp [zF, h]
theorem zF_70 {K : zK} {V : zV} {a : Nat} (h : zk K a = 70) : zF K V a = .inl (zi K a, zn K a, .inl (V.2.1 a)) := by simp [zF, h]
theorem zF_72 {K : zK} {V : zV} {a : Nat} (h : zk K a = 72) : zF K V a = .inl (zi K a, zn K a, .inl (V.2.1 a)) := by simp [zF, h]
theorem zF_73 {K : zK} {V : zV} {a : Nat} (h : zk K a = 73) : zF K V a = .inl (zi K a, zn K a, .inl (V.2.1 a)) := by simp [zF, h]
theorem zF_41 {K : zK} {V : zV} {a : Nat} (h : zk K a = 41) : zF K V a = .inl (zi K a, zn K a, .inl (V.2.1 a)) := by simp [zF, h]
theorem zF_71 {K : zK} {V : zV} {a : Nat} (h : zk K a = 71) : zF K V a = .inl (zi K a, zn K a, .inl (V.2.1 a)) := by simp [zF, h]
theorem zF_61 {K : zK} {V : zV} {a : Nat} (h : zk K a = 61) : zF K V a = .inl (zi K a, zn K a, .inl (V.2.1 a)) := by simp [zF, h]
theorem zF_62 {K : zK} {V : zV} {a : Nat} (h : zk K a = 62) : zF K V a = .inl (zi K a, zn K a, .inl (V.2.1 a)) := by simp [zF, h]
theorem zF_i {K : zK} {V : zV} {a j b : Nat} {v : Int32} (h : b ≠ a) : zF K (zVi V a j v) b = zF K V b := by simp only [zF, zVi, u2_ne h]
theorem zF_a {K : zK} {V : zV} {a b : Nat} {g : Nat → Int32} (h : b ≠ a) : zF K (zVa V a g) b = zF K V b := by simp only [zF, zVa, va_up_ne _ _ h]
theorem zF_g {K : zK} {V : zV} {a j b : Nat} {v : Option Nat} (h : b ≠ a) : zF K (zVg V a j v) b = zF K V b := by simp only [zF, zVg, u2_ne h]
abbrev zW (K : zK) (V : zV) : va_W := va_pl (zl K) (zF K V)
def zty (k : Nat) : Option FieldType := match k with
  | 20 => some (.int)
  | 25 => some (.int)
  | 21 => some (.boolean)
  | 22 => some (.object RX4)
  | 23 => some (.object RX8)
  | 24 => some (.object RX9)
  | 40 => some (.int)
  | 42 => some (.int)
  | 43 => some (.int)
  | 44 => some (.int)
  | 45 => some (.int)
  | 48 => some (.int)
  | 50 => some (.int)
  | 53 => some (.int)
  | 55 => some (.int)
  | 58 => some (.int)
  | 59 => some (.int)
  | 66 => some (.int)
  | 69 => some (.int)
  | 70 => some (.int)
  | 72 => some (.int)
  | 73 => some (.int)
  | 41 => some (.boolean)
  | 71 => some (.boolean)
  | 61 => some (.byte)
  | 62 => some (.byte)
  | _ => none
def fol (K : zK) (g : Nat) : Prop := zk K g = 0 ∨ zk K g = 3 ∨ zk K g = 4 ∨ zk K g = 9
def gam (K : zK) (g : Nat) : Prop := fol K g ∨ zk K g = 6
/-- what a final reference leads to: the kind, and how long a row -/
def zX (k j : Nat) : Option (Nat × Nat) := match k, j with
  | 1, 11 => some (20, 2)
  | 1, 12 => some (20, 2)
  | 1, 13 => some (20, 15)
  | 1, 14 => some (20, 15)
  | 1, 15 => some (20, 60)
  | 1, 16 => some (20, 60)
  | 1, 17 => some (7, 0)
  | 2, 0 => some (5, 0)
  | 2, 1 => some (20, 20736)
  | 2, 2 => some (20, 20736)
  | 2, 3 => some (20, 60)
  | 2, 4 => some (23, 4)
  | 2, 5 => some (23, 5)
  | 2, 6 => some (23, 5)
  | 5, 1 => some (20, 60)
  | 5, 2 => some (20, 300)
  | 7, 0 => some (20, 0)
  | 8, 5 => some (20, 60)
  | 8, 6 => some (20, 60)
  | 8, 7 => some (21, 4)
  | 8, 8 => some (20, 4)
  | 8, 9 => some (7, 0)
  | 8, 10 => some (7, 0)
  | 8, 11 => some (7, 0)
  | 8, 12 => some (23, 4)
  | 8, 13 => some (1, 0)
  | 10, 0 => some (22, 6)
  | 10, 1 => some (24, 4)
  | 10, 2 => some (24, 32)
  | 10, 3 => some (25, 4)
  | 10, 4 => some (20, 4)
  | 10, 5 => some (8, 0)
  | 10, 6 => some (5, 0)
  | 10, 7 => some (5, 0)
  | 10, 8 => some (2, 0)
  | 11, 0 => some (40, 47730)
  | 11, 1 => some (41, 4)
  | 11, 2 => some (42, 4)
  | 11, 3 => some (43, 6)
  | 11, 4 => some (44, 6)
  | 11, 5 => some (45, 6)
  | 11, 8 => some (48, 300)
  | 11, 10 => some (50, 60)
  | 11, 13 => some (53, 60)
  | 11, 15 => some (55, 4)
  | 11, 18 => some (58, 16)
  | 11, 19 => some (59, 4)
  | 11, 21 => some (61, 262144)
  | 11, 22 => some (62, 262144)
  | 11, 26 => some (66, 4)
  | 11, 29 => some (69, 4)
  | 11, 30 => some (70, 4)
  | 11, 31 => some (71, 4)
  | 11, 32 => some (72, 4)
  | 11, 33 => some (73, 4)
  | _, _ => none
def zOk (K : zK) : Prop :=
  (zl K).Nodup ∧ (∀ a ∈ zl K, ∀ j k n : Nat, zX (zk K a) j = some (k, n) → zr K a j ∈ zl K ∧ zk K (zr K a j) = k ∧ (n ≠ 0 → zn K (zr K a j) = n)) ∧ (∀ a ∈ zl K, zn K a < 2147483648) ∧ (∀ a ∈ zl K, zk K a = 23 → ∀ j, j < zn K a → zr K a j ∈ zl K ∧ zk K (zr K a j) = 7) ∧ (∀ a ∈ zl K, zk K a = 24 → ∀ j, j < zn K a → zr K a j ∈ zl K ∧ zk K (zr K a j) = 8) ∧ (∀ a ∈ zl K, zk K a = 6 → ∀ j, (j = 1 ∨ j = 2) → zr K a j ∈ zl K ∧ fol K (zr K a j)) ∧ (∀ j, j < 6 → ∀ g, zg K j = some g → g ∈ zl K ∧ gam K g)
theorem zOk.r {K : zK} (h : zOk K) {a j k n : Nat} (ha : a ∈ zl K) {k0 : Nat} (h0 : zk K a = k0) (hx : zX k0 j = some (k, n)) : zr K a j ∈ zl K ∧ zk K (zr K a j) = k ∧ (n ≠ 0 → zn K (zr K a j) = n) := h.2.1 a ha j k n (by rw [h0]; exact hx)
def zI (K : zK) (V : zV) : Prop :=
  (∀ a ∈ zl K, zk K a = 1 → 0 ≤ (V.1 a 8).toInt ∧ (V.1 a 8).toInt ≤ 15) ∧ (∀ a ∈ zl K, zk K a = 2 → 0 ≤ (V.1 a 11).toInt ∧ (V.1 a 11).toInt ≤ 4) ∧ (∀ a ∈ zl K, zk K a = 25 → ∀ j, j < zn K a → 0 ≤ (V.2.1 a j).toInt ∧ (V.2.1 a j).toInt ≤ 7) ∧ (∀ a ∈ zl K, zk K a = 8 → ∀ g, V.2.2 a 1 = some g → g ∈ zl K ∧ gam K g) ∧ (∀ a ∈ zl K, zk K a = 2 → ∀ g, V.2.2 a 7 = some g → g ∈ zl K ∧ zk K g = 8) ∧ (∀ a ∈ zl K, zk K a = 2 → ∀ g, V.2.2 a 8 = some g → g ∈ zl K ∧ fol K g ∧ ∃ t, V.2.2 a 7 = some t)
theorem zI_i {K : zK} {V : zV} (h : zI K V) {a k : Nat} {x : Int32} (h1 : zk K a = 1 → k = 8 → 0 ≤ x.toInt ∧ x.toInt ≤ 15) (h2 : zk K a = 2 → k = 11 → 0 ≤ x.toInt ∧ x.toInt ≤ 4) : zI K (zVi V a k x) := by
  refine ⟨fun b hb hk => ?_, fun b hb hk => ?_, h.2.2⟩
  · show 0 ≤ (u2 V.1 a k x b 8).toInt ∧ (u2 V.1 a k x b 8).toInt ≤ 15
    by_cases e : b = a ∧ 8 = k
    · rw [u2, if_pos e]; exact h1 (e.1 ▸ hk) e.2.symm
    · rw [u2, if_neg e]; exact h.1 b hb hk
  · show 0 ≤ (u2 V.1 a k x b 11).toInt ∧ (u2 V.1 a k x b 11).toInt ≤ 4
    by_cases e : b = a ∧ 11 = k
    · rw [u2, if_pos e]; exact h2 (e.1 ▸ hk) e.2.symm
    · rw [u2, if_neg e]; exact h.2.1 b hb hk
theorem zI_a {K : zK} {V : zV} (h : zI K V) {a : Nat} {g : Nat → Int32} (h1 : zk K a = 25 → ∀ j, j < zn K a → 0 ≤ (g j).toInt ∧ (g j).toInt ≤ 7) : zI K (zVa V a g) := by
  refine ⟨h.1, h.2.1, fun b hb hk j hj => ?_, h.2.2.2⟩
  show 0 ≤ (va_up V.2.1 a g b j).toInt ∧ (va_up V.2.1 a g b j).toInt ≤ 7
  by_cases e : b = a
  · subst e; rw [va_up_self]; exact h1 hk j hj
  · rw [va_up_ne _ _ e]; exact h.2.2.1 b hb hk j hj
theorem zl_D {L : List Nat} {f : Nat → va_E} {A : Nat → Prop} (hN : L.Nodup) (hA : ∀ a ∈ L, A a) : va_D A (va_pl L f) := by
  refine ⟨fun i j p q hi hj e => ?_, fun k q hk => ?_⟩
  · simp only [va_pl, List.getElem?_map] at hi hj
    cases hx : L[i]? with
    | none => rw [hx] at hi; cases hi
    | some x =>
      cases hy : L[j]? with
      | none => rw [hy] at hj; cases hj
      | some y =>
        rw [hx] at hi; rw [hy] at hj
        cases hi; cases hj
        exact (List.getElem?_inj (List.getElem?_eq_some_iff.mp hx).1 hN).mp (by rw [hx, hy]; exact congrArg some e)
  · simp only [va_pl, List.getElem?_map] at hk
    cases hx : L[k]? with
    | none => rw [hx] at hk; cases hk
    | some x => rw [hx] at hk; cases hk; exact hA x (List.mem_of_getElem? hx)
theorem zl_at {L : List Nat} {f : Nat → va_E} {a : Nat} (ha : a ∈ L) : ∃ k : Nat, (va_pl L f)[k]? = some (a, f a) := va_pl_get (X := []) ha
theorem zl_set {A : Nat → Prop} {L : List Nat} {f f' : Nat → va_E} {a k : Nat} {x : va_E} (hD : va_D A (va_pl L f)) (h : a ∈ L) (hk : (va_pl L f)[k]? = some (a, f a)) (hf : ∀ b, va_up f a x b = f' b) : (va_pl L f).set k (a, x) = va_pl L f' := by
  have h1 := va_pl_set (X := []) (e := x) hD h hk
  rw [List.nil_append, List.nil_append] at h1
  rw [h1, va_pl_congr hf]
theorem zD {K : zK} {V : zV} (hO : zOk K) : va_D (zA K) (zW K V) := zl_D hO.1 (fun _ h => h)
/-- the tables' words that hold at every call -/
def zw : List Cond := lw_tbl.filter goodWord
abbrev zc (y : MethodName) (cc : ByteArray) (n : Nat) (ret : Option FieldType) : List Cond := Cond.code y cc n ret :: zw
abbrev rmd (d : Nat) : Room := { frames := d, cells := 0, slots := 0, locals := 64 * d }
theorem zw_good : GoodIn zw zw := fun _ h => ⟨h, good_of_word (List.mem_filter.mp h).2⟩
theorem zt_t {w : Cond} (i : Nat) (h : tables_1[i]? = some w) (hg : goodWord w = true) : w ∈ zw := List.mem_filter.mpr ⟨List.mem_append_right _ (List.mem_of_getElem? h), hg⟩
theorem zt_s {w : Cond} (i : Nat) (h : (k2_sels lw_privs)[i]? = some w) (hg : goodWord w = true) : w ∈ zw := List.mem_filter.mpr ⟨List.mem_append_left _ (List.mem_of_getElem? h), hg⟩
def nw_M : List (String × Nat × MethodName × String) := [("CardTables$Table", 46, ⟨"CardTables$Deal", "<init>", "()V"⟩, "CardTables"), ("CardTables$Table", 86, ⟨"CardTables", "copy", "([I[I)V"⟩, "CardTables"), ("CardTables$Row", 31, ⟨"CardTables", "copy", "([I[I)V"⟩, "CardTables"), ("CardTables$Deal", 86, ⟨"CardTables", "copy", "([I[I)V"⟩, "CardTables"), ("CardTables$Table", 100, ⟨"CardTables", "isSeat", "(I)Z"⟩, "CardTables"), ("CardTables$Deal", 98, ⟨"CardTables", "isSeat", "(I)Z"⟩, "CardTables"), ("CardTables$Deal", 94, ⟨"CardTables", "isSide", "(I)Z"⟩, "CardTables"), ("CardTables$Ends", 120, ⟨"CardTables", "isSeat", "(I)Z"⟩, "CardTables"), ("CardTables", 254, ⟨"CardTables$Ends", "sureFrom", "(II)I"⟩, "CardTables")]
def nw_D : List MethodName := [⟨"CardTables$Game", "size", "(LCardTables$Notes;I)I"⟩, ⟨"CardTables$Game", "allows", "(LCardTables$Notes;LCardTables$Table;LCardTables$Row;LCardTables$Row;I)I"⟩, ⟨"CardTables$Game", "wins", "(LCardTables$Notes;LCardTables$Table;LCardTables$Row;)I"⟩, ⟨"CardTables$Follow", "wins", "(LCardTables$Notes;LCardTables$Table;LCardTables$Row;)I"⟩, ⟨"CardTables$Game", "score", "(LCardTables$Notes;LCardTables$Table;LCardTables$Row;I)I"⟩, ⟨"CardTables$Game", "settle", "(LCardTables$Notes;LCardTables$Deal;II)I"⟩, ⟨"CardTables$Follow", "settle", "(LCardTables$Notes;LCardTables$Deal;II)I"⟩, ⟨"CardTables$Game", "player", "()LCardTables$Follow;"⟩]
def nw_C : List (String × String) := [("CardTables$Auction", "CardTables$Follow"), ("CardTables$Must", "CardTables$Follow"), ("CardTables$VoidGame", "CardTables$Follow"), ("CardTables$Must", "CardTables$Game"), ("CardTables$VoidGame", "CardTables$Game"), ("CardTables$Auction", "CardTables$Game"), ("CardTables$Follow", "CardTables$Game"), ("CardTables$Pair", "CardTables$Game")]
def zNW (U : State) : Prop := (∀ q ∈ nw_M, va_Nw (.methodLinkNest q.1 q.2.1 q.2.2.1 q.2.2.2) U) ∧ (∀ q ∈ nw_D, va_Nw (.declares q) U) ∧ (∀ q ∈ nw_C, va_Nw (.castable q.1 q.2) U)
theorem zNW.warm {s U : State} (hW : s.WarmedH U.vm) (h : zNW s) : zNW U := ⟨fun q hq => va_Nw.warmM hW (h.1 q hq), fun q hq => va_Nw.warmD hW (h.2.1 q hq), fun q hq => va_Nw.warmC hW (h.2.2 q hq)⟩
theorem zNW.same {s U : State} (hV : s.vm = U.vm) (h : zNW s) : zNW U := ⟨fun q hq => va_Nw.same rfl hV (h.1 q hq), fun q hq => va_Nw.same rfl hV (h.2.1 q hq), fun q hq => va_Nw.same rfl hV (h.2.2 q hq)⟩
def zRf : Nat → Int32 := fun j => [0, 0, 1, 0, 2, 1, 2, 0, 3, 3, 4, 1, 5, 2, 3, 0].getD j 0
def zRK (K : zK) (U : State) : Prop := ∃ t : Nat, va_Z "CardTables$Ends" "RANKS" "[I" (.ref t) (zA K) U U.heap ∧ va_T .int t 16 (fun j => .int (zRf j)) (zA K) U U.heap
/-- what a state's tables give: it stays as it is -/
def zS (D : va_G) (K : zK) (U : State) : Prop := va_K D vwCl [] U ∧ (∀ a ∈ zl K, ∀ ty, zty (zk K a) = some ty → ArrOfT U (zi K a) ty ∧ va_RA U (zi K a) ty) ∧ zRK K U ∧ zNW U
def zB (D : va_G) (K : zK) (V : zV) (U : State) : Prop := va_P D vwCl (zW K V) U.heap ∧ zS D K U
theorem zS.warm {D : va_G} {K : zK} {s U : State} {H : Heap} {locs : List Loc} (h : zS D K s) (hS : va_S (zA K) s.heap H locs) (hU : U.heap = H) (hW : s.WarmedH U.vm) : zS D K U := by
  obtain ⟨h1, h2, ⟨t, h3, h4⟩, h5⟩ := h
  refine ⟨va_K.moved hW.alike h1, fun a ha ty e => ⟨arrOfT_moved hW.alike (h2 a ha ty e).1, (h2 a ha ty e).2.moved hW.alike⟩, ⟨t, ?_, ?_⟩, zNW.warm hW h5⟩
  · rw [hU]; exact (h3.kept hS.2.1).moved hW.alike
  · rw [hU]; exact (h4.kept hS.2.1).moved hW.alike
theorem zB.blind {D : va_G} {K : zK} {V : zV} {av : List Value} : FrameBlind (va_Pc av (zB D K V)) := by
  intro a U g mk ⟨h0, hP, h1, h2, ⟨t, h3, h4⟩, h5⟩
  exact ⟨h0, hP, va_K.moved (u := U) (U := U.calling g mk a) (Vm.Alike.refl U.vm) h1, fun b hb ty e => ⟨arrOfT_moved (u := U) (E := U.calling g mk a) (Vm.Alike.refl U.vm) (h2 b hb ty e).1, (h2 b hb ty e).2.moved (u := U) (U := U.calling g mk a) (Vm.Alike.refl U.vm)⟩, ⟨t, h3.moved (u := U) (U := U.calling g mk a) (Vm.Alike.refl U.vm), h4.moved (u := U) (U := U.calling g mk a) (Vm.Alike.refl U.vm)⟩, zNW.same (s := U) (U := U.calling g mk a) rfl h5⟩
theorem zS.arr {D : va_G} {K : zK} {s : State} (h : zS D K s) {a : Nat} (ha : a ∈ zl K) {k : Nat} (hk : zk K a = k) {ty : FieldType} (ht : zty k = some ty) : va_K D vwCl [(zi K a, ty)] s := ⟨h.1.1, fun j q hq => by
  match j, hq with
  | 0, hq => cases hq; exact h.2.1 a ha ty (by rw [hk]; exact ht)
  | j + 1, hq => simp at hq⟩
