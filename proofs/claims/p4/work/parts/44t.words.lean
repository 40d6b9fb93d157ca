/-- hidden from omega -/
def zHid (p : Prop) : Prop := p
theorem zNe {i j : Int} (h : i ≠ j) (hi : 0 ≤ i) (hj : 0 ≤ j) : i.toNat ≠ j.toNat := by omega
theorem zHid.mk {p : Prop} (h : p) : zHid p := h
/-- places that a list spares -/
def avB (l : List (Int × Int)) (lo hi : Int) : Bool := l.all (fun p => decide (hi < p.1) || decide (p.2 < lo))
def inB (l : List (Int × Int)) : Bool := l.all (fun p => decide (0 ≤ p.1) && decide (p.2 < 1290))
theorem fC.ar {C C1 : Nat → Int32} {b : Int} {l : List (Int × Int)} (h : fC C C1 b l) (hb : 0 ≤ b) {lo hi : Int} (hl : avB l lo hi = true) (i : Int) (h0 : 0 ≤ lo) (h1 : b + lo ≤ i) (h2 : i ≤ b + hi) : C1 i.toNat = C i.toNat := h i (by omega) (fun p hp => by
  have h9 := List.all_eq_true.mp hl p hp
  simp only [Bool.or_eq_true, decide_eq_true_eq] at h9
  omega)
theorem fC.rf {C : Nat → Int32} {b : Int} {l : List (Int × Int)} : fC C C b l := fun _ _ _ => rfl
/-- the cards that seats hold -/
def mx (x : Int) : Int := if 0 ≤ x then x else 0
theorem mx_nn (x : Int) : 0 ≤ mx x := by unfold mx; split <;> omega
theorem mx_of {x : Int} (h : 0 ≤ x) : mx x = x := if_pos h
theorem mx_0 {x : Int} (h : x ≤ 0) : mx x = 0 := by unfold mx; split <;> omega
theorem mx_le (x : Int) : x ≤ mx x := by unfold mx; split <;> omega
theorem mx_mo {x y : Int} (h : x ≤ y) : mx x ≤ mx y := by unfold mx; split <;> split <;> omega
def hd (C : Nat → Int32) (b q : Int) : Int := (C (b + q + 22).toNat).toInt
def hS (C : Nat → Int32) (b : Int) : Int := mx (hd C b 0) + mx (hd C b 1) + mx (hd C b 2) + mx (hd C b 3)
theorem hS_nn (C : Nat → Int32) (b : Int) : 0 ≤ hS C b := by
  have h0 := mx_nn (hd C b 0)
  have h1 := mx_nn (hd C b 1)
  have h2 := mx_nn (hd C b 2)
  have h3 := mx_nn (hd C b 3)
  unfold hS; omega
theorem hS_ge {C : Nat → Int32} {b s : Int} (h : 0 ≤ s ∧ s ≤ 3) : mx (hd C b s) ≤ hS C b := by
  have h0 := mx_nn (hd C b 0)
  have h1 := mx_nn (hd C b 1)
  have h2 := mx_nn (hd C b 2)
  have h3 := mx_nn (hd C b 3)
  unfold hS
  rcases (by omega : s = 0 ∨ s = 1 ∨ s = 2 ∨ s = 3) with rfl | rfl | rfl | rfl <;> omega
theorem hS_ch {C C1 : Nat → Int32} {b s : Int} (h : 0 ≤ s ∧ s ≤ 3) (e : ∀ q : Int, 0 ≤ q → q ≤ 3 → q ≠ s → hd C1 b q = hd C b q) : hS C1 b = hS C b - mx (hd C b s) + mx (hd C1 b s) := by
  unfold hS
  rcases (by omega : s = 0 ∨ s = 1 ∨ s = 2 ∨ s = 3) with rfl | rfl | rfl | rfl
  · rw [e 1 (by decide) (by decide) (by decide), e 2 (by decide) (by decide) (by decide), e 3 (by decide) (by decide) (by decide)]; omega
  · rw [e 0 (by decide) (by decide) (by decide), e 2 (by decide) (by decide) (by decide), e 3 (by decide) (by decide) (by decide)]; omega
  · rw [e 1 (by decide) (by decide) (by decide), e 0 (by decide) (by decide) (by decide), e 3 (by decide) (by decide) (by decide)]; omega
  · rw [e 1 (by decide) (by decide) (by decide), e 2 (by decide) (by decide) (by decide), e 0 (by decide) (by decide) (by decide)]; omega
theorem hS_mo {C C1 : Nat → Int32} {b : Int} (e : ∀ q : Int, 0 ≤ q → q ≤ 3 → hd C1 b q ≤ hd C b q) : hS C1 b ≤ hS C b := by
  have h0 := mx_mo (e 0 (by decide) (by decide))
  have h1 := mx_mo (e 1 (by decide) (by decide))
  have h2 := mx_mo (e 2 (by decide) (by decide))
  have h3 := mx_mo (e 3 (by decide) (by decide))
  unfold hS; omega
theorem hS_eq {C C1 : Nat → Int32} {b b1 : Int} (e : ∀ q : Int, 0 ≤ q → q ≤ 3 → hd C1 b1 q = hd C b q) : hS C1 b1 = hS C b := by
  unfold hS; rw [e 0 (by decide) (by decide), e 1 (by decide) (by decide), e 2 (by decide) (by decide), e 3 (by decide) (by decide)]
/-- what is in the rest, in hands, on the table, is no more than a pack -/
def rS (C : Nat → Int32) (b : Int) : Prop := (C (b + 21).toNat).toInt + hS C b + (C (b + 26).toNat).toInt + (C (b + 20).toNat).toInt ≤ 60 ∧ (C (b + 21).toNat).toInt + hS C b + (C (b + 43).toNat).toInt ≤ 60
/-- layers are not the same -/
def dL (C : Nat → Int32) (b n : Int) : Prop := ∀ i j : Int, 0 ≤ i → i < j → j < n → (C (b + i + 31).toNat).toInt ≠ (C (b + j + 31).toNat).toInt
theorem dL.z {C : Nat → Int32} {b n : Int} (hn : n ≤ 0) : dL C b n := fun i j h1 h2 h3 => by omega
/-- the seat whose turn it is -/
def nX (C : Nat → Int32) (b : Int) : Prop := (C (b + 5).toNat).toInt = 1 → (C (b + 9).toNat).toInt ≠ -1 → 0 ≤ (C (b + 9).toNat).toInt ∧ (C (b + 9).toNat).toInt ≤ 3 ∧ 1 ≤ hd C b (C (b + 9).toNat).toInt ∧ nL C b (C (b + 9).toNat).toInt (C (b + 26).toNat).toInt
/-- a card that lies in the rest is found there -/
def rK (C : Nat → Int32) (b : Int) : Prop := ∀ c : Int, 0 ≤ c → c < (C (b + 1).toNat).toInt → (C (b + c + 110).toNat).toInt = 0 → ∃ k : Int, 0 ≤ k ∧ k < (C (b + 21).toNat).toInt ∧ (C (b + k + 170).toNat).toInt = c
/-- what was told -/
def tO (C : Nat → Int32) (b : Int) : Prop := ∀ k : Int, 0 ≤ k → k < 100 → ((C (b + 4 * k + 890).toNat).toInt ≠ 0 → 0 ≤ (C (b + 4 * k + 891).toNat).toInt ∧ (C (b + 4 * k + 891).toNat).toInt ≤ 3) ∧ ((C (b + 4 * k + 890).toNat).toInt = 1 → 0 ≤ (C (b + 4 * k + 892).toNat).toInt ∧ (C (b + 4 * k + 892).toNat).toInt < (C (b + 1).toNat).toInt) ∧ ((C (b + 4 * k + 890).toNat).toInt = 6 → (C (b + 4 * k + 891).toNat).toInt ≤ 1)
def rowP (C : Nat → Int32) (b : Int) : Prop := rS C b ∧ dL C b (C (b + 26).toNat).toInt ∧ rK C b
def rowN (C : Nat → Int32) (b : Int) : Prop := rowP C b ∧ nX C b
def rowOk (C : Nat → Int32) (b n : Int) : Prop := rowN C b ∧ tO C b ∧ (C (b + 44).toNat).toInt ≤ n
/-- four seats, five are too many -/
theorem pig4 : ∀ a b c d q : Fin 4, ¬ (a ≠ b ∧ a ≠ c ∧ a ≠ d ∧ b ≠ c ∧ b ≠ d ∧ c ≠ d ∧ a ≠ q ∧ b ≠ q ∧ c ≠ q ∧ d ≠ q) := by decide +kernel
theorem pigN {a b c d q : Int} (ha : 0 ≤ a ∧ a ≤ 3) (hb : 0 ≤ b ∧ b ≤ 3) (hc : 0 ≤ c ∧ c ≤ 3) (hd : 0 ≤ d ∧ d ≤ 3) (hq : 0 ≤ q ∧ q ≤ 3) (h1 : a ≠ b) (h2 : a ≠ c) (h3 : a ≠ d) (h4 : b ≠ c) (h5 : b ≠ d) (h6 : c ≠ d) (h7 : a ≠ q) (h8 : b ≠ q) (h9 : c ≠ q) (h10 : d ≠ q) : False := by
  have g : ∀ x y : Int, ∀ (hx : 0 ≤ x ∧ x ≤ 3) (hy : 0 ≤ y ∧ y ≤ 3), x ≠ y → (⟨x.toNat, by omega⟩ : Fin 4) ≠ ⟨y.toNat, by omega⟩ := fun x y hx hy h e => by
    have := congrArg Fin.val e
    simp only at this
    omega
  exact pig4 _ _ _ _ _ ⟨g a b ha hb h1, g a c ha hc h2, g a d ha hd h3, g b c hb hc h4, g b d hb hd h5, g c d hc hd h6, g a q ha hq h7, g b q hb hq h8, g c q hc hq h9, g d q hd hq h10⟩
theorem dL.lt {C : Nat → Int32} {b q n : Int} (h : dL C b n) (hq : 0 ≤ q ∧ q ≤ 3) (hn : nL C b q n) (ht : ∀ i : Int, 0 ≤ i → i ≤ 3 → 0 ≤ (C (b + i + 31).toNat).toInt ∧ (C (b + i + 31).toNat).toInt ≤ 3) : n ≤ 3 := by
  rcases Classical.em (n ≤ 3) with h9 | h9
  · exact h9
  · exfalso
    have t0 := ht 0 (by decide) (by decide)
    have t1 := ht 1 (by decide) (by decide)
    have t2 := ht 2 (by decide) (by decide)
    have t3 := ht 3 (by decide) (by decide)
    have n0 := hn 0 (by decide) (by omega)
    have n1 := hn 1 (by decide) (by omega)
    have n2 := hn 2 (by decide) (by omega)
    have n3 := hn 3 (by decide) (by omega)
    have d01 := h 0 1 (by decide) (by decide) (by omega)
    have d02 := h 0 2 (by decide) (by decide) (by omega)
    have d03 := h 0 3 (by decide) (by decide) (by omega)
    have d12 := h 1 2 (by decide) (by decide) (by omega)
    have d13 := h 1 3 (by decide) (by decide) (by omega)
    have d23 := h 2 3 (by decide) (by decide) (by omega)
    exact pigN t0 t1 t2 t3 hq d01 d02 d03 d12 d13 d23 n0 n1 n2 n3
/-- cards that weren't in the rest don't come there -/
def wz (C C1 : Nat → Int32) (b : Int) : Prop := ∀ c : Int, 0 ≤ c → c < 60 → (C1 (b + c + 110).toNat).toInt = 0 → (C (b + c + 110).toNat).toInt = 0
theorem wz.rf {C : Nat → Int32} {b : Int} : wz C C b := fun _ _ _ h => h
theorem wz.tr {C C1 C2 : Nat → Int32} {b : Int} (h : wz C C1 b) (h2 : wz C1 C2 b) : wz C C2 b := fun c h0 h1 h9 => h c h0 h1 (h2 c h0 h1 h9)
theorem wz.eq {C C1 C2 : Nat → Int32} {b : Int} (h : wz C C1 b) (h2 : C2 = C1) : wz C C2 b := by rw [h2]; exact h
theorem wz.fC {C C1 C2 : Nat → Int32} {b : Int} {l : List (Int × Int)} (h : wz C C1 b) (f : fC C1 C2 b l) (hb : 0 ≤ b) (hl : avB l 110 169 = true) : wz C C2 b := fun c h0 h1 h9 => h c h0 h1 (by rw [← f.ar hb hl (b + c + 110) (by decide) (by omega) (by omega)]; exact h9)
theorem wz.st {C : Nat → Int32} {A A1 : Nat → Nat → Int32} {b i : Int} {x : Int32} (h : wz C (A 40) b) (e : A1 = va_up A 40 (upd (A 40) i.toNat x)) (hi : x.toInt ≠ 0 ∨ (0 ≤ i ∧ 0 ≤ b ∧ (i < b + 110 ∨ b + 169 < i))) : wz C (A1 40) b := fun c h0 h1 h9 => by
  rw [e, va_up_self] at h9
  by_cases e9 : (b + c + 110).toNat = i.toNat
  · rw [e9, pk_us] at h9
    rcases hi with h8 | h8
    · exact absurd h9 h8
    · exfalso; omega
  · rw [pk_un e9] at h9
    exact h c h0 h1 h9
/-- a row as another was -/
theorem rowN.cg {C C1 : Nat → Int32} {b b1 : Int} (h : rowN C b) (hp : (C (b + 1).toNat).toInt ≤ 60) (hp21 : (C (b + 21).toNat).toInt ≤ 60) (hp26 : (C (b + 26).toNat).toInt ≤ 4) (e : ∀ j : Int, 0 ≤ j → j < 1290 → C1 (b1 + j).toNat = C (b + j).toNat) : rowN C1 b1 := by
  have e2 : ∀ j k : Int, 0 ≤ j + k → j + k < 1290 → C1 (b1 + j + k).toNat = C (b + j + k).toNat := fun j k h1 h2 => by
    rw [show b1 + j + k = b1 + (j + k) by omega, show b + j + k = b + (j + k) by omega]; exact e _ h1 h2
  have eh : ∀ q : Int, 0 ≤ q → q ≤ 3 → hd C1 b1 q = hd C b q := fun q h1 h2 => by unfold hd; rw [e2 q 22 (by omega) (by omega)]
  obtain ⟨⟨h1, h2, h3⟩, h4⟩ := h
  refine ⟨⟨?_, ?_, ?_⟩, ?_⟩
  · unfold rS
    rw [hS_eq eh, e 21 (by decide) (by decide), e 26 (by decide) (by decide), e 20 (by decide) (by decide), e 43 (by decide) (by decide)]
    exact h1
  · rw [e 26 (by decide) (by decide)]
    intro i j hi hj hn
    rw [e2 i 31 (by omega) (by omega), e2 j 31 (by omega) (by omega)]
    exact h2 i j hi hj hn
  · intro c c0 c1 c2
    rw [e 1 (by decide) (by decide)] at c1
    rw [e2 c 110 (by omega) (by omega)] at c2
    obtain ⟨k, k0, k1, k2⟩ := h3 c c0 c1 c2
    refine ⟨k, k0, by rw [e 21 (by decide) (by decide)]; exact k1, by rw [e2 k 170 (by omega) (by omega)]; exact k2⟩
  · intro g1 g2
    rw [e 5 (by decide) (by decide)] at g1
    rw [e 9 (by decide) (by decide)] at g2 ⊢
    obtain ⟨g3, g4, g5, g6⟩ := h4 g1 g2
    refine ⟨g3, g4, by rw [eh _ g3 g4]; exact g5, ?_⟩
    rw [e 26 (by decide) (by decide)]
    intro i i0 i1
    rw [e2 i 31 (by omega) (by omega)]
    exact g6 i i0 i1
theorem tO.cg {C C1 : Nat → Int32} {b b1 : Int} (h : tO C b) (e1 : C1 (b1 + 1).toNat = C (b + 1).toNat) (e : ∀ j : Int, 890 ≤ j → j < 1290 → C1 (b1 + j).toNat = C (b + j).toNat) : tO C1 b1 := by
  intro k k0 k1
  have e2 : ∀ m : Int, 890 ≤ m → m ≤ 893 → C1 (b1 + 4 * k + m).toNat = C (b + 4 * k + m).toNat := fun m h1 h2 => by
    rw [show b1 + 4 * k + m = b1 + (4 * k + m) by omega, show b + 4 * k + m = b + (4 * k + m) by omega]; exact e _ (by omega) (by omega)
  rw [e1, e2 890 (by decide) (by decide), e2 891 (by decide) (by decide), e2 892 (by decide) (by decide)]
  exact h k k0 k1
theorem tO.tell {C : Nat → Int32} {b n : Int} {w a x c v : Int32} (hb : 0 ≤ b) (hn : 0 ≤ n ∧ n < 100) (h1 : w.toInt ≠ 0 → 0 ≤ a.toInt ∧ a.toInt ≤ 3) (h2 : w.toInt = 1 → 0 ≤ x.toInt ∧ x.toInt < (C (b + 1).toNat).toInt) (h3 : w.toInt = 6 → a.toInt ≤ 1) (h : tO C b) : tO (upd (upd (upd (upd (upd C (b + 4 * n + 890).toNat w) (b + 4 * n + 891).toNat a) (b + 4 * n + 892).toNat x) (b + 4 * n + 893).toNat c) (b + 44).toNat v) b := by
  intro k k0 k1
  have e1 : ∀ j : Int, j = b + 1 → (upd (upd (upd (upd (upd C (b + 4 * n + 890).toNat w) (b + 4 * n + 891).toNat a) (b + 4 * n + 892).toNat x) (b + 4 * n + 893).toNat c) (b + 44).toNat v) j.toNat = C j.toNat := fun j hj => by
    rw [pk_un (by omega), pk_un (by omega), pk_un (by omega), pk_un (by omega), pk_un (by omega)]
  rw [e1 _ rfl]
  by_cases e : k = n
  · subst e
    have p0 : (upd (upd (upd (upd (upd C (b + 4 * k + 890).toNat w) (b + 4 * k + 891).toNat a) (b + 4 * k + 892).toNat x) (b + 4 * k + 893).toNat c) (b + 44).toNat v) (b + 4 * k + 890).toNat = w := by
      rw [pk_un (by omega), pk_un (by omega), pk_un (by omega), pk_un (by omega), pk_us]
    have p1 : (upd (upd (upd (upd (upd C (b + 4 * k + 890).toNat w) (b + 4 * k + 891).toNat a) (b + 4 * k + 892).toNat x) (b + 4 * k + 893).toNat c) (b + 44).toNat v) (b + 4 * k + 891).toNat = a := by
      rw [pk_un (by omega), pk_un (by omega), pk_un (by omega), pk_us]
    have p2 : (upd (upd (upd (upd (upd C (b + 4 * k + 890).toNat w) (b + 4 * k + 891).toNat a) (b + 4 * k + 892).toNat x) (b + 4 * k + 893).toNat c) (b + 44).toNat v) (b + 4 * k + 892).toNat = x := by
      rw [pk_un (by omega), pk_un (by omega), pk_us]
    rw [p0, p1, p2]
    exact ⟨h1, h2, h3⟩
  · have p : ∀ m : Int, 890 ≤ m → m ≤ 893 → (upd (upd (upd (upd (upd C (b + 4 * n + 890).toNat w) (b + 4 * n + 891).toNat a) (b + 4 * n + 892).toNat x) (b + 4 * n + 893).toNat c) (b + 44).toNat v) (b + 4 * k + m).toNat = C (b + 4 * k + m).toNat := fun m m0 m1 => by
      rw [pk_un (by omega), pk_un (by omega), pk_un (by omega), pk_un (by omega), pk_un (by omega)]
    rw [p 890 (by decide) (by decide), p 891 (by decide) (by decide), p 892 (by decide) (by decide)]
    exact h k k0 k1
theorem tO.fC {C C1 : Nat → Int32} {b : Int} {l : List (Int × Int)} (h : tO C b) (hb : 0 ≤ b) (f : fC C C1 b l) (hl : avB l 1 1 = true) (hl2 : avB l 890 1289 = true) : tO C1 b := h.cg (f.ar hb hl _ (by decide) (by omega) (by omega)) (fun j h1 h2 => f.ar hb hl2 _ (by decide) (by omega) (by omega))
theorem rS.fC {C C1 : Nat → Int32} {b : Int} {l : List (Int × Int)} (h : rS C b) (hb : 0 ≤ b) (f : fC C C1 b l) (hl : avB l 20 26 = true) (hl2 : avB l 43 43 = true) : rS C1 b := by
  have eh : ∀ q : Int, 0 ≤ q → q ≤ 3 → hd C1 b q = hd C b q := fun q h1 h2 => by unfold hd; rw [f.ar hb hl (b + q + 22) (by decide) (by omega) (by omega)]
  unfold rS
  rw [hS_eq eh, f.ar hb hl (b + 21) (by decide) (by omega) (by omega), f.ar hb hl (b + 26) (by decide) (by omega) (by omega), f.ar hb hl (b + 20) (by decide) (by omega) (by omega), f.ar hb hl2 (b + 43) (by decide) (by omega) (by omega)]
  exact h
theorem rK.fw {C C1 : Nat → Int32} {b : Int} {l : List (Int × Int)} (h : rK C b) (hb : 0 ≤ b) (f : fC C C1 b l) (w : wz C C1 b) (hp : (C (b + 1).toNat).toInt ≤ 60) (hr : (C (b + 21).toNat).toInt ≤ 60) (hl : avB l 1 1 = true) (hl2 : avB l 21 21 = true) (hl3 : avB l 170 229 = true) : rK C1 b := by
  intro c c0 c1 c2
  rw [f.ar hb hl _ (by decide) (by omega) (by omega)] at c1
  obtain ⟨k, k0, k1, k2⟩ := h c c0 c1 (w c c0 (by omega) c2)
  refine ⟨k, k0, by rw [f.ar hb hl2 _ (by decide) (by omega) (by omega)]; exact k1, by rw [f.ar hb hl3 (b + k + 170) (by decide) (by omega) (by omega)]; exact k2⟩
theorem dL.fC {C C1 : Nat → Int32} {b : Int} {l : List (Int × Int)} {n : Int} (h : dL C b n) (hn : n ≤ 4) (hb : 0 ≤ b) (f : fC C C1 b l) (hl : avB l 31 34 = true) : dL C1 b n := fun i j hi hj hn => by
  rw [f.ar hb hl (b + i + 31) (by decide) (by omega) (by omega), f.ar hb hl (b + j + 31) (by decide) (by omega) (by omega)]
  exact h i j hi hj hn
theorem nL.fC {C C1 : Nat → Int32} {b q : Int} {l : List (Int × Int)} {n : Int} (h : nL C b q n) (hn : n ≤ 4) (hb : 0 ≤ b) (f : fC C C1 b l) (hl : avB l 31 34 = true) : nL C1 b q n := fun i hi hj => by
  rw [f.ar hb hl (b + i + 31) (by decide) (by omega) (by omega)]
  exact h i hi hj
theorem nX.fC {C C1 : Nat → Int32} {b : Int} {l : List (Int × Int)} (h : nX C b) (hn : (C (b + 26).toNat).toInt ≤ 4) (hb : 0 ≤ b) (f : fC C C1 b l) (h5 : avB l 5 5 = true) (h9 : avB l 9 9 = true) (hl : avB l 22 26 = true) (hl2 : avB l 31 34 = true) : nX C1 b := by
  intro g1 g2
  rw [f.ar hb h5 _ (by decide) (by omega) (by omega)] at g1
  rw [f.ar hb h9 (b + 9) (by decide) (by omega) (by omega)] at g2 ⊢
  obtain ⟨g3, g4, g5, g6⟩ := h g1 g2
  refine ⟨g3, g4, ?_, ?_⟩
  · unfold hd; rw [f.ar hb hl _ (by decide) (by omega) (by omega)]; exact g5
  · rw [f.ar hb hl (b + 26) (by decide) (by omega) (by omega)]; exact g6.fC hn hb f hl2
/-- the ranges that a row's places have -/
def tR (C : Nat → Int32) (b : Int) : Prop := (0 ≤ (C (b + 1).toNat).toInt ∧ (C (b + 1).toNat).toInt ≤ 60) ∧ (-1 ≤ (C (b + 9).toNat).toInt ∧ (C (b + 9).toNat).toInt ≤ 3) ∧ (0 ≤ (C (b + 20).toNat).toInt ∧ (C (b + 20).toNat).toInt ≤ 60) ∧ (0 ≤ (C (b + 21).toNat).toInt ∧ (C (b + 21).toNat).toInt ≤ 60) ∧ (0 ≤ (C (b + 26).toNat).toInt ∧ (C (b + 26).toNat).toInt ≤ 4) ∧ (0 ≤ (C (b + 43).toNat).toInt ∧ (C (b + 43).toNat).toInt ≤ 60) ∧ (0 ≤ (C (b + 44).toNat).toInt) ∧ (∀ i : Int, 0 ≤ i → i ≤ 3 → -1 ≤ (C (b + i + 22).toNat).toInt ∧ (C (b + i + 22).toNat).toInt ≤ 60) ∧ (∀ i : Int, 0 ≤ i → i ≤ 3 → 0 ≤ (C (b + i + 31).toNat).toInt ∧ (C (b + i + 31).toNat).toInt ≤ 3)
theorem tR.p1 {C : Nat → Int32} {b : Int} (h : tR C b) : 0 ≤ (C (b + 1).toNat).toInt ∧ (C (b + 1).toNat).toInt ≤ 60 := h.1
theorem tR.p9 {C : Nat → Int32} {b : Int} (h : tR C b) : -1 ≤ (C (b + 9).toNat).toInt ∧ (C (b + 9).toNat).toInt ≤ 3 := h.2.1
theorem tR.p20 {C : Nat → Int32} {b : Int} (h : tR C b) : 0 ≤ (C (b + 20).toNat).toInt ∧ (C (b + 20).toNat).toInt ≤ 60 := h.2.2.1
theorem tR.p21 {C : Nat → Int32} {b : Int} (h : tR C b) : 0 ≤ (C (b + 21).toNat).toInt ∧ (C (b + 21).toNat).toInt ≤ 60 := h.2.2.2.1
theorem tR.p26 {C : Nat → Int32} {b : Int} (h : tR C b) : 0 ≤ (C (b + 26).toNat).toInt ∧ (C (b + 26).toNat).toInt ≤ 4 := h.2.2.2.2.1
theorem tR.p43 {C : Nat → Int32} {b : Int} (h : tR C b) : 0 ≤ (C (b + 43).toNat).toInt ∧ (C (b + 43).toNat).toInt ≤ 60 := h.2.2.2.2.2.1
theorem tR.p44 {C : Nat → Int32} {b : Int} (h : tR C b) : 0 ≤ (C (b + 44).toNat).toInt := h.2.2.2.2.2.2.1
theorem tR.p22 {C : Nat → Int32} {b : Int} (h : tR C b) : ∀ i : Int, 0 ≤ i → i ≤ 3 → -1 ≤ (C (b + i + 22).toNat).toInt ∧ (C (b + i + 22).toNat).toInt ≤ 60 := h.2.2.2.2.2.2.2.1
theorem tR.p31 {C : Nat → Int32} {b : Int} (h : tR C b) : ∀ i : Int, 0 ≤ i → i ≤ 3 → 0 ≤ (C (b + i + 31).toNat).toInt ∧ (C (b + i + 31).toNat).toInt ≤ 3 := h.2.2.2.2.2.2.2.2
theorem mT.row {f : Nat → Int32} {A : Nat → Nat → Int32} (hT : mT f A) {b : Int} (hb : zRow b) : tR (A 40) b := by
  unfold zRow at hb
  have g : ∀ j : Int, 0 ≤ j → j < 1290 → tP j.toNat (A 40 (b + j).toNat) := fun j h1 h2 => by
    have h9 : tP ((b + j).toNat % 1290) (A 40 (b + j).toNat) := hT.2 40 (b + j).toNat (by show (b + j).toNat < 47730; omega)
    rwa [show (b + j).toNat % 1290 = j.toNat by omega] at h9
  refine ⟨(g 1 (by decide) (by decide)).1 rfl, (g 9 (by decide) (by decide)).2.1 rfl, (g 20 (by decide) (by decide)).2.2.1 (by decide) (by decide), (g 21 (by decide) (by decide)).2.2.1 (by decide) (by decide), (g 26 (by decide) (by decide)).2.2.2.2.1 rfl, (g 43 (by decide) (by decide)).2.2.2.2.2.2.2.2.1 rfl, (g 44 (by decide) (by decide)).2.2.2.2.2.2.2.2.2.1 rfl, fun i h1 h2 => ?_, fun i h1 h2 => ?_⟩
  · have h := (g (i + 22) (by omega) (by omega)).2.2.2.1 (by omega) (by omega)
    rwa [show b + (i + 22) = b + i + 22 by omega] at h
  · have h := (g (i + 31) (by omega) (by omega)).2.2.2.2.2.2.1 (by omega) (by omega)
    rwa [show b + (i + 31) = b + i + 31 by omega] at h
/-- a change that leaves a row sound -/
theorem rowP.fw {C C1 : Nat → Int32} {b : Int} {l : List (Int × Int)} (h : rowP C b) (t : tR C b) (hb : 0 ≤ b) (f : fC C C1 b l) (w : wz C C1 b) (h1 : avB l 1 1 = true) (h2 : avB l 20 26 = true) (h3 : avB l 31 34 = true) (h4 : avB l 43 43 = true) (h5 : avB l 170 229 = true) : rowP C1 b :=
  ⟨h.1.fC hb f h2 h4, by rw [f.ar hb h2 (b + 26) (by decide) (by omega) (by omega)]; exact h.2.1.fC t.p26.2 hb f h3, h.2.2.fw hb f w t.p1.2 t.p21.2 h1 (by
    unfold avB at h2 ⊢
    rw [List.all_eq_true] at h2 ⊢
    intro p hp
    have h9 := h2 p hp
    simp only [Bool.or_eq_true, decide_eq_true_eq] at h9 ⊢
    omega) h5⟩
theorem rowN.fw {C C1 : Nat → Int32} {b : Int} {l : List (Int × Int)} (h : rowN C b) (t : tR C b) (hb : 0 ≤ b) (f : fC C C1 b l) (w : wz C C1 b) (h1 : avB l 1 1 = true) (h2 : avB l 20 26 = true) (h3 : avB l 31 34 = true) (h4 : avB l 43 43 = true) (h5 : avB l 170 229 = true) (h6 : avB l 5 5 = true) (h7 : avB l 9 9 = true) : rowN C1 b :=
  ⟨h.1.fw t hb f w h1 h2 h3 h4 h5, h.2.fC t.p26.2 hb f h6 h7 (by
    unfold avB at h2 ⊢
    rw [List.all_eq_true] at h2 ⊢
    intro p hp
    have h9 := h2 p hp
    simp only [Bool.or_eq_true, decide_eq_true_eq] at h9 ⊢
    omega) h3⟩
theorem wz_of {C C1 : Nat → Int32} {b : Int} {l : List (Int × Int)} (f : fC C C1 b l) (hb : 0 ≤ b) (hl : avB l 110 169 = true) : wz C C1 b := wz.rf.fC f hb hl
theorem fC.s1 {A A1 : Nat → Nat → Int32} {b k : Int} {x : Int32} (e : A1 = va_up A 40 (upd (A 40) (b + k).toNat x)) (hb : 0 ≤ b) (hk : 0 ≤ k) : fC (A 40) (A1 40) b [(k, k)] := fun j hj h9 => by
  rw [e, va_up_self]
  have h8 := h9 (k, k) List.mem_cons_self
  exact pk_un (by simp only at h8; omega)
/-- whose turn it is now is set -/
theorem rowN.nx {A A1 : Nat → Nat → Int32} {b : Int} {x : Int32} (h : rowP (A 40) b) (t : tR (A 40) b) (hb : 0 ≤ b) (e : A1 = va_up A 40 (upd (A 40) (b + 9).toNat x)) (hs : x.toInt = -1 ∨ (0 ≤ x.toInt ∧ x.toInt ≤ 3 ∧ 1 ≤ (A 40 (b + x.toInt + 22).toNat).toInt ∧ nL (A 40) b x.toInt (A 40 (b + 26).toNat).toInt)) : rowN (A1 40) b := by
  have f := fC.s1 (k := 9) e hb (by decide)
  refine ⟨h.fw t hb f (wz_of f hb (by decide)) (by decide) (by decide) (by decide) (by decide) (by decide), ?_⟩
  intro g1 g2
  have e9 : A1 40 (b + 9).toNat = x := by rw [e, va_up_self, pk_us]
  rw [e9] at g2 ⊢
  rcases hs with h9 | ⟨g3, g4, g5, g6⟩
  · exact absurd h9 g2
  · refine ⟨g3, g4, ?_, ?_⟩
    · unfold hd; rw [f.ar hb (lo := 22) (hi := 26) (by decide) _ (by decide) (by omega) (by omega)]; exact g5
    · rw [f.ar hb (lo := 22) (hi := 26) (by decide) (b + 26) (by decide) (by omega) (by omega)]; exact g6.fC t.p26.2 hb f (by decide)
theorem rowN.d2 {C : Nat → Int32} {b : Int} (h : rowP C b) (h5 : (C (b + 5).toNat).toInt ≠ 1) : rowN C b := ⟨h, fun h9 => absurd h9 h5⟩
