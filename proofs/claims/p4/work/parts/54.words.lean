theorem z_remP {x a b : Int32} {A B : Int} (e : x = a - a / b * b) (ha : a.toInt = A) (hb : b.toInt = B) (h0 : 0 ≤ A) (h1 : 0 < B) : 0 ≤ x.toInt ∧ x.toInt < B := by
  have h := z_rem e ha hb h1
  have h2 := h.2.2 h0
  omega
theorem fC.s2 {A A1 : Nat → Nat → Int32} {b i lo hi : Int} {x : Int32} (e : A1 = va_up A 40 (upd (A 40) i.toNat x)) (hb : 0 ≤ b) (h0 : 0 ≤ lo) (hii : b + lo ≤ i ∧ i ≤ b + hi) : fC (A 40) (A1 40) b [(lo, hi)] := fun j hj h9 => by
  rw [e, va_up_self]
  have h8 := h9 (lo, hi) List.mem_cons_self
  exact pk_un (by simp only at h8; omega)
theorem rS.gen {C C1 : Nat → Int32} {b s : Int} (h : rS C b) (hs : 0 ≤ s ∧ s ≤ 3) (eo : ∀ q : Int, 0 ≤ q → q ≤ 3 → q ≠ s → hd C1 b q = hd C b q) (h1 : (C1 (b + 21).toNat).toInt + mx (hd C1 b s) + (C1 (b + 26).toNat).toInt + (C1 (b + 20).toNat).toInt ≤ (C (b + 21).toNat).toInt + mx (hd C b s) + (C (b + 26).toNat).toInt + (C (b + 20).toNat).toInt) (h2 : (C1 (b + 21).toNat).toInt + mx (hd C1 b s) + (C1 (b + 43).toNat).toInt ≤ (C (b + 21).toNat).toInt + mx (hd C b s) + (C (b + 43).toNat).toInt) : rS C1 b := by
  unfold rS at h ⊢
  rw [hS_ch hs eo]
  omega
theorem hd_u {A A1 : Nat → Nat → Int32} {b s : Int} {x : Int32} (hb : 0 ≤ b) (hs : 0 ≤ s ∧ s ≤ 3) (e : A1 = va_up A 40 (upd (A 40) (b + s + 22).toNat x)) : hd (A1 40) b s = x.toInt ∧ ∀ q : Int, 0 ≤ q → q ≤ 3 → q ≠ s → hd (A1 40) b q = hd (A 40) b q := by
  unfold hd
  rw [e, va_up_self]
  exact ⟨by rw [pk_us], fun q h1 h2 h3 => by rw [pk_un (by omega)]⟩
/-- a hand is set, to no more than it was -/
theorem rowP.hv {A A1 : Nat → Nat → Int32} {b s : Int} {x : Int32} (h : rowP (A 40) b) (t : tR (A 40) b) (hb : 0 ≤ b) (hs : 0 ≤ s ∧ s ≤ 3) (e : A1 = va_up A 40 (upd (A 40) (b + s + 22).toNat x)) (hx : mx x.toInt ≤ mx (hd (A 40) b s)) : rowP (A1 40) b := by
  have f : fC (A 40) (A1 40) b [(22, 25)] := fC.s2 e hb (by decide) (by omega)
  have g := hd_u hb hs e
  have e21 := f.ar hb (lo := 21) (hi := 21) (by decide) (b + 21) (by decide) (by omega) (by omega)
  have e26 := f.ar hb (lo := 26) (hi := 26) (by decide) (b + 26) (by decide) (by omega) (by omega)
  have e20 := f.ar hb (lo := 20) (hi := 20) (by decide) (b + 20) (by decide) (by omega) (by omega)
  have e43 := f.ar hb (lo := 43) (hi := 43) (by decide) (b + 43) (by decide) (by omega) (by omega)
  refine ⟨h.1.gen hs g.2 (by rw [e21, e26, e20, g.1]; omega) (by rw [e21, e43, g.1]; omega), ?_, h.2.2.fw hb f (wz_of f hb (by decide)) t.p1.2 t.p21.2 (by decide) (by decide) (by decide)⟩
  rw [e26]; exact h.2.1.fC t.p26.2 hb f (by decide)
/-- a card comes from the rest to a hand -/
theorem rowP.th {C C1 : Nat → Int32} {b s : Int} (h : rowP C b) (t : tR C b) (hb : 0 ≤ b) (hs : 0 ≤ s ∧ s ≤ 3) (h0 : 0 ≤ hd C b s) (f : fC C C1 b [(21, 21), (22, 25), (110, 169), (170, 229), (230, 469)]) (e21 : (C1 (b + 21).toNat).toInt = (C (b + 21).toNat).toInt - 1) (es : hd C1 b s = hd C b s + 1) (eo : ∀ q : Int, 0 ≤ q → q ≤ 3 → q ≠ s → C1 (b + q + 22).toNat = C (b + q + 22).toNat) (hk : rK C b → rK C1 b) : rowP C1 b := by
  have e26 := f.ar hb (lo := 26) (hi := 26) (by decide) (b + 26) (by decide) (by omega) (by omega)
  have e20 := f.ar hb (lo := 20) (hi := 20) (by decide) (b + 20) (by decide) (by omega) (by omega)
  have e43 := f.ar hb (lo := 43) (hi := 43) (by decide) (b + 43) (by decide) (by omega) (by omega)
  have m1 := mx_of h0
  have m2 : mx (hd C1 b s) = hd C b s + 1 := by rw [es]; exact mx_of (by omega)
  refine ⟨h.1.gen hs (fun q h1 h2 h3 => by unfold hd; rw [eo q h1 h2 h3]) (by rw [e21, e26, e20, m1, m2]; omega) (by rw [e21, e43, m1, m2]; omega), ?_, hk h.2.2⟩
  rw [e26]; exact h.2.1.fC t.p26.2 hb f (by decide)
theorem rowP.h59 {C : Nat → Int32} {b s : Int} (h : rowP C b) (t : tR C b) (hs : 0 ≤ s ∧ s ≤ 3) (hr : 0 < (C (b + 21).toNat).toInt) : (C (b + s + 22).toNat).toInt ≤ 59 := by
  have h1 := hS_ge (C := C) (b := b) hs
  have h2 := mx_le (hd C b s)
  have h3 := h.1.2
  have h4 := t.p43
  have h5 : hd C b s = (C (b + s + 22).toNat).toInt := rfl
  omega
/-- two cards of the rest change places -/
theorem bgn.sw {A A1 A2 : Nat → Nat → Int32} {b i j p : Int} {x y : Int32} (h : bgn (A 40) b) (hb : 0 ≤ b) (hp : (A 40 (b + 1).toNat).toInt = p) (hp2 : p ≤ 60) (hi : 0 ≤ i ∧ i < p) (hj : 0 ≤ j ∧ j < p) (e1 : A1 = va_up A 40 (upd (A 40) (b + i + 170).toNat x)) (e2 : A2 = va_up A1 40 (upd (A1 40) (b + j + 170).toNat y)) (hx : x = A 40 (b + j + 170).toNat) (hy : y = A 40 (b + i + 170).toNat) : bgn (A2 40) b := by
  have f1 : fC (A 40) (A1 40) b [(170, 229)] := fC.s2 e1 hb (by decide) (by omega)
  have f2 : fC (A1 40) (A2 40) b [(170, 229)] := fC.s2 e2 hb (by decide) (by omega)
  have f : fC (A 40) (A2 40) b [(170, 229)] := fC.tr f1 f2 (by decide)
  have g : ∀ k : Int, 0 ≤ k → k < 60 → k ≠ i → k ≠ j → A2 40 (b + k + 170).toNat = A 40 (b + k + 170).toNat := fun k k0 k1 k2 k3 => by
    rw [e2, va_up_self, pk_un (by omega), e1, va_up_self, pk_un (by omega)]
  have gj : A2 40 (b + j + 170).toNat = A 40 (b + i + 170).toNat := by rw [e2, va_up_self, pk_us, hy]
  have gi : i ≠ j → A2 40 (b + i + 170).toNat = A 40 (b + j + 170).toNat := fun hne => by rw [e2, va_up_self, pk_un (by omega), e1, va_up_self, pk_us, hx]
  obtain ⟨h1, h2, h3, h4⟩ := h
  have e1' := f.ar hb (lo := 1) (hi := 1) (by decide) (b + 1) (by decide) (by omega) (by omega)
  have e21 := f.ar hb (lo := 20) (hi := 44) (by decide) (b + 21) (by decide) (by omega) (by omega)
  refine ⟨?_, fun q q0 q1 => ?_, by rw [e1', e21]; exact h3, ?_⟩
  · unfold z4
    rw [f.ar hb (lo := 20) (hi := 44) (by decide) (b + 20) (by decide) (by omega) (by omega), f.ar hb (lo := 20) (hi := 44) (by decide) (b + 26) (by decide) (by omega) (by omega), f.ar hb (lo := 20) (hi := 44) (by decide) (b + 43) (by decide) (by omega) (by omega), f.ar hb (lo := 20) (hi := 44) (by decide) (b + 44) (by decide) (by omega) (by omega)]
    exact h1
  · rw [f.ar hb (lo := 20) (hi := 44) (by decide) (b + q + 22) (by decide) (by omega) (by omega)]; exact h2 q q0 q1
  · intro c c0 c1 c2
    rw [e1'] at c1
    rw [f.ar hb (lo := 110) (hi := 169) (by decide) (b + c + 110) (by decide) (by omega) (by omega)] at c2
    obtain ⟨k, k0, k1, k2⟩ := h4 c c0 c1 c2
    rw [e21]
    by_cases ki : k = i
    · subst ki
      exact ⟨j, hj.1, by omega, by rw [gj]; exact k2⟩
    · by_cases kj : k = j
      · subst kj
        exact ⟨i, hi.1, by omega, by rw [gi (fun e => ki e.symm)]; exact k2⟩
      · exact ⟨k, k0, k1, by rw [g k k0 (by omega) ki kj]; exact k2⟩
/-- a card is laid -/
theorem rowP.dl {C C1 : Nat → Int32} {b s : Int} (h : rowP C b) (t : tR C b) (hs : 0 ≤ s ∧ s ≤ 3) (hn : nL C b s (C (b + 26).toNat).toInt) (h1 : 1 ≤ hd C b s) (es : hd C1 b s = hd C b s - 1) (eo : ∀ q : Int, 0 ≤ q → q ≤ 3 → q ≠ s → hd C1 b q = hd C b q) (e21 : (C1 (b + 21).toNat).toInt = (C (b + 21).toNat).toInt) (e20 : (C1 (b + 20).toNat).toInt = (C (b + 20).toNat).toInt) (e26 : (C1 (b + 26).toNat).toInt = (C (b + 26).toNat).toInt + 1) (e43 : (C1 (b + 43).toNat).toInt ≤ (C (b + 43).toNat).toInt + 1) (el : ∀ i : Int, 0 ≤ i → i < (C (b + 26).toNat).toInt → C1 (b + i + 31).toNat = C (b + i + 31).toNat) (en : (C1 (b + (C (b + 26).toNat).toInt + 31).toNat).toInt = s) (hk : rK C1 b) : rowP C1 b := by
  have m1 : mx (hd C b s) = hd C b s := mx_of (by omega)
  have m2 : mx (hd C1 b s) = hd C b s - 1 := by rw [es]; exact mx_of (by omega)
  refine ⟨h.1.gen hs eo (by rw [e21, e26, e20, m1, m2]; omega) (by rw [e21, m1, m2]; omega), ?_, hk⟩
  rw [e26]
  intro i j hi hj hjn
  rcases (by omega : j < (C (b + 26).toNat).toInt ∨ j = (C (b + 26).toNat).toInt) with h9 | h9
  · rw [el i hi (by omega), el j (by omega) h9]; exact h.2.1 i j hi hj h9
  · rw [h9, en, el i hi (by omega)]; exact hn i hi (by omega)
/-- a trick is over -/
theorem rowP.et {C C1 : Nat → Int32} {b : Int} (h : rowP C b) (hl : 1 ≤ (C (b + 26).toNat).toInt) (eh : ∀ q : Int, 0 ≤ q → q ≤ 3 → hd C1 b q = hd C b q) (e21 : (C1 (b + 21).toNat).toInt = (C (b + 21).toNat).toInt) (e20 : (C1 (b + 20).toNat).toInt = (C (b + 20).toNat).toInt + 1) (e26 : (C1 (b + 26).toNat).toInt = 0) (e43 : (C1 (b + 43).toNat).toInt = (C (b + 43).toNat).toInt) (hk : rK C1 b) : rowP C1 b := by
  refine ⟨?_, dL.z (by omega), hk⟩
  have h9 := h.1
  unfold rS at h9 ⊢
  rw [hS_eq eh]
  omega
/-- hands grow smaller, and no more -/
theorem rowP.cl {C C1 : Nat → Int32} {b : Int} {l : List (Int × Int)} (h : rowP C b) (t : tR C b) (hb : 0 ≤ b) (f : fC C C1 b l) (w : wz C C1 b) (hm : ∀ q : Int, 0 ≤ q → q ≤ 3 → hd C1 b q ≤ hd C b q) (h1 : avB l 1 1 = true) (h2 : avB l 20 21 = true) (h26 : avB l 26 26 = true) (h3 : avB l 31 34 = true) (h4 : avB l 43 43 = true) (h5 : avB l 170 229 = true) (h21 : avB l 21 21 = true) : rowP C1 b := by
  refine ⟨?_, ?_, h.2.2.fw hb f w t.p1.2 t.p21.2 h1 h21 h5⟩
  · have h9 := h.1
    unfold rS at h9 ⊢
    rw [f.ar hb h2 (b + 21) (by decide) (by omega) (by omega), f.ar hb h2 (b + 20) (by decide) (by omega) (by omega), f.ar hb h26 (b + 26) (by decide) (by omega) (by omega), f.ar hb h4 (b + 43) (by decide) (by omega) (by omega)]
    have := hS_mo hm
    omega
  · rw [f.ar hb h26 (b + 26) (by decide) (by omega) (by omega)]; exact h.2.1.fC t.p26.2 hb f h3
/-- a card is put into the rest -/
theorem rK.app {C C1 : Nat → Int32} {b : Int} {c x : Int32} (h : rK C b) (t : tR C b) (hr : (C (b + 21).toNat).toInt ≤ 59) (hc : 0 ≤ c.toInt ∧ c.toInt ≤ 59) (hb : 0 ≤ b) (e : C1 = upd (upd (upd C (b + (C (b + 21).toNat).toInt + 170).toNat c) (b + 21).toNat x) (b + c.toInt + 110).toNat 0) (h1 : x.toInt = (C (b + 21).toNat).toInt + 1) : rK C1 b := by
  have t1 := t.p1
  have t21 := t.p21
  have g : ∀ j : Int, 0 ≤ j → j ≠ b + c.toInt + 110 → j ≠ b + 21 → j ≠ b + (C (b + 21).toNat).toInt + 170 → C1 j.toNat = C j.toNat := fun j h0 h1 h2 h3 => by
    rw [e, pk_un (by omega), pk_un (by omega), pk_un (by omega)]
  have e21 : (C1 (b + 21).toNat).toInt = (C (b + 21).toNat).toInt + 1 := by rw [e, pk_un (by omega), pk_us]; exact h1
  intro d d0 d1 d2
  rw [g (b + 1) (by omega) (by omega) (by omega) (by omega)] at d1
  rw [e21]
  by_cases hd : d = c.toInt
  · refine ⟨(C (b + 21).toNat).toInt, t21.1, by omega, ?_⟩
    rw [e, pk_un (by omega), pk_un (by omega), pk_us, hd]
  · rw [g (b + d + 110) (by omega) (by omega) (by omega) (by omega)] at d2
    obtain ⟨k, k0, k1, k2⟩ := h d d0 d1 d2
    exact ⟨k, k0, by omega, by rw [g (b + k + 170) (by omega) (by omega) (by omega) (by omega)]; exact k2⟩
theorem rowP.s5 {A A1 : Nat → Nat → Int32} {b : Int} {x : Int32} (h : rowP (A 40) b) (t : tR (A 40) b) (hb : 0 ≤ b) (e : A1 = va_up A 40 (upd (A 40) (b + 5).toNat x)) : rowP (A1 40) b := by
  have f := fC.s1 (k := 5) e hb (by decide)
  exact h.fw t hb f (wz_of f hb (by decide)) (by decide) (by decide) (by decide) (by decide) (by decide)
