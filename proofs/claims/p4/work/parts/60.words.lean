/-- all rows are sound -/
def aR (C : Nat → Int32) (n : Int) : Prop := ∀ r : Int, 0 ≤ r → r ≤ 36 → rowOk C (1290 * r) n
theorem rowOk.cg {C C1 : Nat → Int32} {b b1 n : Int} (h : rowOk C b n) (t : tR C b) (e : ∀ j : Int, 0 ≤ j → j < 1290 → C1 (b1 + j).toNat = C (b + j).toNat) : rowOk C1 b1 n :=
  ⟨h.1.cg t.p1.2 t.p21.2 t.p26.2 e, h.2.1.cg (e 1 (by decide) (by decide)) (fun j h1 h2 => e j (by omega) h2), by rw [e 44 (by decide) (by decide)]; exact h.2.2⟩
theorem mT.r {f : Nat → Int32} {A : Nat → Nat → Int32} (hT : mT f A) {r : Int} (h : 0 ≤ r ∧ r ≤ 36) : tR (A 40) (1290 * r) := hT.row (zRow.of rfl h)
theorem fC.oth {C C1 : Nat → Int32} {b b2 : Int} {l : List (Int × Int)} (f : fC C C1 b l) (hl : inB l = true) (hb : 0 ≤ b ∧ 0 ≤ b2) (hne : b2 + 1290 ≤ b ∨ b + 1290 ≤ b2) : ∀ j : Int, 0 ≤ j → j < 1290 → C1 (b2 + j).toNat = C (b2 + j).toNat := fun j h1 h2 => f (b2 + j) (by omega) (fun p hp => by
  have h9 := List.all_eq_true.mp hl p hp
  simp only [Bool.and_eq_true, decide_eq_true_eq] at h9
  omega)
theorem rowOk.mono {C : Nat → Int32} {b n n1 : Int} (h : rowOk C b n) (hn : n ≤ n1) : rowOk C b n1 := ⟨h.1, h.2.1, by have := h.2.2; omega⟩
theorem aR.mono {C : Nat → Int32} {n n1 : Int} (h : aR C n) (hn : n ≤ n1) : aR C n1 := fun r h1 h2 => (h r h1 h2).mono hn
theorem aR.set {f : Nat → Int32} {A : Nat → Nat → Int32} {C1 : Nat → Int32} {n n1 t : Int} {l : List (Int × Int)} (h : aR (A 40) n) (hT : mT f A) (ht : 0 ≤ t ∧ t ≤ 36) (fc : fC (A 40) C1 (1290 * t) l) (hl : inB l = true) (hn : n ≤ n1) (hr : rowOk C1 (1290 * t) n1) : aR C1 n1 := fun r h1 h2 => by
  by_cases e : r = t
  · rw [e]; exact hr
  · exact ((h r h1 h2).cg (hT.r ⟨h1, h2⟩) (fc.oth hl (by omega) (by omega))).mono hn
theorem aR.cp {f : Nat → Int32} {A : Nat → Nat → Int32} {C1 : Nat → Int32} {n t s : Int} (h : aR (A 40) n) (hT : mT f A) (ht : 0 ≤ t ∧ t ≤ 36) (hs : 0 ≤ s ∧ s ≤ 36) (fc : fC (A 40) C1 (1290 * t) [(0, 1289)]) (hc : cpy (A 40) C1 (1290 * t) (1290 * s) 1290) : aR C1 n :=
  h.set hT ht fc (by decide) (Int.le_refl _) ((h s hs.1 hs.2).cg (hT.r hs) hc)
theorem aR.do {f : Nat → Int32} {A : Nat → Nat → Int32} {C1 : Nat → Int32} {n t : Int} {l : List (Int × Int)} (h : aR (A 40) n) (hT : mT f A) (ht : 0 ≤ t ∧ t ≤ 36) (fc : fC (A 40) C1 (1290 * t) l) (hl : inB l = true) (hr : rowN C1 (1290 * t)) (h1 : avB l 1 1 = true) (h2 : avB l 890 1289 = true) (h3 : avB l 44 44 = true) : aR C1 n :=
  h.set hT ht fc hl (Int.le_refl _) ⟨hr, (h t ht.1 ht.2).2.1.fC (by omega) fc h1 h2, by rw [fc.ar (by omega) h3 _ (by decide) (by omega) (by omega)]; exact (h t ht.1 ht.2).2.2⟩
theorem aR.tl {f : Nat → Int32} {A : Nat → Nat → Int32} {C1 : Nat → Int32} {n t : Int} (h : aR (A 40) n) (hT : mT f A) (ht : 0 ≤ t ∧ t ≤ 36) (fc : fC (A 40) C1 (1290 * t) [(44, 44), (890, 1289)]) (hc : (C1 (1290 * t + 44).toNat).toInt = (A 40 (1290 * t + 44).toNat).toInt + 1) (hto : tO (A 40) (1290 * t) → tO C1 (1290 * t)) : aR C1 (n + 1) :=
  h.set hT ht fc (by decide) (by omega) ⟨(h t ht.1 ht.2).1.fw (hT.r ht) (by omega) fc (wz_of fc (by omega) (by decide)) (by decide) (by decide) (by decide) (by decide) (by decide) (by decide) (by decide), hto (h t ht.1 ht.2).2.1, by rw [hc]; have := (h t ht.1 ht.2).2.2; omega⟩
/-- rows that no row's soundness looks at -/
theorem aR.fw {f : Nat → Int32} {A : Nat → Nat → Int32} {C1 : Nat → Int32} {n t : Int} {l : List (Int × Int)} (h : aR (A 40) n) (hT : mT f A) (ht : 0 ≤ t ∧ t ≤ 36) (fc : fC (A 40) C1 (1290 * t) l) (hl : inB l = true) (w : wz (A 40) C1 (1290 * t)) (h1 : avB l 1 1 = true) (h2 : avB l 20 26 = true) (h3 : avB l 31 34 = true) (h4 : avB l 43 43 = true) (h5 : avB l 170 229 = true) (h6 : avB l 5 5 = true) (h7 : avB l 9 9 = true) (h8 : avB l 890 1289 = true) (h9 : avB l 44 44 = true) : aR C1 n :=
  h.do hT ht fc hl ((h t ht.1 ht.2).1.fw (hT.r ht) (by omega) fc w h1 h2 h3 h4 h5 h6 h7) h1 h8 h9
/-- the end that was solved last -/
def cOk (f23 f20 : Int) (C : Nat → Int32) : Prop := ∀ t : Int, 0 ≤ t → t ≤ 3 → f23 = t → (C (1290 * t + 5).toNat).toInt = 1 → aOk C (1290 * t) f20
theorem cOk.m1 {f23 f20 : Int} {C : Nat → Int32} (h : f23 = -1) : cOk f23 f20 C := fun t h1 h2 h3 => by omega
/-- the reference, behind n calls -/
def okk (n : Int) (f : Nat → Int32) (A : Nat → Nat → Int32) : Prop := aR (A 40) n ∧ cOk (f 23).toInt (f 20).toInt (A 40) ∧ (f 11).toInt ≤ 1000 * n ∧ (f 9).toInt ≤ 1000 * n
theorem fC.up {C C1 : Nat → Int32} {b lo hi : Int} (f : fC C C1 b [(0, 1289)]) (h : lo ≤ b ∧ b + 1289 ≤ hi) : fC C C1 0 [(lo, hi)] := fun j hj h9 => f j hj (fun p hp => by
  have h8 := h9 (lo, hi) List.mem_cons_self
  rw [List.mem_singleton.mp hp]
  simp only at h8 ⊢
  omega)
theorem okk.same {n n1 : Int} {f f1 : Nat → Int32} {A A1 : Nat → Nat → Int32} (h : okk n f A) (hn : n + 1 ≤ n1) (hA : A1 40 = A 40) (h23 : f1 23 = f 23) (h20 : f1 20 = f 20) (h11 : (f1 11).toInt ≤ (f 11).toInt + 1000) (h9 : (f1 9).toInt ≤ (f 9).toInt + 1000) : okk n1 f1 A1 := by
  unfold okk at h ⊢
  rw [hA, h23, h20]
  exact ⟨h.1.mono (by omega), h.2.1, by omega, by omega⟩
theorem aR.dl {f : Nat → Int32} {A : Nat → Nat → Int32} {C1 : Nat → Int32} {n t : Int} {l : List (Int × Int)} (h : aR (A 40) n) (hT : mT f A) (ht : 0 ≤ t ∧ t ≤ 36) (fc : fC (A 40) C1 (1290 * t) l) (hl : inB l = true) (hr : rowN C1 (1290 * t)) (h44 : (C1 (1290 * t + 44).toNat).toInt = 0) (hn : 0 ≤ n) (h1 : avB l 1 1 = true) (h2 : avB l 890 1289 = true) : aR C1 n :=
  h.set hT ht fc hl (Int.le_refl _) ⟨hr, (h t ht.1 ht.2).2.1.fC (by omega) fc h1 h2, by omega⟩
theorem aOk.cg {C C1 : Nat → Int32} {b all : Int} (h : aOk C b all) (e : ∀ q : Int, 0 ≤ q → q < 4 → C1 (b + q + 22).toNat = C (b + q + 22).toNat) : aOk C1 b all := fun q h1 h2 h3 => h q h1 h2 (by rw [← e q h1 h2]; exact h3)
theorem cOk.fw {f23 f20 t : Int} {C C1 : Nat → Int32} {l : List (Int × Int)} (h : cOk f23 f20 C) (ht : 0 ≤ t ∧ t ≤ 36) (fc : fC C C1 (1290 * t) l) (hl : inB l = true) (h5 : avB l 5 5 = true) (h22 : avB l 22 25 = true) : cOk f23 f20 C1 := fun u h1 h2 h3 h4 => by
  by_cases e : u = t
  · subst e
    rw [fc.ar (by omega) h5 _ (by decide) (by omega) (by omega)] at h4
    exact (h u h1 h2 h3 h4).cg (fun q q0 q1 => fc.ar (by omega) h22 _ (by decide) (by omega) (by omega))
  · have o := fc.oth hl (b2 := 1290 * u) (by omega) (by omega)
    rw [o 5 (by decide) (by decide)] at h4
    exact (h u h1 h2 h3 h4).cg (fun q q0 q1 => by rw [show 1290 * u + q + 22 = 1290 * u + (q + 22) by omega]; exact o (q + 22) (by omega) (by omega))
theorem cOk.st {f23 f20 t : Int} {C C1 : Nat → Int32} {l : List (Int × Int)} (h : cOk f23 f20 C) (ht : 0 ≤ t ∧ t ≤ 36) (fc : fC C C1 (1290 * t) l) (hl : inB l = true) (h5 : (C1 (1290 * t + 5).toNat).toInt ≠ 1) : cOk f23 f20 C1 := fun u h1 h2 h3 h4 => by
  by_cases e : u = t
  · subst e
    exact absurd h4 h5
  · have o := fc.oth hl (b2 := 1290 * u) (by omega) (by omega)
    rw [o 5 (by decide) (by decide)] at h4
    exact (h u h1 h2 h3 h4).cg (fun q q0 q1 => by rw [show 1290 * u + q + 22 = 1290 * u + (q + 22) by omega]; exact o (q + 22) (by omega) (by omega))
/-- places of a row that are zero -/
def zro (C : Nat → Int32) (b lo hi : Int) : Prop := ∀ j : Int, lo ≤ j → j ≤ hi → (C (b + j).toNat).toInt = 0
theorem zro.z {C : Nat → Int32} {b lo hi : Int} (h : hi < lo) : zro C b lo hi := fun j h1 h2 => by omega
theorem zro.s {A A1 : Nat → Nat → Int32} {b n n1 i : Int} {x : Int32} (h : zro (A 40) b 0 (n - 1)) (e : A1 = va_up A 40 (upd (A 40) i.toNat x)) (hb : 0 ≤ b ∧ 0 ≤ n) (hn : n1 = n + 1) (hi : i = b + n) (hx : x.toInt = 0) : zro (A1 40) b 0 (n1 - 1) := fun j h1 h2 => by
  rw [e, va_up_self]
  rcases (by omega : j < n ∨ j = n) with h9 | h9
  · rw [pk_un (by omega)]; exact h j h1 (by omega)
  · rw [h9, ← hi, pk_us]; exact hx
theorem zro.st {A A1 : Nat → Nat → Int32} {b lo hi i : Int} {x : Int32} (h : zro (A 40) b lo hi) (e : A1 = va_up A 40 (upd (A 40) i.toNat x)) (hb : 0 ≤ b + lo) (hii : 0 ≤ i ∧ (i < b + lo ∨ b + hi < i)) : zro (A1 40) b lo hi := fun j h1 h2 => by
  rw [e, va_up_self, pk_un (by omega)]; exact h j h1 h2
theorem tO.z {C : Nat → Int32} {b : Int} (h : zro C b 890 1289) : tO C b := fun k k0 k1 => by
  have h0 : (C (b + 4 * k + 890).toNat).toInt = 0 := by rw [show b + 4 * k + 890 = b + (4 * k + 890) by omega]; exact h _ (by omega) (by omega)
  refine ⟨fun h9 => absurd h0 h9, fun h9 => by omega, fun h9 => by omega⟩
theorem cOk.so {f23 f20 t : Int} {C : Nat → Int32} (h23 : f23 = t) (ha : aOk C (1290 * t) f20) : cOk f23 f20 C := fun u h1 h2 h3 h4 => by
  rw [show u = t by omega]; exact ha
theorem fC.lo {C C1 : Nat → Int32} {b i : Int} {l : List (Int × Int)} (f : fC C C1 b l) (hl : inB l = true) (h : 0 ≤ i ∧ i < b) : C1 i.toNat = C i.toNat := f i h.1 (fun p hp => by
  have h9 := List.all_eq_true.mp hl p hp
  simp only [Bool.and_eq_true, decide_eq_true_eq] at h9
  omega)
theorem aR.ag {f : Nat → Int32} {A : Nat → Nat → Int32} {C1 : Nat → Int32} {n : Int} {l : List (Int × Int)} (h : aR (A 40) n) (hT : mT f A) (fc : fC (A 40) C1 5160 l) (hl : inB l = true) (hr : rowN C1 5160) (hc : (C1 ((5160 : Int) + 44).toNat).toInt ≤ (A 40 ((5160 : Int) + 44).toNat).toInt) (h1 : avB l 1 1 = true) (h2 : avB l 890 1289 = true) : aR C1 n := by
  have h4 := h 4 (by decide) (by decide)
  rw [show (1290 * 4 : Int) = 5160 from rfl] at h4
  refine h.set (t := 4) hT (by decide) (fC.mv fc (by decide)) hl (Int.le_refl _) ?_
  rw [show (1290 * 4 : Int) = 5160 from rfl]
  exact ⟨hr, h4.2.1.fC (by decide) fc h1 h2, Int.le_trans hc h4.2.2⟩
