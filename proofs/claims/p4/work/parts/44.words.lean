/-- what stays of the cells: all but these places of the row at b -/
def fC (C C1 : Nat → Int32) (b : Int) (l : List (Int × Int)) : Prop := ∀ j : Int, 0 ≤ j → (∀ p ∈ l, j < b + p.1 ∨ b + p.2 < j) → C1 j.toNat = C j.toNat
def fSub (l1 l2 : List (Int × Int)) : Bool := l1.all (fun p => l2.any (fun q => decide (q.1 ≤ p.1) && decide (p.2 ≤ q.2)))
theorem fC.tr {C C1 C2 : Nat → Int32} {b : Int} {l1 l2 : List (Int × Int)} (h1 : fC C C1 b l2) (h2 : fC C1 C2 b l1) (hs : fSub l1 l2 = true) : fC C C2 b l2 := fun j hj h => by
  refine (h2 j hj (fun p hp => ?_)).trans (h1 j hj h)
  have h3 := List.all_eq_true.mp hs p hp
  obtain ⟨q, hq, h4⟩ := List.any_eq_true.mp h3
  simp only [Bool.and_eq_true, decide_eq_true_eq] at h4
  have h5 := h q hq
  omega
theorem fC.eq {C C1 C2 : Nat → Int32} {b : Int} {l : List (Int × Int)} (h1 : fC C C1 b l) (h2 : C2 = C1) : fC C C2 b l := by rw [h2]; exact h1
theorem fC.mv {C C1 : Nat → Int32} {b b' : Int} {l : List (Int × Int)} (h1 : fC C C1 b l) (h2 : b' = b) : fC C C1 b' l := by rw [h2]; exact h1
theorem fC.st {A A1 : Nat → Nat → Int32} {i b lo hi r : Int} {x : Int32} (e : A1 = va_up A 40 (upd (A 40) i.toNat x)) (hb : 0 ≤ b) (h0 : 0 ≤ lo) (hP : zEq i (b + r)) (hl : lo ≤ r ∧ r ≤ hi) : fC (A 40) (A1 40) b [(lo, hi)] := fun j hj h9 => by
  rw [e, va_up_self]
  have h8 := h9 (lo, hi) List.mem_cons_self
  unfold zEq at hP
  exact pk_un (by simp only at h8; omega)
