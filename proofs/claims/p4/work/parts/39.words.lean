/-- what the search has still to try -/
def gW (l : Int) : Int := if l = 0 then 1000 else if l = 1 then 100 else if l = 2 then 10 else 1
def gS (T : Nat → Int32) (start level l : Int) : Int := if start ≤ l ∧ l ≤ level then (4 - (T l.toNat).toInt) * gW l else 0
def gM (T : Nat → Int32) (start level : Int) : Nat := (level + gS T start level 0 + gS T start level 1 + gS T start level 2 + gS T start level 3).toNat
theorem gM_leaf {T : Nat → Int32} {start level : Int} {x : Int32} (hT : ∀ j, j < 4 → 0 ≤ (T j).toInt ∧ (T j).toInt ≤ 4) (h0 : 0 ≤ start ∧ start ≤ level ∧ level ≤ 3) (hx : (T level.toNat).toInt < x.toInt ∧ x.toInt ≤ 4) : gM (upd T level.toNat x) start level < gM T start level := by
  have t0 := hT 0 (by decide)
  have t1 := hT 1 (by decide)
  have t2 := hT 2 (by decide)
  have t3 := hT 3 (by decide)
  rcases (by omega : level = 0 ∨ level = 1 ∨ level = 2 ∨ level = 3) with rfl | rfl | rfl | rfl <;> rcases (by omega : start = 0 ∨ start = 1 ∨ start = 2 ∨ start = 3) with rfl | rfl | rfl | rfl <;> first | (exfalso; omega) | (simp [gM, gS, gW, upd] at hx ⊢; omega)
theorem gM_push {T : Nat → Int32} {start level : Int} {x : Int32} (hT : ∀ j, j < 4 → 0 ≤ (T j).toInt ∧ (T j).toInt ≤ 4) (h0 : 0 ≤ start ∧ start ≤ level ∧ level + 1 ≤ 3) (hx : (T level.toNat).toInt < x.toInt ∧ x.toInt ≤ 4) : gM (upd (upd T level.toNat x) (level + 1).toNat 0) start (level + 1) < gM T start level := by
  have t0 := hT 0 (by decide)
  have t1 := hT 1 (by decide)
  have t2 := hT 2 (by decide)
  have t3 := hT 3 (by decide)
  rcases (by omega : level = 0 ∨ level = 1 ∨ level = 2) with rfl | rfl | rfl <;> rcases (by omega : start = 0 ∨ start = 1 ∨ start = 2) with rfl | rfl | rfl <;> first | (exfalso; omega) | (simp [gM, gS, gW, upd, ti_0] at hx ⊢; omega)
theorem gM_pop {T : Nat → Int32} {start level : Int} (hT : ∀ j, j < 4 → 0 ≤ (T j).toInt ∧ (T j).toInt ≤ 4) (h0 : 0 ≤ start ∧ start < level ∧ level ≤ 3) : gM T start (level - 1) < gM T start level := by
  have t0 := hT 0 (by decide)
  have t1 := hT 1 (by decide)
  have t2 := hT 2 (by decide)
  have t3 := hT 3 (by decide)
  rcases (by omega : level = 1 ∨ level = 2 ∨ level = 3) with rfl | rfl | rfl <;> rcases (by omega : start = 0 ∨ start = 1 ∨ start = 2) with rfl | rfl | rfl <;> first | (exfalso; omega) | (simp [gM, gS, gW]; omega)
