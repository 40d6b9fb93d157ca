/-- a row of the cells begins there; hidden from omega -/
def zRow (b : Int) : Prop := 0 ≤ b ∧ b ≤ 46440 ∧ b % 1290 = 0
def zCell (i lo hi : Int) : Prop := 0 ≤ i ∧ i < 47730 ∧ lo ≤ i % 1290 ∧ i % 1290 ≤ hi
theorem zRow.lin {b : Int} (h : zRow b) : 0 ≤ b ∧ b ≤ 46440 := ⟨h.1, h.2.1⟩
theorem zRow.of {b t : Int} (h : b = 1290 * t) (h2 : 0 ≤ t ∧ t ≤ 36) : zRow b := by unfold zRow; omega
def zEq (a b : Int) : Prop := a = b
theorem z_cell {i P b r lo hi lo2 hi2 : Int} (hb : zRow b) (h : zEq i P) (hP : P = b + r) (hl : lo2 ≤ r ∧ r ≤ hi2) (h0 : 0 ≤ lo ∧ hi < 1290 ∧ lo ≤ lo2 ∧ hi2 ≤ hi) : zCell i lo hi := by unfold zRow at hb; unfold zEq at h; unfold zCell; omega
theorem zCell.in {i lo hi : Int} (h : zCell i lo hi) : 0 ≤ i ∧ i < 47730 := ⟨h.1, h.2.1⟩
theorem z_pos {x : Int32} {i : Int} (h : x.toInt = i) : x.toNatClampNeg = i.toNat := by rw [← h]; rfl
theorem z_posE {x : Int32} {i : Int} (h : zEq x.toInt i) : x.toNatClampNeg = i.toNat := z_pos h
theorem tp_0 {i x : Int32} (h3 : zCell i.toInt 0 0) : tA 40 i.toNatClampNeg x := by
  have hc := z_cl h3.1
  unfold zCell at h3
  show tP (i.toNatClampNeg % 1290) x
  refine ⟨?_, ?_, ?_, ?_, ?_, ?_, ?_, ?_, ?_, ?_, ?_, ?_⟩ <;> intros <;> omega
theorem tp_2 {i x : Int32} (h3 : zCell i.toInt 2 8) : tA 40 i.toNatClampNeg x := by
  have hc := z_cl h3.1
  unfold zCell at h3
  show tP (i.toNatClampNeg % 1290) x
  refine ⟨?_, ?_, ?_, ?_, ?_, ?_, ?_, ?_, ?_, ?_, ?_, ?_⟩ <;> intros <;> omega
theorem tp_10 {i x : Int32} (h3 : zCell i.toInt 10 19) : tA 40 i.toNatClampNeg x := by
  have hc := z_cl h3.1
  unfold zCell at h3
  show tP (i.toNatClampNeg % 1290) x
  refine ⟨?_, ?_, ?_, ?_, ?_, ?_, ?_, ?_, ?_, ?_, ?_, ?_⟩ <;> intros <;> omega
theorem tp_39 {i x : Int32} (h3 : zCell i.toInt 39 42) : tA 40 i.toNatClampNeg x := by
  have hc := z_cl h3.1
  unfold zCell at h3
  show tP (i.toNatClampNeg % 1290) x
  refine ⟨?_, ?_, ?_, ?_, ?_, ?_, ?_, ?_, ?_, ?_, ?_, ?_⟩ <;> intros <;> omega
theorem tp_45 {i x : Int32} (h3 : zCell i.toInt 45 169) : tA 40 i.toNatClampNeg x := by
  have hc := z_cl h3.1
  unfold zCell at h3
  show tP (i.toNatClampNeg % 1290) x
  refine ⟨?_, ?_, ?_, ?_, ?_, ?_, ?_, ?_, ?_, ?_, ?_, ?_⟩ <;> intros <;> omega
theorem tp_470 {i x : Int32} (h3 : zCell i.toInt 470 769) : tA 40 i.toNatClampNeg x := by
  have hc := z_cl h3.1
  unfold zCell at h3
  show tP (i.toNatClampNeg % 1290) x
  refine ⟨?_, ?_, ?_, ?_, ?_, ?_, ?_, ?_, ?_, ?_, ?_, ?_⟩ <;> intros <;> omega
theorem tp_830 {i x : Int32} (h3 : zCell i.toInt 830 1289) : tA 40 i.toNatClampNeg x := by
  have hc := z_cl h3.1
  unfold zCell at h3
  show tP (i.toNatClampNeg % 1290) x
  refine ⟨?_, ?_, ?_, ?_, ?_, ?_, ?_, ?_, ?_, ?_, ?_, ?_⟩ <;> intros <;> omega
theorem tp_1 {i x : Int32} (h3 : zCell i.toInt 1 1) (h5 : 0 ≤ x.toInt ∧ x.toInt ≤ 60) : tA 40 i.toNatClampNeg x := by
  have hc := z_cl h3.1
  unfold zCell at h3
  show tP (i.toNatClampNeg % 1290) x
  refine ⟨?_, ?_, ?_, ?_, ?_, ?_, ?_, ?_, ?_, ?_, ?_, ?_⟩ <;> intros <;> omega
theorem tp_9 {i x : Int32} (h3 : zCell i.toInt 9 9) (h5 : -1 ≤ x.toInt ∧ x.toInt ≤ 3) : tA 40 i.toNatClampNeg x := by
  have hc := z_cl h3.1
  unfold zCell at h3
  show tP (i.toNatClampNeg % 1290) x
  refine ⟨?_, ?_, ?_, ?_, ?_, ?_, ?_, ?_, ?_, ?_, ?_, ?_⟩ <;> intros <;> omega
theorem tp_20 {i x : Int32} (h3 : zCell i.toInt 20 21) (h5 : 0 ≤ x.toInt ∧ x.toInt ≤ 60) : tA 40 i.toNatClampNeg x := by
  have hc := z_cl h3.1
  unfold zCell at h3
  show tP (i.toNatClampNeg % 1290) x
  refine ⟨?_, ?_, ?_, ?_, ?_, ?_, ?_, ?_, ?_, ?_, ?_, ?_⟩ <;> intros <;> omega
theorem tp_22 {i x : Int32} (h3 : zCell i.toInt 22 25) (h5 : -1 ≤ x.toInt ∧ x.toInt ≤ 60) : tA 40 i.toNatClampNeg x := by
  have hc := z_cl h3.1
  unfold zCell at h3
  show tP (i.toNatClampNeg % 1290) x
  refine ⟨?_, ?_, ?_, ?_, ?_, ?_, ?_, ?_, ?_, ?_, ?_, ?_⟩ <;> intros <;> omega
theorem tp_26 {i x : Int32} (h3 : zCell i.toInt 26 26) (h5 : 0 ≤ x.toInt ∧ x.toInt ≤ 4) : tA 40 i.toNatClampNeg x := by
  have hc := z_cl h3.1
  unfold zCell at h3
  show tP (i.toNatClampNeg % 1290) x
  refine ⟨?_, ?_, ?_, ?_, ?_, ?_, ?_, ?_, ?_, ?_, ?_, ?_⟩ <;> intros <;> omega
theorem tp_27 {i x : Int32} (h3 : zCell i.toInt 27 30) (h5 : 0 ≤ x.toInt ∧ x.toInt ≤ 59) : tA 40 i.toNatClampNeg x := by
  have hc := z_cl h3.1
  unfold zCell at h3
  show tP (i.toNatClampNeg % 1290) x
  refine ⟨?_, ?_, ?_, ?_, ?_, ?_, ?_, ?_, ?_, ?_, ?_, ?_⟩ <;> intros <;> omega
theorem tp_31 {i x : Int32} (h3 : zCell i.toInt 31 34) (h5 : 0 ≤ x.toInt ∧ x.toInt ≤ 3) : tA 40 i.toNatClampNeg x := by
  have hc := z_cl h3.1
  unfold zCell at h3
  show tP (i.toNatClampNeg % 1290) x
  refine ⟨?_, ?_, ?_, ?_, ?_, ?_, ?_, ?_, ?_, ?_, ?_, ?_⟩ <;> intros <;> omega
theorem tp_35 {i x : Int32} (h3 : zCell i.toInt 35 38) (h5 : 0 ≤ x.toInt ∧ x.toInt ≤ 1) : tA 40 i.toNatClampNeg x := by
  have hc := z_cl h3.1
  unfold zCell at h3
  show tP (i.toNatClampNeg % 1290) x
  refine ⟨?_, ?_, ?_, ?_, ?_, ?_, ?_, ?_, ?_, ?_, ?_, ?_⟩ <;> intros <;> omega
theorem tp_43 {i x : Int32} (h3 : zCell i.toInt 43 43) (h5 : 0 ≤ x.toInt ∧ x.toInt ≤ 60) : tA 40 i.toNatClampNeg x := by
  have hc := z_cl h3.1
  unfold zCell at h3
  show tP (i.toNatClampNeg % 1290) x
  refine ⟨?_, ?_, ?_, ?_, ?_, ?_, ?_, ?_, ?_, ?_, ?_, ?_⟩ <;> intros <;> omega
theorem tp_44 {i x : Int32} (h3 : zCell i.toInt 44 44) (h5 : 0 ≤ x.toInt) : tA 40 i.toNatClampNeg x := by
  have hc := z_cl h3.1
  unfold zCell at h3
  show tP (i.toNatClampNeg % 1290) x
  refine ⟨?_, ?_, ?_, ?_, ?_, ?_, ?_, ?_, ?_, ?_, ?_, ?_⟩ <;> intros <;> omega
theorem tp_170 {i x : Int32} (h3 : zCell i.toInt 170 469) (h5 : 0 ≤ x.toInt ∧ x.toInt ≤ 59) : tA 40 i.toNatClampNeg x := by
  have hc := z_cl h3.1
  unfold zCell at h3
  show tP (i.toNatClampNeg % 1290) x
  refine ⟨?_, ?_, ?_, ?_, ?_, ?_, ?_, ?_, ?_, ?_, ?_, ?_⟩ <;> intros <;> omega
theorem tp_770 {i x : Int32} (h3 : zCell i.toInt 770 829) (h5 : 0 ≤ x.toInt ∧ x.toInt ≤ 59) : tA 40 i.toNatClampNeg x := by
  have hc := z_cl h3.1
  unfold zCell at h3
  show tP (i.toNatClampNeg % 1290) x
  refine ⟨?_, ?_, ?_, ?_, ?_, ?_, ?_, ?_, ?_, ?_, ?_, ?_⟩ <;> intros <;> omega
theorem rv_1 {f : Nat → Int32} {A : Nat → Nat → Int32} (hT : mT f A) {i : Int32} (h3 : zCell i.toInt 1 1) : 0 ≤ (A 40 i.toNatClampNeg).toInt ∧ (A 40 i.toNatClampNeg).toInt ≤ 60 := rt_1 hT h3.1 h3.2.1 (by have := h3.2.2; omega)
theorem rv_9 {f : Nat → Int32} {A : Nat → Nat → Int32} (hT : mT f A) {i : Int32} (h3 : zCell i.toInt 9 9) : -1 ≤ (A 40 i.toNatClampNeg).toInt ∧ (A 40 i.toNatClampNeg).toInt ≤ 3 := rt_9 hT h3.1 h3.2.1 (by have := h3.2.2; omega)
theorem rv_20 {f : Nat → Int32} {A : Nat → Nat → Int32} (hT : mT f A) {i : Int32} (h3 : zCell i.toInt 20 21) : 0 ≤ (A 40 i.toNatClampNeg).toInt ∧ (A 40 i.toNatClampNeg).toInt ≤ 60 := rt_20 hT h3.1 h3.2.1 h3.2.2.1 h3.2.2.2
theorem rv_22 {f : Nat → Int32} {A : Nat → Nat → Int32} (hT : mT f A) {i : Int32} (h3 : zCell i.toInt 22 25) : -1 ≤ (A 40 i.toNatClampNeg).toInt ∧ (A 40 i.toNatClampNeg).toInt ≤ 60 := rt_22 hT h3.1 h3.2.1 h3.2.2.1 h3.2.2.2
theorem rv_26 {f : Nat → Int32} {A : Nat → Nat → Int32} (hT : mT f A) {i : Int32} (h3 : zCell i.toInt 26 26) : 0 ≤ (A 40 i.toNatClampNeg).toInt ∧ (A 40 i.toNatClampNeg).toInt ≤ 4 := rt_26 hT h3.1 h3.2.1 (by have := h3.2.2; omega)
theorem rv_27 {f : Nat → Int32} {A : Nat → Nat → Int32} (hT : mT f A) {i : Int32} (h3 : zCell i.toInt 27 30) : 0 ≤ (A 40 i.toNatClampNeg).toInt ∧ (A 40 i.toNatClampNeg).toInt ≤ 59 := rt_27 hT h3.1 h3.2.1 h3.2.2.1 h3.2.2.2
theorem rv_31 {f : Nat → Int32} {A : Nat → Nat → Int32} (hT : mT f A) {i : Int32} (h3 : zCell i.toInt 31 34) : 0 ≤ (A 40 i.toNatClampNeg).toInt ∧ (A 40 i.toNatClampNeg).toInt ≤ 3 := rt_31 hT h3.1 h3.2.1 h3.2.2.1 h3.2.2.2
theorem rv_35 {f : Nat → Int32} {A : Nat → Nat → Int32} (hT : mT f A) {i : Int32} (h3 : zCell i.toInt 35 38) : 0 ≤ (A 40 i.toNatClampNeg).toInt ∧ (A 40 i.toNatClampNeg).toInt ≤ 1 := rt_35 hT h3.1 h3.2.1 h3.2.2.1 h3.2.2.2
theorem rv_43 {f : Nat → Int32} {A : Nat → Nat → Int32} (hT : mT f A) {i : Int32} (h3 : zCell i.toInt 43 43) : 0 ≤ (A 40 i.toNatClampNeg).toInt ∧ (A 40 i.toNatClampNeg).toInt ≤ 60 := rt_43 hT h3.1 h3.2.1 (by have := h3.2.2; omega)
theorem rv_44 {f : Nat → Int32} {A : Nat → Nat → Int32} (hT : mT f A) {i : Int32} (h3 : zCell i.toInt 44 44) : 0 ≤ (A 40 i.toNatClampNeg).toInt := rt_44 hT h3.1 h3.2.1 (by have := h3.2.2; omega)
theorem rv_170 {f : Nat → Int32} {A : Nat → Nat → Int32} (hT : mT f A) {i : Int32} (h3 : zCell i.toInt 170 469) : 0 ≤ (A 40 i.toNatClampNeg).toInt ∧ (A 40 i.toNatClampNeg).toInt ≤ 59 := rt_170 hT h3.1 h3.2.1 h3.2.2.1 h3.2.2.2
theorem rv_770 {f : Nat → Int32} {A : Nat → Nat → Int32} (hT : mT f A) {i : Int32} (h3 : zCell i.toInt 770 829) : 0 ≤ (A 40 i.toNatClampNeg).toInt ∧ (A 40 i.toNatClampNeg).toInt ≤ 59 := rt_770 hT h3.1 h3.2.1 h3.2.2.1 h3.2.2.2
