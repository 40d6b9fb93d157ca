theorem z_m1290 {i b p : Int} (hb : b % 1290 = 0) (h : i = b + p) (hp : 0 ≤ p ∧ p < 1290) : i % 1290 = p := by omega
theorem tp_0 {i x : Int32} (h1 : 0 ≤ i.toInt) (h3 : i.toInt % 1290 = 0) : tA 40 i.toNatClampNeg x := by
  have hc := z_cl h1
  show tP (i.toNatClampNeg % 1290) x
  refine ⟨?_, ?_, ?_, ?_, ?_, ?_, ?_, ?_, ?_, ?_, ?_, ?_⟩ <;> intros <;> omega
theorem tp_2 {i x : Int32} (h1 : 0 ≤ i.toInt) (h3 : 2 ≤ i.toInt % 1290) (h4 : i.toInt % 1290 ≤ 8) : tA 40 i.toNatClampNeg x := by
  have hc := z_cl h1
  show tP (i.toNatClampNeg % 1290) x
  refine ⟨?_, ?_, ?_, ?_, ?_, ?_, ?_, ?_, ?_, ?_, ?_, ?_⟩ <;> intros <;> omega
theorem tp_10 {i x : Int32} (h1 : 0 ≤ i.toInt) (h3 : 10 ≤ i.toInt % 1290) (h4 : i.toInt % 1290 ≤ 19) : tA 40 i.toNatClampNeg x := by
  have hc := z_cl h1
  show tP (i.toNatClampNeg % 1290) x
  refine ⟨?_, ?_, ?_, ?_, ?_, ?_, ?_, ?_, ?_, ?_, ?_, ?_⟩ <;> intros <;> omega
theorem tp_39 {i x : Int32} (h1 : 0 ≤ i.toInt) (h3 : 39 ≤ i.toInt % 1290) (h4 : i.toInt % 1290 ≤ 42) : tA 40 i.toNatClampNeg x := by
  have hc := z_cl h1
  show tP (i.toNatClampNeg % 1290) x
  refine ⟨?_, ?_, ?_, ?_, ?_, ?_, ?_, ?_, ?_, ?_, ?_, ?_⟩ <;> intros <;> omega
theorem tp_45 {i x : Int32} (h1 : 0 ≤ i.toInt) (h3 : 45 ≤ i.toInt % 1290) (h4 : i.toInt % 1290 ≤ 169) : tA 40 i.toNatClampNeg x := by
  have hc := z_cl h1
  show tP (i.toNatClampNeg % 1290) x
  refine ⟨?_, ?_, ?_, ?_, ?_, ?_, ?_, ?_, ?_, ?_, ?_, ?_⟩ <;> intros <;> omega
theorem tp_470 {i x : Int32} (h1 : 0 ≤ i.toInt) (h3 : 470 ≤ i.toInt % 1290) (h4 : i.toInt % 1290 ≤ 769) : tA 40 i.toNatClampNeg x := by
  have hc := z_cl h1
  show tP (i.toNatClampNeg % 1290) x
  refine ⟨?_, ?_, ?_, ?_, ?_, ?_, ?_, ?_, ?_, ?_, ?_, ?_⟩ <;> intros <;> omega
theorem tp_830 {i x : Int32} (h1 : 0 ≤ i.toInt) (h3 : 830 ≤ i.toInt % 1290) (h4 : i.toInt % 1290 ≤ 1289) : tA 40 i.toNatClampNeg x := by
  have hc := z_cl h1
  show tP (i.toNatClampNeg % 1290) x
  refine ⟨?_, ?_, ?_, ?_, ?_, ?_, ?_, ?_, ?_, ?_, ?_, ?_⟩ <;> intros <;> omega
theorem tp_1 {i x : Int32} (h1 : 0 ≤ i.toInt) (h3 : i.toInt % 1290 = 1) (h5 : 0 ≤ x.toInt ∧ x.toInt ≤ 60) : tA 40 i.toNatClampNeg x := by
  have hc := z_cl h1
  show tP (i.toNatClampNeg % 1290) x
  refine ⟨?_, ?_, ?_, ?_, ?_, ?_, ?_, ?_, ?_, ?_, ?_, ?_⟩ <;> intros <;> omega
theorem tp_9 {i x : Int32} (h1 : 0 ≤ i.toInt) (h3 : i.toInt % 1290 = 9) (h5 : -1 ≤ x.toInt ∧ x.toInt ≤ 3) : tA 40 i.toNatClampNeg x := by
  have hc := z_cl h1
  show tP (i.toNatClampNeg % 1290) x
  refine ⟨?_, ?_, ?_, ?_, ?_, ?_, ?_, ?_, ?_, ?_, ?_, ?_⟩ <;> intros <;> omega
theorem tp_20 {i x : Int32} (h1 : 0 ≤ i.toInt) (h3 : 20 ≤ i.toInt % 1290) (h4 : i.toInt % 1290 ≤ 21) (h5 : 0 ≤ x.toInt ∧ x.toInt ≤ 60) : tA 40 i.toNatClampNeg x := by
  have hc := z_cl h1
  show tP (i.toNatClampNeg % 1290) x
  refine ⟨?_, ?_, ?_, ?_, ?_, ?_, ?_, ?_, ?_, ?_, ?_, ?_⟩ <;> intros <;> omega
theorem tp_22 {i x : Int32} (h1 : 0 ≤ i.toInt) (h3 : 22 ≤ i.toInt % 1290) (h4 : i.toInt % 1290 ≤ 25) (h5 : -1 ≤ x.toInt ∧ x.toInt ≤ 60) : tA 40 i.toNatClampNeg x := by
  have hc := z_cl h1
  show tP (i.toNatClampNeg % 1290) x
  refine ⟨?_, ?_, ?_, ?_, ?_, ?_, ?_, ?_, ?_, ?_, ?_, ?_⟩ <;> intros <;> omega
theorem tp_26 {i x : Int32} (h1 : 0 ≤ i.toInt) (h3 : i.toInt % 1290 = 26) (h5 : 0 ≤ x.toInt ∧ x.toInt ≤ 4) : tA 40 i.toNatClampNeg x := by
  have hc := z_cl h1
  show tP (i.toNatClampNeg % 1290) x
  refine ⟨?_, ?_, ?_, ?_, ?_, ?_, ?_, ?_, ?_, ?_, ?_, ?_⟩ <;> intros <;> omega
theorem tp_27 {i x : Int32} (h1 : 0 ≤ i.toInt) (h3 : 27 ≤ i.toInt % 1290) (h4 : i.toInt % 1290 ≤ 30) (h5 : 0 ≤ x.toInt ∧ x.toInt ≤ 59) : tA 40 i.toNatClampNeg x := by
  have hc := z_cl h1
  show tP (i.toNatClampNeg % 1290) x
  refine ⟨?_, ?_, ?_, ?_, ?_, ?_, ?_, ?_, ?_, ?_, ?_, ?_⟩ <;> intros <;> omega
theorem tp_31 {i x : Int32} (h1 : 0 ≤ i.toInt) (h3 : 31 ≤ i.toInt % 1290) (h4 : i.toInt % 1290 ≤ 34) (h5 : 0 ≤ x.toInt ∧ x.toInt ≤ 3) : tA 40 i.toNatClampNeg x := by
  have hc := z_cl h1
  show tP (i.toNatClampNeg % 1290) x
  refine ⟨?_, ?_, ?_, ?_, ?_, ?_, ?_, ?_, ?_, ?_, ?_, ?_⟩ <;> intros <;> omega
theorem tp_35 {i x : Int32} (h1 : 0 ≤ i.toInt) (h3 : 35 ≤ i.toInt % 1290) (h4 : i.toInt % 1290 ≤ 38) (h5 : 0 ≤ x.toInt ∧ x.toInt ≤ 1) : tA 40 i.toNatClampNeg x := by
  have hc := z_cl h1
  show tP (i.toNatClampNeg % 1290) x
  refine ⟨?_, ?_, ?_, ?_, ?_, ?_, ?_, ?_, ?_, ?_, ?_, ?_⟩ <;> intros <;> omega
theorem tp_43 {i x : Int32} (h1 : 0 ≤ i.toInt) (h3 : i.toInt % 1290 = 43) (h5 : 0 ≤ x.toInt ∧ x.toInt ≤ 60) : tA 40 i.toNatClampNeg x := by
  have hc := z_cl h1
  show tP (i.toNatClampNeg % 1290) x
  refine ⟨?_, ?_, ?_, ?_, ?_, ?_, ?_, ?_, ?_, ?_, ?_, ?_⟩ <;> intros <;> omega
theorem tp_44 {i x : Int32} (h1 : 0 ≤ i.toInt) (h3 : i.toInt % 1290 = 44) (h5 : 0 ≤ x.toInt) : tA 40 i.toNatClampNeg x := by
  have hc := z_cl h1
  show tP (i.toNatClampNeg % 1290) x
  refine ⟨?_, ?_, ?_, ?_, ?_, ?_, ?_, ?_, ?_, ?_, ?_, ?_⟩ <;> intros <;> omega
theorem tp_170 {i x : Int32} (h1 : 0 ≤ i.toInt) (h3 : 170 ≤ i.toInt % 1290) (h4 : i.toInt % 1290 ≤ 469) (h5 : 0 ≤ x.toInt ∧ x.toInt ≤ 59) : tA 40 i.toNatClampNeg x := by
  have hc := z_cl h1
  show tP (i.toNatClampNeg % 1290) x
  refine ⟨?_, ?_, ?_, ?_, ?_, ?_, ?_, ?_, ?_, ?_, ?_, ?_⟩ <;> intros <;> omega
theorem tp_770 {i x : Int32} (h1 : 0 ≤ i.toInt) (h3 : 770 ≤ i.toInt % 1290) (h4 : i.toInt % 1290 ≤ 829) (h5 : 0 ≤ x.toInt ∧ x.toInt ≤ 59) : tA 40 i.toNatClampNeg x := by
  have hc := z_cl h1
  show tP (i.toNatClampNeg % 1290) x
  refine ⟨?_, ?_, ?_, ?_, ?_, ?_, ?_, ?_, ?_, ?_, ?_, ?_⟩ <;> intros <;> omega
