/-- the static row of the class, as the Statement gives it -/
theorem lw_ranks {s : State} {sb : Nat} (hgv : (Jvm.Cond.and given_1 narrow_1).before #[Value.ref sb] s = true) (hl : (Cond.laysStatic "CardTables$Ends" "RANKS" "[I").before #[Value.ref sb] s = true) (hi : (Cond.initialized "CardTables$Ends").before #[Value.ref sb] s = true) : zRK0 s := by
  have hs := flat_of_before _ hgv
  have hA : ∀ a : Nat, a < s.heap.size → ¬ lwN s a := fun a h => Nat.not_le.mpr h
  have harr : (Cond.arrayOf (.static "CardTables$Ends" "RANKS" "[I") .int).before #[Value.ref sb] s = true := hs _ (by decide +kernel)
  have hlen : (Term.length (.static "CardTables$Ends" "RANKS" "[I")).eval #[Value.ref sb] s none [] s = some (.int (Int32.ofNat 16)) := by
    obtain ⟨y, h1, h2⟩ := Cond.eq_one (hs (Cond.eq (.length (.static "CardTables$Ends" "RANKS" "[I")) (.int 16)) (by decide +kernel))
    rw [h1]; exact h2.symm
  have hel : ∀ j : Nat, j < 16 → (Term.elem (.static "CardTables$Ends" "RANKS" "[I") (.int (Int32.ofNat j))).eval #[Value.ref sb] s none [] s = some (.int (zRf j)) := by
    intro j hj
    have go : ∀ (u v : Int32), (Cond.eq (.elem (.static "CardTables$Ends" "RANKS" "[I") (.int u)) (.int v)).before #[Value.ref sb] s = true → (Term.elem (.static "CardTables$Ends" "RANKS" "[I") (.int u)).eval #[Value.ref sb] s none [] s = some (.int v) := fun u v h => by
      obtain ⟨y, h1, h2⟩ := Cond.eq_one h
      rw [h1]; exact h2.symm
    rcases (show j = 0 ∨ j = 1 ∨ j = 2 ∨ j = 3 ∨ j = 4 ∨ j = 5 ∨ j = 6 ∨ j = 7 ∨ j = 8 ∨ j = 9 ∨ j = 10 ∨ j = 11 ∨ j = 12 ∨ j = 13 ∨ j = 14 ∨ j = 15 by omega) with rfl | rfl | rfl | rfl | rfl | rfl | rfl | rfl | rfl | rfl | rfl | rfl | rfl | rfl | rfl | rfl
    · exact go 0 0 (hs _ (by decide +kernel))
    · exact go 1 0 (hs _ (by decide +kernel))
    · exact go 2 1 (hs _ (by decide +kernel))
    · exact go 3 0 (hs _ (by decide +kernel))
    · exact go 4 2 (hs _ (by decide +kernel))
    · exact go 5 1 (hs _ (by decide +kernel))
    · exact go 6 2 (hs _ (by decide +kernel))
    · exact go 7 0 (hs _ (by decide +kernel))
    · exact go 8 3 (hs _ (by decide +kernel))
    · exact go 9 3 (hs _ (by decide +kernel))
    · exact go 10 4 (hs _ (by decide +kernel))
    · exact go 11 1 (hs _ (by decide +kernel))
    · exact go 12 5 (hs _ (by decide +kernel))
    · exact go 13 2 (hs _ (by decide +kernel))
    · exact go 14 3 (hs _ (by decide +kernel))
    · exact go 15 0 (hs _ (by decide +kernel))
  obtain ⟨t, ht, hT⟩ := va_Tof (A := lwN s) (by decide) harr hlen hel hA
  exact ⟨t, va_Zref hl hi ht hA, hT⟩
theorem lw_nc {s : State} {sb : Nat} (hgv : (Jvm.Cond.and given_1 narrow_1).before #[Value.ref sb] s = true) : va_Nc RX7 RX3 s := va_Nc.of (flat_of_before _ hgv (Cond.not (.castable "CardTables$Pair" "CardTables$Follow")) (by decide +kernel))
theorem lt_t1 {w : Cond} (i : Nat) (h : tables_1_1[i]? = some w) : w ∈ lw_tbl := List.mem_append_right _ (List.mem_append_left _ (List.mem_of_getElem? h))
theorem lt_t2 {w : Cond} (i : Nat) (h : tables_1_2[i]? = some w) : w ∈ lw_tbl := List.mem_append_right _ (List.mem_append_right _ (List.mem_append_left _ (List.mem_of_getElem? h)))
theorem lt_t3 {w : Cond} (i : Nat) (h : tables_1_3[i]? = some w) : w ∈ lw_tbl := List.mem_append_right _ (List.mem_append_right _ (List.mem_append_right _ (List.mem_append_left _ (List.mem_of_getElem? h))))
theorem lt_t4 {w : Cond} (i : Nat) (h : tables_1_4[i]? = some w) : w ∈ lw_tbl := List.mem_append_right _ (List.mem_append_right _ (List.mem_append_right _ (List.mem_append_right _ (List.mem_append_left _ (List.mem_of_getElem? h)))))
theorem lt_t5 {w : Cond} (i : Nat) (h : tables_1_5[i]? = some w) : w ∈ lw_tbl := List.mem_append_right _ (List.mem_append_right _ (List.mem_append_right _ (List.mem_append_right _ (List.mem_append_right _ (List.mem_append_left _ (List.mem_of_getElem? h))))))
theorem lt_t6 {w : Cond} (i : Nat) (h : tables_1_6[i]? = some w) : w ∈ lw_tbl := List.mem_append_right _ (List.mem_append_right _ (List.mem_append_right _ (List.mem_append_right _ (List.mem_append_right _ (List.mem_append_right _ (List.mem_append_left _ (List.mem_of_getElem? h)))))))
theorem lt_t7 {w : Cond} (i : Nat) (h : tables_1_7[i]? = some w) : w ∈ lw_tbl := List.mem_append_right _ (List.mem_append_right _ (List.mem_append_right _ (List.mem_append_right _ (List.mem_append_right _ (List.mem_append_right _ (List.mem_append_right _ (List.mem_of_getElem? h)))))))
theorem lw_nw {s : State} {sb : Nat} (hts0 : ∀ w ∈ lw_tbl, w.before #[Value.ref sb] s = true) : zNW s := by
  refine ⟨fun q hq => ?_, fun q hq => ?_, fun q hq => ?_⟩
  · simp only [nw_M, List.mem_cons, List.not_mem_nil, or_false] at hq
    rcases hq with rfl | rfl | rfl | rfl | rfl | rfl | rfl | rfl | rfl
    · exact va_Nw.of rfl (hts0 _ (lt_t1 63 rfl))
    · exact va_Nw.of rfl (hts0 _ (lt_t3 30 rfl))
    · exact va_Nw.of rfl (hts0 _ (lt_t3 41 rfl))
    · exact va_Nw.of rfl (hts0 _ (lt_t3 47 rfl))
    · exact va_Nw.of rfl (hts0 _ (lt_t3 67 rfl))
    · exact va_Nw.of rfl (hts0 _ (lt_t3 193 rfl))
    · exact va_Nw.of rfl (hts0 _ (lt_t3 206 rfl))
    · exact va_Nw.of rfl (hts0 _ (lt_t4 153 rfl))
    · exact va_Nw.of rfl (hts0 _ (lt_t4 208 rfl))
  · simp only [nw_D, List.mem_cons, List.not_mem_nil, or_false] at hq
    rcases hq with rfl | rfl | rfl | rfl | rfl | rfl | rfl | rfl
    · exact va_Nw.of rfl (hts0 _ (lt_t3 5 rfl))
    · exact va_Nw.of rfl (hts0 _ (lt_t3 150 rfl))
    · exact va_Nw.of rfl (hts0 _ (lt_t3 214 rfl))
    · exact va_Nw.of rfl (hts0 _ (lt_t3 227 rfl))
    · exact va_Nw.of rfl (hts0 _ (lt_t4 2 rfl))
    · exact va_Nw.of rfl (hts0 _ (lt_t4 31 rfl))
    · exact va_Nw.of rfl (hts0 _ (lt_t4 38 rfl))
    · exact va_Nw.of rfl (hts0 _ (lt_t4 126 rfl))
  · simp only [nw_C, List.mem_cons, List.not_mem_nil, or_false] at hq
    rcases hq with rfl | rfl | rfl | rfl | rfl | rfl | rfl | rfl
    · exact va_Nw.of rfl (hts0 _ (lt_t7 81 rfl))
    · exact va_Nw.of rfl (hts0 _ (lt_t7 82 rfl))
    · exact va_Nw.of rfl (hts0 _ (lt_t7 83 rfl))
    · exact va_Nw.of rfl (hts0 _ (lt_t7 84 rfl))
    · exact va_Nw.of rfl (hts0 _ (lt_t7 85 rfl))
    · exact va_Nw.of rfl (hts0 _ (lt_t7 86 rfl))
    · exact va_Nw.of rfl (hts0 _ (lt_t7 87 rfl))
    · exact va_Nw.of rfl (hts0 _ (lt_t7 88 rfl))
theorem lw_xt {s : State} {sb : Nat} (hts0 : ∀ w ∈ lw_tbl, w.before #[Value.ref sb] s = true) : zXt s := ⟨va_AO.of (hts0 (.arrayOver (.object RX4)) (lt_t1 26 rfl)), va_AO.of (hts0 (.arrayOver (.object RX8)) (lt_t1 60 rfl)), va_AO.of (hts0 (.arrayOver (.object RX9)) (lt_t1 28 rfl)), va_Nw.of rfl (hts0 (.methodLinkNest RX9 46 yX1_init RX11) (lt_t1 63 rfl))⟩
theorem lw_kn {s : State} {args : Array Value} (hts : ∀ w ∈ zw, w.before args s = true) : ∃ D : va_G, va_K D vwCl [] s := by
  obtain ⟨k0, iS0, hKn0⟩ := u_known (C := RX0) (T := TX0) (N := 1) (n := 1) hts in_0 (hts (.instantiable RX0 1) wb_X0)
  obtain ⟨k1, iS1, hKn1⟩ := u_known (C := RX1) (T := TX1) (N := 18) (n := 18) hts in_1 (hts (.instantiable RX1 18) wb_X1)
  obtain ⟨k2, iS2, hKn2⟩ := u_known (C := RX2) (T := TX2) (N := 14) (n := 14) hts in_2 (hts (.instantiable RX2 14) wb_X2)
  obtain ⟨k3, iS3, hKn3⟩ := u_known (C := RX3) (T := TX3) (N := 1) (n := 1) hts in_3 (hts (.instantiable RX3 1) wb_X3)
  obtain ⟨k4, iS4, hKn4⟩ := u_known (C := RX5) (T := TX5) (N := 1) (n := 1) hts in_4 (hts (.instantiable RX5 1) wb_X5)
  obtain ⟨k5, iS5, hKn5⟩ := u_known (C := RX6) (T := TX6) (N := 7) (n := 7) hts in_5 (hts (.instantiable RX6 7) wb_X6)
  obtain ⟨k6, iS6, hKn6⟩ := u_known (C := RX7) (T := TX7) (N := 3) (n := 3) hts in_6 (hts (.instantiable RX7 3) wb_X7)
  obtain ⟨k7, iS7, hKn7⟩ := u_known (C := RX8) (T := TX8) (N := 2) (n := 2) hts in_7 (hts (.instantiable RX8 2) wb_X8)
  obtain ⟨k8, iS8, hKn8⟩ := u_known (C := RX9) (T := TX9) (N := 14) (n := 14) hts in_8 (hts (.instantiable RX9 14) wb_X9)
  obtain ⟨k9, iS9, hKn9⟩ := u_known (C := RX10) (T := TX10) (N := 1) (n := 1) hts in_9 (hts (.instantiable RX10 1) wb_X10)
  obtain ⟨k10, iS10, hKn10⟩ := u_known (C := RX11) (T := TX11) (N := 9) (n := 9) hts in_10 (hts (.instantiable RX11 9) wb_X11)
  obtain ⟨k11, iS11, hKn11⟩ := u_known (C := RX12) (T := TX12) (N := 36) (n := 36) hts in_11 (hts (.instantiable RX12 36) wb_X12)
  refine ⟨(fun k => [k0, k1, k2, k3, k4, k5, k6, k7, k8, k9, k10, k11].getD k k0, fun k => [iS0, iS1, iS2, iS3, iS4, iS5, iS6, iS7, iS8, iS9, iS10, iS11].getD k iS0), fun k q hq => ?_, fun k q h => by simp at h⟩
  match k, hq with
  | 0, hq => cases hq; exact hKn0
  | 1, hq => cases hq; exact hKn1
  | 2, hq => cases hq; exact hKn2
  | 3, hq => cases hq; exact hKn3
  | 4, hq => cases hq; exact hKn4
  | 5, hq => cases hq; exact hKn5
  | 6, hq => cases hq; exact hKn6
  | 7, hq => cases hq; exact hKn7
  | 8, hq => cases hq; exact hKn8
  | 9, hq => cases hq; exact hKn9
  | 10, hq => cases hq; exact hKn10
  | 11, hq => cases hq; exact hKn11
  | k + 12, hq => simp [vwCl] at hq
