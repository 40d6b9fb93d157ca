set_option maxRecDepth 100000 in
theorem gv_RX12_250 : GoodIn lw_tbl (va_wsS RX12 250 yX12_least vsX12_least) := (gi_t 1417 (by decide +kernel) rfl (gi_t 1418 (by decide +kernel) rfl (gi_t 8 (by decide +kernel) rfl gl_X12_least)))
def vsX12_finding : List Cond := .code yX12_finding cX12_finding 4 (some .int) :: ([.fieldLink RX12 85 "CardTablesModel" "found" "I"] ++ (wsX120 ++ (va_wsS RX12 91 yX12_in vsX12_in ++ (va_wsS RX12 250 yX12_least vsX12_least ++ []))))
set_option maxRecDepth 100000 in
theorem gl_X12_finding : GoodIn lw_tbl vsX12_finding := gi_t 1483 rfl rfl (goodIn_app (gi_t 1026 (by decide +kernel) rfl gi_nil) (goodIn_app gc_X12 (goodIn_app gv_RX12_91 (goodIn_app gv_RX12_250 gi_nil))))
theorem g_X12_finding_X12_in : GoodIn vsX12_finding (va_wsS RX12 91 yX12_in vsX12_in) := fun w h => ⟨List.mem_cons_of_mem _ (List.mem_append_right _ (List.mem_append_right _ (List.mem_append_left _ h))), (gv_RX12_91 w h).2⟩
theorem g_X12_finding_X12_least : GoodIn vsX12_finding (va_wsS RX12 250 yX12_least vsX12_least) := fun w h => ⟨List.mem_cons_of_mem _ (List.mem_append_right _ (List.mem_append_right _ (List.mem_append_right _ (List.mem_append_left _ h)))), (gv_RX12_250 w h).2⟩
set_option maxHeartbeats 4000000 in
set_option maxRecDepth 100000 in
theorem c_X12_finding (l : Launch) (dC : Nat → ClassId) (dI : Nat → Nat → Nat) (b : Nat → Nat) (c1 c2 c3 c4 : ClassId) (fk : Nat → Int32) (hF : ∀ j, j < 6 → fk j = -1) (p1 : Int32) (p2 : Int32) : Met l yX12_finding vsX12_finding ({ frames := 1, cells := 0, slots := 0, locals := 22 }) (va_Pc [.ref (b 0), .int p1, .int p2] (fun U => va_P (dC, dI) vwCl (wM b c1 c2 c3 c4 fk) U.heap ∧ va_K (dC, dI) vwCl (tM c1 c2 c3 c4) U)) (vp_Si (fun r => r = f_finding p2)) 0 0 (fun _ => False) := by
  refine Met.ofW (cc := cX12_finding) (maxL := 4) (ret := (some .int)) (by decide) rfl ?_
  intro p e s m args below meth c s₁ B hml hv
  obtain ⟨rfl, hP, hK⟩ := hv
  have hx := B.exec
  have hb := B.bytes
  have hr := B.returns
  have hts := atoms_spec (ws := vsX12_finding) B.pre
  have hown : s.vm.findClass RX12 = some m.cls := findClass_of_methodNamed B.named
  have hlocks := B.notSynchronized
  have hl := lv_entry ([.ref (b 0), .int p1, .int p2]) (n := 4) (Nat.le_of_ble_eq_true rfl)
  rw [lg_entry_eq]
  generalize (lg_sl ([.ref (b 0), .int p1, .int p2]) ++ List.replicate (4 - (lg_sl ([.ref (b 0), .int p1, .int p2])).length) Slot.unset).toArray = ls at hl ⊢
  have hl : lv_has ls 4 [(0, .ref (b 0)), (1, .int p1), (2, .int p2)] := hl
  refine lv_iload_n hx hb dX12_finding_0 rfl (lv_at hl 2 rfl) ?_
  refine lv_iconst (v := 0) hx hb dX12_finding_1 (by decide) ?_
  refine lv_iconst (v := 4) hx hb dX12_finding_2 (by decide) ?_
  refine vp_callSi (va_Run.run (va_runS (As := [.int p2, .int 0, .int 4]) (rest := []) ⟨hx, hb, hml, hown, hts⟩ (c_X12_in l dC dI  p2 0 4) (va_cwS 3 hts g_X12_finding_X12_in rfl rfl rfl (by decide +kernel) ⟨Nat.le_of_ble_eq_true rfl, Nat.le_of_ble_eq_true rfl⟩) ⟨fun a U g mk q => q, fun U hU hW => ⟨rfl, trivial⟩⟩ rfl rfl hl.1 rfl (lv_room (Nat.le_of_ble_eq_true rfl)) dX12_finding_3 ⟨Nat.zero_le _, Nat.zero_le _⟩)) (fun r_1 e_1 => ?_)
  rcases e_1 with ⟨rfl, hy_2⟩ | ⟨rfl, hn_2⟩
  · skip
    refine lv_if_ne (tgt := 12) hx hb dX12_finding_6 (by decide) (fun c_3 => ?_) (fun c_3 => ?_)
    · skip
      refine lv_aload_n hx hb dX12_finding_12 rfl (lv_at hl 0 rfl) ?_
      refine va_get (D := (dC, dI)) (ci := 11) (v := .int 0) (C := RX12) (T := TX12) (N := 36) hx hb hts (by decide +kernel) hown hK hP 0 rfl rfl 9 (by decide) (hts (.fieldLink RX12 85 "CardTablesModel" "found" "I") (List.mem_of_getElem? (l := vsX12_finding) (i := 1) rfl)) (fun _ h9 => h9) rfl dX12_finding_13 ?_
      refine lv_bipush (v := 60) hx hb dX12_finding_16 (by decide) ?_
      refine vp_callSi (va_Run.run (va_runS (As := [.int 0, .int 60]) (rest := []) ⟨hx, hb, hml, hown, hts⟩ (c_X12_least l dC dI  0 60) (va_cwS 2 hts g_X12_finding_X12_least rfl rfl rfl (by decide +kernel) ⟨Nat.le_of_ble_eq_true rfl, Nat.le_of_ble_eq_true rfl⟩) ⟨fun a U g mk q => q, fun U hU hW => ⟨rfl, trivial⟩⟩ rfl rfl hl.1 rfl (lv_room (Nat.le_of_ble_eq_true rfl)) dX12_finding_18 ⟨Nat.zero_le _, Nat.zero_le _⟩)) (fun r_4 e_4 => ?_)
      obtain rfl : r_4 = 0 := e_4.trans (by decide +kernel)
      refine lv_istore_n (lv' := [(3, .int 0), (0, .ref (b 0)), (1, .int p1), (2, .int p2)]) hx hb dX12_finding_21 rfl hl (by decide) rfl (fun ls hl => ?_)
      refine lv_iload_n hx hb dX12_finding_22 rfl (lv_at hl 2 rfl) ?_
      refine lv_iconst (v := 0) hx hb dX12_finding_23 (by decide) ?_
      refine lv_iload_n hx hb dX12_finding_24 rfl (lv_at hl 0 rfl) ?_
      refine lv_iconst (v := 1) hx hb dX12_finding_25 (by decide) ?_
      refine lv_isub hx hb dX12_finding_26 ?_
      refine lv_topi (fun x_5 ex_5 => ?_)
      obtain rfl : x_5 = (-1) := ex_5.trans (by decide +kernel)
      refine vp_callSi (va_Run.run (va_runS (As := [.int p1, .int 0, .int (-1)]) (rest := []) ⟨hx, hb, hml, hown, hts⟩ (c_X12_in l dC dI  p1 0 (-1)) (va_cwS 3 hts g_X12_finding_X12_in rfl rfl rfl (by decide +kernel) ⟨Nat.le_of_ble_eq_true rfl, Nat.le_of_ble_eq_true rfl⟩) ⟨fun a U g mk q => q, fun U hU hW => ⟨rfl, trivial⟩⟩ rfl rfl hl.1 rfl (lv_room (Nat.le_of_ble_eq_true rfl)) dX12_finding_27 ⟨Nat.zero_le _, Nat.zero_le _⟩)) (fun r_6 e_6 => ?_)
      rcases e_6 with ⟨rfl, hy_7⟩ | ⟨rfl, hn_7⟩
      · exact (by simp only [ti_m1, ti_0, ti_1, ti_2, ti_3, ti_4, ti_5, ti_6, ti_60] at hy_7; omega : False).elim
      · skip
        refine lv_if_eq (tgt := 56) hx hb dX12_finding_30 (by decide) (fun c_8 => ?_) (fun c_8 => ?_)
        · skip
          refine lv_iconst (v := (-1)) hx hb dX12_finding_56 (by decide) ?_
          exact W.iret (v := (-1)) hx hb hr (fun t ht hW => ⟨(-1), rfl, (by unfold f_finding; exact (if_neg (by simp only [fa_lt, fa_le, ti_m1, ti_0, ti_1, ti_2, ti_3, ti_4, ti_5, ti_6, ti_60] at c_3 c_8 hy_2 ⊢; omega)).symm), ht⟩) (fun q h => by cases h) dX12_finding_57
        · exact absurd c_8 (by decide +kernel)
    · exact absurd c_3 (by decide +kernel)
  · skip
    refine lv_if_ne (tgt := 12) hx hb dX12_finding_6 (by decide) (fun c_9 => ?_) (fun c_9 => ?_)
    · exact absurd c_9 (by decide +kernel)
    · skip
      refine lv_bipush (v := (-3)) hx hb dX12_finding_9 (by decide) ?_
      exact W.iret (v := (-3)) hx hb hr (fun t ht hW => ⟨(-3), rfl, (by unfold f_finding; exact (if_pos (by simp only [fa_lt, fa_le, ti_m1, ti_0, ti_1, ti_2, ti_3, ti_4, ti_5, ti_6, ti_60] at c_9 hn_2 ⊢; omega)).symm), ht⟩) (fun q h => by cases h) dX12_finding_11
def vsX12_trace : List Cond := .code yX12_trace cX12_trace 3 (some .int) :: ([.fieldLink RX12 82 "CardTablesModel" "traced" "I"] ++ (wsX120 ++ (va_wsS RX12 250 yX12_least vsX12_least ++ (va_wsS RX12 91 yX12_in vsX12_in ++ []))))
set_option maxRecDepth 100000 in
theorem gl_X12_trace : GoodIn lw_tbl vsX12_trace := gi_t 1487 rfl rfl (goodIn_app (gi_t 1028 (by decide +kernel) rfl gi_nil) (goodIn_app gc_X12 (goodIn_app gv_RX12_250 (goodIn_app gv_RX12_91 gi_nil))))
theorem g_X12_trace_X12_least : GoodIn vsX12_trace (va_wsS RX12 250 yX12_least vsX12_least) := fun w h => ⟨List.mem_cons_of_mem _ (List.mem_append_right _ (List.mem_append_right _ (List.mem_append_left _ h))), (gv_RX12_250 w h).2⟩
theorem g_X12_trace_X12_in : GoodIn vsX12_trace (va_wsS RX12 91 yX12_in vsX12_in) := fun w h => ⟨List.mem_cons_of_mem _ (List.mem_append_right _ (List.mem_append_right _ (List.mem_append_right _ (List.mem_append_left _ h)))), (gv_RX12_91 w h).2⟩
set_option maxHeartbeats 4000000 in
set_option maxRecDepth 100000 in
theorem c_X12_trace (l : Launch) (dC : Nat → ClassId) (dI : Nat → Nat → Nat) (b : Nat → Nat) (c1 c2 c3 c4 : ClassId) (fk : Nat → Int32) (hF : ∀ j, j < 6 → fk j = -1) (p1 : Int32) : Met l yX12_trace vsX12_trace ({ frames := 1, cells := 0, slots := 0, locals := 22 }) (va_Pc [.ref (b 0), .int p1] (fun U => va_P (dC, dI) vwCl (wM b c1 c2 c3 c4 fk) U.heap ∧ va_K (dC, dI) vwCl (tM c1 c2 c3 c4) U)) (vp_Si (fun r => r = -1)) 0 0 (fun _ => False) := by
  refine Met.ofW (cc := cX12_trace) (maxL := 3) (ret := (some .int)) (by decide) rfl ?_
  intro p e s m args below meth c s₁ B hml hv
  obtain ⟨rfl, hP, hK⟩ := hv
  have hx := B.exec
  have hb := B.bytes
  have hr := B.returns
  have hts := atoms_spec (ws := vsX12_trace) B.pre
  have hown : s.vm.findClass RX12 = some m.cls := findClass_of_methodNamed B.named
  have hlocks := B.notSynchronized
  have hl := lv_entry ([.ref (b 0), .int p1]) (n := 3) (Nat.le_of_ble_eq_true rfl)
  rw [lg_entry_eq]
  generalize (lg_sl ([.ref (b 0), .int p1]) ++ List.replicate (3 - (lg_sl ([.ref (b 0), .int p1])).length) Slot.unset).toArray = ls at hl ⊢
  have hl : lv_has ls 3 [(0, .ref (b 0)), (1, .int p1)] := hl
  refine lv_aload_n hx hb dX12_trace_0 rfl (lv_at hl 0 rfl) ?_
  refine va_get (D := (dC, dI)) (ci := 11) (v := .int 0) (C := RX12) (T := TX12) (N := 36) hx hb hts (by decide +kernel) hown hK hP 0 rfl rfl 11 (by decide) (hts (.fieldLink RX12 82 "CardTablesModel" "traced" "I") (List.mem_of_getElem? (l := vsX12_trace) (i := 1) rfl)) (fun _ h9 => h9) rfl dX12_trace_1 ?_
  refine lv_bipush (v := 60) hx hb dX12_trace_4 (by decide) ?_
  refine vp_callSi (va_Run.run (va_runS (As := [.int 0, .int 60]) (rest := []) ⟨hx, hb, hml, hown, hts⟩ (c_X12_least l dC dI  0 60) (va_cwS 2 hts g_X12_trace_X12_least rfl rfl rfl (by decide +kernel) ⟨Nat.le_of_ble_eq_true rfl, Nat.le_of_ble_eq_true rfl⟩) ⟨fun a U g mk q => q, fun U hU hW => ⟨rfl, trivial⟩⟩ rfl rfl hl.1 rfl (lv_room (Nat.le_of_ble_eq_true rfl)) dX12_trace_6 ⟨Nat.zero_le _, Nat.zero_le _⟩)) (fun r_1 e_1 => ?_)
  obtain rfl : r_1 = 0 := e_1.trans (by decide +kernel)
  refine lv_istore_n (lv' := [(2, .int 0), (0, .ref (b 0)), (1, .int p1)]) hx hb dX12_trace_9 rfl hl (by decide) rfl (fun ls hl => ?_)
  refine lv_iload_n hx hb dX12_trace_10 rfl (lv_at hl 2 rfl) ?_
  refine lv_iconst (v := 0) hx hb dX12_trace_11 (by decide) ?_
  refine lv_iload_n hx hb dX12_trace_12 rfl (lv_at hl 0 rfl) ?_
  refine lv_iconst (v := 1) hx hb dX12_trace_13 (by decide) ?_
  refine lv_isub hx hb dX12_trace_14 ?_
  refine lv_topi (fun x_2 ex_2 => ?_)
  obtain rfl : x_2 = (-1) := ex_2.trans (by decide +kernel)
  refine vp_callSi (va_Run.run (va_runS (As := [.int p1, .int 0, .int (-1)]) (rest := []) ⟨hx, hb, hml, hown, hts⟩ (c_X12_in l dC dI  p1 0 (-1)) (va_cwS 3 hts g_X12_trace_X12_in rfl rfl rfl (by decide +kernel) ⟨Nat.le_of_ble_eq_true rfl, Nat.le_of_ble_eq_true rfl⟩) ⟨fun a U g mk q => q, fun U hU hW => ⟨rfl, trivial⟩⟩ rfl rfl hl.1 rfl (lv_room (Nat.le_of_ble_eq_true rfl)) dX12_trace_15 ⟨Nat.zero_le _, Nat.zero_le _⟩)) (fun r_3 e_3 => ?_)
  rcases e_3 with ⟨rfl, hy_4⟩ | ⟨rfl, hn_4⟩
  · exact (by simp only [ti_m1, ti_0, ti_1, ti_2, ti_3, ti_4, ti_5, ti_6, ti_60] at hy_4; omega : False).elim
  · skip
    refine lv_if_eq (tgt := 40) hx hb dX12_trace_18 (by decide) (fun c_5 => ?_) (fun c_5 => ?_)
    · skip
      refine lv_iconst (v := (-1)) hx hb dX12_trace_40 (by decide) ?_
      exact W.iret (v := (-1)) hx hb hr (fun t ht hW => ⟨(-1), rfl, rfl, ht⟩) (fun q h => by cases h) dX12_trace_41
    · exact absurd c_5 (by decide +kernel)
def vsX12_count : List Cond := .code yX12_count cX12_count 5 (some .int) :: ([.fieldLink RX12 14 "CardTablesModel" "isThere" "[Z", .fieldLink RX12 88 "CardTablesModel" "tries" "I", .fieldLink RX12 85 "CardTablesModel" "found" "I", .fieldLink RX12 175 "CardTablesModel" "numbers" "I"] ++ (wsX120 ++ (wsV RX12 99 RX12 yX12_isGame vsX12_isGame ++ [])))
set_option maxRecDepth 100000 in
theorem gl_X12_count : GoodIn lw_tbl vsX12_count := gi_t 1495 rfl rfl (goodIn_app (gi_t 1018 (by decide +kernel) rfl (gi_t 1024 (by decide +kernel) rfl (gi_t 1026 (by decide +kernel) rfl (gi_t 1023 (by decide +kernel) rfl gi_nil)))) (goodIn_app gc_X12 (goodIn_app gv_RX12_99 gi_nil)))
theorem g_X12_count_X12_isGame : GoodIn vsX12_count (wsV RX12 99 RX12 yX12_isGame vsX12_isGame) := fun w h => ⟨List.mem_cons_of_mem _ (List.mem_append_right _ (List.mem_append_right _ (List.mem_append_left _ h))), (gv_RX12_99 w h).2⟩
set_option maxHeartbeats 4000000 in
set_option maxRecDepth 100000 in
theorem c_X12_count (l : Launch) (dC : Nat → ClassId) (dI : Nat → Nat → Nat) (b : Nat → Nat) (c1 c2 c3 c4 : ClassId) (fk : Nat → Int32) (hF : ∀ j, j < 6 → fk j = -1) (p1 : Int32) : Met l yX12_count vsX12_count ({ frames := 2, cells := 0, slots := 0, locals := 43 }) (va_Pc [.ref (b 0), .int p1] (fun U => va_P (dC, dI) vwCl (wM b c1 c2 c3 c4 fk) U.heap ∧ va_K (dC, dI) vwCl (tM c1 c2 c3 c4) U)) (vp_Si (fun r => r = f_count p1)) 0 0 (fun _ => False) := by
  refine Met.ofW (cc := cX12_count) (maxL := 5) (ret := (some .int)) (by decide) rfl ?_
  intro p e s m args below meth c s₁ B hml hv
  obtain ⟨rfl, hP, hK⟩ := hv
  have hx := B.exec
  have hb := B.bytes
  have hr := B.returns
  have hts := atoms_spec (ws := vsX12_count) B.pre
  have hown : s.vm.findClass RX12 = some m.cls := findClass_of_methodNamed B.named
  have hlocks := B.notSynchronized
  have hl := lv_entry ([.ref (b 0), .int p1]) (n := 5) (Nat.le_of_ble_eq_true rfl)
  rw [lg_entry_eq]
  generalize (lg_sl ([.ref (b 0), .int p1]) ++ List.replicate (5 - (lg_sl ([.ref (b 0), .int p1])).length) Slot.unset).toArray = ls at hl ⊢
  have hl : lv_has ls 5 [(0, .ref (b 0)), (1, .int p1)] := hl
  refine lv_iconst (v := 0) hx hb dX12_count_0 (by decide) ?_
  refine lv_istore_n (lv' := [(2, .int 0), (0, .ref (b 0)), (1, .int p1)]) hx hb dX12_count_1 rfl hl (by decide) rfl (fun ls hl => ?_)
  refine lv_iconst (v := 0) hx hb dX12_count_2 (by decide) ?_
  refine lv_istore_n (lv' := [(3, .int 0), (2, .int 0), (0, .ref (b 0)), (1, .int p1)]) hx hb dX12_count_3 rfl hl (by decide) rfl (fun ls hl => ?_)
  refine lv_iload_n hx hb dX12_count_4 rfl (lv_at hl 0 rfl) ?_
  refine lv_iconst (v := 4) hx hb dX12_count_5 (by decide) ?_
  refine lv_icmp_ge (tgt := 32) hx hb dX12_count_6 (by decide) (fun c_1 => ?_) (fun c_1 => ?_)
  · exact absurd c_1 (by decide +kernel)
  · skip
    refine lv_iload_n hx hb dX12_count_9 rfl (lv_at hl 1 rfl) ?_
    refine lv_aload_n hx hb dX12_count_10 rfl (lv_at hl 2 rfl) ?_
    refine va_get (D := (dC, dI)) (ci := 11) (v := .ref (b 1)) (C := RX12) (T := TX12) (N := 36) hx hb hts (by decide +kernel) hown hK hP 0 rfl rfl 1 (by decide) (hts (.fieldLink RX12 14 "CardTablesModel" "isThere" "[Z") (List.mem_of_getElem? (l := vsX12_count) (i := 1) rfl)) (fun _ h9 => h9) rfl dX12_count_11 ?_
    refine lv_iload_n hx hb dX12_count_14 rfl (lv_at hl 0 rfl) ?_
    refine va_zald hx hb hK hP 1 0 rfl rfl (by unfold vp_in; decide +kernel) dX12_count_15 ?_
    refine lv_topi (fun x_2 ex_2 => ?_)
    obtain rfl : x_2 = 0 := ex_2
    refine lv_if_eq (tgt := 23) hx hb dX12_count_16 (by decide) (fun c_3 => ?_) (fun c_3 => ?_)
    · skip
      refine lv_iconst (v := 0) hx hb dX12_count_23 (by decide) ?_
      refine lv_iadd hx hb dX12_count_24 ?_
      refine lv_topi (fun x_4 ex_4 => ?_)
      obtain rfl : x_4 = 0 := ex_4.trans (by decide +kernel)
      refine lv_istore_n (lv' := [(2, .int 0), (3, .int 0), (0, .ref (b 0)), (1, .int p1)]) hx hb dX12_count_25 rfl hl (by decide) rfl (fun ls hl => ?_)
      refine lv_iinc (v := 1) (lv' := [(3, .int 1), (2, .int 0), (0, .ref (b 0)), (1, .int p1)]) hx hb dX12_count_26 hl (k := 1) rfl (by decide) (by decide) rfl (fun ls hl => ?_)
      refine lv_goto (tgt := 4) hx hb dX12_count_29 (by decide) ?_
      refine lv_iload_n hx hb dX12_count_4 rfl (lv_at hl 0 rfl) ?_
      refine lv_iconst (v := 4) hx hb dX12_count_5 (by decide) ?_
      refine lv_icmp_ge (tgt := 32) hx hb dX12_count_6 (by decide) (fun c_6 => ?_) (fun c_6 => ?_)
      · exact absurd c_6 (by decide +kernel)
      · skip
        refine lv_iload_n hx hb dX12_count_9 rfl (lv_at hl 1 rfl) ?_
        refine lv_aload_n hx hb dX12_count_10 rfl (lv_at hl 2 rfl) ?_
        refine va_get (D := (dC, dI)) (ci := 11) (v := .ref (b 1)) (C := RX12) (T := TX12) (N := 36) hx hb hts (by decide +kernel) hown hK hP 0 rfl rfl 1 (by decide) (hts (.fieldLink RX12 14 "CardTablesModel" "isThere" "[Z") (List.mem_of_getElem? (l := vsX12_count) (i := 1) rfl)) (fun _ h9 => h9) rfl dX12_count_11 ?_
        refine lv_iload_n hx hb dX12_count_14 rfl (lv_at hl 0 rfl) ?_
        refine va_zald hx hb hK hP 1 0 rfl rfl (by unfold vp_in; decide +kernel) dX12_count_15 ?_
        refine lv_topi (fun x_7 ex_7 => ?_)
        obtain rfl : x_7 = 0 := ex_7
        refine lv_if_eq (tgt := 23) hx hb dX12_count_16 (by decide) (fun c_8 => ?_) (fun c_8 => ?_)
        · skip
          refine lv_iconst (v := 0) hx hb dX12_count_23 (by decide) ?_
          refine lv_iadd hx hb dX12_count_24 ?_
          refine lv_topi (fun x_9 ex_9 => ?_)
          obtain rfl : x_9 = 0 := ex_9.trans (by decide +kernel)
          refine lv_istore_n (lv' := [(2, .int 0), (3, .int 1), (0, .ref (b 0)), (1, .int p1)]) hx hb dX12_count_25 rfl hl (by decide) rfl (fun ls hl => ?_)
          refine lv_iinc (v := 2) (lv' := [(3, .int 2), (2, .int 0), (0, .ref (b 0)), (1, .int p1)]) hx hb dX12_count_26 hl (k := 1) rfl (by decide) (by decide) rfl (fun ls hl => ?_)
          refine lv_goto (tgt := 4) hx hb dX12_count_29 (by decide) ?_
          refine lv_iload_n hx hb dX12_count_4 rfl (lv_at hl 0 rfl) ?_
          refine lv_iconst (v := 4) hx hb dX12_count_5 (by decide) ?_
          refine lv_icmp_ge (tgt := 32) hx hb dX12_count_6 (by decide) (fun c_11 => ?_) (fun c_11 => ?_)
          · exact absurd c_11 (by decide +kernel)
          · skip
            refine lv_iload_n hx hb dX12_count_9 rfl (lv_at hl 1 rfl) ?_
            refine lv_aload_n hx hb dX12_count_10 rfl (lv_at hl 2 rfl) ?_
            refine va_get (D := (dC, dI)) (ci := 11) (v := .ref (b 1)) (C := RX12) (T := TX12) (N := 36) hx hb hts (by decide +kernel) hown hK hP 0 rfl rfl 1 (by decide) (hts (.fieldLink RX12 14 "CardTablesModel" "isThere" "[Z") (List.mem_of_getElem? (l := vsX12_count) (i := 1) rfl)) (fun _ h9 => h9) rfl dX12_count_11 ?_
            refine lv_iload_n hx hb dX12_count_14 rfl (lv_at hl 0 rfl) ?_
            refine va_zald hx hb hK hP 1 0 rfl rfl (by unfold vp_in; decide +kernel) dX12_count_15 ?_
            refine lv_topi (fun x_12 ex_12 => ?_)
            obtain rfl : x_12 = 0 := ex_12
            refine lv_if_eq (tgt := 23) hx hb dX12_count_16 (by decide) (fun c_13 => ?_) (fun c_13 => ?_)
            · skip
              refine lv_iconst (v := 0) hx hb dX12_count_23 (by decide) ?_
              refine lv_iadd hx hb dX12_count_24 ?_
              refine lv_topi (fun x_14 ex_14 => ?_)
              obtain rfl : x_14 = 0 := ex_14.trans (by decide +kernel)
              refine lv_istore_n (lv' := [(2, .int 0), (3, .int 2), (0, .ref (b 0)), (1, .int p1)]) hx hb dX12_count_25 rfl hl (by decide) rfl (fun ls hl => ?_)
              refine lv_iinc (v := 3) (lv' := [(3, .int 3), (2, .int 0), (0, .ref (b 0)), (1, .int p1)]) hx hb dX12_count_26 hl (k := 1) rfl (by decide) (by decide) rfl (fun ls hl => ?_)
              refine lv_goto (tgt := 4) hx hb dX12_count_29 (by decide) ?_
              refine lv_iload_n hx hb dX12_count_4 rfl (lv_at hl 0 rfl) ?_
              refine lv_iconst (v := 4) hx hb dX12_count_5 (by decide) ?_
              refine lv_icmp_ge (tgt := 32) hx hb dX12_count_6 (by decide) (fun c_16 => ?_) (fun c_16 => ?_)
              · exact absurd c_16 (by decide +kernel)
              · skip
                refine lv_iload_n hx hb dX12_count_9 rfl (lv_at hl 1 rfl) ?_
                refine lv_aload_n hx hb dX12_count_10 rfl (lv_at hl 2 rfl) ?_
                refine va_get (D := (dC, dI)) (ci := 11) (v := .ref (b 1)) (C := RX12) (T := TX12) (N := 36) hx hb hts (by decide +kernel) hown hK hP 0 rfl rfl 1 (by decide) (hts (.fieldLink RX12 14 "CardTablesModel" "isThere" "[Z") (List.mem_of_getElem? (l := vsX12_count) (i := 1) rfl)) (fun _ h9 => h9) rfl dX12_count_11 ?_
                refine lv_iload_n hx hb dX12_count_14 rfl (lv_at hl 0 rfl) ?_
                refine va_zald hx hb hK hP 1 0 rfl rfl (by unfold vp_in; decide +kernel) dX12_count_15 ?_
                refine lv_topi (fun x_17 ex_17 => ?_)
                obtain rfl : x_17 = 0 := ex_17
                refine lv_if_eq (tgt := 23) hx hb dX12_count_16 (by decide) (fun c_18 => ?_) (fun c_18 => ?_)
                · skip
                  refine lv_iconst (v := 0) hx hb dX12_count_23 (by decide) ?_
                  refine lv_iadd hx hb dX12_count_24 ?_
                  refine lv_topi (fun x_19 ex_19 => ?_)
                  obtain rfl : x_19 = 0 := ex_19.trans (by decide +kernel)
                  refine lv_istore_n (lv' := [(2, .int 0), (3, .int 3), (0, .ref (b 0)), (1, .int p1)]) hx hb dX12_count_25 rfl hl (by decide) rfl (fun ls hl => ?_)
                  refine lv_iinc (v := 4) (lv' := [(3, .int 4), (2, .int 0), (0, .ref (b 0)), (1, .int p1)]) hx hb dX12_count_26 hl (k := 1) rfl (by decide) (by decide) rfl (fun ls hl => ?_)
                  refine lv_goto (tgt := 4) hx hb dX12_count_29 (by decide) ?_
                  refine lv_iload_n hx hb dX12_count_4 rfl (lv_at hl 0 rfl) ?_
                  refine lv_iconst (v := 4) hx hb dX12_count_5 (by decide) ?_
                  refine lv_icmp_ge (tgt := 32) hx hb dX12_count_6 (by decide) (fun c_21 => ?_) (fun c_21 => ?_)
                  · skip
                    refine lv_iconst (v := 0) hx hb dX12_count_32 (by decide) ?_
                    refine lv_istore_n (lv' := [(3, .int 0), (2, .int 0), (0, .ref (b 0)), (1, .int p1)]) hx hb dX12_count_33 rfl hl (by decide) rfl (fun ls hl => ?_)
                    refine lv_iconst (v := 0) hx hb dX12_count_34 (by decide) ?_
                    refine lv_istore (lv' := [(4, .int 0), (3, .int 0), (2, .int 0), (0, .ref (b 0)), (1, .int p1)]) hx hb dX12_count_35 hl (by decide) rfl (fun ls hl => ?_)
                    refine lv_iload hx hb dX12_count_37 (lv_at hl 0 rfl) ?_
                    refine lv_bipush (v := 6) hx hb dX12_count_39 (by decide) ?_
                    refine lv_icmp_ge (tgt := 67) hx hb dX12_count_41 (by decide) (fun c_22 => ?_) (fun c_22 => ?_)
                    · exact absurd c_22 (by decide +kernel)
                    · skip
                      refine lv_iload_n hx hb dX12_count_44 rfl (lv_at hl 1 rfl) ?_
                      refine lv_aload_n hx hb dX12_count_45 rfl (lv_at hl 3 rfl) ?_
                      refine lv_iload hx hb dX12_count_46 (lv_at hl 0 rfl) ?_
                      refine vp_callSi (va_Run.run (va_runV (As := [.int 0]) (rest := [.int 0]) ⟨hx, hb, hml, hown, hts⟩ (c_X12_isGame l dC dI b c1 c2 c3 c4 fk hF 0) (cwV 1 hts g_X12_count_X12_isGame rfl rfl rfl (by decide +kernel) ⟨Nat.le_of_ble_eq_true rfl, Nat.le_of_ble_eq_true rfl⟩) ⟨fun a U g mk q => by obtain ⟨q0, qP, qK⟩ := q; exact ⟨q0, qP, va_K.moved (u := U) (U := U.calling g mk a) (Vm.Alike.refl U.vm) qK⟩, va_recv hK hP (ci := 11) (q0 := 0) rfl rfl, fun U hU hW => ⟨rfl, by rw [hU]; exact hP, va_K.moved hW.alike hK⟩⟩ rfl rfl hl.1 rfl (lv_room (Nat.le_of_ble_eq_true rfl)) dX12_count_48 ⟨Nat.zero_le _, Nat.zero_le _⟩)) (fun r_23 e_23 => ?_)
                      subst e_23
                      refine lv_if_eq (tgt := 58) hx hb dX12_count_51 (by decide) (fun c_24 => ?_) (fun c_24 => ?_)
                      · skip
                        refine lv_iconst (v := 0) hx hb dX12_count_58 (by decide) ?_
                        refine lv_iadd hx hb dX12_count_59 ?_
                        refine lv_topi (fun x_25 ex_25 => ?_)
                        obtain rfl : x_25 = 0 := ex_25.trans (by decide +kernel)
                        refine lv_istore_n (lv' := [(3, .int 0), (4, .int 0), (2, .int 0), (0, .ref (b 0)), (1, .int p1)]) hx hb dX12_count_60 rfl hl (by decide) rfl (fun ls hl => ?_)
                        refine lv_iinc (v := 1) (lv' := [(4, .int 1), (3, .int 0), (2, .int 0), (0, .ref (b 0)), (1, .int p1)]) hx hb dX12_count_61 hl (k := 1) rfl (by decide) (by decide) rfl (fun ls hl => ?_)
                        refine lv_goto (tgt := 37) hx hb dX12_count_64 (by decide) ?_
                        refine lv_iload hx hb dX12_count_37 (lv_at hl 0 rfl) ?_
                        refine lv_bipush (v := 6) hx hb dX12_count_39 (by decide) ?_
                        refine lv_icmp_ge (tgt := 67) hx hb dX12_count_41 (by decide) (fun c_27 => ?_) (fun c_27 => ?_)
                        · exact absurd c_27 (by decide +kernel)
                        · skip
                          refine lv_iload_n hx hb dX12_count_44 rfl (lv_at hl 1 rfl) ?_
                          refine lv_aload_n hx hb dX12_count_45 rfl (lv_at hl 3 rfl) ?_
                          refine lv_iload hx hb dX12_count_46 (lv_at hl 0 rfl) ?_
                          refine vp_callSi (va_Run.run (va_runV (As := [.int 1]) (rest := [.int 0]) ⟨hx, hb, hml, hown, hts⟩ (c_X12_isGame l dC dI b c1 c2 c3 c4 fk hF 1) (cwV 1 hts g_X12_count_X12_isGame rfl rfl rfl (by decide +kernel) ⟨Nat.le_of_ble_eq_true rfl, Nat.le_of_ble_eq_true rfl⟩) ⟨fun a U g mk q => by obtain ⟨q0, qP, qK⟩ := q; exact ⟨q0, qP, va_K.moved (u := U) (U := U.calling g mk a) (Vm.Alike.refl U.vm) qK⟩, va_recv hK hP (ci := 11) (q0 := 0) rfl rfl, fun U hU hW => ⟨rfl, by rw [hU]; exact hP, va_K.moved hW.alike hK⟩⟩ rfl rfl hl.1 rfl (lv_room (Nat.le_of_ble_eq_true rfl)) dX12_count_48 ⟨Nat.zero_le _, Nat.zero_le _⟩)) (fun r_28 e_28 => ?_)
                          subst e_28
                          refine lv_if_eq (tgt := 58) hx hb dX12_count_51 (by decide) (fun c_29 => ?_) (fun c_29 => ?_)
                          · skip
                            refine lv_iconst (v := 0) hx hb dX12_count_58 (by decide) ?_
                            refine lv_iadd hx hb dX12_count_59 ?_
                            refine lv_topi (fun x_30 ex_30 => ?_)
                            obtain rfl : x_30 = 0 := ex_30.trans (by decide +kernel)
                            refine lv_istore_n (lv' := [(3, .int 0), (4, .int 1), (2, .int 0), (0, .ref (b 0)), (1, .int p1)]) hx hb dX12_count_60 rfl hl (by decide) rfl (fun ls hl => ?_)
                            refine lv_iinc (v := 2) (lv' := [(4, .int 2), (3, .int 0), (2, .int 0), (0, .ref (b 0)), (1, .int p1)]) hx hb dX12_count_61 hl (k := 1) rfl (by decide) (by decide) rfl (fun ls hl => ?_)
                            refine lv_goto (tgt := 37) hx hb dX12_count_64 (by decide) ?_
                            refine lv_iload hx hb dX12_count_37 (lv_at hl 0 rfl) ?_
                            refine lv_bipush (v := 6) hx hb dX12_count_39 (by decide) ?_
                            refine lv_icmp_ge (tgt := 67) hx hb dX12_count_41 (by decide) (fun c_32 => ?_) (fun c_32 => ?_)
                            · exact absurd c_32 (by decide +kernel)
                            · skip
                              refine lv_iload_n hx hb dX12_count_44 rfl (lv_at hl 1 rfl) ?_
                              refine lv_aload_n hx hb dX12_count_45 rfl (lv_at hl 3 rfl) ?_
                              refine lv_iload hx hb dX12_count_46 (lv_at hl 0 rfl) ?_
                              refine vp_callSi (va_Run.run (va_runV (As := [.int 2]) (rest := [.int 0]) ⟨hx, hb, hml, hown, hts⟩ (c_X12_isGame l dC dI b c1 c2 c3 c4 fk hF 2) (cwV 1 hts g_X12_count_X12_isGame rfl rfl rfl (by decide +kernel) ⟨Nat.le_of_ble_eq_true rfl, Nat.le_of_ble_eq_true rfl⟩) ⟨fun a U g mk q => by obtain ⟨q0, qP, qK⟩ := q; exact ⟨q0, qP, va_K.moved (u := U) (U := U.calling g mk a) (Vm.Alike.refl U.vm) qK⟩, va_recv hK hP (ci := 11) (q0 := 0) rfl rfl, fun U hU hW => ⟨rfl, by rw [hU]; exact hP, va_K.moved hW.alike hK⟩⟩ rfl rfl hl.1 rfl (lv_room (Nat.le_of_ble_eq_true rfl)) dX12_count_48 ⟨Nat.zero_le _, Nat.zero_le _⟩)) (fun r_33 e_33 => ?_)
                              subst e_33
                              refine lv_if_eq (tgt := 58) hx hb dX12_count_51 (by decide) (fun c_34 => ?_) (fun c_34 => ?_)
                              · skip
                                refine lv_iconst (v := 0) hx hb dX12_count_58 (by decide) ?_
                                refine lv_iadd hx hb dX12_count_59 ?_
                                refine lv_topi (fun x_35 ex_35 => ?_)
                                obtain rfl : x_35 = 0 := ex_35.trans (by decide +kernel)
                                refine lv_istore_n (lv' := [(3, .int 0), (4, .int 2), (2, .int 0), (0, .ref (b 0)), (1, .int p1)]) hx hb dX12_count_60 rfl hl (by decide) rfl (fun ls hl => ?_)
                                refine lv_iinc (v := 3) (lv' := [(4, .int 3), (3, .int 0), (2, .int 0), (0, .ref (b 0)), (1, .int p1)]) hx hb dX12_count_61 hl (k := 1) rfl (by decide) (by decide) rfl (fun ls hl => ?_)
                                refine lv_goto (tgt := 37) hx hb dX12_count_64 (by decide) ?_
                                refine lv_iload hx hb dX12_count_37 (lv_at hl 0 rfl) ?_
                                refine lv_bipush (v := 6) hx hb dX12_count_39 (by decide) ?_
                                refine lv_icmp_ge (tgt := 67) hx hb dX12_count_41 (by decide) (fun c_37 => ?_) (fun c_37 => ?_)
                                · exact absurd c_37 (by decide +kernel)
                                · skip
                                  refine lv_iload_n hx hb dX12_count_44 rfl (lv_at hl 1 rfl) ?_
                                  refine lv_aload_n hx hb dX12_count_45 rfl (lv_at hl 3 rfl) ?_
                                  refine lv_iload hx hb dX12_count_46 (lv_at hl 0 rfl) ?_
                                  refine vp_callSi (va_Run.run (va_runV (As := [.int 3]) (rest := [.int 0]) ⟨hx, hb, hml, hown, hts⟩ (c_X12_isGame l dC dI b c1 c2 c3 c4 fk hF 3) (cwV 1 hts g_X12_count_X12_isGame rfl rfl rfl (by decide +kernel) ⟨Nat.le_of_ble_eq_true rfl, Nat.le_of_ble_eq_true rfl⟩) ⟨fun a U g mk q => by obtain ⟨q0, qP, qK⟩ := q; exact ⟨q0, qP, va_K.moved (u := U) (U := U.calling g mk a) (Vm.Alike.refl U.vm) qK⟩, va_recv hK hP (ci := 11) (q0 := 0) rfl rfl, fun U hU hW => ⟨rfl, by rw [hU]; exact hP, va_K.moved hW.alike hK⟩⟩ rfl rfl hl.1 rfl (lv_room (Nat.le_of_ble_eq_true rfl)) dX12_count_48 ⟨Nat.zero_le _, Nat.zero_le _⟩)) (fun r_38 e_38 => ?_)
                                  subst e_38
                                  refine lv_if_eq (tgt := 58) hx hb dX12_count_51 (by decide) (fun c_39 => ?_) (fun c_39 => ?_)
                                  · skip
                                    refine lv_iconst (v := 0) hx hb dX12_count_58 (by decide) ?_
                                    refine lv_iadd hx hb dX12_count_59 ?_
                                    refine lv_topi (fun x_40 ex_40 => ?_)
                                    obtain rfl : x_40 = 0 := ex_40.trans (by decide +kernel)
                                    refine lv_istore_n (lv' := [(3, .int 0), (4, .int 3), (2, .int 0), (0, .ref (b 0)), (1, .int p1)]) hx hb dX12_count_60 rfl hl (by decide) rfl (fun ls hl => ?_)
                                    refine lv_iinc (v := 4) (lv' := [(4, .int 4), (3, .int 0), (2, .int 0), (0, .ref (b 0)), (1, .int p1)]) hx hb dX12_count_61 hl (k := 1) rfl (by decide) (by decide) rfl (fun ls hl => ?_)
                                    refine lv_goto (tgt := 37) hx hb dX12_count_64 (by decide) ?_
                                    refine lv_iload hx hb dX12_count_37 (lv_at hl 0 rfl) ?_
                                    refine lv_bipush (v := 6) hx hb dX12_count_39 (by decide) ?_
                                    refine lv_icmp_ge (tgt := 67) hx hb dX12_count_41 (by decide) (fun c_42 => ?_) (fun c_42 => ?_)
                                    · exact absurd c_42 (by decide +kernel)
                                    · skip
                                      refine lv_iload_n hx hb dX12_count_44 rfl (lv_at hl 1 rfl) ?_
                                      refine lv_aload_n hx hb dX12_count_45 rfl (lv_at hl 3 rfl) ?_
                                      refine lv_iload hx hb dX12_count_46 (lv_at hl 0 rfl) ?_
                                      refine vp_callSi (va_Run.run (va_runV (As := [.int 4]) (rest := [.int 0]) ⟨hx, hb, hml, hown, hts⟩ (c_X12_isGame l dC dI b c1 c2 c3 c4 fk hF 4) (cwV 1 hts g_X12_count_X12_isGame rfl rfl rfl (by decide +kernel) ⟨Nat.le_of_ble_eq_true rfl, Nat.le_of_ble_eq_true rfl⟩) ⟨fun a U g mk q => by obtain ⟨q0, qP, qK⟩ := q; exact ⟨q0, qP, va_K.moved (u := U) (U := U.calling g mk a) (Vm.Alike.refl U.vm) qK⟩, va_recv hK hP (ci := 11) (q0 := 0) rfl rfl, fun U hU hW => ⟨rfl, by rw [hU]; exact hP, va_K.moved hW.alike hK⟩⟩ rfl rfl hl.1 rfl (lv_room (Nat.le_of_ble_eq_true rfl)) dX12_count_48 ⟨Nat.zero_le _, Nat.zero_le _⟩)) (fun r_43 e_43 => ?_)
                                      subst e_43
                                      refine lv_if_eq (tgt := 58) hx hb dX12_count_51 (by decide) (fun c_44 => ?_) (fun c_44 => ?_)
                                      · skip
                                        refine lv_iconst (v := 0) hx hb dX12_count_58 (by decide) ?_
                                        refine lv_iadd hx hb dX12_count_59 ?_
                                        refine lv_topi (fun x_45 ex_45 => ?_)
                                        obtain rfl : x_45 = 0 := ex_45.trans (by decide +kernel)
                                        refine lv_istore_n (lv' := [(3, .int 0), (4, .int 4), (2, .int 0), (0, .ref (b 0)), (1, .int p1)]) hx hb dX12_count_60 rfl hl (by decide) rfl (fun ls hl => ?_)
                                        refine lv_iinc (v := 5) (lv' := [(4, .int 5), (3, .int 0), (2, .int 0), (0, .ref (b 0)), (1, .int p1)]) hx hb dX12_count_61 hl (k := 1) rfl (by decide) (by decide) rfl (fun ls hl => ?_)
                                        refine lv_goto (tgt := 37) hx hb dX12_count_64 (by decide) ?_
                                        refine lv_iload hx hb dX12_count_37 (lv_at hl 0 rfl) ?_
                                        refine lv_bipush (v := 6) hx hb dX12_count_39 (by decide) ?_
                                        refine lv_icmp_ge (tgt := 67) hx hb dX12_count_41 (by decide) (fun c_47 => ?_) (fun c_47 => ?_)
                                        · exact absurd c_47 (by decide +kernel)
                                        · skip
                                          refine lv_iload_n hx hb dX12_count_44 rfl (lv_at hl 1 rfl) ?_
                                          refine lv_aload_n hx hb dX12_count_45 rfl (lv_at hl 3 rfl) ?_
                                          refine lv_iload hx hb dX12_count_46 (lv_at hl 0 rfl) ?_
                                          refine vp_callSi (va_Run.run (va_runV (As := [.int 5]) (rest := [.int 0]) ⟨hx, hb, hml, hown, hts⟩ (c_X12_isGame l dC dI b c1 c2 c3 c4 fk hF 5) (cwV 1 hts g_X12_count_X12_isGame rfl rfl rfl (by decide +kernel) ⟨Nat.le_of_ble_eq_true rfl, Nat.le_of_ble_eq_true rfl⟩) ⟨fun a U g mk q => by obtain ⟨q0, qP, qK⟩ := q; exact ⟨q0, qP, va_K.moved (u := U) (U := U.calling g mk a) (Vm.Alike.refl U.vm) qK⟩, va_recv hK hP (ci := 11) (q0 := 0) rfl rfl, fun U hU hW => ⟨rfl, by rw [hU]; exact hP, va_K.moved hW.alike hK⟩⟩ rfl rfl hl.1 rfl (lv_room (Nat.le_of_ble_eq_true rfl)) dX12_count_48 ⟨Nat.zero_le _, Nat.zero_le _⟩)) (fun r_48 e_48 => ?_)
                                          subst e_48
                                          refine lv_if_eq (tgt := 58) hx hb dX12_count_51 (by decide) (fun c_49 => ?_) (fun c_49 => ?_)
                                          · skip
                                            refine lv_iconst (v := 0) hx hb dX12_count_58 (by decide) ?_
                                            refine lv_iadd hx hb dX12_count_59 ?_
                                            refine lv_topi (fun x_50 ex_50 => ?_)
                                            obtain rfl : x_50 = 0 := ex_50.trans (by decide +kernel)
                                            refine lv_istore_n (lv' := [(3, .int 0), (4, .int 5), (2, .int 0), (0, .ref (b 0)), (1, .int p1)]) hx hb dX12_count_60 rfl hl (by decide) rfl (fun ls hl => ?_)
                                            refine lv_iinc (v := 6) (lv' := [(4, .int 6), (3, .int 0), (2, .int 0), (0, .ref (b 0)), (1, .int p1)]) hx hb dX12_count_61 hl (k := 1) rfl (by decide) (by decide) rfl (fun ls hl => ?_)
                                            refine lv_goto (tgt := 37) hx hb dX12_count_64 (by decide) ?_
                                            refine lv_iload hx hb dX12_count_37 (lv_at hl 0 rfl) ?_
                                            refine lv_bipush (v := 6) hx hb dX12_count_39 (by decide) ?_
                                            refine lv_icmp_ge (tgt := 67) hx hb dX12_count_41 (by decide) (fun c_52 => ?_) (fun c_52 => ?_)
                                            · skip
                                              refine lv_iload_n hx hb dX12_count_67 rfl (lv_at hl 4 rfl) ?_
                                              by_cases hs_53_0 : p1 = 0
                                              · subst hs_53_0
                                                refine lv_tableIn (off := 36) (tgt := 104) hx hb dX12_count_68 (by decide +kernel) (by decide +kernel) (by decide +kernel) (by decide) ?_
                                                refine lv_aload_n hx hb dX12_count_104 rfl (lv_at hl 3 rfl) ?_
                                                refine va_get (D := (dC, dI)) (ci := 11) (v := .int 0) (C := RX12) (T := TX12) (N := 36) hx hb hts (by decide +kernel) hown hK hP 0 rfl rfl 7 (by decide) (hts (.fieldLink RX12 88 "CardTablesModel" "tries" "I") (List.mem_of_getElem? (l := vsX12_count) (i := 2) rfl)) (fun _ h9 => h9) rfl dX12_count_105 ?_
                                                exact W.iret (v := 0) hx hb hr (fun t ht hW => ⟨0, rfl, (by decide +kernel), ht⟩) (fun q h => by cases h) dX12_count_108
                                              by_cases hs_53_1 : p1 = 1
                                              · subst hs_53_1
                                                refine lv_tableIn (off := 41) (tgt := 109) hx hb dX12_count_68 (by decide +kernel) (by decide +kernel) (by decide +kernel) (by decide) ?_
                                                refine lv_aload_n hx hb dX12_count_109 rfl (lv_at hl 3 rfl) ?_
                                                refine va_get (D := (dC, dI)) (ci := 11) (v := .int 0) (C := RX12) (T := TX12) (N := 36) hx hb hts (by decide +kernel) hown hK hP 0 rfl rfl 9 (by decide) (hts (.fieldLink RX12 85 "CardTablesModel" "found" "I") (List.mem_of_getElem? (l := vsX12_count) (i := 3) rfl)) (fun _ h9 => h9) rfl dX12_count_110 ?_
                                                exact W.iret (v := 0) hx hb hr (fun t ht hW => ⟨0, rfl, (by decide +kernel), ht⟩) (fun q h => by cases h) dX12_count_113
                                              by_cases hs_53_2 : p1 = 2
                                              · subst hs_53_2
                                                refine lv_tableIn (off := 46) (tgt := 114) hx hb dX12_count_68 (by decide +kernel) (by decide +kernel) (by decide +kernel) (by decide) ?_
                                                refine lv_aload_n hx hb dX12_count_114 rfl (lv_at hl 3 rfl) ?_
                                                refine va_get (D := (dC, dI)) (ci := 11) (v := .int 0) (C := RX12) (T := TX12) (N := 36) hx hb hts (by decide +kernel) hown hK hP 0 rfl rfl 6 (by decide) (hts (.fieldLink RX12 175 "CardTablesModel" "numbers" "I") (List.mem_of_getElem? (l := vsX12_count) (i := 4) rfl)) (fun _ h9 => h9) rfl dX12_count_115 ?_
                                                exact W.iret (v := 0) hx hb hr (fun t ht hW => ⟨0, rfl, (by decide +kernel), ht⟩) (fun q h => by cases h) dX12_count_118
                                              by_cases hs_53_3 : p1 = 3
                                              · subst hs_53_3
                                                refine lv_tableIn (off := 51) (tgt := 119) hx hb dX12_count_68 (by decide +kernel) (by decide +kernel) (by decide +kernel) (by decide) ?_
                                                refine lv_iload_n hx hb dX12_count_119 rfl (lv_at hl 2 rfl) ?_
                                                exact W.iret (v := 0) hx hb hr (fun t ht hW => ⟨0, rfl, (by decide +kernel), ht⟩) (fun q h => by cases h) dX12_count_120
                                              by_cases hs_53_4 : p1 = 4
                                              · subst hs_53_4
                                                refine lv_tableIn (off := 53) (tgt := 121) hx hb dX12_count_68 (by decide +kernel) (by decide +kernel) (by decide +kernel) (by decide) ?_
                                                refine lv_iload_n hx hb dX12_count_121 rfl (lv_at hl 1 rfl) ?_
                                                exact W.iret (v := 0) hx hb hr (fun t ht hW => ⟨0, rfl, (by decide +kernel), ht⟩) (fun q h => by cases h) dX12_count_122
                                              have ht_53_0 : ¬ p1.toInt = 0 := fun h => hs_53_0 ((fa_eq _ _).mpr (h.trans (by decide +kernel)))
                                              have ht_53_1 : ¬ p1.toInt = 1 := fun h => hs_53_1 ((fa_eq _ _).mpr (h.trans (by decide +kernel)))
                                              have ht_53_2 : ¬ p1.toInt = 2 := fun h => hs_53_2 ((fa_eq _ _).mpr (h.trans (by decide +kernel)))
                                              have ht_53_3 : ¬ p1.toInt = 3 := fun h => hs_53_3 ((fa_eq _ _).mpr (h.trans (by decide +kernel)))
                                              have ht_53_4 : ¬ p1.toInt = 4 := fun h => hs_53_4 ((fa_eq _ _).mpr (h.trans (by decide +kernel)))
                                              refine lv_tableOut (tgt := 123) hx hb dX12_count_68 (by omega) (by decide) ?_
                                              refine lv_bipush (v := (-3)) hx hb dX12_count_123 (by decide) ?_
                                              exact W.iret (v := (-3)) hx hb hr (fun t ht hW => ⟨(-3), rfl, (by unfold f_count; exact (if_pos (by simp only [fa_lt, ti_m1, ti_0, ti_1, ti_2, ti_3, ti_4, ti_5, ti_6, ti_60]; omega)).symm), ht⟩) (fun q h => by cases h) dX12_count_125
                                            · exact absurd c_52 (by decide +kernel)
                                          · exact absurd c_49 (by decide +kernel)
                                      · exact absurd c_44 (by decide +kernel)
                                  · exact absurd c_39 (by decide +kernel)
                              · exact absurd c_34 (by decide +kernel)
                          · exact absurd c_29 (by decide +kernel)
                      · exact absurd c_24 (by decide +kernel)
                  · exact absurd c_21 (by decide +kernel)
                · exact absurd c_18 (by decide +kernel)
            · exact absurd c_13 (by decide +kernel)
        · exact absurd c_8 (by decide +kernel)
    · exact absurd c_3 (by decide +kernel)
