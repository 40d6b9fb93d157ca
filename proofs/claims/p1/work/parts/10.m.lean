set_option maxRecDepth 100000 in
theorem gv_RX12_91 : GoodIn lw_tbl (va_wsS RX12 91 yX12_in vsX12_in) := (gi_t 1131 (by decide +kernel) rfl (gi_t 1132 (by decide +kernel) rfl (gi_t 8 (by decide +kernel) rfl gl_X12_in)))
def vsX12_isTable : List Cond := .code yX12_isTable cX12_isTable 2 (some .boolean) :: ([.fieldLink RX12 14 "CardTablesModel" "isThere" "[Z"] ++ (wsX120 ++ (va_wsS RX12 91 yX12_in vsX12_in ++ [])))
set_option maxRecDepth 100000 in
theorem gl_X12_isTable : GoodIn lw_tbl vsX12_isTable := gi_t 1157 rfl rfl (goodIn_app (gi_t 1018 (by decide +kernel) rfl gi_nil) (goodIn_app gc_X12 (goodIn_app gv_RX12_91 gi_nil)))
theorem g_X12_isTable_X12_in : GoodIn vsX12_isTable (va_wsS RX12 91 yX12_in vsX12_in) := fun w h => ⟨List.mem_cons_of_mem _ (List.mem_append_right _ (List.mem_append_right _ (List.mem_append_left _ h))), (gv_RX12_91 w h).2⟩
set_option maxHeartbeats 4000000 in
set_option maxRecDepth 100000 in
theorem c_X12_isTable (l : Launch) (dC : Nat → ClassId) (dI : Nat → Nat → Nat) (b : Nat → Nat) (c1 c2 c3 c4 : ClassId) (fk : Nat → Int32) (hF : ∀ j, j < 6 → fk j = -1) (t : Int32) : Met l yX12_isTable vsX12_isTable ({ frames := 1, cells := 0, slots := 0, locals := 22 }) (va_Pc [.ref (b 0), .int t] (fun U => va_P (dC, dI) vwCl (wM b c1 c2 c3 c4 fk) U.heap ∧ va_K (dC, dI) vwCl (tM c1 c2 c3 c4) U)) (vp_Si (fun r => r = 0)) 0 0 (fun _ => False) := by
  refine Met.ofW (cc := cX12_isTable) (maxL := 2) (ret := (some .boolean)) (by decide) rfl ?_
  intro p e s m args below meth c s₁ B hml hv
  obtain ⟨rfl, hP, hK⟩ := hv
  have hx := B.exec
  have hb := B.bytes
  have hr := B.returns
  have hts := atoms_spec (ws := vsX12_isTable) B.pre
  have hown : s.vm.findClass RX12 = some m.cls := findClass_of_methodNamed B.named
  have hlocks := B.notSynchronized
  have hl := lv_entry ([.ref (b 0), .int t]) (n := 2) (Nat.le_of_ble_eq_true rfl)
  rw [lg_entry_eq]
  generalize (lg_sl ([.ref (b 0), .int t]) ++ List.replicate (2 - (lg_sl ([.ref (b 0), .int t])).length) Slot.unset).toArray = ls at hl ⊢
  have hl : lv_has ls 2 [(0, .ref (b 0)), (1, .int t)] := hl
  refine lv_iload_n hx hb dX12_isTable_0 rfl (lv_at hl 1 rfl) ?_
  refine lv_iconst (v := 0) hx hb dX12_isTable_1 (by decide) ?_
  refine lv_iconst (v := 3) hx hb dX12_isTable_2 (by decide) ?_
  refine vp_callSi (va_Run.run (va_runS (As := [.int t, .int 0, .int 3]) (rest := []) ⟨hx, hb, hml, hown, hts⟩ (c_X12_in l dC dI  t 0 3) (va_cwS 3 hts g_X12_isTable_X12_in rfl rfl rfl (by decide +kernel) ⟨Nat.le_of_ble_eq_true rfl, Nat.le_of_ble_eq_true rfl⟩) ⟨fun a U g mk q => q, fun U hU hW => ⟨rfl, trivial⟩⟩ rfl rfl hl.1 rfl (lv_room (Nat.le_of_ble_eq_true rfl)) dX12_isTable_3 ⟨Nat.zero_le _, Nat.zero_le _⟩)) (fun r_1 e_1 => ?_)
  rcases e_1 with ⟨rfl, hy_2⟩ | ⟨rfl, hn_2⟩
  · skip
    refine lv_if_eq (tgt := 22) hx hb dX12_isTable_6 (by decide) (fun c_3 => ?_) (fun c_3 => ?_)
    · exact absurd c_3 (by decide +kernel)
    · skip
      refine lv_aload_n hx hb dX12_isTable_9 rfl (lv_at hl 0 rfl) ?_
      refine va_get (D := (dC, dI)) (ci := 11) (v := .ref (b 1)) (C := RX12) (T := TX12) (N := 36) hx hb hts (by decide +kernel) hown hK hP 0 rfl rfl 1 (by decide) (hts (.fieldLink RX12 14 "CardTablesModel" "isThere" "[Z") (List.mem_of_getElem? (l := vsX12_isTable) (i := 1) rfl)) (fun _ h9 => h9) rfl dX12_isTable_10 ?_
      refine lv_iload_n hx hb dX12_isTable_13 rfl (lv_at hl 1 rfl) ?_
      have hin_14 : vp_in t 4 := vp_in_iff.mpr (by simp only [ti_m1, ti_0, ti_1, ti_2, ti_3, ti_4, ti_5, ti_6, ti_60] at hy_2 ⊢; omega)
      refine va_zald hx hb hK hP 1 0 rfl rfl hin_14 dX12_isTable_14 ?_
      refine lv_topi (fun x_4 ex_4 => ?_)
      obtain rfl : x_4 = 0 := ex_4
      refine lv_if_eq (tgt := 22) hx hb dX12_isTable_15 (by decide) (fun c_5 => ?_) (fun c_5 => ?_)
      · skip
        refine lv_iconst (v := 0) hx hb dX12_isTable_22 (by decide) ?_
        exact W.zret (v := 0) hx hb hr (by decide +kernel) (fun t ht hW => ⟨0, rfl, rfl, ht⟩) (fun q h => by cases h) dX12_isTable_23
      · exact absurd c_5 (by decide +kernel)
  · skip
    refine lv_if_eq (tgt := 22) hx hb dX12_isTable_6 (by decide) (fun c_6 => ?_) (fun c_6 => ?_)
    · skip
      refine lv_iconst (v := 0) hx hb dX12_isTable_22 (by decide) ?_
      exact W.zret (v := 0) hx hb hr (by decide +kernel) (fun t ht hW => ⟨0, rfl, rfl, ht⟩) (fun q h => by cases h) dX12_isTable_23
    · exact absurd c_6 (by decide +kernel)
def vsX12_isGame : List Cond := .code yX12_isGame cX12_isGame 2 (some .boolean) :: ([.fieldLink RX12 21 "CardTablesModel" "gameKind" "[I"] ++ (wsX120 ++ (va_wsS RX12 91 yX12_in vsX12_in ++ [])))
set_option maxRecDepth 100000 in
theorem gl_X12_isGame : GoodIn lw_tbl vsX12_isGame := gi_t 1137 rfl rfl (goodIn_app (gi_t 1020 (by decide +kernel) rfl gi_nil) (goodIn_app gc_X12 (goodIn_app gv_RX12_91 gi_nil)))
theorem g_X12_isGame_X12_in : GoodIn vsX12_isGame (va_wsS RX12 91 yX12_in vsX12_in) := fun w h => ⟨List.mem_cons_of_mem _ (List.mem_append_right _ (List.mem_append_right _ (List.mem_append_left _ h))), (gv_RX12_91 w h).2⟩
set_option maxHeartbeats 4000000 in
set_option maxRecDepth 100000 in
theorem c_X12_isGame (l : Launch) (dC : Nat → ClassId) (dI : Nat → Nat → Nat) (b : Nat → Nat) (c1 c2 c3 c4 : ClassId) (fk : Nat → Int32) (hF : ∀ j, j < 6 → fk j = -1) (g : Int32) : Met l yX12_isGame vsX12_isGame ({ frames := 1, cells := 0, slots := 0, locals := 22 }) (va_Pc [.ref (b 0), .int g] (fun U => va_P (dC, dI) vwCl (wM b c1 c2 c3 c4 fk) U.heap ∧ va_K (dC, dI) vwCl (tM c1 c2 c3 c4) U)) (vp_Si (fun r => r = 0)) 0 0 (fun _ => False) := by
  refine Met.ofW (cc := cX12_isGame) (maxL := 2) (ret := (some .boolean)) (by decide) rfl ?_
  intro p e s m args below meth c s₁ B hml hv
  obtain ⟨rfl, hP, hK⟩ := hv
  have hx := B.exec
  have hb := B.bytes
  have hr := B.returns
  have hts := atoms_spec (ws := vsX12_isGame) B.pre
  have hown : s.vm.findClass RX12 = some m.cls := findClass_of_methodNamed B.named
  have hlocks := B.notSynchronized
  have hl := lv_entry ([.ref (b 0), .int g]) (n := 2) (Nat.le_of_ble_eq_true rfl)
  rw [lg_entry_eq]
  generalize (lg_sl ([.ref (b 0), .int g]) ++ List.replicate (2 - (lg_sl ([.ref (b 0), .int g])).length) Slot.unset).toArray = ls at hl ⊢
  have hl : lv_has ls 2 [(0, .ref (b 0)), (1, .int g)] := hl
  refine lv_iload_n hx hb dX12_isGame_0 rfl (lv_at hl 1 rfl) ?_
  refine lv_iconst (v := 0) hx hb dX12_isGame_1 (by decide) ?_
  refine lv_iconst (v := 5) hx hb dX12_isGame_2 (by decide) ?_
  refine vp_callSi (va_Run.run (va_runS (As := [.int g, .int 0, .int 5]) (rest := []) ⟨hx, hb, hml, hown, hts⟩ (c_X12_in l dC dI  g 0 5) (va_cwS 3 hts g_X12_isGame_X12_in rfl rfl rfl (by decide +kernel) ⟨Nat.le_of_ble_eq_true rfl, Nat.le_of_ble_eq_true rfl⟩) ⟨fun a U g mk q => q, fun U hU hW => ⟨rfl, trivial⟩⟩ rfl rfl hl.1 rfl (lv_room (Nat.le_of_ble_eq_true rfl)) dX12_isGame_3 ⟨Nat.zero_le _, Nat.zero_le _⟩)) (fun r_1 e_1 => ?_)
  rcases e_1 with ⟨rfl, hy_2⟩ | ⟨rfl, hn_2⟩
  · skip
    refine lv_if_eq (tgt := 23) hx hb dX12_isGame_6 (by decide) (fun c_3 => ?_) (fun c_3 => ?_)
    · exact absurd c_3 (by decide +kernel)
    · skip
      refine lv_aload_n hx hb dX12_isGame_9 rfl (lv_at hl 0 rfl) ?_
      refine va_get (D := (dC, dI)) (ci := 11) (v := .ref (b 2)) (C := RX12) (T := TX12) (N := 36) hx hb hts (by decide +kernel) hown hK hP 0 rfl rfl 3 (by decide) (hts (.fieldLink RX12 21 "CardTablesModel" "gameKind" "[I") (List.mem_of_getElem? (l := vsX12_isGame) (i := 1) rfl)) (fun _ h9 => h9) rfl dX12_isGame_10 ?_
      refine lv_iload_n hx hb dX12_isGame_13 rfl (lv_at hl 1 rfl) ?_
      have hin_14 : vp_in g 6 := vp_in_iff.mpr (by simp only [ti_m1, ti_0, ti_1, ti_2, ti_3, ti_4, ti_5, ti_6, ti_60] at hy_2 ⊢; omega)
      refine va_iald hx hb hK hP 2 1 rfl rfl hin_14 dX12_isGame_14 ?_
      refine lv_topi (fun x_4 ex_4 => ?_)
      obtain rfl : x_4 = -1 := ex_4.trans (hF _ (Nat.not_le.mp fun h => hin_14 (Or.inr h)))
      refine lv_iconst (v := (-1)) hx hb dX12_isGame_15 (by decide) ?_
      refine lv_icmp_eq (tgt := 23) hx hb dX12_isGame_16 (by decide) (fun c_5 => ?_) (fun c_5 => ?_)
      · skip
        refine lv_iconst (v := 0) hx hb dX12_isGame_23 (by decide) ?_
        exact W.zret (v := 0) hx hb hr (by decide +kernel) (fun t ht hW => ⟨0, rfl, rfl, ht⟩) (fun q h => by cases h) dX12_isGame_24
      · exact absurd c_5 (by decide +kernel)
  · skip
    refine lv_if_eq (tgt := 23) hx hb dX12_isGame_6 (by decide) (fun c_6 => ?_) (fun c_6 => ?_)
    · skip
      refine lv_iconst (v := 0) hx hb dX12_isGame_23 (by decide) ?_
      exact W.zret (v := 0) hx hb hr (by decide +kernel) (fun t ht hW => ⟨0, rfl, rfl, ht⟩) (fun q h => by cases h) dX12_isGame_24
    · exact absurd c_6 (by decide +kernel)
set_option maxRecDepth 100000 in
theorem gv_RX12_107 : GoodIn lw_tbl (wsV RX12 107 RX12 yX12_isTable vsX12_isTable) := (gi_t 1154 (by decide +kernel) rfl (gi_t 1156 (by decide +kernel) rfl (gi_s 28 (by decide +kernel) rfl (gi_t 8 (by decide +kernel) rfl gl_X12_isTable))))
def vsX12_play : List Cond := .code yX12_play cX12_play 8 (some .int) :: ([] ++ (wsV RX12 107 RX12 yX12_isTable vsX12_isTable ++ []))
set_option maxRecDepth 100000 in
theorem gl_X12_play : GoodIn lw_tbl vsX12_play := gi_t 1266 rfl rfl (goodIn_app gi_nil (goodIn_app gv_RX12_107 gi_nil))
theorem g_X12_play_X12_isTable : GoodIn vsX12_play (wsV RX12 107 RX12 yX12_isTable vsX12_isTable) := fun w h => ⟨List.mem_cons_of_mem _ (List.mem_append_right _ (List.mem_append_left _ h)), (gv_RX12_107 w h).2⟩
set_option maxHeartbeats 4000000 in
set_option maxRecDepth 100000 in
theorem c_X12_play (l : Launch) (dC : Nat → ClassId) (dI : Nat → Nat → Nat) (b : Nat → Nat) (c1 c2 c3 c4 : ClassId) (fk : Nat → Int32) (hF : ∀ j, j < 6 → fk j = -1) (p1 : Int32) (p2 : Int32) (p3 : Int32) (p4 : Int32) : Met l yX12_play vsX12_play ({ frames := 2, cells := 0, slots := 0, locals := 43 }) (va_Pc [.ref (b 0), .int p1, .int p2, .int p3, .int p4] (fun U => va_P (dC, dI) vwCl (wM b c1 c2 c3 c4 fk) U.heap ∧ va_K (dC, dI) vwCl (tM c1 c2 c3 c4) U)) (vp_Si (fun r => r = -2)) 0 0 (fun _ => False) := by
  refine Met.ofW (cc := cX12_play) (maxL := 8) (ret := (some .int)) (by decide) rfl ?_
  intro p e s m args below meth c s₁ B hml hv
  obtain ⟨rfl, hP, hK⟩ := hv
  have hx := B.exec
  have hb := B.bytes
  have hr := B.returns
  have hts := atoms_spec (ws := vsX12_play) B.pre
  have hown : s.vm.findClass RX12 = some m.cls := findClass_of_methodNamed B.named
  have hlocks := B.notSynchronized
  have hl := lv_entry ([.ref (b 0), .int p1, .int p2, .int p3, .int p4]) (n := 8) (Nat.le_of_ble_eq_true rfl)
  rw [lg_entry_eq]
  generalize (lg_sl ([.ref (b 0), .int p1, .int p2, .int p3, .int p4]) ++ List.replicate (8 - (lg_sl ([.ref (b 0), .int p1, .int p2, .int p3, .int p4])).length) Slot.unset).toArray = ls at hl ⊢
  have hl : lv_has ls 8 [(0, .ref (b 0)), (1, .int p1), (2, .int p2), (3, .int p3), (4, .int p4)] := hl
  refine lv_aload_n hx hb dX12_play_0 rfl (lv_at hl 0 rfl) ?_
  refine lv_iload_n hx hb dX12_play_1 rfl (lv_at hl 1 rfl) ?_
  refine vp_callSi (va_Run.run (va_runV (As := [.int p1]) (rest := []) ⟨hx, hb, hml, hown, hts⟩ (c_X12_isTable l dC dI b c1 c2 c3 c4 fk hF p1) (cwV 1 hts g_X12_play_X12_isTable rfl rfl rfl (by decide +kernel) ⟨Nat.le_of_ble_eq_true rfl, Nat.le_of_ble_eq_true rfl⟩) ⟨fun a U g mk q => by obtain ⟨q0, qP, qK⟩ := q; exact ⟨q0, qP, va_K.moved (u := U) (U := U.calling g mk a) (Vm.Alike.refl U.vm) qK⟩, va_recv hK hP (ci := 11) (q0 := 0) rfl rfl, fun U hU hW => ⟨rfl, by rw [hU]; exact hP, va_K.moved hW.alike hK⟩⟩ rfl rfl hl.1 rfl (lv_room (Nat.le_of_ble_eq_true rfl)) dX12_play_2 ⟨Nat.zero_le _, Nat.zero_le _⟩)) (fun r_1 e_1 => ?_)
  subst e_1
  refine lv_if_eq (tgt := 15) hx hb dX12_play_5 (by decide) (fun c_2 => ?_) (fun c_2 => ?_)
  · skip
    refine lv_bipush (v := (-2)) hx hb dX12_play_15 (by decide) ?_
    exact W.iret (v := (-2)) hx hb hr (fun t ht hW => ⟨(-2), rfl, rfl, ht⟩) (fun q h => by cases h) dX12_play_17
  · exact absurd c_2 (by decide +kernel)
def vsX12_endBars : List Cond := .code yX12_endBars cX12_endBars 3 (some .int) :: ([] ++ (wsV RX12 107 RX12 yX12_isTable vsX12_isTable ++ []))
set_option maxRecDepth 100000 in
theorem gl_X12_endBars : GoodIn lw_tbl vsX12_endBars := gi_t 1394 rfl rfl (goodIn_app gi_nil (goodIn_app gv_RX12_107 gi_nil))
theorem g_X12_endBars_X12_isTable : GoodIn vsX12_endBars (wsV RX12 107 RX12 yX12_isTable vsX12_isTable) := fun w h => ⟨List.mem_cons_of_mem _ (List.mem_append_right _ (List.mem_append_left _ h)), (gv_RX12_107 w h).2⟩
set_option maxHeartbeats 4000000 in
set_option maxRecDepth 100000 in
theorem c_X12_endBars (l : Launch) (dC : Nat → ClassId) (dI : Nat → Nat → Nat) (b : Nat → Nat) (c1 c2 c3 c4 : ClassId) (fk : Nat → Int32) (hF : ∀ j, j < 6 → fk j = -1) (p1 : Int32) (p2 : Int32) : Met l yX12_endBars vsX12_endBars ({ frames := 2, cells := 0, slots := 0, locals := 43 }) (va_Pc [.ref (b 0), .int p1, .int p2] (fun U => va_P (dC, dI) vwCl (wM b c1 c2 c3 c4 fk) U.heap ∧ va_K (dC, dI) vwCl (tM c1 c2 c3 c4) U)) (vp_Si (fun r => r = -2)) 0 0 (fun _ => False) := by
  refine Met.ofW (cc := cX12_endBars) (maxL := 3) (ret := (some .int)) (by decide) rfl ?_
  intro p e s m args below meth c s₁ B hml hv
  obtain ⟨rfl, hP, hK⟩ := hv
  have hx := B.exec
  have hb := B.bytes
  have hr := B.returns
  have hts := atoms_spec (ws := vsX12_endBars) B.pre
  have hown : s.vm.findClass RX12 = some m.cls := findClass_of_methodNamed B.named
  have hlocks := B.notSynchronized
  have hl := lv_entry ([.ref (b 0), .int p1, .int p2]) (n := 3) (Nat.le_of_ble_eq_true rfl)
  rw [lg_entry_eq]
  generalize (lg_sl ([.ref (b 0), .int p1, .int p2]) ++ List.replicate (3 - (lg_sl ([.ref (b 0), .int p1, .int p2])).length) Slot.unset).toArray = ls at hl ⊢
  have hl : lv_has ls 3 [(0, .ref (b 0)), (1, .int p1), (2, .int p2)] := hl
  refine lv_aload_n hx hb dX12_endBars_0 rfl (lv_at hl 0 rfl) ?_
  refine lv_iload_n hx hb dX12_endBars_1 rfl (lv_at hl 1 rfl) ?_
  refine vp_callSi (va_Run.run (va_runV (As := [.int p1]) (rest := []) ⟨hx, hb, hml, hown, hts⟩ (c_X12_isTable l dC dI b c1 c2 c3 c4 fk hF p1) (cwV 1 hts g_X12_endBars_X12_isTable rfl rfl rfl (by decide +kernel) ⟨Nat.le_of_ble_eq_true rfl, Nat.le_of_ble_eq_true rfl⟩) ⟨fun a U g mk q => by obtain ⟨q0, qP, qK⟩ := q; exact ⟨q0, qP, va_K.moved (u := U) (U := U.calling g mk a) (Vm.Alike.refl U.vm) qK⟩, va_recv hK hP (ci := 11) (q0 := 0) rfl rfl, fun U hU hW => ⟨rfl, by rw [hU]; exact hP, va_K.moved hW.alike hK⟩⟩ rfl rfl hl.1 rfl (lv_room (Nat.le_of_ble_eq_true rfl)) dX12_endBars_2 ⟨Nat.zero_le _, Nat.zero_le _⟩)) (fun r_1 e_1 => ?_)
  subst e_1
  refine lv_if_eq (tgt := 17) hx hb dX12_endBars_5 (by decide) (fun c_2 => ?_) (fun c_2 => ?_)
  · skip
    refine lv_bipush (v := (-2)) hx hb dX12_endBars_17 (by decide) ?_
    exact W.iret (v := (-2)) hx hb hr (fun t ht hW => ⟨(-2), rfl, rfl, ht⟩) (fun q h => by cases h) dX12_endBars_19
  · exact absurd c_2 (by decide +kernel)
set_option maxRecDepth 100000 in
theorem gv_RX12_99 : GoodIn lw_tbl (wsV RX12 99 RX12 yX12_isGame vsX12_isGame) := (gi_t 1134 (by decide +kernel) rfl (gi_t 1136 (by decide +kernel) rfl (gi_s 26 (by decide +kernel) rfl (gi_t 8 (by decide +kernel) rfl gl_X12_isGame))))
def vsX12_table : List Cond := .code yX12_table cX12_table 6 (some .int) :: ([] ++ (va_wsS RX12 91 yX12_in vsX12_in ++ (wsV RX12 99 RX12 yX12_isGame vsX12_isGame ++ [])))
set_option maxRecDepth 100000 in
theorem gl_X12_table : GoodIn lw_tbl vsX12_table := gi_t 1145 rfl rfl (goodIn_app gi_nil (goodIn_app gv_RX12_91 (goodIn_app gv_RX12_99 gi_nil)))
theorem g_X12_table_X12_in : GoodIn vsX12_table (va_wsS RX12 91 yX12_in vsX12_in) := fun w h => ⟨List.mem_cons_of_mem _ (List.mem_append_right _ (List.mem_append_left _ h)), (gv_RX12_91 w h).2⟩
theorem g_X12_table_X12_isGame : GoodIn vsX12_table (wsV RX12 99 RX12 yX12_isGame vsX12_isGame) := fun w h => ⟨List.mem_cons_of_mem _ (List.mem_append_right _ (List.mem_append_right _ (List.mem_append_left _ h))), (gv_RX12_99 w h).2⟩
set_option maxHeartbeats 4000000 in
set_option maxRecDepth 100000 in
theorem c_X12_table (l : Launch) (dC : Nat → ClassId) (dI : Nat → Nat → Nat) (b : Nat → Nat) (c1 c2 c3 c4 : ClassId) (fk : Nat → Int32) (hF : ∀ j, j < 6 → fk j = -1) (p1 : Int32) (p2 : Int32) (p3 : Int32) : Met l yX12_table vsX12_table ({ frames := 2, cells := 0, slots := 0, locals := 43 }) (va_Pc [.ref (b 0), .int p1, .int p2, .int p3] (fun U => va_P (dC, dI) vwCl (wM b c1 c2 c3 c4 fk) U.heap ∧ va_K (dC, dI) vwCl (tM c1 c2 c3 c4) U)) (vp_Si (fun r => r = -2)) 0 0 (fun _ => False) := by
  refine Met.ofW (cc := cX12_table) (maxL := 6) (ret := (some .int)) (by decide) rfl ?_
  intro p e s m args below meth c s₁ B hml hv
  obtain ⟨rfl, hP, hK⟩ := hv
  have hx := B.exec
  have hb := B.bytes
  have hr := B.returns
  have hts := atoms_spec (ws := vsX12_table) B.pre
  have hown : s.vm.findClass RX12 = some m.cls := findClass_of_methodNamed B.named
  have hlocks := B.notSynchronized
  have hl := lv_entry ([.ref (b 0), .int p1, .int p2, .int p3]) (n := 6) (Nat.le_of_ble_eq_true rfl)
  rw [lg_entry_eq]
  generalize (lg_sl ([.ref (b 0), .int p1, .int p2, .int p3]) ++ List.replicate (6 - (lg_sl ([.ref (b 0), .int p1, .int p2, .int p3])).length) Slot.unset).toArray = ls at hl ⊢
  have hl : lv_has ls 6 [(0, .ref (b 0)), (1, .int p1), (2, .int p2), (3, .int p3)] := hl
  refine lv_iload_n hx hb dX12_table_0 rfl (lv_at hl 1 rfl) ?_
  refine lv_iconst (v := 0) hx hb dX12_table_1 (by decide) ?_
  refine lv_iconst (v := 3) hx hb dX12_table_2 (by decide) ?_
  refine vp_callSi (va_Run.run (va_runS (As := [.int p1, .int 0, .int 3]) (rest := []) ⟨hx, hb, hml, hown, hts⟩ (c_X12_in l dC dI  p1 0 3) (va_cwS 3 hts g_X12_table_X12_in rfl rfl rfl (by decide +kernel) ⟨Nat.le_of_ble_eq_true rfl, Nat.le_of_ble_eq_true rfl⟩) ⟨fun a U g mk q => q, fun U hU hW => ⟨rfl, trivial⟩⟩ rfl rfl hl.1 rfl (lv_room (Nat.le_of_ble_eq_true rfl)) dX12_table_3 ⟨Nat.zero_le _, Nat.zero_le _⟩)) (fun r_1 e_1 => ?_)
  rcases e_1 with ⟨rfl, hy_2⟩ | ⟨rfl, hn_2⟩
  · skip
    refine lv_if_eq (tgt := 17) hx hb dX12_table_6 (by decide) (fun c_3 => ?_) (fun c_3 => ?_)
    · exact absurd c_3 (by decide +kernel)
    · skip
      refine lv_aload_n hx hb dX12_table_9 rfl (lv_at hl 0 rfl) ?_
      refine lv_iload_n hx hb dX12_table_10 rfl (lv_at hl 3 rfl) ?_
      refine vp_callSi (va_Run.run (va_runV (As := [.int p3]) (rest := []) ⟨hx, hb, hml, hown, hts⟩ (c_X12_isGame l dC dI b c1 c2 c3 c4 fk hF p3) (cwV 1 hts g_X12_table_X12_isGame rfl rfl rfl (by decide +kernel) ⟨Nat.le_of_ble_eq_true rfl, Nat.le_of_ble_eq_true rfl⟩) ⟨fun a U g mk q => by obtain ⟨q0, qP, qK⟩ := q; exact ⟨q0, qP, va_K.moved (u := U) (U := U.calling g mk a) (Vm.Alike.refl U.vm) qK⟩, va_recv hK hP (ci := 11) (q0 := 0) rfl rfl, fun U hU hW => ⟨rfl, by rw [hU]; exact hP, va_K.moved hW.alike hK⟩⟩ rfl rfl hl.1 rfl (lv_room (Nat.le_of_ble_eq_true rfl)) dX12_table_11 ⟨Nat.zero_le _, Nat.zero_le _⟩)) (fun r_4 e_4 => ?_)
      subst e_4
      refine lv_if_ne (tgt := 20) hx hb dX12_table_14 (by decide) (fun c_5 => ?_) (fun c_5 => ?_)
      · exact absurd c_5 (by decide +kernel)
      · skip
        refine lv_bipush (v := (-2)) hx hb dX12_table_17 (by decide) ?_
        exact W.iret (v := (-2)) hx hb hr (fun t ht hW => ⟨(-2), rfl, rfl, ht⟩) (fun q h => by cases h) dX12_table_19
  · skip
    refine lv_if_eq (tgt := 17) hx hb dX12_table_6 (by decide) (fun c_6 => ?_) (fun c_6 => ?_)
    · skip
      refine lv_bipush (v := (-2)) hx hb dX12_table_17 (by decide) ?_
      exact W.iret (v := (-2)) hx hb hr (fun t ht hW => ⟨(-2), rfl, rfl, ht⟩) (fun q h => by cases h) dX12_table_19
    · exact absurd c_6 (by decide +kernel)
def vsX12_seat : List Cond := .code yX12_seat cX12_seat 8 (some .int) :: ([] ++ (wsV RX12 107 RX12 yX12_isTable vsX12_isTable ++ []))
set_option maxRecDepth 100000 in
theorem gl_X12_seat : GoodIn lw_tbl vsX12_seat := gi_t 1153 rfl rfl (goodIn_app gi_nil (goodIn_app gv_RX12_107 gi_nil))
theorem g_X12_seat_X12_isTable : GoodIn vsX12_seat (wsV RX12 107 RX12 yX12_isTable vsX12_isTable) := fun w h => ⟨List.mem_cons_of_mem _ (List.mem_append_right _ (List.mem_append_left _ h)), (gv_RX12_107 w h).2⟩
set_option maxHeartbeats 4000000 in
set_option maxRecDepth 100000 in
theorem c_X12_seat (l : Launch) (dC : Nat → ClassId) (dI : Nat → Nat → Nat) (b : Nat → Nat) (c1 c2 c3 c4 : ClassId) (fk : Nat → Int32) (hF : ∀ j, j < 6 → fk j = -1) (p1 : Int32) (p2 : Int32) (p3 : Int32) : Met l yX12_seat vsX12_seat ({ frames := 2, cells := 0, slots := 0, locals := 43 }) (va_Pc [.ref (b 0), .int p1, .int p2, .int p3] (fun U => va_P (dC, dI) vwCl (wM b c1 c2 c3 c4 fk) U.heap ∧ va_K (dC, dI) vwCl (tM c1 c2 c3 c4) U)) (vp_Si (fun r => r = -2)) 0 0 (fun _ => False) := by
  refine Met.ofW (cc := cX12_seat) (maxL := 8) (ret := (some .int)) (by decide) rfl ?_
  intro p e s m args below meth c s₁ B hml hv
  obtain ⟨rfl, hP, hK⟩ := hv
  have hx := B.exec
  have hb := B.bytes
  have hr := B.returns
  have hts := atoms_spec (ws := vsX12_seat) B.pre
  have hown : s.vm.findClass RX12 = some m.cls := findClass_of_methodNamed B.named
  have hlocks := B.notSynchronized
  have hl := lv_entry ([.ref (b 0), .int p1, .int p2, .int p3]) (n := 8) (Nat.le_of_ble_eq_true rfl)
  rw [lg_entry_eq]
  generalize (lg_sl ([.ref (b 0), .int p1, .int p2, .int p3]) ++ List.replicate (8 - (lg_sl ([.ref (b 0), .int p1, .int p2, .int p3])).length) Slot.unset).toArray = ls at hl ⊢
  have hl : lv_has ls 8 [(0, .ref (b 0)), (1, .int p1), (2, .int p2), (3, .int p3)] := hl
  refine lv_aload_n hx hb dX12_seat_0 rfl (lv_at hl 0 rfl) ?_
  refine lv_iload_n hx hb dX12_seat_1 rfl (lv_at hl 1 rfl) ?_
  refine vp_callSi (va_Run.run (va_runV (As := [.int p1]) (rest := []) ⟨hx, hb, hml, hown, hts⟩ (c_X12_isTable l dC dI b c1 c2 c3 c4 fk hF p1) (cwV 1 hts g_X12_seat_X12_isTable rfl rfl rfl (by decide +kernel) ⟨Nat.le_of_ble_eq_true rfl, Nat.le_of_ble_eq_true rfl⟩) ⟨fun a U g mk q => by obtain ⟨q0, qP, qK⟩ := q; exact ⟨q0, qP, va_K.moved (u := U) (U := U.calling g mk a) (Vm.Alike.refl U.vm) qK⟩, va_recv hK hP (ci := 11) (q0 := 0) rfl rfl, fun U hU hW => ⟨rfl, by rw [hU]; exact hP, va_K.moved hW.alike hK⟩⟩ rfl rfl hl.1 rfl (lv_room (Nat.le_of_ble_eq_true rfl)) dX12_seat_2 ⟨Nat.zero_le _, Nat.zero_le _⟩)) (fun r_1 e_1 => ?_)
  subst e_1
  refine lv_if_eq (tgt := 15) hx hb dX12_seat_5 (by decide) (fun c_2 => ?_) (fun c_2 => ?_)
  · skip
    refine lv_bipush (v := (-2)) hx hb dX12_seat_15 (by decide) ?_
    exact W.iret (v := (-2)) hx hb hr (fun t ht hW => ⟨(-2), rfl, rfl, ht⟩) (fun q h => by cases h) dX12_seat_17
  · exact absurd c_2 (by decide +kernel)
def vsX12_kind : List Cond := .code yX12_kind cX12_kind 6 (some .int) :: ([] ++ (wsV RX12 107 RX12 yX12_isTable vsX12_isTable ++ []))
set_option maxRecDepth 100000 in
theorem gl_X12_kind : GoodIn lw_tbl vsX12_kind := gi_t 1164 rfl rfl (goodIn_app gi_nil (goodIn_app gv_RX12_107 gi_nil))
theorem g_X12_kind_X12_isTable : GoodIn vsX12_kind (wsV RX12 107 RX12 yX12_isTable vsX12_isTable) := fun w h => ⟨List.mem_cons_of_mem _ (List.mem_append_right _ (List.mem_append_left _ h)), (gv_RX12_107 w h).2⟩
set_option maxHeartbeats 4000000 in
set_option maxRecDepth 100000 in
theorem c_X12_kind (l : Launch) (dC : Nat → ClassId) (dI : Nat → Nat → Nat) (b : Nat → Nat) (c1 c2 c3 c4 : ClassId) (fk : Nat → Int32) (hF : ∀ j, j < 6 → fk j = -1) (p1 : Int32) (p2 : Int32) (p3 : Int32) : Met l yX12_kind vsX12_kind ({ frames := 2, cells := 0, slots := 0, locals := 43 }) (va_Pc [.ref (b 0), .int p1, .int p2, .int p3] (fun U => va_P (dC, dI) vwCl (wM b c1 c2 c3 c4 fk) U.heap ∧ va_K (dC, dI) vwCl (tM c1 c2 c3 c4) U)) (vp_Si (fun r => r = -2)) 0 0 (fun _ => False) := by
  refine Met.ofW (cc := cX12_kind) (maxL := 6) (ret := (some .int)) (by decide) rfl ?_
  intro p e s m args below meth c s₁ B hml hv
  obtain ⟨rfl, hP, hK⟩ := hv
  have hx := B.exec
  have hb := B.bytes
  have hr := B.returns
  have hts := atoms_spec (ws := vsX12_kind) B.pre
  have hown : s.vm.findClass RX12 = some m.cls := findClass_of_methodNamed B.named
  have hlocks := B.notSynchronized
  have hl := lv_entry ([.ref (b 0), .int p1, .int p2, .int p3]) (n := 6) (Nat.le_of_ble_eq_true rfl)
  rw [lg_entry_eq]
  generalize (lg_sl ([.ref (b 0), .int p1, .int p2, .int p3]) ++ List.replicate (6 - (lg_sl ([.ref (b 0), .int p1, .int p2, .int p3])).length) Slot.unset).toArray = ls at hl ⊢
  have hl : lv_has ls 6 [(0, .ref (b 0)), (1, .int p1), (2, .int p2), (3, .int p3)] := hl
  refine lv_aload_n hx hb dX12_kind_0 rfl (lv_at hl 0 rfl) ?_
  refine lv_iload_n hx hb dX12_kind_1 rfl (lv_at hl 1 rfl) ?_
  refine vp_callSi (va_Run.run (va_runV (As := [.int p1]) (rest := []) ⟨hx, hb, hml, hown, hts⟩ (c_X12_isTable l dC dI b c1 c2 c3 c4 fk hF p1) (cwV 1 hts g_X12_kind_X12_isTable rfl rfl rfl (by decide +kernel) ⟨Nat.le_of_ble_eq_true rfl, Nat.le_of_ble_eq_true rfl⟩) ⟨fun a U g mk q => by obtain ⟨q0, qP, qK⟩ := q; exact ⟨q0, qP, va_K.moved (u := U) (U := U.calling g mk a) (Vm.Alike.refl U.vm) qK⟩, va_recv hK hP (ci := 11) (q0 := 0) rfl rfl, fun U hU hW => ⟨rfl, by rw [hU]; exact hP, va_K.moved hW.alike hK⟩⟩ rfl rfl hl.1 rfl (lv_room (Nat.le_of_ble_eq_true rfl)) dX12_kind_2 ⟨Nat.zero_le _, Nat.zero_le _⟩)) (fun r_1 e_1 => ?_)
  subst e_1
  refine lv_if_eq (tgt := 17) hx hb dX12_kind_5 (by decide) (fun c_2 => ?_) (fun c_2 => ?_)
  · skip
    refine lv_bipush (v := (-2)) hx hb dX12_kind_17 (by decide) ?_
    exact W.iret (v := (-2)) hx hb hr (fun t ht hW => ⟨(-2), rfl, rfl, ht⟩) (fun q h => by cases h) dX12_kind_19
  · exact absurd c_2 (by decide +kernel)
def vsX12_card : List Cond := .code yX12_card cX12_card 3 (some .int) :: ([] ++ (wsV RX12 107 RX12 yX12_isTable vsX12_isTable ++ []))
set_option maxRecDepth 100000 in
theorem gl_X12_card : GoodIn lw_tbl vsX12_card := gi_t 1172 rfl rfl (goodIn_app gi_nil (goodIn_app gv_RX12_107 gi_nil))
theorem g_X12_card_X12_isTable : GoodIn vsX12_card (wsV RX12 107 RX12 yX12_isTable vsX12_isTable) := fun w h => ⟨List.mem_cons_of_mem _ (List.mem_append_right _ (List.mem_append_left _ h)), (gv_RX12_107 w h).2⟩
set_option maxHeartbeats 4000000 in
set_option maxRecDepth 100000 in
theorem c_X12_card (l : Launch) (dC : Nat → ClassId) (dI : Nat → Nat → Nat) (b : Nat → Nat) (c1 c2 c3 c4 : ClassId) (fk : Nat → Int32) (hF : ∀ j, j < 6 → fk j = -1) (p1 : Int32) (p2 : Int32) : Met l yX12_card vsX12_card ({ frames := 2, cells := 0, slots := 0, locals := 43 }) (va_Pc [.ref (b 0), .int p1, .int p2] (fun U => va_P (dC, dI) vwCl (wM b c1 c2 c3 c4 fk) U.heap ∧ va_K (dC, dI) vwCl (tM c1 c2 c3 c4) U)) (vp_Si (fun r => r = -2)) 0 0 (fun _ => False) := by
  refine Met.ofW (cc := cX12_card) (maxL := 3) (ret := (some .int)) (by decide) rfl ?_
  intro p e s m args below meth c s₁ B hml hv
  obtain ⟨rfl, hP, hK⟩ := hv
  have hx := B.exec
  have hb := B.bytes
  have hr := B.returns
  have hts := atoms_spec (ws := vsX12_card) B.pre
  have hown : s.vm.findClass RX12 = some m.cls := findClass_of_methodNamed B.named
  have hlocks := B.notSynchronized
  have hl := lv_entry ([.ref (b 0), .int p1, .int p2]) (n := 3) (Nat.le_of_ble_eq_true rfl)
  rw [lg_entry_eq]
  generalize (lg_sl ([.ref (b 0), .int p1, .int p2]) ++ List.replicate (3 - (lg_sl ([.ref (b 0), .int p1, .int p2])).length) Slot.unset).toArray = ls at hl ⊢
  have hl : lv_has ls 3 [(0, .ref (b 0)), (1, .int p1), (2, .int p2)] := hl
  refine lv_aload_n hx hb dX12_card_0 rfl (lv_at hl 0 rfl) ?_
  refine lv_iload_n hx hb dX12_card_1 rfl (lv_at hl 1 rfl) ?_
  refine vp_callSi (va_Run.run (va_runV (As := [.int p1]) (rest := []) ⟨hx, hb, hml, hown, hts⟩ (c_X12_isTable l dC dI b c1 c2 c3 c4 fk hF p1) (cwV 1 hts g_X12_card_X12_isTable rfl rfl rfl (by decide +kernel) ⟨Nat.le_of_ble_eq_true rfl, Nat.le_of_ble_eq_true rfl⟩) ⟨fun a U g mk q => by obtain ⟨q0, qP, qK⟩ := q; exact ⟨q0, qP, va_K.moved (u := U) (U := U.calling g mk a) (Vm.Alike.refl U.vm) qK⟩, va_recv hK hP (ci := 11) (q0 := 0) rfl rfl, fun U hU hW => ⟨rfl, by rw [hU]; exact hP, va_K.moved hW.alike hK⟩⟩ rfl rfl hl.1 rfl (lv_room (Nat.le_of_ble_eq_true rfl)) dX12_card_2 ⟨Nat.zero_le _, Nat.zero_le _⟩)) (fun r_1 e_1 => ?_)
  subst e_1
  refine lv_if_eq (tgt := 35) hx hb dX12_card_5 (by decide) (fun c_2 => ?_) (fun c_2 => ?_)
  · skip
    refine lv_bipush (v := (-2)) hx hb dX12_card_35 (by decide) ?_
    exact W.iret (v := (-2)) hx hb hr (fun t ht hW => ⟨(-2), rfl, rfl, ht⟩) (fun q h => by cases h) dX12_card_37
  · exact absurd c_2 (by decide +kernel)
def vsX12_match : List Cond := .code yX12_match cX12_match 6 (some .int) :: ([] ++ (wsV RX12 107 RX12 yX12_isTable vsX12_isTable ++ []))
set_option maxRecDepth 100000 in
theorem gl_X12_match : GoodIn lw_tbl vsX12_match := gi_t 1176 rfl rfl (goodIn_app gi_nil (goodIn_app gv_RX12_107 gi_nil))
theorem g_X12_match_X12_isTable : GoodIn vsX12_match (wsV RX12 107 RX12 yX12_isTable vsX12_isTable) := fun w h => ⟨List.mem_cons_of_mem _ (List.mem_append_right _ (List.mem_append_left _ h)), (gv_RX12_107 w h).2⟩
set_option maxHeartbeats 4000000 in
set_option maxRecDepth 100000 in
theorem c_X12_match (l : Launch) (dC : Nat → ClassId) (dI : Nat → Nat → Nat) (b : Nat → Nat) (c1 c2 c3 c4 : ClassId) (fk : Nat → Int32) (hF : ∀ j, j < 6 → fk j = -1) (p1 : Int32) (p2 : Int32) : Met l yX12_match vsX12_match ({ frames := 2, cells := 0, slots := 0, locals := 43 }) (va_Pc [.ref (b 0), .int p1, .int p2] (fun U => va_P (dC, dI) vwCl (wM b c1 c2 c3 c4 fk) U.heap ∧ va_K (dC, dI) vwCl (tM c1 c2 c3 c4) U)) (vp_Si (fun r => r = -2)) 0 0 (fun _ => False) := by
  refine Met.ofW (cc := cX12_match) (maxL := 6) (ret := (some .int)) (by decide) rfl ?_
  intro p e s m args below meth c s₁ B hml hv
  obtain ⟨rfl, hP, hK⟩ := hv
  have hx := B.exec
  have hb := B.bytes
  have hr := B.returns
  have hts := atoms_spec (ws := vsX12_match) B.pre
  have hown : s.vm.findClass RX12 = some m.cls := findClass_of_methodNamed B.named
  have hlocks := B.notSynchronized
  have hl := lv_entry ([.ref (b 0), .int p1, .int p2]) (n := 6) (Nat.le_of_ble_eq_true rfl)
  rw [lg_entry_eq]
  generalize (lg_sl ([.ref (b 0), .int p1, .int p2]) ++ List.replicate (6 - (lg_sl ([.ref (b 0), .int p1, .int p2])).length) Slot.unset).toArray = ls at hl ⊢
  have hl : lv_has ls 6 [(0, .ref (b 0)), (1, .int p1), (2, .int p2)] := hl
  refine lv_aload_n hx hb dX12_match_0 rfl (lv_at hl 0 rfl) ?_
  refine lv_iload_n hx hb dX12_match_1 rfl (lv_at hl 1 rfl) ?_
  refine vp_callSi (va_Run.run (va_runV (As := [.int p1]) (rest := []) ⟨hx, hb, hml, hown, hts⟩ (c_X12_isTable l dC dI b c1 c2 c3 c4 fk hF p1) (cwV 1 hts g_X12_match_X12_isTable rfl rfl rfl (by decide +kernel) ⟨Nat.le_of_ble_eq_true rfl, Nat.le_of_ble_eq_true rfl⟩) ⟨fun a U g mk q => by obtain ⟨q0, qP, qK⟩ := q; exact ⟨q0, qP, va_K.moved (u := U) (U := U.calling g mk a) (Vm.Alike.refl U.vm) qK⟩, va_recv hK hP (ci := 11) (q0 := 0) rfl rfl, fun U hU hW => ⟨rfl, by rw [hU]; exact hP, va_K.moved hW.alike hK⟩⟩ rfl rfl hl.1 rfl (lv_room (Nat.le_of_ble_eq_true rfl)) dX12_match_2 ⟨Nat.zero_le _, Nat.zero_le _⟩)) (fun r_1 e_1 => ?_)
  subst e_1
  refine lv_if_ne (tgt := 11) hx hb dX12_match_5 (by decide) (fun c_2 => ?_) (fun c_2 => ?_)
  · exact absurd c_2 (by decide +kernel)
  · skip
    refine lv_bipush (v := (-2)) hx hb dX12_match_8 (by decide) ?_
    exact W.iret (v := (-2)) hx hb hr (fun t ht hW => ⟨(-2), rfl, rfl, ht⟩) (fun q h => by cases h) dX12_match_10
def vsX12_deal : List Cond := .code yX12_deal cX12_deal 5 (some .int) :: ([] ++ (wsV RX12 107 RX12 yX12_isTable vsX12_isTable ++ []))
set_option maxRecDepth 100000 in
theorem gl_X12_deal : GoodIn lw_tbl vsX12_deal := gi_t 1180 rfl rfl (goodIn_app gi_nil (goodIn_app gv_RX12_107 gi_nil))
theorem g_X12_deal_X12_isTable : GoodIn vsX12_deal (wsV RX12 107 RX12 yX12_isTable vsX12_isTable) := fun w h => ⟨List.mem_cons_of_mem _ (List.mem_append_right _ (List.mem_append_left _ h)), (gv_RX12_107 w h).2⟩
set_option maxHeartbeats 4000000 in
set_option maxRecDepth 100000 in
theorem c_X12_deal (l : Launch) (dC : Nat → ClassId) (dI : Nat → Nat → Nat) (b : Nat → Nat) (c1 c2 c3 c4 : ClassId) (fk : Nat → Int32) (hF : ∀ j, j < 6 → fk j = -1) (p1 : Int32) (p2 : Int32) (p3 : Int32) : Met l yX12_deal vsX12_deal ({ frames := 2, cells := 0, slots := 0, locals := 43 }) (va_Pc [.ref (b 0), .int p1, .int p2, .int p3] (fun U => va_P (dC, dI) vwCl (wM b c1 c2 c3 c4 fk) U.heap ∧ va_K (dC, dI) vwCl (tM c1 c2 c3 c4) U)) (vp_Si (fun r => r = -2)) 0 0 (fun _ => False) := by
  refine Met.ofW (cc := cX12_deal) (maxL := 5) (ret := (some .int)) (by decide) rfl ?_
  intro p e s m args below meth c s₁ B hml hv
  obtain ⟨rfl, hP, hK⟩ := hv
  have hx := B.exec
  have hb := B.bytes
  have hr := B.returns
  have hts := atoms_spec (ws := vsX12_deal) B.pre
  have hown : s.vm.findClass RX12 = some m.cls := findClass_of_methodNamed B.named
  have hlocks := B.notSynchronized
  have hl := lv_entry ([.ref (b 0), .int p1, .int p2, .int p3]) (n := 5) (Nat.le_of_ble_eq_true rfl)
  rw [lg_entry_eq]
  generalize (lg_sl ([.ref (b 0), .int p1, .int p2, .int p3]) ++ List.replicate (5 - (lg_sl ([.ref (b 0), .int p1, .int p2, .int p3])).length) Slot.unset).toArray = ls at hl ⊢
  have hl : lv_has ls 5 [(0, .ref (b 0)), (1, .int p1), (2, .int p2), (3, .int p3)] := hl
  refine lv_aload_n hx hb dX12_deal_0 rfl (lv_at hl 0 rfl) ?_
  refine lv_iload_n hx hb dX12_deal_1 rfl (lv_at hl 1 rfl) ?_
  refine vp_callSi (va_Run.run (va_runV (As := [.int p1]) (rest := []) ⟨hx, hb, hml, hown, hts⟩ (c_X12_isTable l dC dI b c1 c2 c3 c4 fk hF p1) (cwV 1 hts g_X12_deal_X12_isTable rfl rfl rfl (by decide +kernel) ⟨Nat.le_of_ble_eq_true rfl, Nat.le_of_ble_eq_true rfl⟩) ⟨fun a U g mk q => by obtain ⟨q0, qP, qK⟩ := q; exact ⟨q0, qP, va_K.moved (u := U) (U := U.calling g mk a) (Vm.Alike.refl U.vm) qK⟩, va_recv hK hP (ci := 11) (q0 := 0) rfl rfl, fun U hU hW => ⟨rfl, by rw [hU]; exact hP, va_K.moved hW.alike hK⟩⟩ rfl rfl hl.1 rfl (lv_room (Nat.le_of_ble_eq_true rfl)) dX12_deal_2 ⟨Nat.zero_le _, Nat.zero_le _⟩)) (fun r_1 e_1 => ?_)
  subst e_1
  refine lv_if_ne (tgt := 11) hx hb dX12_deal_5 (by decide) (fun c_2 => ?_) (fun c_2 => ?_)
  · exact absurd c_2 (by decide +kernel)
  · skip
    refine lv_bipush (v := (-2)) hx hb dX12_deal_8 (by decide) ?_
    exact W.iret (v := (-2)) hx hb hr (fun t ht hW => ⟨(-2), rfl, rfl, ht⟩) (fun q h => by cases h) dX12_deal_10
def vsX12_give : List Cond := .code yX12_give cX12_give 6 (some .int) :: ([] ++ (wsV RX12 107 RX12 yX12_isTable vsX12_isTable ++ []))
set_option maxRecDepth 100000 in
theorem gl_X12_give : GoodIn lw_tbl vsX12_give := gi_t 1226 rfl rfl (goodIn_app gi_nil (goodIn_app gv_RX12_107 gi_nil))
theorem g_X12_give_X12_isTable : GoodIn vsX12_give (wsV RX12 107 RX12 yX12_isTable vsX12_isTable) := fun w h => ⟨List.mem_cons_of_mem _ (List.mem_append_right _ (List.mem_append_left _ h)), (gv_RX12_107 w h).2⟩
set_option maxHeartbeats 4000000 in
set_option maxRecDepth 100000 in
theorem c_X12_give (l : Launch) (dC : Nat → ClassId) (dI : Nat → Nat → Nat) (b : Nat → Nat) (c1 c2 c3 c4 : ClassId) (fk : Nat → Int32) (hF : ∀ j, j < 6 → fk j = -1) (p1 : Int32) (p2 : Int32) (p3 : Int32) : Met l yX12_give vsX12_give ({ frames := 2, cells := 0, slots := 0, locals := 43 }) (va_Pc [.ref (b 0), .int p1, .int p2, .int p3] (fun U => va_P (dC, dI) vwCl (wM b c1 c2 c3 c4 fk) U.heap ∧ va_K (dC, dI) vwCl (tM c1 c2 c3 c4) U)) (vp_Si (fun r => r = -2)) 0 0 (fun _ => False) := by
  refine Met.ofW (cc := cX12_give) (maxL := 6) (ret := (some .int)) (by decide) rfl ?_
  intro p e s m args below meth c s₁ B hml hv
  obtain ⟨rfl, hP, hK⟩ := hv
  have hx := B.exec
  have hb := B.bytes
  have hr := B.returns
  have hts := atoms_spec (ws := vsX12_give) B.pre
  have hown : s.vm.findClass RX12 = some m.cls := findClass_of_methodNamed B.named
  have hlocks := B.notSynchronized
  have hl := lv_entry ([.ref (b 0), .int p1, .int p2, .int p3]) (n := 6) (Nat.le_of_ble_eq_true rfl)
  rw [lg_entry_eq]
  generalize (lg_sl ([.ref (b 0), .int p1, .int p2, .int p3]) ++ List.replicate (6 - (lg_sl ([.ref (b 0), .int p1, .int p2, .int p3])).length) Slot.unset).toArray = ls at hl ⊢
  have hl : lv_has ls 6 [(0, .ref (b 0)), (1, .int p1), (2, .int p2), (3, .int p3)] := hl
  refine lv_aload_n hx hb dX12_give_0 rfl (lv_at hl 0 rfl) ?_
  refine lv_iload_n hx hb dX12_give_1 rfl (lv_at hl 1 rfl) ?_
  refine vp_callSi (va_Run.run (va_runV (As := [.int p1]) (rest := []) ⟨hx, hb, hml, hown, hts⟩ (c_X12_isTable l dC dI b c1 c2 c3 c4 fk hF p1) (cwV 1 hts g_X12_give_X12_isTable rfl rfl rfl (by decide +kernel) ⟨Nat.le_of_ble_eq_true rfl, Nat.le_of_ble_eq_true rfl⟩) ⟨fun a U g mk q => by obtain ⟨q0, qP, qK⟩ := q; exact ⟨q0, qP, va_K.moved (u := U) (U := U.calling g mk a) (Vm.Alike.refl U.vm) qK⟩, va_recv hK hP (ci := 11) (q0 := 0) rfl rfl, fun U hU hW => ⟨rfl, by rw [hU]; exact hP, va_K.moved hW.alike hK⟩⟩ rfl rfl hl.1 rfl (lv_room (Nat.le_of_ble_eq_true rfl)) dX12_give_2 ⟨Nat.zero_le _, Nat.zero_le _⟩)) (fun r_1 e_1 => ?_)
  subst e_1
  refine lv_if_eq (tgt := 24) hx hb dX12_give_5 (by decide) (fun c_2 => ?_) (fun c_2 => ?_)
  · skip
    refine lv_bipush (v := (-2)) hx hb dX12_give_24 (by decide) ?_
    exact W.iret (v := (-2)) hx hb hr (fun t ht hW => ⟨(-2), rfl, rfl, ht⟩) (fun q h => by cases h) dX12_give_26
  · exact absurd c_2 (by decide +kernel)
def vsX12_bid : List Cond := .code yX12_bid cX12_bid 6 (some .int) :: ([] ++ (wsV RX12 107 RX12 yX12_isTable vsX12_isTable ++ []))
set_option maxRecDepth 100000 in
theorem gl_X12_bid : GoodIn lw_tbl vsX12_bid := gi_t 1242 rfl rfl (goodIn_app gi_nil (goodIn_app gv_RX12_107 gi_nil))
theorem g_X12_bid_X12_isTable : GoodIn vsX12_bid (wsV RX12 107 RX12 yX12_isTable vsX12_isTable) := fun w h => ⟨List.mem_cons_of_mem _ (List.mem_append_right _ (List.mem_append_left _ h)), (gv_RX12_107 w h).2⟩
set_option maxHeartbeats 4000000 in
set_option maxRecDepth 100000 in
theorem c_X12_bid (l : Launch) (dC : Nat → ClassId) (dI : Nat → Nat → Nat) (b : Nat → Nat) (c1 c2 c3 c4 : ClassId) (fk : Nat → Int32) (hF : ∀ j, j < 6 → fk j = -1) (p1 : Int32) (p2 : Int32) (p3 : Int32) (p4 : Int32) : Met l yX12_bid vsX12_bid ({ frames := 2, cells := 0, slots := 0, locals := 43 }) (va_Pc [.ref (b 0), .int p1, .int p2, .int p3, .int p4] (fun U => va_P (dC, dI) vwCl (wM b c1 c2 c3 c4 fk) U.heap ∧ va_K (dC, dI) vwCl (tM c1 c2 c3 c4) U)) (vp_Si (fun r => r = -2)) 0 0 (fun _ => False) := by
  refine Met.ofW (cc := cX12_bid) (maxL := 6) (ret := (some .int)) (by decide) rfl ?_
  intro p e s m args below meth c s₁ B hml hv
  obtain ⟨rfl, hP, hK⟩ := hv
  have hx := B.exec
  have hb := B.bytes
  have hr := B.returns
  have hts := atoms_spec (ws := vsX12_bid) B.pre
  have hown : s.vm.findClass RX12 = some m.cls := findClass_of_methodNamed B.named
  have hlocks := B.notSynchronized
  have hl := lv_entry ([.ref (b 0), .int p1, .int p2, .int p3, .int p4]) (n := 6) (Nat.le_of_ble_eq_true rfl)
  rw [lg_entry_eq]
  generalize (lg_sl ([.ref (b 0), .int p1, .int p2, .int p3, .int p4]) ++ List.replicate (6 - (lg_sl ([.ref (b 0), .int p1, .int p2, .int p3, .int p4])).length) Slot.unset).toArray = ls at hl ⊢
  have hl : lv_has ls 6 [(0, .ref (b 0)), (1, .int p1), (2, .int p2), (3, .int p3), (4, .int p4)] := hl
  refine lv_aload_n hx hb dX12_bid_0 rfl (lv_at hl 0 rfl) ?_
  refine lv_iload_n hx hb dX12_bid_1 rfl (lv_at hl 1 rfl) ?_
  refine vp_callSi (va_Run.run (va_runV (As := [.int p1]) (rest := []) ⟨hx, hb, hml, hown, hts⟩ (c_X12_isTable l dC dI b c1 c2 c3 c4 fk hF p1) (cwV 1 hts g_X12_bid_X12_isTable rfl rfl rfl (by decide +kernel) ⟨Nat.le_of_ble_eq_true rfl, Nat.le_of_ble_eq_true rfl⟩) ⟨fun a U g mk q => by obtain ⟨q0, qP, qK⟩ := q; exact ⟨q0, qP, va_K.moved (u := U) (U := U.calling g mk a) (Vm.Alike.refl U.vm) qK⟩, va_recv hK hP (ci := 11) (q0 := 0) rfl rfl, fun U hU hW => ⟨rfl, by rw [hU]; exact hP, va_K.moved hW.alike hK⟩⟩ rfl rfl hl.1 rfl (lv_room (Nat.le_of_ble_eq_true rfl)) dX12_bid_2 ⟨Nat.zero_le _, Nat.zero_le _⟩)) (fun r_1 e_1 => ?_)
  subst e_1
  refine lv_if_eq (tgt := 15) hx hb dX12_bid_5 (by decide) (fun c_2 => ?_) (fun c_2 => ?_)
  · skip
    refine lv_bipush (v := (-2)) hx hb dX12_bid_15 (by decide) ?_
    exact W.iret (v := (-2)) hx hb hr (fun t ht hW => ⟨(-2), rfl, rfl, ht⟩) (fun q h => by cases h) dX12_bid_17
  · exact absurd c_2 (by decide +kernel)
def vsX12_doubled : List Cond := .code yX12_doubled cX12_doubled 4 (some .int) :: ([] ++ (wsV RX12 107 RX12 yX12_isTable vsX12_isTable ++ []))
set_option maxRecDepth 100000 in
theorem gl_X12_doubled : GoodIn lw_tbl vsX12_doubled := gi_t 1254 rfl rfl (goodIn_app gi_nil (goodIn_app gv_RX12_107 gi_nil))
theorem g_X12_doubled_X12_isTable : GoodIn vsX12_doubled (wsV RX12 107 RX12 yX12_isTable vsX12_isTable) := fun w h => ⟨List.mem_cons_of_mem _ (List.mem_append_right _ (List.mem_append_left _ h)), (gv_RX12_107 w h).2⟩
set_option maxHeartbeats 4000000 in
set_option maxRecDepth 100000 in
theorem c_X12_doubled (l : Launch) (dC : Nat → ClassId) (dI : Nat → Nat → Nat) (b : Nat → Nat) (c1 c2 c3 c4 : ClassId) (fk : Nat → Int32) (hF : ∀ j, j < 6 → fk j = -1) (p1 : Int32) (p2 : Int32) : Met l yX12_doubled vsX12_doubled ({ frames := 2, cells := 0, slots := 0, locals := 43 }) (va_Pc [.ref (b 0), .int p1, .int p2] (fun U => va_P (dC, dI) vwCl (wM b c1 c2 c3 c4 fk) U.heap ∧ va_K (dC, dI) vwCl (tM c1 c2 c3 c4) U)) (vp_Si (fun r => r = -2)) 0 0 (fun _ => False) := by
  refine Met.ofW (cc := cX12_doubled) (maxL := 4) (ret := (some .int)) (by decide) rfl ?_
  intro p e s m args below meth c s₁ B hml hv
  obtain ⟨rfl, hP, hK⟩ := hv
  have hx := B.exec
  have hb := B.bytes
  have hr := B.returns
  have hts := atoms_spec (ws := vsX12_doubled) B.pre
  have hown : s.vm.findClass RX12 = some m.cls := findClass_of_methodNamed B.named
  have hlocks := B.notSynchronized
  have hl := lv_entry ([.ref (b 0), .int p1, .int p2]) (n := 4) (Nat.le_of_ble_eq_true rfl)
  rw [lg_entry_eq]
  generalize (lg_sl ([.ref (b 0), .int p1, .int p2]) ++ List.replicate (4 - (lg_sl ([.ref (b 0), .int p1, .int p2])).length) Slot.unset).toArray = ls at hl ⊢
  have hl : lv_has ls 4 [(0, .ref (b 0)), (1, .int p1), (2, .int p2)] := hl
  refine lv_aload_n hx hb dX12_doubled_0 rfl (lv_at hl 0 rfl) ?_
  refine lv_iload_n hx hb dX12_doubled_1 rfl (lv_at hl 1 rfl) ?_
  refine vp_callSi (va_Run.run (va_runV (As := [.int p1]) (rest := []) ⟨hx, hb, hml, hown, hts⟩ (c_X12_isTable l dC dI b c1 c2 c3 c4 fk hF p1) (cwV 1 hts g_X12_doubled_X12_isTable rfl rfl rfl (by decide +kernel) ⟨Nat.le_of_ble_eq_true rfl, Nat.le_of_ble_eq_true rfl⟩) ⟨fun a U g mk q => by obtain ⟨q0, qP, qK⟩ := q; exact ⟨q0, qP, va_K.moved (u := U) (U := U.calling g mk a) (Vm.Alike.refl U.vm) qK⟩, va_recv hK hP (ci := 11) (q0 := 0) rfl rfl, fun U hU hW => ⟨rfl, by rw [hU]; exact hP, va_K.moved hW.alike hK⟩⟩ rfl rfl hl.1 rfl (lv_room (Nat.le_of_ble_eq_true rfl)) dX12_doubled_2 ⟨Nat.zero_le _, Nat.zero_le _⟩)) (fun r_1 e_1 => ?_)
  subst e_1
  refine lv_if_eq (tgt := 15) hx hb dX12_doubled_5 (by decide) (fun c_2 => ?_) (fun c_2 => ?_)
  · skip
    refine lv_bipush (v := (-2)) hx hb dX12_doubled_15 (by decide) ?_
    exact W.iret (v := (-2)) hx hb hr (fun t ht hW => ⟨(-2), rfl, rfl, ht⟩) (fun q h => by cases h) dX12_doubled_17
  · exact absurd c_2 (by decide +kernel)
set_option maxRecDepth 100000 in
theorem gv_RX12_241 : GoodIn lw_tbl (wsV RX12 241 RX12 yX12_play vsX12_play) := (gi_t 1263 (by decide +kernel) rfl (gi_t 1265 (by decide +kernel) rfl (gi_s 46 (by decide +kernel) rfl (gi_t 8 (by decide +kernel) rfl gl_X12_play))))
def vsX12_lay : List Cond := .code yX12_lay cX12_lay 4 (some .int) :: ([] ++ (wsV RX12 241 RX12 yX12_play vsX12_play ++ []))
set_option maxRecDepth 100000 in
theorem gl_X12_lay : GoodIn lw_tbl vsX12_lay := gi_t 1262 rfl rfl (goodIn_app gi_nil (goodIn_app gv_RX12_241 gi_nil))
theorem g_X12_lay_X12_play : GoodIn vsX12_lay (wsV RX12 241 RX12 yX12_play vsX12_play) := fun w h => ⟨List.mem_cons_of_mem _ (List.mem_append_right _ (List.mem_append_left _ h)), (gv_RX12_241 w h).2⟩
set_option maxHeartbeats 4000000 in
set_option maxRecDepth 100000 in
theorem c_X12_lay (l : Launch) (dC : Nat → ClassId) (dI : Nat → Nat → Nat) (b : Nat → Nat) (c1 c2 c3 c4 : ClassId) (fk : Nat → Int32) (hF : ∀ j, j < 6 → fk j = -1) (p1 : Int32) (p2 : Int32) (p3 : Int32) : Met l yX12_lay vsX12_lay ({ frames := 3, cells := 0, slots := 0, locals := 70 }) (va_Pc [.ref (b 0), .int p1, .int p2, .int p3] (fun U => va_P (dC, dI) vwCl (wM b c1 c2 c3 c4 fk) U.heap ∧ va_K (dC, dI) vwCl (tM c1 c2 c3 c4) U)) (vp_Si (fun r => r = -2)) 0 0 (fun _ => False) := by
  refine Met.ofW (cc := cX12_lay) (maxL := 4) (ret := (some .int)) (by decide) rfl ?_
  intro p e s m args below meth c s₁ B hml hv
  obtain ⟨rfl, hP, hK⟩ := hv
  have hx := B.exec
  have hb := B.bytes
  have hr := B.returns
  have hts := atoms_spec (ws := vsX12_lay) B.pre
  have hown : s.vm.findClass RX12 = some m.cls := findClass_of_methodNamed B.named
  have hlocks := B.notSynchronized
  have hl := lv_entry ([.ref (b 0), .int p1, .int p2, .int p3]) (n := 4) (Nat.le_of_ble_eq_true rfl)
  rw [lg_entry_eq]
  generalize (lg_sl ([.ref (b 0), .int p1, .int p2, .int p3]) ++ List.replicate (4 - (lg_sl ([.ref (b 0), .int p1, .int p2, .int p3])).length) Slot.unset).toArray = ls at hl ⊢
  have hl : lv_has ls 4 [(0, .ref (b 0)), (1, .int p1), (2, .int p2), (3, .int p3)] := hl
  refine lv_aload_n hx hb dX12_lay_0 rfl (lv_at hl 0 rfl) ?_
  refine lv_iload_n hx hb dX12_lay_1 rfl (lv_at hl 1 rfl) ?_
  refine lv_iload_n hx hb dX12_lay_2 rfl (lv_at hl 2 rfl) ?_
  refine lv_iload_n hx hb dX12_lay_3 rfl (lv_at hl 3 rfl) ?_
  refine lv_iconst (v := 0) hx hb dX12_lay_4 (by decide) ?_
  refine vp_callSi (va_Run.run (va_runV (As := [.int p1, .int p2, .int p3, .int 0]) (rest := []) ⟨hx, hb, hml, hown, hts⟩ (c_X12_play l dC dI b c1 c2 c3 c4 fk hF p1 p2 p3 0) (cwV 4 hts g_X12_lay_X12_play rfl rfl rfl (by decide +kernel) ⟨Nat.le_of_ble_eq_true rfl, Nat.le_of_ble_eq_true rfl⟩) ⟨fun a U g mk q => by obtain ⟨q0, qP, qK⟩ := q; exact ⟨q0, qP, va_K.moved (u := U) (U := U.calling g mk a) (Vm.Alike.refl U.vm) qK⟩, va_recv hK hP (ci := 11) (q0 := 0) rfl rfl, fun U hU hW => ⟨rfl, by rw [hU]; exact hP, va_K.moved hW.alike hK⟩⟩ rfl rfl hl.1 rfl (lv_room (Nat.le_of_ble_eq_true rfl)) dX12_lay_5 ⟨Nat.zero_le _, Nat.zero_le _⟩)) (fun r_1 e_1 => ?_)
  subst e_1
  exact W.iret (v := (-2)) hx hb hr (fun t ht hW => ⟨(-2), rfl, rfl, ht⟩) (fun q h => by cases h) dX12_lay_8
def vsX12_revoke : List Cond := .code yX12_revoke cX12_revoke 4 (some .int) :: ([] ++ (wsV RX12 241 RX12 yX12_play vsX12_play ++ []))
set_option maxRecDepth 100000 in
theorem gl_X12_revoke : GoodIn lw_tbl vsX12_revoke := gi_t 1346 rfl rfl (goodIn_app gi_nil (goodIn_app gv_RX12_241 gi_nil))
theorem g_X12_revoke_X12_play : GoodIn vsX12_revoke (wsV RX12 241 RX12 yX12_play vsX12_play) := fun w h => ⟨List.mem_cons_of_mem _ (List.mem_append_right _ (List.mem_append_left _ h)), (gv_RX12_241 w h).2⟩
set_option maxHeartbeats 4000000 in
set_option maxRecDepth 100000 in
theorem c_X12_revoke (l : Launch) (dC : Nat → ClassId) (dI : Nat → Nat → Nat) (b : Nat → Nat) (c1 c2 c3 c4 : ClassId) (fk : Nat → Int32) (hF : ∀ j, j < 6 → fk j = -1) (p1 : Int32) (p2 : Int32) (p3 : Int32) : Met l yX12_revoke vsX12_revoke ({ frames := 3, cells := 0, slots := 0, locals := 70 }) (va_Pc [.ref (b 0), .int p1, .int p2, .int p3] (fun U => va_P (dC, dI) vwCl (wM b c1 c2 c3 c4 fk) U.heap ∧ va_K (dC, dI) vwCl (tM c1 c2 c3 c4) U)) (vp_Si (fun r => r = -2)) 0 0 (fun _ => False) := by
  refine Met.ofW (cc := cX12_revoke) (maxL := 4) (ret := (some .int)) (by decide) rfl ?_
  intro p e s m args below meth c s₁ B hml hv
  obtain ⟨rfl, hP, hK⟩ := hv
  have hx := B.exec
  have hb := B.bytes
  have hr := B.returns
  have hts := atoms_spec (ws := vsX12_revoke) B.pre
  have hown : s.vm.findClass RX12 = some m.cls := findClass_of_methodNamed B.named
  have hlocks := B.notSynchronized
  have hl := lv_entry ([.ref (b 0), .int p1, .int p2, .int p3]) (n := 4) (Nat.le_of_ble_eq_true rfl)
  rw [lg_entry_eq]
  generalize (lg_sl ([.ref (b 0), .int p1, .int p2, .int p3]) ++ List.replicate (4 - (lg_sl ([.ref (b 0), .int p1, .int p2, .int p3])).length) Slot.unset).toArray = ls at hl ⊢
  have hl : lv_has ls 4 [(0, .ref (b 0)), (1, .int p1), (2, .int p2), (3, .int p3)] := hl
  refine lv_aload_n hx hb dX12_revoke_0 rfl (lv_at hl 0 rfl) ?_
  refine lv_iload_n hx hb dX12_revoke_1 rfl (lv_at hl 1 rfl) ?_
  refine lv_iload_n hx hb dX12_revoke_2 rfl (lv_at hl 2 rfl) ?_
  refine lv_iload_n hx hb dX12_revoke_3 rfl (lv_at hl 3 rfl) ?_
  refine lv_iconst (v := 1) hx hb dX12_revoke_4 (by decide) ?_
  refine vp_callSi (va_Run.run (va_runV (As := [.int p1, .int p2, .int p3, .int 1]) (rest := []) ⟨hx, hb, hml, hown, hts⟩ (c_X12_play l dC dI b c1 c2 c3 c4 fk hF p1 p2 p3 1) (cwV 4 hts g_X12_revoke_X12_play rfl rfl rfl (by decide +kernel) ⟨Nat.le_of_ble_eq_true rfl, Nat.le_of_ble_eq_true rfl⟩) ⟨fun a U g mk q => by obtain ⟨q0, qP, qK⟩ := q; exact ⟨q0, qP, va_K.moved (u := U) (U := U.calling g mk a) (Vm.Alike.refl U.vm) qK⟩, va_recv hK hP (ci := 11) (q0 := 0) rfl rfl, fun U hU hW => ⟨rfl, by rw [hU]; exact hP, va_K.moved hW.alike hK⟩⟩ rfl rfl hl.1 rfl (lv_room (Nat.le_of_ble_eq_true rfl)) dX12_revoke_5 ⟨Nat.zero_le _, Nat.zero_le _⟩)) (fun r_1 e_1 => ?_)
  subst e_1
  exact W.iret (v := (-2)) hx hb hr (fun t ht hW => ⟨(-2), rfl, rfl, ht⟩) (fun q h => by cases h) dX12_revoke_8
def vsX12_allowed : List Cond := .code yX12_allowed cX12_allowed 6 (some .int) :: ([] ++ (wsV RX12 107 RX12 yX12_isTable vsX12_isTable ++ []))
set_option maxRecDepth 100000 in
theorem gl_X12_allowed : GoodIn lw_tbl vsX12_allowed := gi_t 1350 rfl rfl (goodIn_app gi_nil (goodIn_app gv_RX12_107 gi_nil))
theorem g_X12_allowed_X12_isTable : GoodIn vsX12_allowed (wsV RX12 107 RX12 yX12_isTable vsX12_isTable) := fun w h => ⟨List.mem_cons_of_mem _ (List.mem_append_right _ (List.mem_append_left _ h)), (gv_RX12_107 w h).2⟩
set_option maxHeartbeats 4000000 in
set_option maxRecDepth 100000 in
theorem c_X12_allowed (l : Launch) (dC : Nat → ClassId) (dI : Nat → Nat → Nat) (b : Nat → Nat) (c1 c2 c3 c4 : ClassId) (fk : Nat → Int32) (hF : ∀ j, j < 6 → fk j = -1) (p1 : Int32) (p2 : Int32) (p3 : Int32) : Met l yX12_allowed vsX12_allowed ({ frames := 2, cells := 0, slots := 0, locals := 43 }) (va_Pc [.ref (b 0), .int p1, .int p2, .int p3] (fun U => va_P (dC, dI) vwCl (wM b c1 c2 c3 c4 fk) U.heap ∧ va_K (dC, dI) vwCl (tM c1 c2 c3 c4) U)) (vp_Si (fun r => r = -2)) 0 0 (fun _ => False) := by
  refine Met.ofW (cc := cX12_allowed) (maxL := 6) (ret := (some .int)) (by decide) rfl ?_
  intro p e s m args below meth c s₁ B hml hv
  obtain ⟨rfl, hP, hK⟩ := hv
  have hx := B.exec
  have hb := B.bytes
  have hr := B.returns
  have hts := atoms_spec (ws := vsX12_allowed) B.pre
  have hown : s.vm.findClass RX12 = some m.cls := findClass_of_methodNamed B.named
  have hlocks := B.notSynchronized
  have hl := lv_entry ([.ref (b 0), .int p1, .int p2, .int p3]) (n := 6) (Nat.le_of_ble_eq_true rfl)
  rw [lg_entry_eq]
  generalize (lg_sl ([.ref (b 0), .int p1, .int p2, .int p3]) ++ List.replicate (6 - (lg_sl ([.ref (b 0), .int p1, .int p2, .int p3])).length) Slot.unset).toArray = ls at hl ⊢
  have hl : lv_has ls 6 [(0, .ref (b 0)), (1, .int p1), (2, .int p2), (3, .int p3)] := hl
  refine lv_aload_n hx hb dX12_allowed_0 rfl (lv_at hl 0 rfl) ?_
  refine lv_iload_n hx hb dX12_allowed_1 rfl (lv_at hl 1 rfl) ?_
  refine vp_callSi (va_Run.run (va_runV (As := [.int p1]) (rest := []) ⟨hx, hb, hml, hown, hts⟩ (c_X12_isTable l dC dI b c1 c2 c3 c4 fk hF p1) (cwV 1 hts g_X12_allowed_X12_isTable rfl rfl rfl (by decide +kernel) ⟨Nat.le_of_ble_eq_true rfl, Nat.le_of_ble_eq_true rfl⟩) ⟨fun a U g mk q => by obtain ⟨q0, qP, qK⟩ := q; exact ⟨q0, qP, va_K.moved (u := U) (U := U.calling g mk a) (Vm.Alike.refl U.vm) qK⟩, va_recv hK hP (ci := 11) (q0 := 0) rfl rfl, fun U hU hW => ⟨rfl, by rw [hU]; exact hP, va_K.moved hW.alike hK⟩⟩ rfl rfl hl.1 rfl (lv_room (Nat.le_of_ble_eq_true rfl)) dX12_allowed_2 ⟨Nat.zero_le _, Nat.zero_le _⟩)) (fun r_1 e_1 => ?_)
  subst e_1
  refine lv_if_eq (tgt := 15) hx hb dX12_allowed_5 (by decide) (fun c_2 => ?_) (fun c_2 => ?_)
  · skip
    refine lv_bipush (v := (-2)) hx hb dX12_allowed_15 (by decide) ?_
    exact W.iret (v := (-2)) hx hb hr (fun t ht hW => ⟨(-2), rfl, rfl, ht⟩) (fun q h => by cases h) dX12_allowed_17
  · exact absurd c_2 (by decide +kernel)
def vsX12_turn : List Cond := .code yX12_turn cX12_turn 2 (some .int) :: ([] ++ (wsV RX12 107 RX12 yX12_isTable vsX12_isTable ++ []))
set_option maxRecDepth 100000 in
theorem gl_X12_turn : GoodIn lw_tbl vsX12_turn := gi_t 1354 rfl rfl (goodIn_app gi_nil (goodIn_app gv_RX12_107 gi_nil))
theorem g_X12_turn_X12_isTable : GoodIn vsX12_turn (wsV RX12 107 RX12 yX12_isTable vsX12_isTable) := fun w h => ⟨List.mem_cons_of_mem _ (List.mem_append_right _ (List.mem_append_left _ h)), (gv_RX12_107 w h).2⟩
set_option maxHeartbeats 4000000 in
set_option maxRecDepth 100000 in
theorem c_X12_turn (l : Launch) (dC : Nat → ClassId) (dI : Nat → Nat → Nat) (b : Nat → Nat) (c1 c2 c3 c4 : ClassId) (fk : Nat → Int32) (hF : ∀ j, j < 6 → fk j = -1) (p1 : Int32) : Met l yX12_turn vsX12_turn ({ frames := 2, cells := 0, slots := 0, locals := 43 }) (va_Pc [.ref (b 0), .int p1] (fun U => va_P (dC, dI) vwCl (wM b c1 c2 c3 c4 fk) U.heap ∧ va_K (dC, dI) vwCl (tM c1 c2 c3 c4) U)) (vp_Si (fun r => r = -2)) 0 0 (fun _ => False) := by
  refine Met.ofW (cc := cX12_turn) (maxL := 2) (ret := (some .int)) (by decide) rfl ?_
  intro p e s m args below meth c s₁ B hml hv
  obtain ⟨rfl, hP, hK⟩ := hv
  have hx := B.exec
  have hb := B.bytes
  have hr := B.returns
  have hts := atoms_spec (ws := vsX12_turn) B.pre
  have hown : s.vm.findClass RX12 = some m.cls := findClass_of_methodNamed B.named
  have hlocks := B.notSynchronized
  have hl := lv_entry ([.ref (b 0), .int p1]) (n := 2) (Nat.le_of_ble_eq_true rfl)
  rw [lg_entry_eq]
  generalize (lg_sl ([.ref (b 0), .int p1]) ++ List.replicate (2 - (lg_sl ([.ref (b 0), .int p1])).length) Slot.unset).toArray = ls at hl ⊢
  have hl : lv_has ls 2 [(0, .ref (b 0)), (1, .int p1)] := hl
  refine lv_aload_n hx hb dX12_turn_0 rfl (lv_at hl 0 rfl) ?_
  refine lv_iload_n hx hb dX12_turn_1 rfl (lv_at hl 1 rfl) ?_
  refine vp_callSi (va_Run.run (va_runV (As := [.int p1]) (rest := []) ⟨hx, hb, hml, hown, hts⟩ (c_X12_isTable l dC dI b c1 c2 c3 c4 fk hF p1) (cwV 1 hts g_X12_turn_X12_isTable rfl rfl rfl (by decide +kernel) ⟨Nat.le_of_ble_eq_true rfl, Nat.le_of_ble_eq_true rfl⟩) ⟨fun a U g mk q => by obtain ⟨q0, qP, qK⟩ := q; exact ⟨q0, qP, va_K.moved (u := U) (U := U.calling g mk a) (Vm.Alike.refl U.vm) qK⟩, va_recv hK hP (ci := 11) (q0 := 0) rfl rfl, fun U hU hW => ⟨rfl, by rw [hU]; exact hP, va_K.moved hW.alike hK⟩⟩ rfl rfl hl.1 rfl (lv_room (Nat.le_of_ble_eq_true rfl)) dX12_turn_2 ⟨Nat.zero_le _, Nat.zero_le _⟩)) (fun r_1 e_1 => ?_)
  subst e_1
  refine lv_if_eq (tgt := 24) hx hb dX12_turn_5 (by decide) (fun c_2 => ?_) (fun c_2 => ?_)
  · skip
    refine lv_bipush (v := (-2)) hx hb dX12_turn_24 (by decide) ?_
    exact W.iret (v := (-2)) hx hb hr (fun t ht hW => ⟨(-2), rfl, rfl, ht⟩) (fun q h => by cases h) dX12_turn_26
  · exact absurd c_2 (by decide +kernel)
def vsX12_trick : List Cond := .code yX12_trick cX12_trick 3 (some .int) :: ([] ++ (wsV RX12 107 RX12 yX12_isTable vsX12_isTable ++ []))
set_option maxRecDepth 100000 in
theorem gl_X12_trick : GoodIn lw_tbl vsX12_trick := gi_t 1358 rfl rfl (goodIn_app gi_nil (goodIn_app gv_RX12_107 gi_nil))
theorem g_X12_trick_X12_isTable : GoodIn vsX12_trick (wsV RX12 107 RX12 yX12_isTable vsX12_isTable) := fun w h => ⟨List.mem_cons_of_mem _ (List.mem_append_right _ (List.mem_append_left _ h)), (gv_RX12_107 w h).2⟩
set_option maxHeartbeats 4000000 in
set_option maxRecDepth 100000 in
theorem c_X12_trick (l : Launch) (dC : Nat → ClassId) (dI : Nat → Nat → Nat) (b : Nat → Nat) (c1 c2 c3 c4 : ClassId) (fk : Nat → Int32) (hF : ∀ j, j < 6 → fk j = -1) (p1 : Int32) (p2 : Int32) : Met l yX12_trick vsX12_trick ({ frames := 2, cells := 0, slots := 0, locals := 43 }) (va_Pc [.ref (b 0), .int p1, .int p2] (fun U => va_P (dC, dI) vwCl (wM b c1 c2 c3 c4 fk) U.heap ∧ va_K (dC, dI) vwCl (tM c1 c2 c3 c4) U)) (vp_Si (fun r => r = -2)) 0 0 (fun _ => False) := by
  refine Met.ofW (cc := cX12_trick) (maxL := 3) (ret := (some .int)) (by decide) rfl ?_
  intro p e s m args below meth c s₁ B hml hv
  obtain ⟨rfl, hP, hK⟩ := hv
  have hx := B.exec
  have hb := B.bytes
  have hr := B.returns
  have hts := atoms_spec (ws := vsX12_trick) B.pre
  have hown : s.vm.findClass RX12 = some m.cls := findClass_of_methodNamed B.named
  have hlocks := B.notSynchronized
  have hl := lv_entry ([.ref (b 0), .int p1, .int p2]) (n := 3) (Nat.le_of_ble_eq_true rfl)
  rw [lg_entry_eq]
  generalize (lg_sl ([.ref (b 0), .int p1, .int p2]) ++ List.replicate (3 - (lg_sl ([.ref (b 0), .int p1, .int p2])).length) Slot.unset).toArray = ls at hl ⊢
  have hl : lv_has ls 3 [(0, .ref (b 0)), (1, .int p1), (2, .int p2)] := hl
  refine lv_aload_n hx hb dX12_trick_0 rfl (lv_at hl 0 rfl) ?_
  refine lv_iload_n hx hb dX12_trick_1 rfl (lv_at hl 1 rfl) ?_
  refine vp_callSi (va_Run.run (va_runV (As := [.int p1]) (rest := []) ⟨hx, hb, hml, hown, hts⟩ (c_X12_isTable l dC dI b c1 c2 c3 c4 fk hF p1) (cwV 1 hts g_X12_trick_X12_isTable rfl rfl rfl (by decide +kernel) ⟨Nat.le_of_ble_eq_true rfl, Nat.le_of_ble_eq_true rfl⟩) ⟨fun a U g mk q => by obtain ⟨q0, qP, qK⟩ := q; exact ⟨q0, qP, va_K.moved (u := U) (U := U.calling g mk a) (Vm.Alike.refl U.vm) qK⟩, va_recv hK hP (ci := 11) (q0 := 0) rfl rfl, fun U hU hW => ⟨rfl, by rw [hU]; exact hP, va_K.moved hW.alike hK⟩⟩ rfl rfl hl.1 rfl (lv_room (Nat.le_of_ble_eq_true rfl)) dX12_trick_2 ⟨Nat.zero_le _, Nat.zero_le _⟩)) (fun r_1 e_1 => ?_)
  subst e_1
  refine lv_if_ne (tgt := 11) hx hb dX12_trick_5 (by decide) (fun c_2 => ?_) (fun c_2 => ?_)
  · exact absurd c_2 (by decide +kernel)
  · skip
    refine lv_bipush (v := (-2)) hx hb dX12_trick_8 (by decide) ?_
    exact W.iret (v := (-2)) hx hb hr (fun t ht hW => ⟨(-2), rfl, rfl, ht⟩) (fun q h => by cases h) dX12_trick_10
def vsX12_hand : List Cond := .code yX12_hand cX12_hand 5 (some .int) :: ([] ++ (wsV RX12 107 RX12 yX12_isTable vsX12_isTable ++ []))
set_option maxRecDepth 100000 in
theorem gl_X12_hand : GoodIn lw_tbl vsX12_hand := gi_t 1362 rfl rfl (goodIn_app gi_nil (goodIn_app gv_RX12_107 gi_nil))
theorem g_X12_hand_X12_isTable : GoodIn vsX12_hand (wsV RX12 107 RX12 yX12_isTable vsX12_isTable) := fun w h => ⟨List.mem_cons_of_mem _ (List.mem_append_right _ (List.mem_append_left _ h)), (gv_RX12_107 w h).2⟩
set_option maxHeartbeats 4000000 in
set_option maxRecDepth 100000 in
theorem c_X12_hand (l : Launch) (dC : Nat → ClassId) (dI : Nat → Nat → Nat) (b : Nat → Nat) (c1 c2 c3 c4 : ClassId) (fk : Nat → Int32) (hF : ∀ j, j < 6 → fk j = -1) (p1 : Int32) (p2 : Int32) (p3 : Int32) : Met l yX12_hand vsX12_hand ({ frames := 2, cells := 0, slots := 0, locals := 43 }) (va_Pc [.ref (b 0), .int p1, .int p2, .int p3] (fun U => va_P (dC, dI) vwCl (wM b c1 c2 c3 c4 fk) U.heap ∧ va_K (dC, dI) vwCl (tM c1 c2 c3 c4) U)) (vp_Si (fun r => r = -2)) 0 0 (fun _ => False) := by
  refine Met.ofW (cc := cX12_hand) (maxL := 5) (ret := (some .int)) (by decide) rfl ?_
  intro p e s m args below meth c s₁ B hml hv
  obtain ⟨rfl, hP, hK⟩ := hv
  have hx := B.exec
  have hb := B.bytes
  have hr := B.returns
  have hts := atoms_spec (ws := vsX12_hand) B.pre
  have hown : s.vm.findClass RX12 = some m.cls := findClass_of_methodNamed B.named
  have hlocks := B.notSynchronized
  have hl := lv_entry ([.ref (b 0), .int p1, .int p2, .int p3]) (n := 5) (Nat.le_of_ble_eq_true rfl)
  rw [lg_entry_eq]
  generalize (lg_sl ([.ref (b 0), .int p1, .int p2, .int p3]) ++ List.replicate (5 - (lg_sl ([.ref (b 0), .int p1, .int p2, .int p3])).length) Slot.unset).toArray = ls at hl ⊢
  have hl : lv_has ls 5 [(0, .ref (b 0)), (1, .int p1), (2, .int p2), (3, .int p3)] := hl
  refine lv_aload_n hx hb dX12_hand_0 rfl (lv_at hl 0 rfl) ?_
  refine lv_iload_n hx hb dX12_hand_1 rfl (lv_at hl 1 rfl) ?_
  refine vp_callSi (va_Run.run (va_runV (As := [.int p1]) (rest := []) ⟨hx, hb, hml, hown, hts⟩ (c_X12_isTable l dC dI b c1 c2 c3 c4 fk hF p1) (cwV 1 hts g_X12_hand_X12_isTable rfl rfl rfl (by decide +kernel) ⟨Nat.le_of_ble_eq_true rfl, Nat.le_of_ble_eq_true rfl⟩) ⟨fun a U g mk q => by obtain ⟨q0, qP, qK⟩ := q; exact ⟨q0, qP, va_K.moved (u := U) (U := U.calling g mk a) (Vm.Alike.refl U.vm) qK⟩, va_recv hK hP (ci := 11) (q0 := 0) rfl rfl, fun U hU hW => ⟨rfl, by rw [hU]; exact hP, va_K.moved hW.alike hK⟩⟩ rfl rfl hl.1 rfl (lv_room (Nat.le_of_ble_eq_true rfl)) dX12_hand_2 ⟨Nat.zero_le _, Nat.zero_le _⟩)) (fun r_1 e_1 => ?_)
  subst e_1
  refine lv_if_eq (tgt := 15) hx hb dX12_hand_5 (by decide) (fun c_2 => ?_) (fun c_2 => ?_)
  · skip
    refine lv_bipush (v := (-2)) hx hb dX12_hand_15 (by decide) ?_
    exact W.iret (v := (-2)) hx hb hr (fun t ht hW => ⟨(-2), rfl, rfl, ht⟩) (fun q h => by cases h) dX12_hand_17
  · exact absurd c_2 (by decide +kernel)
def vsX12_left : List Cond := .code yX12_left cX12_left 3 (some .int) :: ([] ++ (wsV RX12 107 RX12 yX12_isTable vsX12_isTable ++ []))
set_option maxRecDepth 100000 in
theorem gl_X12_left : GoodIn lw_tbl vsX12_left := gi_t 1366 rfl rfl (goodIn_app gi_nil (goodIn_app gv_RX12_107 gi_nil))
theorem g_X12_left_X12_isTable : GoodIn vsX12_left (wsV RX12 107 RX12 yX12_isTable vsX12_isTable) := fun w h => ⟨List.mem_cons_of_mem _ (List.mem_append_right _ (List.mem_append_left _ h)), (gv_RX12_107 w h).2⟩
set_option maxHeartbeats 4000000 in
set_option maxRecDepth 100000 in
theorem c_X12_left (l : Launch) (dC : Nat → ClassId) (dI : Nat → Nat → Nat) (b : Nat → Nat) (c1 c2 c3 c4 : ClassId) (fk : Nat → Int32) (hF : ∀ j, j < 6 → fk j = -1) (p1 : Int32) (p2 : Int32) : Met l yX12_left vsX12_left ({ frames := 2, cells := 0, slots := 0, locals := 43 }) (va_Pc [.ref (b 0), .int p1, .int p2] (fun U => va_P (dC, dI) vwCl (wM b c1 c2 c3 c4 fk) U.heap ∧ va_K (dC, dI) vwCl (tM c1 c2 c3 c4) U)) (vp_Si (fun r => r = -2)) 0 0 (fun _ => False) := by
  refine Met.ofW (cc := cX12_left) (maxL := 3) (ret := (some .int)) (by decide) rfl ?_
  intro p e s m args below meth c s₁ B hml hv
  obtain ⟨rfl, hP, hK⟩ := hv
  have hx := B.exec
  have hb := B.bytes
  have hr := B.returns
  have hts := atoms_spec (ws := vsX12_left) B.pre
  have hown : s.vm.findClass RX12 = some m.cls := findClass_of_methodNamed B.named
  have hlocks := B.notSynchronized
  have hl := lv_entry ([.ref (b 0), .int p1, .int p2]) (n := 3) (Nat.le_of_ble_eq_true rfl)
  rw [lg_entry_eq]
  generalize (lg_sl ([.ref (b 0), .int p1, .int p2]) ++ List.replicate (3 - (lg_sl ([.ref (b 0), .int p1, .int p2])).length) Slot.unset).toArray = ls at hl ⊢
  have hl : lv_has ls 3 [(0, .ref (b 0)), (1, .int p1), (2, .int p2)] := hl
  refine lv_aload_n hx hb dX12_left_0 rfl (lv_at hl 0 rfl) ?_
  refine lv_iload_n hx hb dX12_left_1 rfl (lv_at hl 1 rfl) ?_
  refine vp_callSi (va_Run.run (va_runV (As := [.int p1]) (rest := []) ⟨hx, hb, hml, hown, hts⟩ (c_X12_isTable l dC dI b c1 c2 c3 c4 fk hF p1) (cwV 1 hts g_X12_left_X12_isTable rfl rfl rfl (by decide +kernel) ⟨Nat.le_of_ble_eq_true rfl, Nat.le_of_ble_eq_true rfl⟩) ⟨fun a U g mk q => by obtain ⟨q0, qP, qK⟩ := q; exact ⟨q0, qP, va_K.moved (u := U) (U := U.calling g mk a) (Vm.Alike.refl U.vm) qK⟩, va_recv hK hP (ci := 11) (q0 := 0) rfl rfl, fun U hU hW => ⟨rfl, by rw [hU]; exact hP, va_K.moved hW.alike hK⟩⟩ rfl rfl hl.1 rfl (lv_room (Nat.le_of_ble_eq_true rfl)) dX12_left_2 ⟨Nat.zero_le _, Nat.zero_le _⟩)) (fun r_1 e_1 => ?_)
  subst e_1
  refine lv_if_eq (tgt := 17) hx hb dX12_left_5 (by decide) (fun c_2 => ?_) (fun c_2 => ?_)
  · skip
    refine lv_bipush (v := (-2)) hx hb dX12_left_17 (by decide) ?_
    exact W.iret (v := (-2)) hx hb hr (fun t ht hW => ⟨(-2), rfl, rfl, ht⟩) (fun q h => by cases h) dX12_left_19
  · exact absurd c_2 (by decide +kernel)
def vsX12_winner : List Cond := .code yX12_winner cX12_winner 2 (some .int) :: ([] ++ (wsV RX12 107 RX12 yX12_isTable vsX12_isTable ++ []))
set_option maxRecDepth 100000 in
theorem gl_X12_winner : GoodIn lw_tbl vsX12_winner := gi_t 1370 rfl rfl (goodIn_app gi_nil (goodIn_app gv_RX12_107 gi_nil))
theorem g_X12_winner_X12_isTable : GoodIn vsX12_winner (wsV RX12 107 RX12 yX12_isTable vsX12_isTable) := fun w h => ⟨List.mem_cons_of_mem _ (List.mem_append_right _ (List.mem_append_left _ h)), (gv_RX12_107 w h).2⟩
set_option maxHeartbeats 4000000 in
set_option maxRecDepth 100000 in
theorem c_X12_winner (l : Launch) (dC : Nat → ClassId) (dI : Nat → Nat → Nat) (b : Nat → Nat) (c1 c2 c3 c4 : ClassId) (fk : Nat → Int32) (hF : ∀ j, j < 6 → fk j = -1) (p1 : Int32) : Met l yX12_winner vsX12_winner ({ frames := 2, cells := 0, slots := 0, locals := 43 }) (va_Pc [.ref (b 0), .int p1] (fun U => va_P (dC, dI) vwCl (wM b c1 c2 c3 c4 fk) U.heap ∧ va_K (dC, dI) vwCl (tM c1 c2 c3 c4) U)) (vp_Si (fun r => r = -2)) 0 0 (fun _ => False) := by
  refine Met.ofW (cc := cX12_winner) (maxL := 2) (ret := (some .int)) (by decide) rfl ?_
  intro p e s m args below meth c s₁ B hml hv
  obtain ⟨rfl, hP, hK⟩ := hv
  have hx := B.exec
  have hb := B.bytes
  have hr := B.returns
  have hts := atoms_spec (ws := vsX12_winner) B.pre
  have hown : s.vm.findClass RX12 = some m.cls := findClass_of_methodNamed B.named
  have hlocks := B.notSynchronized
  have hl := lv_entry ([.ref (b 0), .int p1]) (n := 2) (Nat.le_of_ble_eq_true rfl)
  rw [lg_entry_eq]
  generalize (lg_sl ([.ref (b 0), .int p1]) ++ List.replicate (2 - (lg_sl ([.ref (b 0), .int p1])).length) Slot.unset).toArray = ls at hl ⊢
  have hl : lv_has ls 2 [(0, .ref (b 0)), (1, .int p1)] := hl
  refine lv_aload_n hx hb dX12_winner_0 rfl (lv_at hl 0 rfl) ?_
  refine lv_iload_n hx hb dX12_winner_1 rfl (lv_at hl 1 rfl) ?_
  refine vp_callSi (va_Run.run (va_runV (As := [.int p1]) (rest := []) ⟨hx, hb, hml, hown, hts⟩ (c_X12_isTable l dC dI b c1 c2 c3 c4 fk hF p1) (cwV 1 hts g_X12_winner_X12_isTable rfl rfl rfl (by decide +kernel) ⟨Nat.le_of_ble_eq_true rfl, Nat.le_of_ble_eq_true rfl⟩) ⟨fun a U g mk q => by obtain ⟨q0, qP, qK⟩ := q; exact ⟨q0, qP, va_K.moved (u := U) (U := U.calling g mk a) (Vm.Alike.refl U.vm) qK⟩, va_recv hK hP (ci := 11) (q0 := 0) rfl rfl, fun U hU hW => ⟨rfl, by rw [hU]; exact hP, va_K.moved hW.alike hK⟩⟩ rfl rfl hl.1 rfl (lv_room (Nat.le_of_ble_eq_true rfl)) dX12_winner_2 ⟨Nat.zero_le _, Nat.zero_le _⟩)) (fun r_1 e_1 => ?_)
  subst e_1
  refine lv_if_eq (tgt := 24) hx hb dX12_winner_5 (by decide) (fun c_2 => ?_) (fun c_2 => ?_)
  · skip
    refine lv_bipush (v := (-2)) hx hb dX12_winner_24 (by decide) ?_
    exact W.iret (v := (-2)) hx hb hr (fun t ht hW => ⟨(-2), rfl, rfl, ht⟩) (fun q h => by cases h) dX12_winner_26
  · exact absurd c_2 (by decide +kernel)
def vsX12_won : List Cond := .code yX12_won cX12_won 7 (some .int) :: ([] ++ (wsV RX12 107 RX12 yX12_isTable vsX12_isTable ++ []))
set_option maxRecDepth 100000 in
theorem gl_X12_won : GoodIn lw_tbl vsX12_won := gi_t 1374 rfl rfl (goodIn_app gi_nil (goodIn_app gv_RX12_107 gi_nil))
theorem g_X12_won_X12_isTable : GoodIn vsX12_won (wsV RX12 107 RX12 yX12_isTable vsX12_isTable) := fun w h => ⟨List.mem_cons_of_mem _ (List.mem_append_right _ (List.mem_append_left _ h)), (gv_RX12_107 w h).2⟩
set_option maxHeartbeats 4000000 in
set_option maxRecDepth 100000 in
theorem c_X12_won (l : Launch) (dC : Nat → ClassId) (dI : Nat → Nat → Nat) (b : Nat → Nat) (c1 c2 c3 c4 : ClassId) (fk : Nat → Int32) (hF : ∀ j, j < 6 → fk j = -1) (p1 : Int32) (p2 : Int32) (p3 : Int32) : Met l yX12_won vsX12_won ({ frames := 2, cells := 0, slots := 0, locals := 43 }) (va_Pc [.ref (b 0), .int p1, .int p2, .int p3] (fun U => va_P (dC, dI) vwCl (wM b c1 c2 c3 c4 fk) U.heap ∧ va_K (dC, dI) vwCl (tM c1 c2 c3 c4) U)) (vp_Si (fun r => r = -2)) 0 0 (fun _ => False) := by
  refine Met.ofW (cc := cX12_won) (maxL := 7) (ret := (some .int)) (by decide) rfl ?_
  intro p e s m args below meth c s₁ B hml hv
  obtain ⟨rfl, hP, hK⟩ := hv
  have hx := B.exec
  have hb := B.bytes
  have hr := B.returns
  have hts := atoms_spec (ws := vsX12_won) B.pre
  have hown : s.vm.findClass RX12 = some m.cls := findClass_of_methodNamed B.named
  have hlocks := B.notSynchronized
  have hl := lv_entry ([.ref (b 0), .int p1, .int p2, .int p3]) (n := 7) (Nat.le_of_ble_eq_true rfl)
  rw [lg_entry_eq]
  generalize (lg_sl ([.ref (b 0), .int p1, .int p2, .int p3]) ++ List.replicate (7 - (lg_sl ([.ref (b 0), .int p1, .int p2, .int p3])).length) Slot.unset).toArray = ls at hl ⊢
  have hl : lv_has ls 7 [(0, .ref (b 0)), (1, .int p1), (2, .int p2), (3, .int p3)] := hl
  refine lv_aload_n hx hb dX12_won_0 rfl (lv_at hl 0 rfl) ?_
  refine lv_iload_n hx hb dX12_won_1 rfl (lv_at hl 1 rfl) ?_
  refine vp_callSi (va_Run.run (va_runV (As := [.int p1]) (rest := []) ⟨hx, hb, hml, hown, hts⟩ (c_X12_isTable l dC dI b c1 c2 c3 c4 fk hF p1) (cwV 1 hts g_X12_won_X12_isTable rfl rfl rfl (by decide +kernel) ⟨Nat.le_of_ble_eq_true rfl, Nat.le_of_ble_eq_true rfl⟩) ⟨fun a U g mk q => by obtain ⟨q0, qP, qK⟩ := q; exact ⟨q0, qP, va_K.moved (u := U) (U := U.calling g mk a) (Vm.Alike.refl U.vm) qK⟩, va_recv hK hP (ci := 11) (q0 := 0) rfl rfl, fun U hU hW => ⟨rfl, by rw [hU]; exact hP, va_K.moved hW.alike hK⟩⟩ rfl rfl hl.1 rfl (lv_room (Nat.le_of_ble_eq_true rfl)) dX12_won_2 ⟨Nat.zero_le _, Nat.zero_le _⟩)) (fun r_1 e_1 => ?_)
  subst e_1
  refine lv_if_eq (tgt := 17) hx hb dX12_won_5 (by decide) (fun c_2 => ?_) (fun c_2 => ?_)
  · skip
    refine lv_bipush (v := (-2)) hx hb dX12_won_17 (by decide) ?_
    exact W.iret (v := (-2)) hx hb hr (fun t ht hW => ⟨(-2), rfl, rfl, ht⟩) (fun q h => by cases h) dX12_won_19
  · exact absurd c_2 (by decide +kernel)
def vsX12_revokes : List Cond := .code yX12_revokes cX12_revokes 7 (some .int) :: ([] ++ (wsV RX12 107 RX12 yX12_isTable vsX12_isTable ++ []))
set_option maxRecDepth 100000 in
theorem gl_X12_revokes : GoodIn lw_tbl vsX12_revokes := gi_t 1378 rfl rfl (goodIn_app gi_nil (goodIn_app gv_RX12_107 gi_nil))
theorem g_X12_revokes_X12_isTable : GoodIn vsX12_revokes (wsV RX12 107 RX12 yX12_isTable vsX12_isTable) := fun w h => ⟨List.mem_cons_of_mem _ (List.mem_append_right _ (List.mem_append_left _ h)), (gv_RX12_107 w h).2⟩
set_option maxHeartbeats 4000000 in
set_option maxRecDepth 100000 in
theorem c_X12_revokes (l : Launch) (dC : Nat → ClassId) (dI : Nat → Nat → Nat) (b : Nat → Nat) (c1 c2 c3 c4 : ClassId) (fk : Nat → Int32) (hF : ∀ j, j < 6 → fk j = -1) (p1 : Int32) (p2 : Int32) (p3 : Int32) : Met l yX12_revokes vsX12_revokes ({ frames := 2, cells := 0, slots := 0, locals := 43 }) (va_Pc [.ref (b 0), .int p1, .int p2, .int p3] (fun U => va_P (dC, dI) vwCl (wM b c1 c2 c3 c4 fk) U.heap ∧ va_K (dC, dI) vwCl (tM c1 c2 c3 c4) U)) (vp_Si (fun r => r = -2)) 0 0 (fun _ => False) := by
  refine Met.ofW (cc := cX12_revokes) (maxL := 7) (ret := (some .int)) (by decide) rfl ?_
  intro p e s m args below meth c s₁ B hml hv
  obtain ⟨rfl, hP, hK⟩ := hv
  have hx := B.exec
  have hb := B.bytes
  have hr := B.returns
  have hts := atoms_spec (ws := vsX12_revokes) B.pre
  have hown : s.vm.findClass RX12 = some m.cls := findClass_of_methodNamed B.named
  have hlocks := B.notSynchronized
  have hl := lv_entry ([.ref (b 0), .int p1, .int p2, .int p3]) (n := 7) (Nat.le_of_ble_eq_true rfl)
  rw [lg_entry_eq]
  generalize (lg_sl ([.ref (b 0), .int p1, .int p2, .int p3]) ++ List.replicate (7 - (lg_sl ([.ref (b 0), .int p1, .int p2, .int p3])).length) Slot.unset).toArray = ls at hl ⊢
  have hl : lv_has ls 7 [(0, .ref (b 0)), (1, .int p1), (2, .int p2), (3, .int p3)] := hl
  refine lv_aload_n hx hb dX12_revokes_0 rfl (lv_at hl 0 rfl) ?_
  refine lv_iload_n hx hb dX12_revokes_1 rfl (lv_at hl 1 rfl) ?_
  refine vp_callSi (va_Run.run (va_runV (As := [.int p1]) (rest := []) ⟨hx, hb, hml, hown, hts⟩ (c_X12_isTable l dC dI b c1 c2 c3 c4 fk hF p1) (cwV 1 hts g_X12_revokes_X12_isTable rfl rfl rfl (by decide +kernel) ⟨Nat.le_of_ble_eq_true rfl, Nat.le_of_ble_eq_true rfl⟩) ⟨fun a U g mk q => by obtain ⟨q0, qP, qK⟩ := q; exact ⟨q0, qP, va_K.moved (u := U) (U := U.calling g mk a) (Vm.Alike.refl U.vm) qK⟩, va_recv hK hP (ci := 11) (q0 := 0) rfl rfl, fun U hU hW => ⟨rfl, by rw [hU]; exact hP, va_K.moved hW.alike hK⟩⟩ rfl rfl hl.1 rfl (lv_room (Nat.le_of_ble_eq_true rfl)) dX12_revokes_2 ⟨Nat.zero_le _, Nat.zero_le _⟩)) (fun r_1 e_1 => ?_)
  subst e_1
  refine lv_if_eq (tgt := 15) hx hb dX12_revokes_5 (by decide) (fun c_2 => ?_) (fun c_2 => ?_)
  · skip
    refine lv_bipush (v := (-2)) hx hb dX12_revokes_15 (by decide) ?_
    exact W.iret (v := (-2)) hx hb hr (fun t ht hW => ⟨(-2), rfl, rfl, ht⟩) (fun q h => by cases h) dX12_revokes_17
  · exact absurd c_2 (by decide +kernel)
def vsX12_sum : List Cond := .code yX12_sum cX12_sum 3 (some .int) :: ([] ++ (wsV RX12 107 RX12 yX12_isTable vsX12_isTable ++ []))
set_option maxRecDepth 100000 in
theorem gl_X12_sum : GoodIn lw_tbl vsX12_sum := gi_t 1382 rfl rfl (goodIn_app gi_nil (goodIn_app gv_RX12_107 gi_nil))
theorem g_X12_sum_X12_isTable : GoodIn vsX12_sum (wsV RX12 107 RX12 yX12_isTable vsX12_isTable) := fun w h => ⟨List.mem_cons_of_mem _ (List.mem_append_right _ (List.mem_append_left _ h)), (gv_RX12_107 w h).2⟩
set_option maxHeartbeats 4000000 in
set_option maxRecDepth 100000 in
theorem c_X12_sum (l : Launch) (dC : Nat → ClassId) (dI : Nat → Nat → Nat) (b : Nat → Nat) (c1 c2 c3 c4 : ClassId) (fk : Nat → Int32) (hF : ∀ j, j < 6 → fk j = -1) (p1 : Int32) (p2 : Int32) : Met l yX12_sum vsX12_sum ({ frames := 2, cells := 0, slots := 0, locals := 43 }) (va_Pc [.ref (b 0), .int p1, .int p2] (fun U => va_P (dC, dI) vwCl (wM b c1 c2 c3 c4 fk) U.heap ∧ va_K (dC, dI) vwCl (tM c1 c2 c3 c4) U)) (vp_Si (fun r => r = -2)) 0 0 (fun _ => False) := by
  refine Met.ofW (cc := cX12_sum) (maxL := 3) (ret := (some .int)) (by decide) rfl ?_
  intro p e s m args below meth c s₁ B hml hv
  obtain ⟨rfl, hP, hK⟩ := hv
  have hx := B.exec
  have hb := B.bytes
  have hr := B.returns
  have hts := atoms_spec (ws := vsX12_sum) B.pre
  have hown : s.vm.findClass RX12 = some m.cls := findClass_of_methodNamed B.named
  have hlocks := B.notSynchronized
  have hl := lv_entry ([.ref (b 0), .int p1, .int p2]) (n := 3) (Nat.le_of_ble_eq_true rfl)
  rw [lg_entry_eq]
  generalize (lg_sl ([.ref (b 0), .int p1, .int p2]) ++ List.replicate (3 - (lg_sl ([.ref (b 0), .int p1, .int p2])).length) Slot.unset).toArray = ls at hl ⊢
  have hl : lv_has ls 3 [(0, .ref (b 0)), (1, .int p1), (2, .int p2)] := hl
  refine lv_aload_n hx hb dX12_sum_0 rfl (lv_at hl 0 rfl) ?_
  refine lv_iload_n hx hb dX12_sum_1 rfl (lv_at hl 1 rfl) ?_
  refine vp_callSi (va_Run.run (va_runV (As := [.int p1]) (rest := []) ⟨hx, hb, hml, hown, hts⟩ (c_X12_isTable l dC dI b c1 c2 c3 c4 fk hF p1) (cwV 1 hts g_X12_sum_X12_isTable rfl rfl rfl (by decide +kernel) ⟨Nat.le_of_ble_eq_true rfl, Nat.le_of_ble_eq_true rfl⟩) ⟨fun a U g mk q => by obtain ⟨q0, qP, qK⟩ := q; exact ⟨q0, qP, va_K.moved (u := U) (U := U.calling g mk a) (Vm.Alike.refl U.vm) qK⟩, va_recv hK hP (ci := 11) (q0 := 0) rfl rfl, fun U hU hW => ⟨rfl, by rw [hU]; exact hP, va_K.moved hW.alike hK⟩⟩ rfl rfl hl.1 rfl (lv_room (Nat.le_of_ble_eq_true rfl)) dX12_sum_2 ⟨Nat.zero_le _, Nat.zero_le _⟩)) (fun r_1 e_1 => ?_)
  subst e_1
  refine lv_if_eq (tgt := 33) hx hb dX12_sum_5 (by decide) (fun c_2 => ?_) (fun c_2 => ?_)
  · skip
    refine lv_bipush (v := (-2)) hx hb dX12_sum_33 (by decide) ?_
    exact W.iret (v := (-2)) hx hb hr (fun t ht hW => ⟨(-2), rfl, rfl, ht⟩) (fun q h => by cases h) dX12_sum_35
  · exact absurd c_2 (by decide +kernel)
def vsX12_tie : List Cond := .code yX12_tie cX12_tie 7 (some .int) :: ([] ++ (wsV RX12 107 RX12 yX12_isTable vsX12_isTable ++ []))
set_option maxRecDepth 100000 in
theorem gl_X12_tie : GoodIn lw_tbl vsX12_tie := gi_t 1386 rfl rfl (goodIn_app gi_nil (goodIn_app gv_RX12_107 gi_nil))
theorem g_X12_tie_X12_isTable : GoodIn vsX12_tie (wsV RX12 107 RX12 yX12_isTable vsX12_isTable) := fun w h => ⟨List.mem_cons_of_mem _ (List.mem_append_right _ (List.mem_append_left _ h)), (gv_RX12_107 w h).2⟩
set_option maxHeartbeats 4000000 in
set_option maxRecDepth 100000 in
theorem c_X12_tie (l : Launch) (dC : Nat → ClassId) (dI : Nat → Nat → Nat) (b : Nat → Nat) (c1 c2 c3 c4 : ClassId) (fk : Nat → Int32) (hF : ∀ j, j < 6 → fk j = -1) (p1 : Int32) : Met l yX12_tie vsX12_tie ({ frames := 2, cells := 0, slots := 0, locals := 43 }) (va_Pc [.ref (b 0), .int p1] (fun U => va_P (dC, dI) vwCl (wM b c1 c2 c3 c4 fk) U.heap ∧ va_K (dC, dI) vwCl (tM c1 c2 c3 c4) U)) (vp_Si (fun r => r = -2)) 0 0 (fun _ => False) := by
  refine Met.ofW (cc := cX12_tie) (maxL := 7) (ret := (some .int)) (by decide) rfl ?_
  intro p e s m args below meth c s₁ B hml hv
  obtain ⟨rfl, hP, hK⟩ := hv
  have hx := B.exec
  have hb := B.bytes
  have hr := B.returns
  have hts := atoms_spec (ws := vsX12_tie) B.pre
  have hown : s.vm.findClass RX12 = some m.cls := findClass_of_methodNamed B.named
  have hlocks := B.notSynchronized
  have hl := lv_entry ([.ref (b 0), .int p1]) (n := 7) (Nat.le_of_ble_eq_true rfl)
  rw [lg_entry_eq]
  generalize (lg_sl ([.ref (b 0), .int p1]) ++ List.replicate (7 - (lg_sl ([.ref (b 0), .int p1])).length) Slot.unset).toArray = ls at hl ⊢
  have hl : lv_has ls 7 [(0, .ref (b 0)), (1, .int p1)] := hl
  refine lv_aload_n hx hb dX12_tie_0 rfl (lv_at hl 0 rfl) ?_
  refine lv_iload_n hx hb dX12_tie_1 rfl (lv_at hl 1 rfl) ?_
  refine vp_callSi (va_Run.run (va_runV (As := [.int p1]) (rest := []) ⟨hx, hb, hml, hown, hts⟩ (c_X12_isTable l dC dI b c1 c2 c3 c4 fk hF p1) (cwV 1 hts g_X12_tie_X12_isTable rfl rfl rfl (by decide +kernel) ⟨Nat.le_of_ble_eq_true rfl, Nat.le_of_ble_eq_true rfl⟩) ⟨fun a U g mk q => by obtain ⟨q0, qP, qK⟩ := q; exact ⟨q0, qP, va_K.moved (u := U) (U := U.calling g mk a) (Vm.Alike.refl U.vm) qK⟩, va_recv hK hP (ci := 11) (q0 := 0) rfl rfl, fun U hU hW => ⟨rfl, by rw [hU]; exact hP, va_K.moved hW.alike hK⟩⟩ rfl rfl hl.1 rfl (lv_room (Nat.le_of_ble_eq_true rfl)) dX12_tie_2 ⟨Nat.zero_le _, Nat.zero_le _⟩)) (fun r_1 e_1 => ?_)
  subst e_1
  refine lv_if_ne (tgt := 11) hx hb dX12_tie_5 (by decide) (fun c_2 => ?_) (fun c_2 => ?_)
  · exact absurd c_2 (by decide +kernel)
  · skip
    refine lv_bipush (v := (-2)) hx hb dX12_tie_8 (by decide) ?_
    exact W.iret (v := (-2)) hx hb hr (fun t ht hW => ⟨(-2), rfl, rfl, ht⟩) (fun q h => by cases h) dX12_tie_10
set_option maxRecDepth 100000 in
theorem gv_RX12_304 : GoodIn lw_tbl (wsV RX12 304 RX12 yX12_endBars vsX12_endBars) := (gi_t 1391 (by decide +kernel) rfl (gi_t 1393 (by decide +kernel) rfl (gi_s 66 (by decide +kernel) rfl (gi_t 8 (by decide +kernel) rfl gl_X12_endBars))))
def vsX12_best : List Cond := .code yX12_best cX12_best 4 (some .int) :: ([] ++ (wsV RX12 304 RX12 yX12_endBars vsX12_endBars ++ []))
set_option maxRecDepth 100000 in
theorem gl_X12_best : GoodIn lw_tbl vsX12_best := gi_t 1390 rfl rfl (goodIn_app gi_nil (goodIn_app gv_RX12_304 gi_nil))
theorem g_X12_best_X12_endBars : GoodIn vsX12_best (wsV RX12 304 RX12 yX12_endBars vsX12_endBars) := fun w h => ⟨List.mem_cons_of_mem _ (List.mem_append_right _ (List.mem_append_left _ h)), (gv_RX12_304 w h).2⟩
set_option maxHeartbeats 4000000 in
set_option maxRecDepth 100000 in
theorem c_X12_best (l : Launch) (dC : Nat → ClassId) (dI : Nat → Nat → Nat) (b : Nat → Nat) (c1 c2 c3 c4 : ClassId) (fk : Nat → Int32) (hF : ∀ j, j < 6 → fk j = -1) (p1 : Int32) (p2 : Int32) : Met l yX12_best vsX12_best ({ frames := 3, cells := 0, slots := 0, locals := 65 }) (va_Pc [.ref (b 0), .int p1, .int p2] (fun U => va_P (dC, dI) vwCl (wM b c1 c2 c3 c4 fk) U.heap ∧ va_K (dC, dI) vwCl (tM c1 c2 c3 c4) U)) (vp_Si (fun r => r = -2)) 0 0 (fun _ => False) := by
  refine Met.ofW (cc := cX12_best) (maxL := 4) (ret := (some .int)) (by decide) rfl ?_
  intro p e s m args below meth c s₁ B hml hv
  obtain ⟨rfl, hP, hK⟩ := hv
  have hx := B.exec
  have hb := B.bytes
  have hr := B.returns
  have hts := atoms_spec (ws := vsX12_best) B.pre
  have hown : s.vm.findClass RX12 = some m.cls := findClass_of_methodNamed B.named
  have hlocks := B.notSynchronized
  have hl := lv_entry ([.ref (b 0), .int p1, .int p2]) (n := 4) (Nat.le_of_ble_eq_true rfl)
  rw [lg_entry_eq]
  generalize (lg_sl ([.ref (b 0), .int p1, .int p2]) ++ List.replicate (4 - (lg_sl ([.ref (b 0), .int p1, .int p2])).length) Slot.unset).toArray = ls at hl ⊢
  have hl : lv_has ls 4 [(0, .ref (b 0)), (1, .int p1), (2, .int p2)] := hl
  refine lv_aload_n hx hb dX12_best_0 rfl (lv_at hl 0 rfl) ?_
  refine lv_iload_n hx hb dX12_best_1 rfl (lv_at hl 1 rfl) ?_
  refine lv_iload_n hx hb dX12_best_2 rfl (lv_at hl 2 rfl) ?_
  refine vp_callSi (va_Run.run (va_runV (As := [.int p1, .int p2]) (rest := []) ⟨hx, hb, hml, hown, hts⟩ (c_X12_endBars l dC dI b c1 c2 c3 c4 fk hF p1 p2) (cwV 2 hts g_X12_best_X12_endBars rfl rfl rfl (by decide +kernel) ⟨Nat.le_of_ble_eq_true rfl, Nat.le_of_ble_eq_true rfl⟩) ⟨fun a U g mk q => by obtain ⟨q0, qP, qK⟩ := q; exact ⟨q0, qP, va_K.moved (u := U) (U := U.calling g mk a) (Vm.Alike.refl U.vm) qK⟩, va_recv hK hP (ci := 11) (q0 := 0) rfl rfl, fun U hU hW => ⟨rfl, by rw [hU]; exact hP, va_K.moved hW.alike hK⟩⟩ rfl rfl hl.1 rfl (lv_room (Nat.le_of_ble_eq_true rfl)) dX12_best_3 ⟨Nat.zero_le _, Nat.zero_le _⟩)) (fun r_1 e_1 => ?_)
  subst e_1
  refine lv_istore_n (lv' := [(3, .int (-2)), (0, .ref (b 0)), (1, .int p1), (2, .int p2)]) hx hb dX12_best_6 rfl hl (by decide) rfl (fun ls hl => ?_)
  refine lv_iload_n hx hb dX12_best_7 rfl (lv_at hl 0 rfl) ?_
  refine lv_if_ge (tgt := 15) hx hb dX12_best_8 (by decide) (fun c_2 => ?_) (fun c_2 => ?_)
  · exact absurd c_2 (by decide +kernel)
  · skip
    refine lv_iload_n hx hb dX12_best_11 rfl (lv_at hl 0 rfl) ?_
    refine lv_goto (tgt := 26) hx hb dX12_best_12 (by decide) ?_
    exact W.iret (v := (-2)) hx hb hr (fun t ht hW => ⟨(-2), rfl, rfl, ht⟩) (fun q h => by cases h) dX12_best_26
def vsX12_line : List Cond := .code yX12_line cX12_line 13 (some .int) :: ([] ++ (wsV RX12 304 RX12 yX12_endBars vsX12_endBars ++ []))
set_option maxRecDepth 100000 in
theorem gl_X12_line : GoodIn lw_tbl vsX12_line := gi_t 1455 rfl rfl (goodIn_app gi_nil (goodIn_app gv_RX12_304 gi_nil))
theorem g_X12_line_X12_endBars : GoodIn vsX12_line (wsV RX12 304 RX12 yX12_endBars vsX12_endBars) := fun w h => ⟨List.mem_cons_of_mem _ (List.mem_append_right _ (List.mem_append_left _ h)), (gv_RX12_304 w h).2⟩
set_option maxHeartbeats 4000000 in
set_option maxRecDepth 100000 in
theorem c_X12_line (l : Launch) (dC : Nat → ClassId) (dI : Nat → Nat → Nat) (b : Nat → Nat) (c1 c2 c3 c4 : ClassId) (fk : Nat → Int32) (hF : ∀ j, j < 6 → fk j = -1) (p1 : Int32) (p2 : Int32) (p3 : Int32) : Met l yX12_line vsX12_line ({ frames := 3, cells := 0, slots := 0, locals := 65 }) (va_Pc [.ref (b 0), .int p1, .int p2, .int p3] (fun U => va_P (dC, dI) vwCl (wM b c1 c2 c3 c4 fk) U.heap ∧ va_K (dC, dI) vwCl (tM c1 c2 c3 c4) U)) (vp_Si (fun r => r = -2)) 0 0 (fun _ => False) := by
  refine Met.ofW (cc := cX12_line) (maxL := 13) (ret := (some .int)) (by decide) rfl ?_
  intro p e s m args below meth c s₁ B hml hv
  obtain ⟨rfl, hP, hK⟩ := hv
  have hx := B.exec
  have hb := B.bytes
  have hr := B.returns
  have hts := atoms_spec (ws := vsX12_line) B.pre
  have hown : s.vm.findClass RX12 = some m.cls := findClass_of_methodNamed B.named
  have hlocks := B.notSynchronized
  have hl := lv_entry ([.ref (b 0), .int p1, .int p2, .int p3]) (n := 13) (Nat.le_of_ble_eq_true rfl)
  rw [lg_entry_eq]
  generalize (lg_sl ([.ref (b 0), .int p1, .int p2, .int p3]) ++ List.replicate (13 - (lg_sl ([.ref (b 0), .int p1, .int p2, .int p3])).length) Slot.unset).toArray = ls at hl ⊢
  have hl : lv_has ls 13 [(0, .ref (b 0)), (1, .int p1), (2, .int p2), (3, .int p3)] := hl
  refine lv_aload_n hx hb dX12_line_0 rfl (lv_at hl 0 rfl) ?_
  refine lv_iload_n hx hb dX12_line_1 rfl (lv_at hl 1 rfl) ?_
  refine lv_iload_n hx hb dX12_line_2 rfl (lv_at hl 2 rfl) ?_
  refine vp_callSi (va_Run.run (va_runV (As := [.int p1, .int p2]) (rest := []) ⟨hx, hb, hml, hown, hts⟩ (c_X12_endBars l dC dI b c1 c2 c3 c4 fk hF p1 p2) (cwV 2 hts g_X12_line_X12_endBars rfl rfl rfl (by decide +kernel) ⟨Nat.le_of_ble_eq_true rfl, Nat.le_of_ble_eq_true rfl⟩) ⟨fun a U g mk q => by obtain ⟨q0, qP, qK⟩ := q; exact ⟨q0, qP, va_K.moved (u := U) (U := U.calling g mk a) (Vm.Alike.refl U.vm) qK⟩, va_recv hK hP (ci := 11) (q0 := 0) rfl rfl, fun U hU hW => ⟨rfl, by rw [hU]; exact hP, va_K.moved hW.alike hK⟩⟩ rfl rfl hl.1 rfl (lv_room (Nat.le_of_ble_eq_true rfl)) dX12_line_3 ⟨Nat.zero_le _, Nat.zero_le _⟩)) (fun r_1 e_1 => ?_)
  subst e_1
  refine lv_istore (lv' := [(4, .int (-2)), (0, .ref (b 0)), (1, .int p1), (2, .int p2), (3, .int p3)]) hx hb dX12_line_6 hl (by decide) rfl (fun ls hl => ?_)
  refine lv_iload hx hb dX12_line_8 (lv_at hl 0 rfl) ?_
  refine lv_if_ge (tgt := 16) hx hb dX12_line_10 (by decide) (fun c_2 => ?_) (fun c_2 => ?_)
  · exact absurd c_2 (by decide +kernel)
  · skip
    refine lv_iload hx hb dX12_line_13 (lv_at hl 0 rfl) ?_
    exact W.iret (v := (-2)) hx hb hr (fun t ht hW => ⟨(-2), rfl, rfl, ht⟩) (fun q h => by cases h) dX12_line_15
def vsX12_check : List Cond := .code yX12_check cX12_check 6 (some .int) :: ([] ++ (wsV RX12 304 RX12 yX12_endBars vsX12_endBars ++ []))
set_option maxRecDepth 100000 in
theorem gl_X12_check : GoodIn lw_tbl vsX12_check := gi_t 1451 rfl rfl (goodIn_app gi_nil (goodIn_app gv_RX12_304 gi_nil))
theorem g_X12_check_X12_endBars : GoodIn vsX12_check (wsV RX12 304 RX12 yX12_endBars vsX12_endBars) := fun w h => ⟨List.mem_cons_of_mem _ (List.mem_append_right _ (List.mem_append_left _ h)), (gv_RX12_304 w h).2⟩
set_option maxHeartbeats 4000000 in
set_option maxRecDepth 100000 in
theorem c_X12_check (l : Launch) (dC : Nat → ClassId) (dI : Nat → Nat → Nat) (b : Nat → Nat) (c1 c2 c3 c4 : ClassId) (fk : Nat → Int32) (hF : ∀ j, j < 6 → fk j = -1) (p1 : Int32) (p2 : Int32) : Met l yX12_check vsX12_check ({ frames := 3, cells := 0, slots := 0, locals := 65 }) (va_Pc [.ref (b 0), .int p1, .int p2] (fun U => va_P (dC, dI) vwCl (wM b c1 c2 c3 c4 fk) U.heap ∧ va_K (dC, dI) vwCl (tM c1 c2 c3 c4) U)) (vp_Si (fun r => r = -2)) 0 0 (fun _ => False) := by
  refine Met.ofW (cc := cX12_check) (maxL := 6) (ret := (some .int)) (by decide) rfl ?_
  intro p e s m args below meth c s₁ B hml hv
  obtain ⟨rfl, hP, hK⟩ := hv
  have hx := B.exec
  have hb := B.bytes
  have hr := B.returns
  have hts := atoms_spec (ws := vsX12_check) B.pre
  have hown : s.vm.findClass RX12 = some m.cls := findClass_of_methodNamed B.named
  have hlocks := B.notSynchronized
  have hl := lv_entry ([.ref (b 0), .int p1, .int p2]) (n := 6) (Nat.le_of_ble_eq_true rfl)
  rw [lg_entry_eq]
  generalize (lg_sl ([.ref (b 0), .int p1, .int p2]) ++ List.replicate (6 - (lg_sl ([.ref (b 0), .int p1, .int p2])).length) Slot.unset).toArray = ls at hl ⊢
  have hl : lv_has ls 6 [(0, .ref (b 0)), (1, .int p1), (2, .int p2)] := hl
  refine lv_aload_n hx hb dX12_check_0 rfl (lv_at hl 0 rfl) ?_
  refine lv_iload_n hx hb dX12_check_1 rfl (lv_at hl 1 rfl) ?_
  refine lv_iload_n hx hb dX12_check_2 rfl (lv_at hl 2 rfl) ?_
  refine vp_callSi (va_Run.run (va_runV (As := [.int p1, .int p2]) (rest := []) ⟨hx, hb, hml, hown, hts⟩ (c_X12_endBars l dC dI b c1 c2 c3 c4 fk hF p1 p2) (cwV 2 hts g_X12_check_X12_endBars rfl rfl rfl (by decide +kernel) ⟨Nat.le_of_ble_eq_true rfl, Nat.le_of_ble_eq_true rfl⟩) ⟨fun a U g mk q => by obtain ⟨q0, qP, qK⟩ := q; exact ⟨q0, qP, va_K.moved (u := U) (U := U.calling g mk a) (Vm.Alike.refl U.vm) qK⟩, va_recv hK hP (ci := 11) (q0 := 0) rfl rfl, fun U hU hW => ⟨rfl, by rw [hU]; exact hP, va_K.moved hW.alike hK⟩⟩ rfl rfl hl.1 rfl (lv_room (Nat.le_of_ble_eq_true rfl)) dX12_check_3 ⟨Nat.zero_le _, Nat.zero_le _⟩)) (fun r_1 e_1 => ?_)
  subst e_1
  refine lv_istore_n (lv' := [(3, .int (-2)), (0, .ref (b 0)), (1, .int p1), (2, .int p2)]) hx hb dX12_check_6 rfl hl (by decide) rfl (fun ls hl => ?_)
  refine lv_iload_n hx hb dX12_check_7 rfl (lv_at hl 0 rfl) ?_
  refine lv_if_ge (tgt := 13) hx hb dX12_check_8 (by decide) (fun c_2 => ?_) (fun c_2 => ?_)
  · exact absurd c_2 (by decide +kernel)
  · skip
    refine lv_iload_n hx hb dX12_check_11 rfl (lv_at hl 0 rfl) ?_
    exact W.iret (v := (-2)) hx hb hr (fun t ht hW => ⟨(-2), rfl, rfl, ht⟩) (fun q h => by cases h) dX12_check_12
def vsX12_claim : List Cond := .code yX12_claim cX12_claim 5 (some .int) :: ([] ++ (wsV RX12 107 RX12 yX12_isTable vsX12_isTable ++ []))
set_option maxRecDepth 100000 in
theorem gl_X12_claim : GoodIn lw_tbl vsX12_claim := gi_t 1459 rfl rfl (goodIn_app gi_nil (goodIn_app gv_RX12_107 gi_nil))
theorem g_X12_claim_X12_isTable : GoodIn vsX12_claim (wsV RX12 107 RX12 yX12_isTable vsX12_isTable) := fun w h => ⟨List.mem_cons_of_mem _ (List.mem_append_right _ (List.mem_append_left _ h)), (gv_RX12_107 w h).2⟩
set_option maxHeartbeats 4000000 in
set_option maxRecDepth 100000 in
theorem c_X12_claim (l : Launch) (dC : Nat → ClassId) (dI : Nat → Nat → Nat) (b : Nat → Nat) (c1 c2 c3 c4 : ClassId) (fk : Nat → Int32) (hF : ∀ j, j < 6 → fk j = -1) (p1 : Int32) (p2 : Int32) (p3 : Int32) : Met l yX12_claim vsX12_claim ({ frames := 2, cells := 0, slots := 0, locals := 43 }) (va_Pc [.ref (b 0), .int p1, .int p2, .int p3] (fun U => va_P (dC, dI) vwCl (wM b c1 c2 c3 c4 fk) U.heap ∧ va_K (dC, dI) vwCl (tM c1 c2 c3 c4) U)) (vp_Si (fun r => r = -2)) 0 0 (fun _ => False) := by
  refine Met.ofW (cc := cX12_claim) (maxL := 5) (ret := (some .int)) (by decide) rfl ?_
  intro p e s m args below meth c s₁ B hml hv
  obtain ⟨rfl, hP, hK⟩ := hv
  have hx := B.exec
  have hb := B.bytes
  have hr := B.returns
  have hts := atoms_spec (ws := vsX12_claim) B.pre
  have hown : s.vm.findClass RX12 = some m.cls := findClass_of_methodNamed B.named
  have hlocks := B.notSynchronized
  have hl := lv_entry ([.ref (b 0), .int p1, .int p2, .int p3]) (n := 5) (Nat.le_of_ble_eq_true rfl)
  rw [lg_entry_eq]
  generalize (lg_sl ([.ref (b 0), .int p1, .int p2, .int p3]) ++ List.replicate (5 - (lg_sl ([.ref (b 0), .int p1, .int p2, .int p3])).length) Slot.unset).toArray = ls at hl ⊢
  have hl : lv_has ls 5 [(0, .ref (b 0)), (1, .int p1), (2, .int p2), (3, .int p3)] := hl
  refine lv_aload_n hx hb dX12_claim_0 rfl (lv_at hl 0 rfl) ?_
  refine lv_iload_n hx hb dX12_claim_1 rfl (lv_at hl 1 rfl) ?_
  refine vp_callSi (va_Run.run (va_runV (As := [.int p1]) (rest := []) ⟨hx, hb, hml, hown, hts⟩ (c_X12_isTable l dC dI b c1 c2 c3 c4 fk hF p1) (cwV 1 hts g_X12_claim_X12_isTable rfl rfl rfl (by decide +kernel) ⟨Nat.le_of_ble_eq_true rfl, Nat.le_of_ble_eq_true rfl⟩) ⟨fun a U g mk q => by obtain ⟨q0, qP, qK⟩ := q; exact ⟨q0, qP, va_K.moved (u := U) (U := U.calling g mk a) (Vm.Alike.refl U.vm) qK⟩, va_recv hK hP (ci := 11) (q0 := 0) rfl rfl, fun U hU hW => ⟨rfl, by rw [hU]; exact hP, va_K.moved hW.alike hK⟩⟩ rfl rfl hl.1 rfl (lv_room (Nat.le_of_ble_eq_true rfl)) dX12_claim_2 ⟨Nat.zero_le _, Nat.zero_le _⟩)) (fun r_1 e_1 => ?_)
  subst e_1
  refine lv_if_eq (tgt := 17) hx hb dX12_claim_5 (by decide) (fun c_2 => ?_) (fun c_2 => ?_)
  · skip
    refine lv_bipush (v := (-2)) hx hb dX12_claim_17 (by decide) ?_
    exact W.iret (v := (-2)) hx hb hr (fun t ht hW => ⟨(-2), rfl, rfl, ht⟩) (fun q h => by cases h) dX12_claim_19
  · exact absurd c_2 (by decide +kernel)
def vsX12_undo : List Cond := .code yX12_undo cX12_undo 2 (some .int) :: ([] ++ (wsV RX12 107 RX12 yX12_isTable vsX12_isTable ++ []))
set_option maxRecDepth 100000 in
theorem gl_X12_undo : GoodIn lw_tbl vsX12_undo := gi_t 1467 rfl rfl (goodIn_app gi_nil (goodIn_app gv_RX12_107 gi_nil))
theorem g_X12_undo_X12_isTable : GoodIn vsX12_undo (wsV RX12 107 RX12 yX12_isTable vsX12_isTable) := fun w h => ⟨List.mem_cons_of_mem _ (List.mem_append_right _ (List.mem_append_left _ h)), (gv_RX12_107 w h).2⟩
set_option maxHeartbeats 4000000 in
set_option maxRecDepth 100000 in
theorem c_X12_undo (l : Launch) (dC : Nat → ClassId) (dI : Nat → Nat → Nat) (b : Nat → Nat) (c1 c2 c3 c4 : ClassId) (fk : Nat → Int32) (hF : ∀ j, j < 6 → fk j = -1) (p1 : Int32) : Met l yX12_undo vsX12_undo ({ frames := 2, cells := 0, slots := 0, locals := 43 }) (va_Pc [.ref (b 0), .int p1] (fun U => va_P (dC, dI) vwCl (wM b c1 c2 c3 c4 fk) U.heap ∧ va_K (dC, dI) vwCl (tM c1 c2 c3 c4) U)) (vp_Si (fun r => r = -2)) 0 0 (fun _ => False) := by
  refine Met.ofW (cc := cX12_undo) (maxL := 2) (ret := (some .int)) (by decide) rfl ?_
  intro p e s m args below meth c s₁ B hml hv
  obtain ⟨rfl, hP, hK⟩ := hv
  have hx := B.exec
  have hb := B.bytes
  have hr := B.returns
  have hts := atoms_spec (ws := vsX12_undo) B.pre
  have hown : s.vm.findClass RX12 = some m.cls := findClass_of_methodNamed B.named
  have hlocks := B.notSynchronized
  have hl := lv_entry ([.ref (b 0), .int p1]) (n := 2) (Nat.le_of_ble_eq_true rfl)
  rw [lg_entry_eq]
  generalize (lg_sl ([.ref (b 0), .int p1]) ++ List.replicate (2 - (lg_sl ([.ref (b 0), .int p1])).length) Slot.unset).toArray = ls at hl ⊢
  have hl : lv_has ls 2 [(0, .ref (b 0)), (1, .int p1)] := hl
  refine lv_aload_n hx hb dX12_undo_0 rfl (lv_at hl 0 rfl) ?_
  refine lv_iload_n hx hb dX12_undo_1 rfl (lv_at hl 1 rfl) ?_
  refine vp_callSi (va_Run.run (va_runV (As := [.int p1]) (rest := []) ⟨hx, hb, hml, hown, hts⟩ (c_X12_isTable l dC dI b c1 c2 c3 c4 fk hF p1) (cwV 1 hts g_X12_undo_X12_isTable rfl rfl rfl (by decide +kernel) ⟨Nat.le_of_ble_eq_true rfl, Nat.le_of_ble_eq_true rfl⟩) ⟨fun a U g mk q => by obtain ⟨q0, qP, qK⟩ := q; exact ⟨q0, qP, va_K.moved (u := U) (U := U.calling g mk a) (Vm.Alike.refl U.vm) qK⟩, va_recv hK hP (ci := 11) (q0 := 0) rfl rfl, fun U hU hW => ⟨rfl, by rw [hU]; exact hP, va_K.moved hW.alike hK⟩⟩ rfl rfl hl.1 rfl (lv_room (Nat.le_of_ble_eq_true rfl)) dX12_undo_2 ⟨Nat.zero_le _, Nat.zero_le _⟩)) (fun r_1 e_1 => ?_)
  subst e_1
  refine lv_if_ne (tgt := 11) hx hb dX12_undo_5 (by decide) (fun c_2 => ?_) (fun c_2 => ?_)
  · exact absurd c_2 (by decide +kernel)
  · skip
    refine lv_bipush (v := (-2)) hx hb dX12_undo_8 (by decide) ?_
    exact W.iret (v := (-2)) hx hb hr (fun t ht hW => ⟨(-2), rfl, rfl, ht⟩) (fun q h => by cases h) dX12_undo_10
def vsX12_replay : List Cond := .code yX12_replay cX12_replay 7 (some .int) :: ([] ++ (wsV RX12 107 RX12 yX12_isTable vsX12_isTable ++ []))
set_option maxRecDepth 100000 in
theorem gl_X12_replay : GoodIn lw_tbl vsX12_replay := gi_t 1471 rfl rfl (goodIn_app gi_nil (goodIn_app gv_RX12_107 gi_nil))
theorem g_X12_replay_X12_isTable : GoodIn vsX12_replay (wsV RX12 107 RX12 yX12_isTable vsX12_isTable) := fun w h => ⟨List.mem_cons_of_mem _ (List.mem_append_right _ (List.mem_append_left _ h)), (gv_RX12_107 w h).2⟩
set_option maxHeartbeats 4000000 in
set_option maxRecDepth 100000 in
theorem c_X12_replay (l : Launch) (dC : Nat → ClassId) (dI : Nat → Nat → Nat) (b : Nat → Nat) (c1 c2 c3 c4 : ClassId) (fk : Nat → Int32) (hF : ∀ j, j < 6 → fk j = -1) (p1 : Int32) : Met l yX12_replay vsX12_replay ({ frames := 2, cells := 0, slots := 0, locals := 43 }) (va_Pc [.ref (b 0), .int p1] (fun U => va_P (dC, dI) vwCl (wM b c1 c2 c3 c4 fk) U.heap ∧ va_K (dC, dI) vwCl (tM c1 c2 c3 c4) U)) (vp_Si (fun r => r = -2)) 0 0 (fun _ => False) := by
  refine Met.ofW (cc := cX12_replay) (maxL := 7) (ret := (some .int)) (by decide) rfl ?_
  intro p e s m args below meth c s₁ B hml hv
  obtain ⟨rfl, hP, hK⟩ := hv
  have hx := B.exec
  have hb := B.bytes
  have hr := B.returns
  have hts := atoms_spec (ws := vsX12_replay) B.pre
  have hown : s.vm.findClass RX12 = some m.cls := findClass_of_methodNamed B.named
  have hlocks := B.notSynchronized
  have hl := lv_entry ([.ref (b 0), .int p1]) (n := 7) (Nat.le_of_ble_eq_true rfl)
  rw [lg_entry_eq]
  generalize (lg_sl ([.ref (b 0), .int p1]) ++ List.replicate (7 - (lg_sl ([.ref (b 0), .int p1])).length) Slot.unset).toArray = ls at hl ⊢
  have hl : lv_has ls 7 [(0, .ref (b 0)), (1, .int p1)] := hl
  refine lv_aload_n hx hb dX12_replay_0 rfl (lv_at hl 0 rfl) ?_
  refine lv_iload_n hx hb dX12_replay_1 rfl (lv_at hl 1 rfl) ?_
  refine vp_callSi (va_Run.run (va_runV (As := [.int p1]) (rest := []) ⟨hx, hb, hml, hown, hts⟩ (c_X12_isTable l dC dI b c1 c2 c3 c4 fk hF p1) (cwV 1 hts g_X12_replay_X12_isTable rfl rfl rfl (by decide +kernel) ⟨Nat.le_of_ble_eq_true rfl, Nat.le_of_ble_eq_true rfl⟩) ⟨fun a U g mk q => by obtain ⟨q0, qP, qK⟩ := q; exact ⟨q0, qP, va_K.moved (u := U) (U := U.calling g mk a) (Vm.Alike.refl U.vm) qK⟩, va_recv hK hP (ci := 11) (q0 := 0) rfl rfl, fun U hU hW => ⟨rfl, by rw [hU]; exact hP, va_K.moved hW.alike hK⟩⟩ rfl rfl hl.1 rfl (lv_room (Nat.le_of_ble_eq_true rfl)) dX12_replay_2 ⟨Nat.zero_le _, Nat.zero_le _⟩)) (fun r_1 e_1 => ?_)
  subst e_1
  refine lv_if_ne (tgt := 11) hx hb dX12_replay_5 (by decide) (fun c_2 => ?_) (fun c_2 => ?_)
  · exact absurd c_2 (by decide +kernel)
  · skip
    refine lv_bipush (v := (-2)) hx hb dX12_replay_8 (by decide) ?_
    exact W.iret (v := (-2)) hx hb hr (fun t ht hW => ⟨(-2), rfl, rfl, ht⟩) (fun q h => by cases h) dX12_replay_10
def vsX12_digest : List Cond := .code yX12_digest cX12_digest 6 (some .int) :: ([] ++ (wsV RX12 107 RX12 yX12_isTable vsX12_isTable ++ []))
set_option maxRecDepth 100000 in
theorem gl_X12_digest : GoodIn lw_tbl vsX12_digest := gi_t 1479 rfl rfl (goodIn_app gi_nil (goodIn_app gv_RX12_107 gi_nil))
theorem g_X12_digest_X12_isTable : GoodIn vsX12_digest (wsV RX12 107 RX12 yX12_isTable vsX12_isTable) := fun w h => ⟨List.mem_cons_of_mem _ (List.mem_append_right _ (List.mem_append_left _ h)), (gv_RX12_107 w h).2⟩
set_option maxHeartbeats 4000000 in
set_option maxRecDepth 100000 in
theorem c_X12_digest (l : Launch) (dC : Nat → ClassId) (dI : Nat → Nat → Nat) (b : Nat → Nat) (c1 c2 c3 c4 : ClassId) (fk : Nat → Int32) (hF : ∀ j, j < 6 → fk j = -1) (p1 : Int32) : Met l yX12_digest vsX12_digest ({ frames := 2, cells := 0, slots := 0, locals := 43 }) (va_Pc [.ref (b 0), .int p1] (fun U => va_P (dC, dI) vwCl (wM b c1 c2 c3 c4 fk) U.heap ∧ va_K (dC, dI) vwCl (tM c1 c2 c3 c4) U)) (vp_Si (fun r => r = -2)) 0 0 (fun _ => False) := by
  refine Met.ofW (cc := cX12_digest) (maxL := 6) (ret := (some .int)) (by decide) rfl ?_
  intro p e s m args below meth c s₁ B hml hv
  obtain ⟨rfl, hP, hK⟩ := hv
  have hx := B.exec
  have hb := B.bytes
  have hr := B.returns
  have hts := atoms_spec (ws := vsX12_digest) B.pre
  have hown : s.vm.findClass RX12 = some m.cls := findClass_of_methodNamed B.named
  have hlocks := B.notSynchronized
  have hl := lv_entry ([.ref (b 0), .int p1]) (n := 6) (Nat.le_of_ble_eq_true rfl)
  rw [lg_entry_eq]
  generalize (lg_sl ([.ref (b 0), .int p1]) ++ List.replicate (6 - (lg_sl ([.ref (b 0), .int p1])).length) Slot.unset).toArray = ls at hl ⊢
  have hl : lv_has ls 6 [(0, .ref (b 0)), (1, .int p1)] := hl
  refine lv_aload_n hx hb dX12_digest_0 rfl (lv_at hl 0 rfl) ?_
  refine lv_iload_n hx hb dX12_digest_1 rfl (lv_at hl 1 rfl) ?_
  refine vp_callSi (va_Run.run (va_runV (As := [.int p1]) (rest := []) ⟨hx, hb, hml, hown, hts⟩ (c_X12_isTable l dC dI b c1 c2 c3 c4 fk hF p1) (cwV 1 hts g_X12_digest_X12_isTable rfl rfl rfl (by decide +kernel) ⟨Nat.le_of_ble_eq_true rfl, Nat.le_of_ble_eq_true rfl⟩) ⟨fun a U g mk q => by obtain ⟨q0, qP, qK⟩ := q; exact ⟨q0, qP, va_K.moved (u := U) (U := U.calling g mk a) (Vm.Alike.refl U.vm) qK⟩, va_recv hK hP (ci := 11) (q0 := 0) rfl rfl, fun U hU hW => ⟨rfl, by rw [hU]; exact hP, va_K.moved hW.alike hK⟩⟩ rfl rfl hl.1 rfl (lv_room (Nat.le_of_ble_eq_true rfl)) dX12_digest_2 ⟨Nat.zero_le _, Nat.zero_le _⟩)) (fun r_1 e_1 => ?_)
  subst e_1
  refine lv_if_ne (tgt := 11) hx hb dX12_digest_5 (by decide) (fun c_2 => ?_) (fun c_2 => ?_)
  · exact absurd c_2 (by decide +kernel)
  · skip
    refine lv_bipush (v := (-2)) hx hb dX12_digest_8 (by decide) ?_
    exact W.iret (v := (-2)) hx hb hr (fun t ht hW => ⟨(-2), rfl, rfl, ht⟩) (fun q h => by cases h) dX12_digest_10
def vsX12_status : List Cond := .code yX12_status cX12_status 4 (some .int) :: ([] ++ (wsV RX12 107 RX12 yX12_isTable vsX12_isTable ++ []))
set_option maxRecDepth 100000 in
theorem gl_X12_status : GoodIn lw_tbl vsX12_status := gi_t 1499 rfl rfl (goodIn_app gi_nil (goodIn_app gv_RX12_107 gi_nil))
theorem g_X12_status_X12_isTable : GoodIn vsX12_status (wsV RX12 107 RX12 yX12_isTable vsX12_isTable) := fun w h => ⟨List.mem_cons_of_mem _ (List.mem_append_right _ (List.mem_append_left _ h)), (gv_RX12_107 w h).2⟩
set_option maxHeartbeats 4000000 in
set_option maxRecDepth 100000 in
theorem c_X12_status (l : Launch) (dC : Nat → ClassId) (dI : Nat → Nat → Nat) (b : Nat → Nat) (c1 c2 c3 c4 : ClassId) (fk : Nat → Int32) (hF : ∀ j, j < 6 → fk j = -1) (p1 : Int32) (p2 : Int32) : Met l yX12_status vsX12_status ({ frames := 2, cells := 0, slots := 0, locals := 43 }) (va_Pc [.ref (b 0), .int p1, .int p2] (fun U => va_P (dC, dI) vwCl (wM b c1 c2 c3 c4 fk) U.heap ∧ va_K (dC, dI) vwCl (tM c1 c2 c3 c4) U)) (vp_Si (fun r => r = -2)) 0 0 (fun _ => False) := by
  refine Met.ofW (cc := cX12_status) (maxL := 4) (ret := (some .int)) (by decide) rfl ?_
  intro p e s m args below meth c s₁ B hml hv
  obtain ⟨rfl, hP, hK⟩ := hv
  have hx := B.exec
  have hb := B.bytes
  have hr := B.returns
  have hts := atoms_spec (ws := vsX12_status) B.pre
  have hown : s.vm.findClass RX12 = some m.cls := findClass_of_methodNamed B.named
  have hlocks := B.notSynchronized
  have hl := lv_entry ([.ref (b 0), .int p1, .int p2]) (n := 4) (Nat.le_of_ble_eq_true rfl)
  rw [lg_entry_eq]
  generalize (lg_sl ([.ref (b 0), .int p1, .int p2]) ++ List.replicate (4 - (lg_sl ([.ref (b 0), .int p1, .int p2])).length) Slot.unset).toArray = ls at hl ⊢
  have hl : lv_has ls 4 [(0, .ref (b 0)), (1, .int p1), (2, .int p2)] := hl
  refine lv_aload_n hx hb dX12_status_0 rfl (lv_at hl 0 rfl) ?_
  refine lv_iload_n hx hb dX12_status_1 rfl (lv_at hl 1 rfl) ?_
  refine vp_callSi (va_Run.run (va_runV (As := [.int p1]) (rest := []) ⟨hx, hb, hml, hown, hts⟩ (c_X12_isTable l dC dI b c1 c2 c3 c4 fk hF p1) (cwV 1 hts g_X12_status_X12_isTable rfl rfl rfl (by decide +kernel) ⟨Nat.le_of_ble_eq_true rfl, Nat.le_of_ble_eq_true rfl⟩) ⟨fun a U g mk q => by obtain ⟨q0, qP, qK⟩ := q; exact ⟨q0, qP, va_K.moved (u := U) (U := U.calling g mk a) (Vm.Alike.refl U.vm) qK⟩, va_recv hK hP (ci := 11) (q0 := 0) rfl rfl, fun U hU hW => ⟨rfl, by rw [hU]; exact hP, va_K.moved hW.alike hK⟩⟩ rfl rfl hl.1 rfl (lv_room (Nat.le_of_ble_eq_true rfl)) dX12_status_2 ⟨Nat.zero_le _, Nat.zero_le _⟩)) (fun r_1 e_1 => ?_)
  subst e_1
  refine lv_if_ne (tgt := 11) hx hb dX12_status_5 (by decide) (fun c_2 => ?_) (fun c_2 => ?_)
  · exact absurd c_2 (by decide +kernel)
  · skip
    refine lv_bipush (v := (-2)) hx hb dX12_status_8 (by decide) ?_
    exact W.iret (v := (-2)) hx hb hr (fun t ht hW => ⟨(-2), rfl, rfl, ht⟩) (fun q h => by cases h) dX12_status_10
def vsX12_kindOf : List Cond := .code yX12_kindOf cX12_kindOf 2 (some .int) :: ([] ++ (wsV RX12 99 RX12 yX12_isGame vsX12_isGame ++ []))
set_option maxRecDepth 100000 in
theorem gl_X12_kindOf : GoodIn lw_tbl vsX12_kindOf := gi_t 1141 rfl rfl (goodIn_app gi_nil (goodIn_app gv_RX12_99 gi_nil))
theorem g_X12_kindOf_X12_isGame : GoodIn vsX12_kindOf (wsV RX12 99 RX12 yX12_isGame vsX12_isGame) := fun w h => ⟨List.mem_cons_of_mem _ (List.mem_append_right _ (List.mem_append_left _ h)), (gv_RX12_99 w h).2⟩
set_option maxHeartbeats 4000000 in
set_option maxRecDepth 100000 in
theorem c_X12_kindOf (l : Launch) (dC : Nat → ClassId) (dI : Nat → Nat → Nat) (b : Nat → Nat) (c1 c2 c3 c4 : ClassId) (fk : Nat → Int32) (hF : ∀ j, j < 6 → fk j = -1) (p1 : Int32) : Met l yX12_kindOf vsX12_kindOf ({ frames := 2, cells := 0, slots := 0, locals := 43 }) (va_Pc [.ref (b 0), .int p1] (fun U => va_P (dC, dI) vwCl (wM b c1 c2 c3 c4 fk) U.heap ∧ va_K (dC, dI) vwCl (tM c1 c2 c3 c4) U)) (vp_Si (fun r => r = -2)) 0 0 (fun _ => False) := by
  refine Met.ofW (cc := cX12_kindOf) (maxL := 2) (ret := (some .int)) (by decide) rfl ?_
  intro p e s m args below meth c s₁ B hml hv
  obtain ⟨rfl, hP, hK⟩ := hv
  have hx := B.exec
  have hb := B.bytes
  have hr := B.returns
  have hts := atoms_spec (ws := vsX12_kindOf) B.pre
  have hown : s.vm.findClass RX12 = some m.cls := findClass_of_methodNamed B.named
  have hlocks := B.notSynchronized
  have hl := lv_entry ([.ref (b 0), .int p1]) (n := 2) (Nat.le_of_ble_eq_true rfl)
  rw [lg_entry_eq]
  generalize (lg_sl ([.ref (b 0), .int p1]) ++ List.replicate (2 - (lg_sl ([.ref (b 0), .int p1])).length) Slot.unset).toArray = ls at hl ⊢
  have hl : lv_has ls 2 [(0, .ref (b 0)), (1, .int p1)] := hl
  refine lv_aload_n hx hb dX12_kindOf_0 rfl (lv_at hl 0 rfl) ?_
  refine lv_iload_n hx hb dX12_kindOf_1 rfl (lv_at hl 1 rfl) ?_
  refine vp_callSi (va_Run.run (va_runV (As := [.int p1]) (rest := []) ⟨hx, hb, hml, hown, hts⟩ (c_X12_isGame l dC dI b c1 c2 c3 c4 fk hF p1) (cwV 1 hts g_X12_kindOf_X12_isGame rfl rfl rfl (by decide +kernel) ⟨Nat.le_of_ble_eq_true rfl, Nat.le_of_ble_eq_true rfl⟩) ⟨fun a U g mk q => by obtain ⟨q0, qP, qK⟩ := q; exact ⟨q0, qP, va_K.moved (u := U) (U := U.calling g mk a) (Vm.Alike.refl U.vm) qK⟩, va_recv hK hP (ci := 11) (q0 := 0) rfl rfl, fun U hU hW => ⟨rfl, by rw [hU]; exact hP, va_K.moved hW.alike hK⟩⟩ rfl rfl hl.1 rfl (lv_room (Nat.le_of_ble_eq_true rfl)) dX12_kindOf_2 ⟨Nat.zero_le _, Nat.zero_le _⟩)) (fun r_1 e_1 => ?_)
  subst e_1
  refine lv_if_eq (tgt := 17) hx hb dX12_kindOf_5 (by decide) (fun c_2 => ?_) (fun c_2 => ?_)
  · skip
    refine lv_bipush (v := (-2)) hx hb dX12_kindOf_17 (by decide) ?_
    exact W.iret (v := (-2)) hx hb hr (fun t ht hW => ⟨(-2), rfl, rfl, ht⟩) (fun q h => by cases h) dX12_kindOf_19
  · exact absurd c_2 (by decide +kernel)
