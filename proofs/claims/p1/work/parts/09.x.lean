set_option maxRecDepth 100000 in
theorem gv_RX11_61 : GoodIn lw_tbl (wsV RX11 61 RX11 yX11_gameAt vsX11_gameAt) := (gi_t 332 (by decide +kernel) rfl (gi_t 334 (by decide +kernel) rfl (gi_s 0 (by decide +kernel) rfl (gi_t 1 (by decide +kernel) rfl gl_X11_gameAt))))
def vsX11_table : List Cond := .code yX11_table cX11_table 5 (some .int) :: ([] ++ (wsV RX11 61 RX11 yX11_gameAt vsX11_gameAt ++ []))
set_option maxRecDepth 100000 in
theorem gl_X11_table : GoodIn lw_tbl vsX11_table := gi_t 399 rfl rfl (goodIn_app gi_nil (goodIn_app gv_RX11_61 gi_nil))
theorem g_X11_table_X11_gameAt : GoodIn vsX11_table (wsV RX11 61 RX11 yX11_gameAt vsX11_gameAt) := fun w h => ⟨List.mem_cons_of_mem _ (List.mem_append_right _ (List.mem_append_left _ h)), (gv_RX11_61 w h).2⟩
set_option maxHeartbeats 4000000 in
set_option maxRecDepth 100000 in
theorem c_X11_table (l : Launch) (dC : Nat → ClassId) (dI : Nat → Nat → Nat) (a : Nat → Nat) (cG cT : ClassId) (ft : Nat → Option Nat) (TL : va_W) (hT : fr_T ft TL) (p1 : Int32) (p2 : Int32) (p3 : Int32) : Met l yX11_table vsX11_table ({ frames := 2, cells := 0, slots := 0, locals := 41 }) (va_Pc [.ref (a 0), .int p1, .int p2, .int p3] (fun U => va_P (dC, dI) vwCl (wX a cG cT ft TL) U.heap ∧ va_K (dC, dI) vwCl (tX cG cT) U)) (vp_Si (fun r => r = -2)) 0 0 (fun _ => False) := by
  refine Met.ofW (cc := cX11_table) (maxL := 5) (ret := (some .int)) (by decide) rfl ?_
  intro p e s m args below meth c s₁ B hml hv
  obtain ⟨rfl, hP, hK⟩ := hv
  have hx := B.exec
  have hb := B.bytes
  have hr := B.returns
  have hts := atoms_spec (ws := vsX11_table) B.pre
  have hown : s.vm.findClass RX11 = some m.cls := findClass_of_methodNamed B.named
  have hlocks := B.notSynchronized
  have hl := lv_entry ([.ref (a 0), .int p1, .int p2, .int p3]) (n := 5) (Nat.le_of_ble_eq_true rfl)
  rw [lg_entry_eq]
  generalize (lg_sl ([.ref (a 0), .int p1, .int p2, .int p3]) ++ List.replicate (5 - (lg_sl ([.ref (a 0), .int p1, .int p2, .int p3])).length) Slot.unset).toArray = ls at hl ⊢
  have hl : lv_has ls 5 [(0, .ref (a 0)), (1, .int p1), (2, .int p2), (3, .int p3)] := hl
  refine lv_aload_n hx hb dX11_table_0 rfl (lv_at hl 0 rfl) ?_
  refine lv_iload_n hx hb dX11_table_1 rfl (lv_at hl 3 rfl) ?_
  refine va_csq (va_Run.run (va_runV (As := [.int p3]) (rest := []) ⟨hx, hb, hml, hown, hts⟩ (c_X11_gameAt l dC dI a cG cT ft TL hT p3) (cwV 1 hts g_X11_table_X11_gameAt rfl rfl rfl (by decide +kernel) ⟨Nat.le_of_ble_eq_true rfl, Nat.le_of_ble_eq_true rfl⟩) ⟨fun a U g mk q => by obtain ⟨q0, qP, qK⟩ := q; exact ⟨q0, qP, va_K.moved (u := U) (U := U.calling g mk a) (Vm.Alike.refl U.vm) qK⟩, va_recv hK hP (ci := 10) (q0 := 0) rfl rfl, fun U hU hW => ⟨rfl, by rw [hU]; exact hP, va_K.moved hW.alike hK⟩⟩ rfl rfl hl.1 rfl (lv_room (Nat.le_of_ble_eq_true rfl)) dX11_table_2 ⟨Nat.zero_le _, Nat.zero_le _⟩)) (fun r_1 e_1 => ?_)
  subst e_1
  refine W.eq (g2 := F0 m 5 ls [.null]) rfl ?_
  refine lv_astoreN (lv' := [(4, .null), (0, .ref (a 0)), (1, .int p1), (2, .int p2), (3, .int p3)]) hx hb dX11_table_5 hl (by decide) rfl (fun ls hl => ?_)
  refine lv_iload_n hx hb dX11_table_7 rfl (lv_at hl 2 rfl) ?_
  refine lv_if_lt (tgt := 21) hx hb dX11_table_8 (by decide) (fun c_2 => ?_) (fun c_2 => ?_)
  · skip
    refine lv_bipush (v := (-2)) hx hb dX11_table_21 (by decide) ?_
    exact W.iret (v := (-2)) hx hb hr (fun t ht hW => ⟨(-2), rfl, rfl, ht⟩) (fun q h => by cases h) dX11_table_23
  · skip
    refine lv_iload_n hx hb dX11_table_11 rfl (lv_at hl 2 rfl) ?_
    refine lv_iconst (v := 4) hx hb dX11_table_12 (by decide) ?_
    refine lv_icmp_ge (tgt := 21) hx hb dX11_table_13 (by decide) (fun c_3 => ?_) (fun c_3 => ?_)
    · skip
      refine lv_bipush (v := (-2)) hx hb dX11_table_21 (by decide) ?_
      exact W.iret (v := (-2)) hx hb hr (fun t ht hW => ⟨(-2), rfl, rfl, ht⟩) (fun q h => by cases h) dX11_table_23
    · skip
      refine lv_aloadN hx hb dX11_table_16 (lv_at hl 0 rfl) ?_
      refine lv_ifnonnullN hx hb dX11_table_18 ?_
      refine lv_bipush (v := (-2)) hx hb dX11_table_21 (by decide) ?_
      exact W.iret (v := (-2)) hx hb hr (fun t ht hW => ⟨(-2), rfl, rfl, ht⟩) (fun q h => by cases h) dX11_table_23
def vsX11_seat : List Cond := .code yX11_seat cX11_seat 6 (some .int) :: ([] ++ (wsV RX11 83 RX11 yX11_tableAt vsX11_tableAt ++ []))
set_option maxRecDepth 100000 in
theorem gl_X11_seat : GoodIn lw_tbl vsX11_seat := gi_t 430 rfl rfl (goodIn_app gi_nil (goodIn_app gv_RX11_83 gi_nil))
theorem g_X11_seat_X11_tableAt : GoodIn vsX11_seat (wsV RX11 83 RX11 yX11_tableAt vsX11_tableAt) := fun w h => ⟨List.mem_cons_of_mem _ (List.mem_append_right _ (List.mem_append_left _ h)), (gv_RX11_83 w h).2⟩
set_option maxHeartbeats 4000000 in
set_option maxRecDepth 100000 in
theorem c_X11_seat (l : Launch) (dC : Nat → ClassId) (dI : Nat → Nat → Nat) (a : Nat → Nat) (cG cT : ClassId) (ft : Nat → Option Nat) (TL : va_W) (hT : fr_T ft TL) (p1 : Int32) (p2 : Int32) (p3 : Int32) : Met l yX11_seat vsX11_seat ({ frames := 1, cells := 0, slots := 0, locals := 22 }) (va_Pc [.ref (a 0), .int p1, .int p2, .int p3] (fun U => va_P (dC, dI) vwCl (wX a cG cT ft TL) U.heap ∧ va_K (dC, dI) vwCl (tX cG cT) U)) (vp_Si (fun r => r = -2)) 0 0 (fun _ => False) := by
  refine Met.ofW (cc := cX11_seat) (maxL := 6) (ret := (some .int)) (by decide) rfl ?_
  intro p e s m args below meth c s₁ B hml hv
  obtain ⟨rfl, hP, hK⟩ := hv
  have hx := B.exec
  have hb := B.bytes
  have hr := B.returns
  have hts := atoms_spec (ws := vsX11_seat) B.pre
  have hown : s.vm.findClass RX11 = some m.cls := findClass_of_methodNamed B.named
  have hlocks := B.notSynchronized
  have hl := lv_entry ([.ref (a 0), .int p1, .int p2, .int p3]) (n := 6) (Nat.le_of_ble_eq_true rfl)
  rw [lg_entry_eq]
  generalize (lg_sl ([.ref (a 0), .int p1, .int p2, .int p3]) ++ List.replicate (6 - (lg_sl ([.ref (a 0), .int p1, .int p2, .int p3])).length) Slot.unset).toArray = ls at hl ⊢
  have hl : lv_has ls 6 [(0, .ref (a 0)), (1, .int p1), (2, .int p2), (3, .int p3)] := hl
  refine lv_aload_n hx hb dX11_seat_0 rfl (lv_at hl 0 rfl) ?_
  refine lv_iload_n hx hb dX11_seat_1 rfl (lv_at hl 1 rfl) ?_
  refine va_csq (va_Run.run (va_runV (As := [.int p1]) (rest := []) ⟨hx, hb, hml, hown, hts⟩ (c_X11_tableAt l dC dI a cG cT ft TL hT p1) (cwV 1 hts g_X11_seat_X11_tableAt rfl rfl rfl (by decide +kernel) ⟨Nat.le_of_ble_eq_true rfl, Nat.le_of_ble_eq_true rfl⟩) ⟨fun a U g mk q => by obtain ⟨q0, qP, qK⟩ := q; exact ⟨q0, qP, va_K.moved (u := U) (U := U.calling g mk a) (Vm.Alike.refl U.vm) qK⟩, va_recv hK hP (ci := 10) (q0 := 0) rfl rfl, fun U hU hW => ⟨rfl, by rw [hU]; exact hP, va_K.moved hW.alike hK⟩⟩ rfl rfl hl.1 rfl (lv_room (Nat.le_of_ble_eq_true rfl)) dX11_seat_2 ⟨Nat.zero_le _, Nat.zero_le _⟩)) (fun r_1 e_1 => ?_)
  subst e_1
  refine W.eq (g2 := F0 m 5 ls [.null]) rfl ?_
  refine lv_astoreN (lv' := [(4, .null), (0, .ref (a 0)), (1, .int p1), (2, .int p2), (3, .int p3)]) hx hb dX11_seat_5 hl (by decide) rfl (fun ls hl => ?_)
  refine lv_aloadN hx hb dX11_seat_7 (lv_at hl 0 rfl) ?_
  refine lv_ifnullN (tgt := 19) hx hb dX11_seat_9 (by decide) ?_
  refine lv_bipush (v := (-2)) hx hb dX11_seat_19 (by decide) ?_
  exact W.iret (v := (-2)) hx hb hr (fun t ht hW => ⟨(-2), rfl, rfl, ht⟩) (fun q h => by cases h) dX11_seat_21
def vsX11_kind : List Cond := .code yX11_kind cX11_kind 6 (some .int) :: ([] ++ (wsV RX11 83 RX11 yX11_tableAt vsX11_tableAt ++ []))
set_option maxRecDepth 100000 in
theorem gl_X11_kind : GoodIn lw_tbl vsX11_kind := gi_t 461 rfl rfl (goodIn_app gi_nil (goodIn_app gv_RX11_83 gi_nil))
theorem g_X11_kind_X11_tableAt : GoodIn vsX11_kind (wsV RX11 83 RX11 yX11_tableAt vsX11_tableAt) := fun w h => ⟨List.mem_cons_of_mem _ (List.mem_append_right _ (List.mem_append_left _ h)), (gv_RX11_83 w h).2⟩
set_option maxHeartbeats 4000000 in
set_option maxRecDepth 100000 in
theorem c_X11_kind (l : Launch) (dC : Nat → ClassId) (dI : Nat → Nat → Nat) (a : Nat → Nat) (cG cT : ClassId) (ft : Nat → Option Nat) (TL : va_W) (hT : fr_T ft TL) (p1 : Int32) (p2 : Int32) (p3 : Int32) : Met l yX11_kind vsX11_kind ({ frames := 1, cells := 0, slots := 0, locals := 22 }) (va_Pc [.ref (a 0), .int p1, .int p2, .int p3] (fun U => va_P (dC, dI) vwCl (wX a cG cT ft TL) U.heap ∧ va_K (dC, dI) vwCl (tX cG cT) U)) (vp_Si (fun r => r = -2)) 0 0 (fun _ => False) := by
  refine Met.ofW (cc := cX11_kind) (maxL := 6) (ret := (some .int)) (by decide) rfl ?_
  intro p e s m args below meth c s₁ B hml hv
  obtain ⟨rfl, hP, hK⟩ := hv
  have hx := B.exec
  have hb := B.bytes
  have hr := B.returns
  have hts := atoms_spec (ws := vsX11_kind) B.pre
  have hown : s.vm.findClass RX11 = some m.cls := findClass_of_methodNamed B.named
  have hlocks := B.notSynchronized
  have hl := lv_entry ([.ref (a 0), .int p1, .int p2, .int p3]) (n := 6) (Nat.le_of_ble_eq_true rfl)
  rw [lg_entry_eq]
  generalize (lg_sl ([.ref (a 0), .int p1, .int p2, .int p3]) ++ List.replicate (6 - (lg_sl ([.ref (a 0), .int p1, .int p2, .int p3])).length) Slot.unset).toArray = ls at hl ⊢
  have hl : lv_has ls 6 [(0, .ref (a 0)), (1, .int p1), (2, .int p2), (3, .int p3)] := hl
  refine lv_aload_n hx hb dX11_kind_0 rfl (lv_at hl 0 rfl) ?_
  refine lv_iload_n hx hb dX11_kind_1 rfl (lv_at hl 1 rfl) ?_
  refine va_csq (va_Run.run (va_runV (As := [.int p1]) (rest := []) ⟨hx, hb, hml, hown, hts⟩ (c_X11_tableAt l dC dI a cG cT ft TL hT p1) (cwV 1 hts g_X11_kind_X11_tableAt rfl rfl rfl (by decide +kernel) ⟨Nat.le_of_ble_eq_true rfl, Nat.le_of_ble_eq_true rfl⟩) ⟨fun a U g mk q => by obtain ⟨q0, qP, qK⟩ := q; exact ⟨q0, qP, va_K.moved (u := U) (U := U.calling g mk a) (Vm.Alike.refl U.vm) qK⟩, va_recv hK hP (ci := 10) (q0 := 0) rfl rfl, fun U hU hW => ⟨rfl, by rw [hU]; exact hP, va_K.moved hW.alike hK⟩⟩ rfl rfl hl.1 rfl (lv_room (Nat.le_of_ble_eq_true rfl)) dX11_kind_2 ⟨Nat.zero_le _, Nat.zero_le _⟩)) (fun r_1 e_1 => ?_)
  subst e_1
  refine W.eq (g2 := F0 m 5 ls [.null]) rfl ?_
  refine lv_astoreN (lv' := [(4, .null), (0, .ref (a 0)), (1, .int p1), (2, .int p2), (3, .int p3)]) hx hb dX11_kind_5 hl (by decide) rfl (fun ls hl => ?_)
  refine lv_aloadN hx hb dX11_kind_7 (lv_at hl 0 rfl) ?_
  refine lv_ifnullN (tgt := 21) hx hb dX11_kind_9 (by decide) ?_
  refine lv_bipush (v := (-2)) hx hb dX11_kind_21 (by decide) ?_
  exact W.iret (v := (-2)) hx hb hr (fun t ht hW => ⟨(-2), rfl, rfl, ht⟩) (fun q h => by cases h) dX11_kind_23
def vsX11_card : List Cond := .code yX11_card cX11_card 4 (some .int) :: ([] ++ (wsV RX11 83 RX11 yX11_tableAt vsX11_tableAt ++ []))
set_option maxRecDepth 100000 in
theorem gl_X11_card : GoodIn lw_tbl vsX11_card := gi_t 470 rfl rfl (goodIn_app gi_nil (goodIn_app gv_RX11_83 gi_nil))
theorem g_X11_card_X11_tableAt : GoodIn vsX11_card (wsV RX11 83 RX11 yX11_tableAt vsX11_tableAt) := fun w h => ⟨List.mem_cons_of_mem _ (List.mem_append_right _ (List.mem_append_left _ h)), (gv_RX11_83 w h).2⟩
set_option maxHeartbeats 4000000 in
set_option maxRecDepth 100000 in
theorem c_X11_card (l : Launch) (dC : Nat → ClassId) (dI : Nat → Nat → Nat) (a : Nat → Nat) (cG cT : ClassId) (ft : Nat → Option Nat) (TL : va_W) (hT : fr_T ft TL) (p1 : Int32) (p2 : Int32) : Met l yX11_card vsX11_card ({ frames := 1, cells := 0, slots := 0, locals := 22 }) (va_Pc [.ref (a 0), .int p1, .int p2] (fun U => va_P (dC, dI) vwCl (wX a cG cT ft TL) U.heap ∧ va_K (dC, dI) vwCl (tX cG cT) U)) (vp_Si (fun r => r = -2)) 0 0 (fun _ => False) := by
  refine Met.ofW (cc := cX11_card) (maxL := 4) (ret := (some .int)) (by decide) rfl ?_
  intro p e s m args below meth c s₁ B hml hv
  obtain ⟨rfl, hP, hK⟩ := hv
  have hx := B.exec
  have hb := B.bytes
  have hr := B.returns
  have hts := atoms_spec (ws := vsX11_card) B.pre
  have hown : s.vm.findClass RX11 = some m.cls := findClass_of_methodNamed B.named
  have hlocks := B.notSynchronized
  have hl := lv_entry ([.ref (a 0), .int p1, .int p2]) (n := 4) (Nat.le_of_ble_eq_true rfl)
  rw [lg_entry_eq]
  generalize (lg_sl ([.ref (a 0), .int p1, .int p2]) ++ List.replicate (4 - (lg_sl ([.ref (a 0), .int p1, .int p2])).length) Slot.unset).toArray = ls at hl ⊢
  have hl : lv_has ls 4 [(0, .ref (a 0)), (1, .int p1), (2, .int p2)] := hl
  refine lv_aload_n hx hb dX11_card_0 rfl (lv_at hl 0 rfl) ?_
  refine lv_iload_n hx hb dX11_card_1 rfl (lv_at hl 1 rfl) ?_
  refine va_csq (va_Run.run (va_runV (As := [.int p1]) (rest := []) ⟨hx, hb, hml, hown, hts⟩ (c_X11_tableAt l dC dI a cG cT ft TL hT p1) (cwV 1 hts g_X11_card_X11_tableAt rfl rfl rfl (by decide +kernel) ⟨Nat.le_of_ble_eq_true rfl, Nat.le_of_ble_eq_true rfl⟩) ⟨fun a U g mk q => by obtain ⟨q0, qP, qK⟩ := q; exact ⟨q0, qP, va_K.moved (u := U) (U := U.calling g mk a) (Vm.Alike.refl U.vm) qK⟩, va_recv hK hP (ci := 10) (q0 := 0) rfl rfl, fun U hU hW => ⟨rfl, by rw [hU]; exact hP, va_K.moved hW.alike hK⟩⟩ rfl rfl hl.1 rfl (lv_room (Nat.le_of_ble_eq_true rfl)) dX11_card_2 ⟨Nat.zero_le _, Nat.zero_le _⟩)) (fun r_1 e_1 => ?_)
  subst e_1
  refine W.eq (g2 := F0 m 5 ls [.null]) rfl ?_
  refine lv_astore_nN (lv' := [(3, .null), (0, .ref (a 0)), (1, .int p1), (2, .int p2)]) hx hb dX11_card_5 rfl hl (by decide) rfl (fun ls hl => ?_)
  refine lv_aload_nN hx hb dX11_card_6 rfl (lv_at hl 0 rfl) ?_
  refine lv_ifnullN (tgt := 18) hx hb dX11_card_7 (by decide) ?_
  refine lv_bipush (v := (-2)) hx hb dX11_card_18 (by decide) ?_
  refine lv_goto (tgt := 29) hx hb dX11_card_20 (by decide) ?_
  exact W.iret (v := (-2)) hx hb hr (fun t ht hW => ⟨(-2), rfl, rfl, ht⟩) (fun q h => by cases h) dX11_card_29
def vsX11_match : List Cond := .code yX11_match cX11_match 5 (some .int) :: ([] ++ (wsV RX11 83 RX11 yX11_tableAt vsX11_tableAt ++ []))
set_option maxRecDepth 100000 in
theorem gl_X11_match : GoodIn lw_tbl vsX11_match := gi_t 474 rfl rfl (goodIn_app gi_nil (goodIn_app gv_RX11_83 gi_nil))
theorem g_X11_match_X11_tableAt : GoodIn vsX11_match (wsV RX11 83 RX11 yX11_tableAt vsX11_tableAt) := fun w h => ⟨List.mem_cons_of_mem _ (List.mem_append_right _ (List.mem_append_left _ h)), (gv_RX11_83 w h).2⟩
set_option maxHeartbeats 4000000 in
set_option maxRecDepth 100000 in
theorem c_X11_match (l : Launch) (dC : Nat → ClassId) (dI : Nat → Nat → Nat) (a : Nat → Nat) (cG cT : ClassId) (ft : Nat → Option Nat) (TL : va_W) (hT : fr_T ft TL) (p1 : Int32) (p2 : Int32) : Met l yX11_match vsX11_match ({ frames := 1, cells := 0, slots := 0, locals := 22 }) (va_Pc [.ref (a 0), .int p1, .int p2] (fun U => va_P (dC, dI) vwCl (wX a cG cT ft TL) U.heap ∧ va_K (dC, dI) vwCl (tX cG cT) U)) (vp_Si (fun r => r = -2)) 0 0 (fun _ => False) := by
  refine Met.ofW (cc := cX11_match) (maxL := 5) (ret := (some .int)) (by decide) rfl ?_
  intro p e s m args below meth c s₁ B hml hv
  obtain ⟨rfl, hP, hK⟩ := hv
  have hx := B.exec
  have hb := B.bytes
  have hr := B.returns
  have hts := atoms_spec (ws := vsX11_match) B.pre
  have hown : s.vm.findClass RX11 = some m.cls := findClass_of_methodNamed B.named
  have hlocks := B.notSynchronized
  have hl := lv_entry ([.ref (a 0), .int p1, .int p2]) (n := 5) (Nat.le_of_ble_eq_true rfl)
  rw [lg_entry_eq]
  generalize (lg_sl ([.ref (a 0), .int p1, .int p2]) ++ List.replicate (5 - (lg_sl ([.ref (a 0), .int p1, .int p2])).length) Slot.unset).toArray = ls at hl ⊢
  have hl : lv_has ls 5 [(0, .ref (a 0)), (1, .int p1), (2, .int p2)] := hl
  refine lv_aload_n hx hb dX11_match_0 rfl (lv_at hl 0 rfl) ?_
  refine lv_iload_n hx hb dX11_match_1 rfl (lv_at hl 1 rfl) ?_
  refine va_csq (va_Run.run (va_runV (As := [.int p1]) (rest := []) ⟨hx, hb, hml, hown, hts⟩ (c_X11_tableAt l dC dI a cG cT ft TL hT p1) (cwV 1 hts g_X11_match_X11_tableAt rfl rfl rfl (by decide +kernel) ⟨Nat.le_of_ble_eq_true rfl, Nat.le_of_ble_eq_true rfl⟩) ⟨fun a U g mk q => by obtain ⟨q0, qP, qK⟩ := q; exact ⟨q0, qP, va_K.moved (u := U) (U := U.calling g mk a) (Vm.Alike.refl U.vm) qK⟩, va_recv hK hP (ci := 10) (q0 := 0) rfl rfl, fun U hU hW => ⟨rfl, by rw [hU]; exact hP, va_K.moved hW.alike hK⟩⟩ rfl rfl hl.1 rfl (lv_room (Nat.le_of_ble_eq_true rfl)) dX11_match_2 ⟨Nat.zero_le _, Nat.zero_le _⟩)) (fun r_1 e_1 => ?_)
  subst e_1
  refine W.eq (g2 := F0 m 5 ls [.null]) rfl ?_
  refine lv_astore_nN (lv' := [(3, .null), (0, .ref (a 0)), (1, .int p1), (2, .int p2)]) hx hb dX11_match_5 rfl hl (by decide) rfl (fun ls hl => ?_)
  refine lv_aload_nN hx hb dX11_match_6 rfl (lv_at hl 0 rfl) ?_
  refine lv_ifnonnullN hx hb dX11_match_7 ?_
  refine lv_bipush (v := (-2)) hx hb dX11_match_10 (by decide) ?_
  exact W.iret (v := (-2)) hx hb hr (fun t ht hW => ⟨(-2), rfl, rfl, ht⟩) (fun q h => by cases h) dX11_match_12
def vsX11_deal : List Cond := .code yX11_deal cX11_deal 6 (some .int) :: ([] ++ (wsV RX11 83 RX11 yX11_tableAt vsX11_tableAt ++ []))
set_option maxRecDepth 100000 in
theorem gl_X11_deal : GoodIn lw_tbl vsX11_deal := gi_t 479 rfl rfl (goodIn_app gi_nil (goodIn_app gv_RX11_83 gi_nil))
theorem g_X11_deal_X11_tableAt : GoodIn vsX11_deal (wsV RX11 83 RX11 yX11_tableAt vsX11_tableAt) := fun w h => ⟨List.mem_cons_of_mem _ (List.mem_append_right _ (List.mem_append_left _ h)), (gv_RX11_83 w h).2⟩
set_option maxHeartbeats 4000000 in
set_option maxRecDepth 100000 in
theorem c_X11_deal (l : Launch) (dC : Nat → ClassId) (dI : Nat → Nat → Nat) (a : Nat → Nat) (cG cT : ClassId) (ft : Nat → Option Nat) (TL : va_W) (hT : fr_T ft TL) (p1 : Int32) (p2 : Int32) (p3 : Int32) : Met l yX11_deal vsX11_deal ({ frames := 1, cells := 0, slots := 0, locals := 22 }) (va_Pc [.ref (a 0), .int p1, .int p2, .int p3] (fun U => va_P (dC, dI) vwCl (wX a cG cT ft TL) U.heap ∧ va_K (dC, dI) vwCl (tX cG cT) U)) (vp_Si (fun r => r = -2)) 0 0 (fun _ => False) := by
  refine Met.ofW (cc := cX11_deal) (maxL := 6) (ret := (some .int)) (by decide) rfl ?_
  intro p e s m args below meth c s₁ B hml hv
  obtain ⟨rfl, hP, hK⟩ := hv
  have hx := B.exec
  have hb := B.bytes
  have hr := B.returns
  have hts := atoms_spec (ws := vsX11_deal) B.pre
  have hown : s.vm.findClass RX11 = some m.cls := findClass_of_methodNamed B.named
  have hlocks := B.notSynchronized
  have hl := lv_entry ([.ref (a 0), .int p1, .int p2, .int p3]) (n := 6) (Nat.le_of_ble_eq_true rfl)
  rw [lg_entry_eq]
  generalize (lg_sl ([.ref (a 0), .int p1, .int p2, .int p3]) ++ List.replicate (6 - (lg_sl ([.ref (a 0), .int p1, .int p2, .int p3])).length) Slot.unset).toArray = ls at hl ⊢
  have hl : lv_has ls 6 [(0, .ref (a 0)), (1, .int p1), (2, .int p2), (3, .int p3)] := hl
  refine lv_aload_n hx hb dX11_deal_0 rfl (lv_at hl 0 rfl) ?_
  refine lv_iload_n hx hb dX11_deal_1 rfl (lv_at hl 1 rfl) ?_
  refine va_csq (va_Run.run (va_runV (As := [.int p1]) (rest := []) ⟨hx, hb, hml, hown, hts⟩ (c_X11_tableAt l dC dI a cG cT ft TL hT p1) (cwV 1 hts g_X11_deal_X11_tableAt rfl rfl rfl (by decide +kernel) ⟨Nat.le_of_ble_eq_true rfl, Nat.le_of_ble_eq_true rfl⟩) ⟨fun a U g mk q => by obtain ⟨q0, qP, qK⟩ := q; exact ⟨q0, qP, va_K.moved (u := U) (U := U.calling g mk a) (Vm.Alike.refl U.vm) qK⟩, va_recv hK hP (ci := 10) (q0 := 0) rfl rfl, fun U hU hW => ⟨rfl, by rw [hU]; exact hP, va_K.moved hW.alike hK⟩⟩ rfl rfl hl.1 rfl (lv_room (Nat.le_of_ble_eq_true rfl)) dX11_deal_2 ⟨Nat.zero_le _, Nat.zero_le _⟩)) (fun r_1 e_1 => ?_)
  subst e_1
  refine W.eq (g2 := F0 m 5 ls [.null]) rfl ?_
  refine lv_astoreN (lv' := [(4, .null), (0, .ref (a 0)), (1, .int p1), (2, .int p2), (3, .int p3)]) hx hb dX11_deal_5 hl (by decide) rfl (fun ls hl => ?_)
  refine lv_aloadN hx hb dX11_deal_7 (lv_at hl 0 rfl) ?_
  refine lv_ifnonnullN hx hb dX11_deal_9 ?_
  refine lv_bipush (v := (-2)) hx hb dX11_deal_12 (by decide) ?_
  exact W.iret (v := (-2)) hx hb hr (fun t ht hW => ⟨(-2), rfl, rfl, ht⟩) (fun q h => by cases h) dX11_deal_14
def vsX11_give : List Cond := .code yX11_give cX11_give 6 (some .int) :: ([] ++ (wsV RX11 83 RX11 yX11_tableAt vsX11_tableAt ++ []))
set_option maxRecDepth 100000 in
theorem gl_X11_give : GoodIn lw_tbl vsX11_give := gi_t 567 rfl rfl (goodIn_app gi_nil (goodIn_app gv_RX11_83 gi_nil))
theorem g_X11_give_X11_tableAt : GoodIn vsX11_give (wsV RX11 83 RX11 yX11_tableAt vsX11_tableAt) := fun w h => ⟨List.mem_cons_of_mem _ (List.mem_append_right _ (List.mem_append_left _ h)), (gv_RX11_83 w h).2⟩
set_option maxHeartbeats 4000000 in
set_option maxRecDepth 100000 in
theorem c_X11_give (l : Launch) (dC : Nat → ClassId) (dI : Nat → Nat → Nat) (a : Nat → Nat) (cG cT : ClassId) (ft : Nat → Option Nat) (TL : va_W) (hT : fr_T ft TL) (p1 : Int32) (p2 : Int32) (p3 : Int32) : Met l yX11_give vsX11_give ({ frames := 1, cells := 0, slots := 0, locals := 22 }) (va_Pc [.ref (a 0), .int p1, .int p2, .int p3] (fun U => va_P (dC, dI) vwCl (wX a cG cT ft TL) U.heap ∧ va_K (dC, dI) vwCl (tX cG cT) U)) (vp_Si (fun r => r = -2)) 0 0 (fun _ => False) := by
  refine Met.ofW (cc := cX11_give) (maxL := 6) (ret := (some .int)) (by decide) rfl ?_
  intro p e s m args below meth c s₁ B hml hv
  obtain ⟨rfl, hP, hK⟩ := hv
  have hx := B.exec
  have hb := B.bytes
  have hr := B.returns
  have hts := atoms_spec (ws := vsX11_give) B.pre
  have hown : s.vm.findClass RX11 = some m.cls := findClass_of_methodNamed B.named
  have hlocks := B.notSynchronized
  have hl := lv_entry ([.ref (a 0), .int p1, .int p2, .int p3]) (n := 6) (Nat.le_of_ble_eq_true rfl)
  rw [lg_entry_eq]
  generalize (lg_sl ([.ref (a 0), .int p1, .int p2, .int p3]) ++ List.replicate (6 - (lg_sl ([.ref (a 0), .int p1, .int p2, .int p3])).length) Slot.unset).toArray = ls at hl ⊢
  have hl : lv_has ls 6 [(0, .ref (a 0)), (1, .int p1), (2, .int p2), (3, .int p3)] := hl
  refine lv_aload_n hx hb dX11_give_0 rfl (lv_at hl 0 rfl) ?_
  refine lv_iload_n hx hb dX11_give_1 rfl (lv_at hl 1 rfl) ?_
  refine va_csq (va_Run.run (va_runV (As := [.int p1]) (rest := []) ⟨hx, hb, hml, hown, hts⟩ (c_X11_tableAt l dC dI a cG cT ft TL hT p1) (cwV 1 hts g_X11_give_X11_tableAt rfl rfl rfl (by decide +kernel) ⟨Nat.le_of_ble_eq_true rfl, Nat.le_of_ble_eq_true rfl⟩) ⟨fun a U g mk q => by obtain ⟨q0, qP, qK⟩ := q; exact ⟨q0, qP, va_K.moved (u := U) (U := U.calling g mk a) (Vm.Alike.refl U.vm) qK⟩, va_recv hK hP (ci := 10) (q0 := 0) rfl rfl, fun U hU hW => ⟨rfl, by rw [hU]; exact hP, va_K.moved hW.alike hK⟩⟩ rfl rfl hl.1 rfl (lv_room (Nat.le_of_ble_eq_true rfl)) dX11_give_2 ⟨Nat.zero_le _, Nat.zero_le _⟩)) (fun r_1 e_1 => ?_)
  subst e_1
  refine W.eq (g2 := F0 m 5 ls [.null]) rfl ?_
  refine lv_astoreN (lv' := [(4, .null), (0, .ref (a 0)), (1, .int p1), (2, .int p2), (3, .int p3)]) hx hb dX11_give_5 hl (by decide) rfl (fun ls hl => ?_)
  refine lv_aloadN hx hb dX11_give_7 (lv_at hl 0 rfl) ?_
  refine lv_ifnullN (tgt := 28) hx hb dX11_give_9 (by decide) ?_
  refine lv_bipush (v := (-2)) hx hb dX11_give_28 (by decide) ?_
  exact W.iret (v := (-2)) hx hb hr (fun t ht hW => ⟨(-2), rfl, rfl, ht⟩) (fun q h => by cases h) dX11_give_30
def vsX11_bid : List Cond := .code yX11_bid cX11_bid 7 (some .int) :: ([] ++ (wsV RX11 83 RX11 yX11_tableAt vsX11_tableAt ++ []))
set_option maxRecDepth 100000 in
theorem gl_X11_bid : GoodIn lw_tbl vsX11_bid := gi_t 595 rfl rfl (goodIn_app gi_nil (goodIn_app gv_RX11_83 gi_nil))
theorem g_X11_bid_X11_tableAt : GoodIn vsX11_bid (wsV RX11 83 RX11 yX11_tableAt vsX11_tableAt) := fun w h => ⟨List.mem_cons_of_mem _ (List.mem_append_right _ (List.mem_append_left _ h)), (gv_RX11_83 w h).2⟩
set_option maxHeartbeats 4000000 in
set_option maxRecDepth 100000 in
theorem c_X11_bid (l : Launch) (dC : Nat → ClassId) (dI : Nat → Nat → Nat) (a : Nat → Nat) (cG cT : ClassId) (ft : Nat → Option Nat) (TL : va_W) (hT : fr_T ft TL) (p1 : Int32) (p2 : Int32) (p3 : Int32) (p4 : Int32) : Met l yX11_bid vsX11_bid ({ frames := 1, cells := 0, slots := 0, locals := 22 }) (va_Pc [.ref (a 0), .int p1, .int p2, .int p3, .int p4] (fun U => va_P (dC, dI) vwCl (wX a cG cT ft TL) U.heap ∧ va_K (dC, dI) vwCl (tX cG cT) U)) (vp_Si (fun r => r = -2)) 0 0 (fun _ => False) := by
  refine Met.ofW (cc := cX11_bid) (maxL := 7) (ret := (some .int)) (by decide) rfl ?_
  intro p e s m args below meth c s₁ B hml hv
  obtain ⟨rfl, hP, hK⟩ := hv
  have hx := B.exec
  have hb := B.bytes
  have hr := B.returns
  have hts := atoms_spec (ws := vsX11_bid) B.pre
  have hown : s.vm.findClass RX11 = some m.cls := findClass_of_methodNamed B.named
  have hlocks := B.notSynchronized
  have hl := lv_entry ([.ref (a 0), .int p1, .int p2, .int p3, .int p4]) (n := 7) (Nat.le_of_ble_eq_true rfl)
  rw [lg_entry_eq]
  generalize (lg_sl ([.ref (a 0), .int p1, .int p2, .int p3, .int p4]) ++ List.replicate (7 - (lg_sl ([.ref (a 0), .int p1, .int p2, .int p3, .int p4])).length) Slot.unset).toArray = ls at hl ⊢
  have hl : lv_has ls 7 [(0, .ref (a 0)), (1, .int p1), (2, .int p2), (3, .int p3), (4, .int p4)] := hl
  refine lv_aload_n hx hb dX11_bid_0 rfl (lv_at hl 0 rfl) ?_
  refine lv_iload_n hx hb dX11_bid_1 rfl (lv_at hl 1 rfl) ?_
  refine va_csq (va_Run.run (va_runV (As := [.int p1]) (rest := []) ⟨hx, hb, hml, hown, hts⟩ (c_X11_tableAt l dC dI a cG cT ft TL hT p1) (cwV 1 hts g_X11_bid_X11_tableAt rfl rfl rfl (by decide +kernel) ⟨Nat.le_of_ble_eq_true rfl, Nat.le_of_ble_eq_true rfl⟩) ⟨fun a U g mk q => by obtain ⟨q0, qP, qK⟩ := q; exact ⟨q0, qP, va_K.moved (u := U) (U := U.calling g mk a) (Vm.Alike.refl U.vm) qK⟩, va_recv hK hP (ci := 10) (q0 := 0) rfl rfl, fun U hU hW => ⟨rfl, by rw [hU]; exact hP, va_K.moved hW.alike hK⟩⟩ rfl rfl hl.1 rfl (lv_room (Nat.le_of_ble_eq_true rfl)) dX11_bid_2 ⟨Nat.zero_le _, Nat.zero_le _⟩)) (fun r_1 e_1 => ?_)
  subst e_1
  refine W.eq (g2 := F0 m 5 ls [.null]) rfl ?_
  refine lv_astoreN (lv' := [(5, .null), (0, .ref (a 0)), (1, .int p1), (2, .int p2), (3, .int p3), (4, .int p4)]) hx hb dX11_bid_5 hl (by decide) rfl (fun ls hl => ?_)
  refine lv_aloadN hx hb dX11_bid_7 (lv_at hl 0 rfl) ?_
  refine lv_ifnullN (tgt := 19) hx hb dX11_bid_9 (by decide) ?_
  refine lv_bipush (v := (-2)) hx hb dX11_bid_19 (by decide) ?_
  exact W.iret (v := (-2)) hx hb hr (fun t ht hW => ⟨(-2), rfl, rfl, ht⟩) (fun q h => by cases h) dX11_bid_21
def vsX11_doubled : List Cond := .code yX11_doubled cX11_doubled 4 (some .int) :: ([] ++ (wsV RX11 83 RX11 yX11_tableAt vsX11_tableAt ++ []))
set_option maxRecDepth 100000 in
theorem gl_X11_doubled : GoodIn lw_tbl vsX11_doubled := gi_t 608 rfl rfl (goodIn_app gi_nil (goodIn_app gv_RX11_83 gi_nil))
theorem g_X11_doubled_X11_tableAt : GoodIn vsX11_doubled (wsV RX11 83 RX11 yX11_tableAt vsX11_tableAt) := fun w h => ⟨List.mem_cons_of_mem _ (List.mem_append_right _ (List.mem_append_left _ h)), (gv_RX11_83 w h).2⟩
set_option maxHeartbeats 4000000 in
set_option maxRecDepth 100000 in
theorem c_X11_doubled (l : Launch) (dC : Nat → ClassId) (dI : Nat → Nat → Nat) (a : Nat → Nat) (cG cT : ClassId) (ft : Nat → Option Nat) (TL : va_W) (hT : fr_T ft TL) (p1 : Int32) (p2 : Int32) : Met l yX11_doubled vsX11_doubled ({ frames := 1, cells := 0, slots := 0, locals := 22 }) (va_Pc [.ref (a 0), .int p1, .int p2] (fun U => va_P (dC, dI) vwCl (wX a cG cT ft TL) U.heap ∧ va_K (dC, dI) vwCl (tX cG cT) U)) (vp_Si (fun r => r = -2)) 0 0 (fun _ => False) := by
  refine Met.ofW (cc := cX11_doubled) (maxL := 4) (ret := (some .int)) (by decide) rfl ?_
  intro p e s m args below meth c s₁ B hml hv
  obtain ⟨rfl, hP, hK⟩ := hv
  have hx := B.exec
  have hb := B.bytes
  have hr := B.returns
  have hts := atoms_spec (ws := vsX11_doubled) B.pre
  have hown : s.vm.findClass RX11 = some m.cls := findClass_of_methodNamed B.named
  have hlocks := B.notSynchronized
  have hl := lv_entry ([.ref (a 0), .int p1, .int p2]) (n := 4) (Nat.le_of_ble_eq_true rfl)
  rw [lg_entry_eq]
  generalize (lg_sl ([.ref (a 0), .int p1, .int p2]) ++ List.replicate (4 - (lg_sl ([.ref (a 0), .int p1, .int p2])).length) Slot.unset).toArray = ls at hl ⊢
  have hl : lv_has ls 4 [(0, .ref (a 0)), (1, .int p1), (2, .int p2)] := hl
  refine lv_aload_n hx hb dX11_doubled_0 rfl (lv_at hl 0 rfl) ?_
  refine lv_iload_n hx hb dX11_doubled_1 rfl (lv_at hl 1 rfl) ?_
  refine va_csq (va_Run.run (va_runV (As := [.int p1]) (rest := []) ⟨hx, hb, hml, hown, hts⟩ (c_X11_tableAt l dC dI a cG cT ft TL hT p1) (cwV 1 hts g_X11_doubled_X11_tableAt rfl rfl rfl (by decide +kernel) ⟨Nat.le_of_ble_eq_true rfl, Nat.le_of_ble_eq_true rfl⟩) ⟨fun a U g mk q => by obtain ⟨q0, qP, qK⟩ := q; exact ⟨q0, qP, va_K.moved (u := U) (U := U.calling g mk a) (Vm.Alike.refl U.vm) qK⟩, va_recv hK hP (ci := 10) (q0 := 0) rfl rfl, fun U hU hW => ⟨rfl, by rw [hU]; exact hP, va_K.moved hW.alike hK⟩⟩ rfl rfl hl.1 rfl (lv_room (Nat.le_of_ble_eq_true rfl)) dX11_doubled_2 ⟨Nat.zero_le _, Nat.zero_le _⟩)) (fun r_1 e_1 => ?_)
  subst e_1
  refine W.eq (g2 := F0 m 5 ls [.null]) rfl ?_
  refine lv_astore_nN (lv' := [(3, .null), (0, .ref (a 0)), (1, .int p1), (2, .int p2)]) hx hb dX11_doubled_5 rfl hl (by decide) rfl (fun ls hl => ?_)
  refine lv_aload_nN hx hb dX11_doubled_6 rfl (lv_at hl 0 rfl) ?_
  refine lv_ifnullN (tgt := 17) hx hb dX11_doubled_7 (by decide) ?_
  refine lv_bipush (v := (-2)) hx hb dX11_doubled_17 (by decide) ?_
  exact W.iret (v := (-2)) hx hb hr (fun t ht hW => ⟨(-2), rfl, rfl, ht⟩) (fun q h => by cases h) dX11_doubled_19
def vsX11_lay : List Cond := .code yX11_lay cX11_lay 5 (some .int) :: ([] ++ (wsV RX11 83 RX11 yX11_tableAt vsX11_tableAt ++ []))
set_option maxRecDepth 100000 in
theorem gl_X11_lay : GoodIn lw_tbl vsX11_lay := gi_t 616 rfl rfl (goodIn_app gi_nil (goodIn_app gv_RX11_83 gi_nil))
theorem g_X11_lay_X11_tableAt : GoodIn vsX11_lay (wsV RX11 83 RX11 yX11_tableAt vsX11_tableAt) := fun w h => ⟨List.mem_cons_of_mem _ (List.mem_append_right _ (List.mem_append_left _ h)), (gv_RX11_83 w h).2⟩
set_option maxHeartbeats 4000000 in
set_option maxRecDepth 100000 in
theorem c_X11_lay (l : Launch) (dC : Nat → ClassId) (dI : Nat → Nat → Nat) (a : Nat → Nat) (cG cT : ClassId) (ft : Nat → Option Nat) (TL : va_W) (hT : fr_T ft TL) (p1 : Int32) (p2 : Int32) (p3 : Int32) : Met l yX11_lay vsX11_lay ({ frames := 1, cells := 0, slots := 0, locals := 22 }) (va_Pc [.ref (a 0), .int p1, .int p2, .int p3] (fun U => va_P (dC, dI) vwCl (wX a cG cT ft TL) U.heap ∧ va_K (dC, dI) vwCl (tX cG cT) U)) (vp_Si (fun r => r = -2)) 0 0 (fun _ => False) := by
  refine Met.ofW (cc := cX11_lay) (maxL := 5) (ret := (some .int)) (by decide) rfl ?_
  intro p e s m args below meth c s₁ B hml hv
  obtain ⟨rfl, hP, hK⟩ := hv
  have hx := B.exec
  have hb := B.bytes
  have hr := B.returns
  have hts := atoms_spec (ws := vsX11_lay) B.pre
  have hown : s.vm.findClass RX11 = some m.cls := findClass_of_methodNamed B.named
  have hlocks := B.notSynchronized
  have hl := lv_entry ([.ref (a 0), .int p1, .int p2, .int p3]) (n := 5) (Nat.le_of_ble_eq_true rfl)
  rw [lg_entry_eq]
  generalize (lg_sl ([.ref (a 0), .int p1, .int p2, .int p3]) ++ List.replicate (5 - (lg_sl ([.ref (a 0), .int p1, .int p2, .int p3])).length) Slot.unset).toArray = ls at hl ⊢
  have hl : lv_has ls 5 [(0, .ref (a 0)), (1, .int p1), (2, .int p2), (3, .int p3)] := hl
  refine lv_aload_n hx hb dX11_lay_0 rfl (lv_at hl 0 rfl) ?_
  refine lv_iload_n hx hb dX11_lay_1 rfl (lv_at hl 1 rfl) ?_
  refine va_csq (va_Run.run (va_runV (As := [.int p1]) (rest := []) ⟨hx, hb, hml, hown, hts⟩ (c_X11_tableAt l dC dI a cG cT ft TL hT p1) (cwV 1 hts g_X11_lay_X11_tableAt rfl rfl rfl (by decide +kernel) ⟨Nat.le_of_ble_eq_true rfl, Nat.le_of_ble_eq_true rfl⟩) ⟨fun a U g mk q => by obtain ⟨q0, qP, qK⟩ := q; exact ⟨q0, qP, va_K.moved (u := U) (U := U.calling g mk a) (Vm.Alike.refl U.vm) qK⟩, va_recv hK hP (ci := 10) (q0 := 0) rfl rfl, fun U hU hW => ⟨rfl, by rw [hU]; exact hP, va_K.moved hW.alike hK⟩⟩ rfl rfl hl.1 rfl (lv_room (Nat.le_of_ble_eq_true rfl)) dX11_lay_2 ⟨Nat.zero_le _, Nat.zero_le _⟩)) (fun r_1 e_1 => ?_)
  subst e_1
  refine W.eq (g2 := F0 m 5 ls [.null]) rfl ?_
  refine lv_astoreN (lv' := [(4, .null), (0, .ref (a 0)), (1, .int p1), (2, .int p2), (3, .int p3)]) hx hb dX11_lay_5 hl (by decide) rfl (fun ls hl => ?_)
  refine lv_aloadN hx hb dX11_lay_7 (lv_at hl 0 rfl) ?_
  refine lv_ifnullN (tgt := 19) hx hb dX11_lay_9 (by decide) ?_
  refine lv_bipush (v := (-2)) hx hb dX11_lay_19 (by decide) ?_
  exact W.iret (v := (-2)) hx hb hr (fun t ht hW => ⟨(-2), rfl, rfl, ht⟩) (fun q h => by cases h) dX11_lay_21
def vsX11_revoke : List Cond := .code yX11_revoke cX11_revoke 5 (some .int) :: ([] ++ (wsV RX11 83 RX11 yX11_tableAt vsX11_tableAt ++ []))
set_option maxRecDepth 100000 in
theorem gl_X11_revoke : GoodIn lw_tbl vsX11_revoke := gi_t 776 rfl rfl (goodIn_app gi_nil (goodIn_app gv_RX11_83 gi_nil))
theorem g_X11_revoke_X11_tableAt : GoodIn vsX11_revoke (wsV RX11 83 RX11 yX11_tableAt vsX11_tableAt) := fun w h => ⟨List.mem_cons_of_mem _ (List.mem_append_right _ (List.mem_append_left _ h)), (gv_RX11_83 w h).2⟩
set_option maxHeartbeats 4000000 in
set_option maxRecDepth 100000 in
theorem c_X11_revoke (l : Launch) (dC : Nat → ClassId) (dI : Nat → Nat → Nat) (a : Nat → Nat) (cG cT : ClassId) (ft : Nat → Option Nat) (TL : va_W) (hT : fr_T ft TL) (p1 : Int32) (p2 : Int32) (p3 : Int32) : Met l yX11_revoke vsX11_revoke ({ frames := 1, cells := 0, slots := 0, locals := 22 }) (va_Pc [.ref (a 0), .int p1, .int p2, .int p3] (fun U => va_P (dC, dI) vwCl (wX a cG cT ft TL) U.heap ∧ va_K (dC, dI) vwCl (tX cG cT) U)) (vp_Si (fun r => r = -2)) 0 0 (fun _ => False) := by
  refine Met.ofW (cc := cX11_revoke) (maxL := 5) (ret := (some .int)) (by decide) rfl ?_
  intro p e s m args below meth c s₁ B hml hv
  obtain ⟨rfl, hP, hK⟩ := hv
  have hx := B.exec
  have hb := B.bytes
  have hr := B.returns
  have hts := atoms_spec (ws := vsX11_revoke) B.pre
  have hown : s.vm.findClass RX11 = some m.cls := findClass_of_methodNamed B.named
  have hlocks := B.notSynchronized
  have hl := lv_entry ([.ref (a 0), .int p1, .int p2, .int p3]) (n := 5) (Nat.le_of_ble_eq_true rfl)
  rw [lg_entry_eq]
  generalize (lg_sl ([.ref (a 0), .int p1, .int p2, .int p3]) ++ List.replicate (5 - (lg_sl ([.ref (a 0), .int p1, .int p2, .int p3])).length) Slot.unset).toArray = ls at hl ⊢
  have hl : lv_has ls 5 [(0, .ref (a 0)), (1, .int p1), (2, .int p2), (3, .int p3)] := hl
  refine lv_aload_n hx hb dX11_revoke_0 rfl (lv_at hl 0 rfl) ?_
  refine lv_iload_n hx hb dX11_revoke_1 rfl (lv_at hl 1 rfl) ?_
  refine va_csq (va_Run.run (va_runV (As := [.int p1]) (rest := []) ⟨hx, hb, hml, hown, hts⟩ (c_X11_tableAt l dC dI a cG cT ft TL hT p1) (cwV 1 hts g_X11_revoke_X11_tableAt rfl rfl rfl (by decide +kernel) ⟨Nat.le_of_ble_eq_true rfl, Nat.le_of_ble_eq_true rfl⟩) ⟨fun a U g mk q => by obtain ⟨q0, qP, qK⟩ := q; exact ⟨q0, qP, va_K.moved (u := U) (U := U.calling g mk a) (Vm.Alike.refl U.vm) qK⟩, va_recv hK hP (ci := 10) (q0 := 0) rfl rfl, fun U hU hW => ⟨rfl, by rw [hU]; exact hP, va_K.moved hW.alike hK⟩⟩ rfl rfl hl.1 rfl (lv_room (Nat.le_of_ble_eq_true rfl)) dX11_revoke_2 ⟨Nat.zero_le _, Nat.zero_le _⟩)) (fun r_1 e_1 => ?_)
  subst e_1
  refine W.eq (g2 := F0 m 5 ls [.null]) rfl ?_
  refine lv_astoreN (lv' := [(4, .null), (0, .ref (a 0)), (1, .int p1), (2, .int p2), (3, .int p3)]) hx hb dX11_revoke_5 hl (by decide) rfl (fun ls hl => ?_)
  refine lv_aloadN hx hb dX11_revoke_7 (lv_at hl 0 rfl) ?_
  refine lv_ifnullN (tgt := 19) hx hb dX11_revoke_9 (by decide) ?_
  refine lv_bipush (v := (-2)) hx hb dX11_revoke_19 (by decide) ?_
  exact W.iret (v := (-2)) hx hb hr (fun t ht hW => ⟨(-2), rfl, rfl, ht⟩) (fun q h => by cases h) dX11_revoke_21
def vsX11_allowed : List Cond := .code yX11_allowed cX11_allowed 6 (some .int) :: ([] ++ (wsV RX11 83 RX11 yX11_tableAt vsX11_tableAt ++ []))
set_option maxRecDepth 100000 in
theorem gl_X11_allowed : GoodIn lw_tbl vsX11_allowed := gi_t 780 rfl rfl (goodIn_app gi_nil (goodIn_app gv_RX11_83 gi_nil))
theorem g_X11_allowed_X11_tableAt : GoodIn vsX11_allowed (wsV RX11 83 RX11 yX11_tableAt vsX11_tableAt) := fun w h => ⟨List.mem_cons_of_mem _ (List.mem_append_right _ (List.mem_append_left _ h)), (gv_RX11_83 w h).2⟩
set_option maxHeartbeats 4000000 in
set_option maxRecDepth 100000 in
theorem c_X11_allowed (l : Launch) (dC : Nat → ClassId) (dI : Nat → Nat → Nat) (a : Nat → Nat) (cG cT : ClassId) (ft : Nat → Option Nat) (TL : va_W) (hT : fr_T ft TL) (p1 : Int32) (p2 : Int32) (p3 : Int32) : Met l yX11_allowed vsX11_allowed ({ frames := 1, cells := 0, slots := 0, locals := 22 }) (va_Pc [.ref (a 0), .int p1, .int p2, .int p3] (fun U => va_P (dC, dI) vwCl (wX a cG cT ft TL) U.heap ∧ va_K (dC, dI) vwCl (tX cG cT) U)) (vp_Si (fun r => r = -2)) 0 0 (fun _ => False) := by
  refine Met.ofW (cc := cX11_allowed) (maxL := 6) (ret := (some .int)) (by decide) rfl ?_
  intro p e s m args below meth c s₁ B hml hv
  obtain ⟨rfl, hP, hK⟩ := hv
  have hx := B.exec
  have hb := B.bytes
  have hr := B.returns
  have hts := atoms_spec (ws := vsX11_allowed) B.pre
  have hown : s.vm.findClass RX11 = some m.cls := findClass_of_methodNamed B.named
  have hlocks := B.notSynchronized
  have hl := lv_entry ([.ref (a 0), .int p1, .int p2, .int p3]) (n := 6) (Nat.le_of_ble_eq_true rfl)
  rw [lg_entry_eq]
  generalize (lg_sl ([.ref (a 0), .int p1, .int p2, .int p3]) ++ List.replicate (6 - (lg_sl ([.ref (a 0), .int p1, .int p2, .int p3])).length) Slot.unset).toArray = ls at hl ⊢
  have hl : lv_has ls 6 [(0, .ref (a 0)), (1, .int p1), (2, .int p2), (3, .int p3)] := hl
  refine lv_aload_n hx hb dX11_allowed_0 rfl (lv_at hl 0 rfl) ?_
  refine lv_iload_n hx hb dX11_allowed_1 rfl (lv_at hl 1 rfl) ?_
  refine va_csq (va_Run.run (va_runV (As := [.int p1]) (rest := []) ⟨hx, hb, hml, hown, hts⟩ (c_X11_tableAt l dC dI a cG cT ft TL hT p1) (cwV 1 hts g_X11_allowed_X11_tableAt rfl rfl rfl (by decide +kernel) ⟨Nat.le_of_ble_eq_true rfl, Nat.le_of_ble_eq_true rfl⟩) ⟨fun a U g mk q => by obtain ⟨q0, qP, qK⟩ := q; exact ⟨q0, qP, va_K.moved (u := U) (U := U.calling g mk a) (Vm.Alike.refl U.vm) qK⟩, va_recv hK hP (ci := 10) (q0 := 0) rfl rfl, fun U hU hW => ⟨rfl, by rw [hU]; exact hP, va_K.moved hW.alike hK⟩⟩ rfl rfl hl.1 rfl (lv_room (Nat.le_of_ble_eq_true rfl)) dX11_allowed_2 ⟨Nat.zero_le _, Nat.zero_le _⟩)) (fun r_1 e_1 => ?_)
  subst e_1
  refine W.eq (g2 := F0 m 5 ls [.null]) rfl ?_
  refine lv_astoreN (lv' := [(4, .null), (0, .ref (a 0)), (1, .int p1), (2, .int p2), (3, .int p3)]) hx hb dX11_allowed_5 hl (by decide) rfl (fun ls hl => ?_)
  refine lv_aloadN hx hb dX11_allowed_7 (lv_at hl 0 rfl) ?_
  refine lv_ifnullN (tgt := 19) hx hb dX11_allowed_9 (by decide) ?_
  refine lv_bipush (v := (-2)) hx hb dX11_allowed_19 (by decide) ?_
  exact W.iret (v := (-2)) hx hb hr (fun t ht hW => ⟨(-2), rfl, rfl, ht⟩) (fun q h => by cases h) dX11_allowed_21
def vsX11_turn : List Cond := .code yX11_turn cX11_turn 3 (some .int) :: ([] ++ (wsV RX11 83 RX11 yX11_tableAt vsX11_tableAt ++ []))
set_option maxRecDepth 100000 in
theorem gl_X11_turn : GoodIn lw_tbl vsX11_turn := gi_t 784 rfl rfl (goodIn_app gi_nil (goodIn_app gv_RX11_83 gi_nil))
theorem g_X11_turn_X11_tableAt : GoodIn vsX11_turn (wsV RX11 83 RX11 yX11_tableAt vsX11_tableAt) := fun w h => ⟨List.mem_cons_of_mem _ (List.mem_append_right _ (List.mem_append_left _ h)), (gv_RX11_83 w h).2⟩
set_option maxHeartbeats 4000000 in
set_option maxRecDepth 100000 in
theorem c_X11_turn (l : Launch) (dC : Nat → ClassId) (dI : Nat → Nat → Nat) (a : Nat → Nat) (cG cT : ClassId) (ft : Nat → Option Nat) (TL : va_W) (hT : fr_T ft TL) (p1 : Int32) : Met l yX11_turn vsX11_turn ({ frames := 1, cells := 0, slots := 0, locals := 22 }) (va_Pc [.ref (a 0), .int p1] (fun U => va_P (dC, dI) vwCl (wX a cG cT ft TL) U.heap ∧ va_K (dC, dI) vwCl (tX cG cT) U)) (vp_Si (fun r => r = -2)) 0 0 (fun _ => False) := by
  refine Met.ofW (cc := cX11_turn) (maxL := 3) (ret := (some .int)) (by decide) rfl ?_
  intro p e s m args below meth c s₁ B hml hv
  obtain ⟨rfl, hP, hK⟩ := hv
  have hx := B.exec
  have hb := B.bytes
  have hr := B.returns
  have hts := atoms_spec (ws := vsX11_turn) B.pre
  have hown : s.vm.findClass RX11 = some m.cls := findClass_of_methodNamed B.named
  have hlocks := B.notSynchronized
  have hl := lv_entry ([.ref (a 0), .int p1]) (n := 3) (Nat.le_of_ble_eq_true rfl)
  rw [lg_entry_eq]
  generalize (lg_sl ([.ref (a 0), .int p1]) ++ List.replicate (3 - (lg_sl ([.ref (a 0), .int p1])).length) Slot.unset).toArray = ls at hl ⊢
  have hl : lv_has ls 3 [(0, .ref (a 0)), (1, .int p1)] := hl
  refine lv_aload_n hx hb dX11_turn_0 rfl (lv_at hl 0 rfl) ?_
  refine lv_iload_n hx hb dX11_turn_1 rfl (lv_at hl 1 rfl) ?_
  refine va_csq (va_Run.run (va_runV (As := [.int p1]) (rest := []) ⟨hx, hb, hml, hown, hts⟩ (c_X11_tableAt l dC dI a cG cT ft TL hT p1) (cwV 1 hts g_X11_turn_X11_tableAt rfl rfl rfl (by decide +kernel) ⟨Nat.le_of_ble_eq_true rfl, Nat.le_of_ble_eq_true rfl⟩) ⟨fun a U g mk q => by obtain ⟨q0, qP, qK⟩ := q; exact ⟨q0, qP, va_K.moved (u := U) (U := U.calling g mk a) (Vm.Alike.refl U.vm) qK⟩, va_recv hK hP (ci := 10) (q0 := 0) rfl rfl, fun U hU hW => ⟨rfl, by rw [hU]; exact hP, va_K.moved hW.alike hK⟩⟩ rfl rfl hl.1 rfl (lv_room (Nat.le_of_ble_eq_true rfl)) dX11_turn_2 ⟨Nat.zero_le _, Nat.zero_le _⟩)) (fun r_1 e_1 => ?_)
  subst e_1
  refine W.eq (g2 := F0 m 5 ls [.null]) rfl ?_
  refine lv_astore_nN (lv' := [(2, .null), (0, .ref (a 0)), (1, .int p1)]) hx hb dX11_turn_5 rfl hl (by decide) rfl (fun ls hl => ?_)
  refine lv_aload_nN hx hb dX11_turn_6 rfl (lv_at hl 0 rfl) ?_
  refine lv_ifnonnullN hx hb dX11_turn_7 ?_
  refine lv_bipush (v := (-2)) hx hb dX11_turn_10 (by decide) ?_
  refine lv_goto (tgt := 22) hx hb dX11_turn_12 (by decide) ?_
  exact W.iret (v := (-2)) hx hb hr (fun t ht hW => ⟨(-2), rfl, rfl, ht⟩) (fun q h => by cases h) dX11_turn_22
def vsX11_trick : List Cond := .code yX11_trick cX11_trick 4 (some .int) :: ([] ++ (wsV RX11 83 RX11 yX11_tableAt vsX11_tableAt ++ []))
set_option maxRecDepth 100000 in
theorem gl_X11_trick : GoodIn lw_tbl vsX11_trick := gi_t 788 rfl rfl (goodIn_app gi_nil (goodIn_app gv_RX11_83 gi_nil))
theorem g_X11_trick_X11_tableAt : GoodIn vsX11_trick (wsV RX11 83 RX11 yX11_tableAt vsX11_tableAt) := fun w h => ⟨List.mem_cons_of_mem _ (List.mem_append_right _ (List.mem_append_left _ h)), (gv_RX11_83 w h).2⟩
set_option maxHeartbeats 4000000 in
set_option maxRecDepth 100000 in
theorem c_X11_trick (l : Launch) (dC : Nat → ClassId) (dI : Nat → Nat → Nat) (a : Nat → Nat) (cG cT : ClassId) (ft : Nat → Option Nat) (TL : va_W) (hT : fr_T ft TL) (p1 : Int32) (p2 : Int32) : Met l yX11_trick vsX11_trick ({ frames := 1, cells := 0, slots := 0, locals := 22 }) (va_Pc [.ref (a 0), .int p1, .int p2] (fun U => va_P (dC, dI) vwCl (wX a cG cT ft TL) U.heap ∧ va_K (dC, dI) vwCl (tX cG cT) U)) (vp_Si (fun r => r = -2)) 0 0 (fun _ => False) := by
  refine Met.ofW (cc := cX11_trick) (maxL := 4) (ret := (some .int)) (by decide) rfl ?_
  intro p e s m args below meth c s₁ B hml hv
  obtain ⟨rfl, hP, hK⟩ := hv
  have hx := B.exec
  have hb := B.bytes
  have hr := B.returns
  have hts := atoms_spec (ws := vsX11_trick) B.pre
  have hown : s.vm.findClass RX11 = some m.cls := findClass_of_methodNamed B.named
  have hlocks := B.notSynchronized
  have hl := lv_entry ([.ref (a 0), .int p1, .int p2]) (n := 4) (Nat.le_of_ble_eq_true rfl)
  rw [lg_entry_eq]
  generalize (lg_sl ([.ref (a 0), .int p1, .int p2]) ++ List.replicate (4 - (lg_sl ([.ref (a 0), .int p1, .int p2])).length) Slot.unset).toArray = ls at hl ⊢
  have hl : lv_has ls 4 [(0, .ref (a 0)), (1, .int p1), (2, .int p2)] := hl
  refine lv_aload_n hx hb dX11_trick_0 rfl (lv_at hl 0 rfl) ?_
  refine lv_iload_n hx hb dX11_trick_1 rfl (lv_at hl 1 rfl) ?_
  refine va_csq (va_Run.run (va_runV (As := [.int p1]) (rest := []) ⟨hx, hb, hml, hown, hts⟩ (c_X11_tableAt l dC dI a cG cT ft TL hT p1) (cwV 1 hts g_X11_trick_X11_tableAt rfl rfl rfl (by decide +kernel) ⟨Nat.le_of_ble_eq_true rfl, Nat.le_of_ble_eq_true rfl⟩) ⟨fun a U g mk q => by obtain ⟨q0, qP, qK⟩ := q; exact ⟨q0, qP, va_K.moved (u := U) (U := U.calling g mk a) (Vm.Alike.refl U.vm) qK⟩, va_recv hK hP (ci := 10) (q0 := 0) rfl rfl, fun U hU hW => ⟨rfl, by rw [hU]; exact hP, va_K.moved hW.alike hK⟩⟩ rfl rfl hl.1 rfl (lv_room (Nat.le_of_ble_eq_true rfl)) dX11_trick_2 ⟨Nat.zero_le _, Nat.zero_le _⟩)) (fun r_1 e_1 => ?_)
  subst e_1
  refine W.eq (g2 := F0 m 5 ls [.null]) rfl ?_
  refine lv_astore_nN (lv' := [(3, .null), (0, .ref (a 0)), (1, .int p1), (2, .int p2)]) hx hb dX11_trick_5 rfl hl (by decide) rfl (fun ls hl => ?_)
  refine lv_aload_nN hx hb dX11_trick_6 rfl (lv_at hl 0 rfl) ?_
  refine lv_ifnonnullN hx hb dX11_trick_7 ?_
  refine lv_bipush (v := (-2)) hx hb dX11_trick_10 (by decide) ?_
  refine lv_goto (tgt := 23) hx hb dX11_trick_12 (by decide) ?_
  exact W.iret (v := (-2)) hx hb hr (fun t ht hW => ⟨(-2), rfl, rfl, ht⟩) (fun q h => by cases h) dX11_trick_23
def vsX11_hand : List Cond := .code yX11_hand cX11_hand 6 (some .int) :: ([] ++ (wsV RX11 83 RX11 yX11_tableAt vsX11_tableAt ++ []))
set_option maxRecDepth 100000 in
theorem gl_X11_hand : GoodIn lw_tbl vsX11_hand := gi_t 793 rfl rfl (goodIn_app gi_nil (goodIn_app gv_RX11_83 gi_nil))
theorem g_X11_hand_X11_tableAt : GoodIn vsX11_hand (wsV RX11 83 RX11 yX11_tableAt vsX11_tableAt) := fun w h => ⟨List.mem_cons_of_mem _ (List.mem_append_right _ (List.mem_append_left _ h)), (gv_RX11_83 w h).2⟩
set_option maxHeartbeats 4000000 in
set_option maxRecDepth 100000 in
theorem c_X11_hand (l : Launch) (dC : Nat → ClassId) (dI : Nat → Nat → Nat) (a : Nat → Nat) (cG cT : ClassId) (ft : Nat → Option Nat) (TL : va_W) (hT : fr_T ft TL) (p1 : Int32) (p2 : Int32) (p3 : Int32) : Met l yX11_hand vsX11_hand ({ frames := 1, cells := 0, slots := 0, locals := 22 }) (va_Pc [.ref (a 0), .int p1, .int p2, .int p3] (fun U => va_P (dC, dI) vwCl (wX a cG cT ft TL) U.heap ∧ va_K (dC, dI) vwCl (tX cG cT) U)) (vp_Si (fun r => r = -2)) 0 0 (fun _ => False) := by
  refine Met.ofW (cc := cX11_hand) (maxL := 6) (ret := (some .int)) (by decide) rfl ?_
  intro p e s m args below meth c s₁ B hml hv
  obtain ⟨rfl, hP, hK⟩ := hv
  have hx := B.exec
  have hb := B.bytes
  have hr := B.returns
  have hts := atoms_spec (ws := vsX11_hand) B.pre
  have hown : s.vm.findClass RX11 = some m.cls := findClass_of_methodNamed B.named
  have hlocks := B.notSynchronized
  have hl := lv_entry ([.ref (a 0), .int p1, .int p2, .int p3]) (n := 6) (Nat.le_of_ble_eq_true rfl)
  rw [lg_entry_eq]
  generalize (lg_sl ([.ref (a 0), .int p1, .int p2, .int p3]) ++ List.replicate (6 - (lg_sl ([.ref (a 0), .int p1, .int p2, .int p3])).length) Slot.unset).toArray = ls at hl ⊢
  have hl : lv_has ls 6 [(0, .ref (a 0)), (1, .int p1), (2, .int p2), (3, .int p3)] := hl
  refine lv_aload_n hx hb dX11_hand_0 rfl (lv_at hl 0 rfl) ?_
  refine lv_iload_n hx hb dX11_hand_1 rfl (lv_at hl 1 rfl) ?_
  refine va_csq (va_Run.run (va_runV (As := [.int p1]) (rest := []) ⟨hx, hb, hml, hown, hts⟩ (c_X11_tableAt l dC dI a cG cT ft TL hT p1) (cwV 1 hts g_X11_hand_X11_tableAt rfl rfl rfl (by decide +kernel) ⟨Nat.le_of_ble_eq_true rfl, Nat.le_of_ble_eq_true rfl⟩) ⟨fun a U g mk q => by obtain ⟨q0, qP, qK⟩ := q; exact ⟨q0, qP, va_K.moved (u := U) (U := U.calling g mk a) (Vm.Alike.refl U.vm) qK⟩, va_recv hK hP (ci := 10) (q0 := 0) rfl rfl, fun U hU hW => ⟨rfl, by rw [hU]; exact hP, va_K.moved hW.alike hK⟩⟩ rfl rfl hl.1 rfl (lv_room (Nat.le_of_ble_eq_true rfl)) dX11_hand_2 ⟨Nat.zero_le _, Nat.zero_le _⟩)) (fun r_1 e_1 => ?_)
  subst e_1
  refine W.eq (g2 := F0 m 5 ls [.null]) rfl ?_
  refine lv_astoreN (lv' := [(4, .null), (0, .ref (a 0)), (1, .int p1), (2, .int p2), (3, .int p3)]) hx hb dX11_hand_5 hl (by decide) rfl (fun ls hl => ?_)
  refine lv_aloadN hx hb dX11_hand_7 (lv_at hl 0 rfl) ?_
  refine lv_ifnullN (tgt := 19) hx hb dX11_hand_9 (by decide) ?_
  refine lv_bipush (v := (-2)) hx hb dX11_hand_19 (by decide) ?_
  exact W.iret (v := (-2)) hx hb hr (fun t ht hW => ⟨(-2), rfl, rfl, ht⟩) (fun q h => by cases h) dX11_hand_21
def vsX11_left : List Cond := .code yX11_left cX11_left 4 (some .int) :: ([] ++ (wsV RX11 83 RX11 yX11_tableAt vsX11_tableAt ++ []))
set_option maxRecDepth 100000 in
theorem gl_X11_left : GoodIn lw_tbl vsX11_left := gi_t 798 rfl rfl (goodIn_app gi_nil (goodIn_app gv_RX11_83 gi_nil))
theorem g_X11_left_X11_tableAt : GoodIn vsX11_left (wsV RX11 83 RX11 yX11_tableAt vsX11_tableAt) := fun w h => ⟨List.mem_cons_of_mem _ (List.mem_append_right _ (List.mem_append_left _ h)), (gv_RX11_83 w h).2⟩
set_option maxHeartbeats 4000000 in
set_option maxRecDepth 100000 in
theorem c_X11_left (l : Launch) (dC : Nat → ClassId) (dI : Nat → Nat → Nat) (a : Nat → Nat) (cG cT : ClassId) (ft : Nat → Option Nat) (TL : va_W) (hT : fr_T ft TL) (p1 : Int32) (p2 : Int32) : Met l yX11_left vsX11_left ({ frames := 1, cells := 0, slots := 0, locals := 22 }) (va_Pc [.ref (a 0), .int p1, .int p2] (fun U => va_P (dC, dI) vwCl (wX a cG cT ft TL) U.heap ∧ va_K (dC, dI) vwCl (tX cG cT) U)) (vp_Si (fun r => r = -2)) 0 0 (fun _ => False) := by
  refine Met.ofW (cc := cX11_left) (maxL := 4) (ret := (some .int)) (by decide) rfl ?_
  intro p e s m args below meth c s₁ B hml hv
  obtain ⟨rfl, hP, hK⟩ := hv
  have hx := B.exec
  have hb := B.bytes
  have hr := B.returns
  have hts := atoms_spec (ws := vsX11_left) B.pre
  have hown : s.vm.findClass RX11 = some m.cls := findClass_of_methodNamed B.named
  have hlocks := B.notSynchronized
  have hl := lv_entry ([.ref (a 0), .int p1, .int p2]) (n := 4) (Nat.le_of_ble_eq_true rfl)
  rw [lg_entry_eq]
  generalize (lg_sl ([.ref (a 0), .int p1, .int p2]) ++ List.replicate (4 - (lg_sl ([.ref (a 0), .int p1, .int p2])).length) Slot.unset).toArray = ls at hl ⊢
  have hl : lv_has ls 4 [(0, .ref (a 0)), (1, .int p1), (2, .int p2)] := hl
  refine lv_aload_n hx hb dX11_left_0 rfl (lv_at hl 0 rfl) ?_
  refine lv_iload_n hx hb dX11_left_1 rfl (lv_at hl 1 rfl) ?_
  refine va_csq (va_Run.run (va_runV (As := [.int p1]) (rest := []) ⟨hx, hb, hml, hown, hts⟩ (c_X11_tableAt l dC dI a cG cT ft TL hT p1) (cwV 1 hts g_X11_left_X11_tableAt rfl rfl rfl (by decide +kernel) ⟨Nat.le_of_ble_eq_true rfl, Nat.le_of_ble_eq_true rfl⟩) ⟨fun a U g mk q => by obtain ⟨q0, qP, qK⟩ := q; exact ⟨q0, qP, va_K.moved (u := U) (U := U.calling g mk a) (Vm.Alike.refl U.vm) qK⟩, va_recv hK hP (ci := 10) (q0 := 0) rfl rfl, fun U hU hW => ⟨rfl, by rw [hU]; exact hP, va_K.moved hW.alike hK⟩⟩ rfl rfl hl.1 rfl (lv_room (Nat.le_of_ble_eq_true rfl)) dX11_left_2 ⟨Nat.zero_le _, Nat.zero_le _⟩)) (fun r_1 e_1 => ?_)
  subst e_1
  refine W.eq (g2 := F0 m 5 ls [.null]) rfl ?_
  refine lv_astore_nN (lv' := [(3, .null), (0, .ref (a 0)), (1, .int p1), (2, .int p2)]) hx hb dX11_left_5 rfl hl (by decide) rfl (fun ls hl => ?_)
  refine lv_aload_nN hx hb dX11_left_6 rfl (lv_at hl 0 rfl) ?_
  refine lv_ifnullN (tgt := 22) hx hb dX11_left_7 (by decide) ?_
  refine lv_bipush (v := (-2)) hx hb dX11_left_22 (by decide) ?_
  exact W.iret (v := (-2)) hx hb hr (fun t ht hW => ⟨(-2), rfl, rfl, ht⟩) (fun q h => by cases h) dX11_left_24
def vsX11_winner : List Cond := .code yX11_winner cX11_winner 3 (some .int) :: ([] ++ (wsV RX11 83 RX11 yX11_tableAt vsX11_tableAt ++ []))
set_option maxRecDepth 100000 in
theorem gl_X11_winner : GoodIn lw_tbl vsX11_winner := gi_t 802 rfl rfl (goodIn_app gi_nil (goodIn_app gv_RX11_83 gi_nil))
theorem g_X11_winner_X11_tableAt : GoodIn vsX11_winner (wsV RX11 83 RX11 yX11_tableAt vsX11_tableAt) := fun w h => ⟨List.mem_cons_of_mem _ (List.mem_append_right _ (List.mem_append_left _ h)), (gv_RX11_83 w h).2⟩
set_option maxHeartbeats 4000000 in
set_option maxRecDepth 100000 in
theorem c_X11_winner (l : Launch) (dC : Nat → ClassId) (dI : Nat → Nat → Nat) (a : Nat → Nat) (cG cT : ClassId) (ft : Nat → Option Nat) (TL : va_W) (hT : fr_T ft TL) (p1 : Int32) : Met l yX11_winner vsX11_winner ({ frames := 1, cells := 0, slots := 0, locals := 22 }) (va_Pc [.ref (a 0), .int p1] (fun U => va_P (dC, dI) vwCl (wX a cG cT ft TL) U.heap ∧ va_K (dC, dI) vwCl (tX cG cT) U)) (vp_Si (fun r => r = -2)) 0 0 (fun _ => False) := by
  refine Met.ofW (cc := cX11_winner) (maxL := 3) (ret := (some .int)) (by decide) rfl ?_
  intro p e s m args below meth c s₁ B hml hv
  obtain ⟨rfl, hP, hK⟩ := hv
  have hx := B.exec
  have hb := B.bytes
  have hr := B.returns
  have hts := atoms_spec (ws := vsX11_winner) B.pre
  have hown : s.vm.findClass RX11 = some m.cls := findClass_of_methodNamed B.named
  have hlocks := B.notSynchronized
  have hl := lv_entry ([.ref (a 0), .int p1]) (n := 3) (Nat.le_of_ble_eq_true rfl)
  rw [lg_entry_eq]
  generalize (lg_sl ([.ref (a 0), .int p1]) ++ List.replicate (3 - (lg_sl ([.ref (a 0), .int p1])).length) Slot.unset).toArray = ls at hl ⊢
  have hl : lv_has ls 3 [(0, .ref (a 0)), (1, .int p1)] := hl
  refine lv_aload_n hx hb dX11_winner_0 rfl (lv_at hl 0 rfl) ?_
  refine lv_iload_n hx hb dX11_winner_1 rfl (lv_at hl 1 rfl) ?_
  refine va_csq (va_Run.run (va_runV (As := [.int p1]) (rest := []) ⟨hx, hb, hml, hown, hts⟩ (c_X11_tableAt l dC dI a cG cT ft TL hT p1) (cwV 1 hts g_X11_winner_X11_tableAt rfl rfl rfl (by decide +kernel) ⟨Nat.le_of_ble_eq_true rfl, Nat.le_of_ble_eq_true rfl⟩) ⟨fun a U g mk q => by obtain ⟨q0, qP, qK⟩ := q; exact ⟨q0, qP, va_K.moved (u := U) (U := U.calling g mk a) (Vm.Alike.refl U.vm) qK⟩, va_recv hK hP (ci := 10) (q0 := 0) rfl rfl, fun U hU hW => ⟨rfl, by rw [hU]; exact hP, va_K.moved hW.alike hK⟩⟩ rfl rfl hl.1 rfl (lv_room (Nat.le_of_ble_eq_true rfl)) dX11_winner_2 ⟨Nat.zero_le _, Nat.zero_le _⟩)) (fun r_1 e_1 => ?_)
  subst e_1
  refine W.eq (g2 := F0 m 5 ls [.null]) rfl ?_
  refine lv_astore_nN (lv' := [(2, .null), (0, .ref (a 0)), (1, .int p1)]) hx hb dX11_winner_5 rfl hl (by decide) rfl (fun ls hl => ?_)
  refine lv_aload_nN hx hb dX11_winner_6 rfl (lv_at hl 0 rfl) ?_
  refine lv_ifnonnullN hx hb dX11_winner_7 ?_
  refine lv_bipush (v := (-2)) hx hb dX11_winner_10 (by decide) ?_
  refine lv_goto (tgt := 22) hx hb dX11_winner_12 (by decide) ?_
  exact W.iret (v := (-2)) hx hb hr (fun t ht hW => ⟨(-2), rfl, rfl, ht⟩) (fun q h => by cases h) dX11_winner_22
def vsX11_won : List Cond := .code yX11_won cX11_won 5 (some .int) :: ([] ++ (wsV RX11 83 RX11 yX11_tableAt vsX11_tableAt ++ []))
set_option maxRecDepth 100000 in
theorem gl_X11_won : GoodIn lw_tbl vsX11_won := gi_t 806 rfl rfl (goodIn_app gi_nil (goodIn_app gv_RX11_83 gi_nil))
theorem g_X11_won_X11_tableAt : GoodIn vsX11_won (wsV RX11 83 RX11 yX11_tableAt vsX11_tableAt) := fun w h => ⟨List.mem_cons_of_mem _ (List.mem_append_right _ (List.mem_append_left _ h)), (gv_RX11_83 w h).2⟩
set_option maxHeartbeats 4000000 in
set_option maxRecDepth 100000 in
theorem c_X11_won (l : Launch) (dC : Nat → ClassId) (dI : Nat → Nat → Nat) (a : Nat → Nat) (cG cT : ClassId) (ft : Nat → Option Nat) (TL : va_W) (hT : fr_T ft TL) (p1 : Int32) (p2 : Int32) (p3 : Int32) : Met l yX11_won vsX11_won ({ frames := 1, cells := 0, slots := 0, locals := 22 }) (va_Pc [.ref (a 0), .int p1, .int p2, .int p3] (fun U => va_P (dC, dI) vwCl (wX a cG cT ft TL) U.heap ∧ va_K (dC, dI) vwCl (tX cG cT) U)) (vp_Si (fun r => r = -2)) 0 0 (fun _ => False) := by
  refine Met.ofW (cc := cX11_won) (maxL := 5) (ret := (some .int)) (by decide) rfl ?_
  intro p e s m args below meth c s₁ B hml hv
  obtain ⟨rfl, hP, hK⟩ := hv
  have hx := B.exec
  have hb := B.bytes
  have hr := B.returns
  have hts := atoms_spec (ws := vsX11_won) B.pre
  have hown : s.vm.findClass RX11 = some m.cls := findClass_of_methodNamed B.named
  have hlocks := B.notSynchronized
  have hl := lv_entry ([.ref (a 0), .int p1, .int p2, .int p3]) (n := 5) (Nat.le_of_ble_eq_true rfl)
  rw [lg_entry_eq]
  generalize (lg_sl ([.ref (a 0), .int p1, .int p2, .int p3]) ++ List.replicate (5 - (lg_sl ([.ref (a 0), .int p1, .int p2, .int p3])).length) Slot.unset).toArray = ls at hl ⊢
  have hl : lv_has ls 5 [(0, .ref (a 0)), (1, .int p1), (2, .int p2), (3, .int p3)] := hl
  refine lv_aload_n hx hb dX11_won_0 rfl (lv_at hl 0 rfl) ?_
  refine lv_iload_n hx hb dX11_won_1 rfl (lv_at hl 1 rfl) ?_
  refine va_csq (va_Run.run (va_runV (As := [.int p1]) (rest := []) ⟨hx, hb, hml, hown, hts⟩ (c_X11_tableAt l dC dI a cG cT ft TL hT p1) (cwV 1 hts g_X11_won_X11_tableAt rfl rfl rfl (by decide +kernel) ⟨Nat.le_of_ble_eq_true rfl, Nat.le_of_ble_eq_true rfl⟩) ⟨fun a U g mk q => by obtain ⟨q0, qP, qK⟩ := q; exact ⟨q0, qP, va_K.moved (u := U) (U := U.calling g mk a) (Vm.Alike.refl U.vm) qK⟩, va_recv hK hP (ci := 10) (q0 := 0) rfl rfl, fun U hU hW => ⟨rfl, by rw [hU]; exact hP, va_K.moved hW.alike hK⟩⟩ rfl rfl hl.1 rfl (lv_room (Nat.le_of_ble_eq_true rfl)) dX11_won_2 ⟨Nat.zero_le _, Nat.zero_le _⟩)) (fun r_1 e_1 => ?_)
  subst e_1
  refine W.eq (g2 := F0 m 5 ls [.null]) rfl ?_
  refine lv_astoreN (lv' := [(4, .null), (0, .ref (a 0)), (1, .int p1), (2, .int p2), (3, .int p3)]) hx hb dX11_won_5 hl (by decide) rfl (fun ls hl => ?_)
  refine lv_aloadN hx hb dX11_won_7 (lv_at hl 0 rfl) ?_
  refine lv_ifnullN (tgt := 19) hx hb dX11_won_9 (by decide) ?_
  refine lv_bipush (v := (-2)) hx hb dX11_won_19 (by decide) ?_
  exact W.iret (v := (-2)) hx hb hr (fun t ht hW => ⟨(-2), rfl, rfl, ht⟩) (fun q h => by cases h) dX11_won_21
def vsX11_revokes : List Cond := .code yX11_revokes cX11_revokes 5 (some .int) :: ([] ++ (wsV RX11 83 RX11 yX11_tableAt vsX11_tableAt ++ []))
set_option maxRecDepth 100000 in
theorem gl_X11_revokes : GoodIn lw_tbl vsX11_revokes := gi_t 815 rfl rfl (goodIn_app gi_nil (goodIn_app gv_RX11_83 gi_nil))
theorem g_X11_revokes_X11_tableAt : GoodIn vsX11_revokes (wsV RX11 83 RX11 yX11_tableAt vsX11_tableAt) := fun w h => ⟨List.mem_cons_of_mem _ (List.mem_append_right _ (List.mem_append_left _ h)), (gv_RX11_83 w h).2⟩
set_option maxHeartbeats 4000000 in
set_option maxRecDepth 100000 in
theorem c_X11_revokes (l : Launch) (dC : Nat → ClassId) (dI : Nat → Nat → Nat) (a : Nat → Nat) (cG cT : ClassId) (ft : Nat → Option Nat) (TL : va_W) (hT : fr_T ft TL) (p1 : Int32) (p2 : Int32) (p3 : Int32) : Met l yX11_revokes vsX11_revokes ({ frames := 1, cells := 0, slots := 0, locals := 22 }) (va_Pc [.ref (a 0), .int p1, .int p2, .int p3] (fun U => va_P (dC, dI) vwCl (wX a cG cT ft TL) U.heap ∧ va_K (dC, dI) vwCl (tX cG cT) U)) (vp_Si (fun r => r = -2)) 0 0 (fun _ => False) := by
  refine Met.ofW (cc := cX11_revokes) (maxL := 5) (ret := (some .int)) (by decide) rfl ?_
  intro p e s m args below meth c s₁ B hml hv
  obtain ⟨rfl, hP, hK⟩ := hv
  have hx := B.exec
  have hb := B.bytes
  have hr := B.returns
  have hts := atoms_spec (ws := vsX11_revokes) B.pre
  have hown : s.vm.findClass RX11 = some m.cls := findClass_of_methodNamed B.named
  have hlocks := B.notSynchronized
  have hl := lv_entry ([.ref (a 0), .int p1, .int p2, .int p3]) (n := 5) (Nat.le_of_ble_eq_true rfl)
  rw [lg_entry_eq]
  generalize (lg_sl ([.ref (a 0), .int p1, .int p2, .int p3]) ++ List.replicate (5 - (lg_sl ([.ref (a 0), .int p1, .int p2, .int p3])).length) Slot.unset).toArray = ls at hl ⊢
  have hl : lv_has ls 5 [(0, .ref (a 0)), (1, .int p1), (2, .int p2), (3, .int p3)] := hl
  refine lv_aload_n hx hb dX11_revokes_0 rfl (lv_at hl 0 rfl) ?_
  refine lv_iload_n hx hb dX11_revokes_1 rfl (lv_at hl 1 rfl) ?_
  refine va_csq (va_Run.run (va_runV (As := [.int p1]) (rest := []) ⟨hx, hb, hml, hown, hts⟩ (c_X11_tableAt l dC dI a cG cT ft TL hT p1) (cwV 1 hts g_X11_revokes_X11_tableAt rfl rfl rfl (by decide +kernel) ⟨Nat.le_of_ble_eq_true rfl, Nat.le_of_ble_eq_true rfl⟩) ⟨fun a U g mk q => by obtain ⟨q0, qP, qK⟩ := q; exact ⟨q0, qP, va_K.moved (u := U) (U := U.calling g mk a) (Vm.Alike.refl U.vm) qK⟩, va_recv hK hP (ci := 10) (q0 := 0) rfl rfl, fun U hU hW => ⟨rfl, by rw [hU]; exact hP, va_K.moved hW.alike hK⟩⟩ rfl rfl hl.1 rfl (lv_room (Nat.le_of_ble_eq_true rfl)) dX11_revokes_2 ⟨Nat.zero_le _, Nat.zero_le _⟩)) (fun r_1 e_1 => ?_)
  subst e_1
  refine W.eq (g2 := F0 m 5 ls [.null]) rfl ?_
  refine lv_astoreN (lv' := [(4, .null), (0, .ref (a 0)), (1, .int p1), (2, .int p2), (3, .int p3)]) hx hb dX11_revokes_5 hl (by decide) rfl (fun ls hl => ?_)
  refine lv_aloadN hx hb dX11_revokes_7 (lv_at hl 0 rfl) ?_
  refine lv_ifnullN (tgt := 19) hx hb dX11_revokes_9 (by decide) ?_
  refine lv_bipush (v := (-2)) hx hb dX11_revokes_19 (by decide) ?_
  exact W.iret (v := (-2)) hx hb hr (fun t ht hW => ⟨(-2), rfl, rfl, ht⟩) (fun q h => by cases h) dX11_revokes_21
def vsX11_sum : List Cond := .code yX11_sum cX11_sum 4 (some .int) :: ([] ++ (wsV RX11 83 RX11 yX11_tableAt vsX11_tableAt ++ []))
set_option maxRecDepth 100000 in
theorem gl_X11_sum : GoodIn lw_tbl vsX11_sum := gi_t 823 rfl rfl (goodIn_app gi_nil (goodIn_app gv_RX11_83 gi_nil))
theorem g_X11_sum_X11_tableAt : GoodIn vsX11_sum (wsV RX11 83 RX11 yX11_tableAt vsX11_tableAt) := fun w h => ⟨List.mem_cons_of_mem _ (List.mem_append_right _ (List.mem_append_left _ h)), (gv_RX11_83 w h).2⟩
set_option maxHeartbeats 4000000 in
set_option maxRecDepth 100000 in
theorem c_X11_sum (l : Launch) (dC : Nat → ClassId) (dI : Nat → Nat → Nat) (a : Nat → Nat) (cG cT : ClassId) (ft : Nat → Option Nat) (TL : va_W) (hT : fr_T ft TL) (p1 : Int32) (p2 : Int32) : Met l yX11_sum vsX11_sum ({ frames := 1, cells := 0, slots := 0, locals := 22 }) (va_Pc [.ref (a 0), .int p1, .int p2] (fun U => va_P (dC, dI) vwCl (wX a cG cT ft TL) U.heap ∧ va_K (dC, dI) vwCl (tX cG cT) U)) (vp_Si (fun r => r = -2)) 0 0 (fun _ => False) := by
  refine Met.ofW (cc := cX11_sum) (maxL := 4) (ret := (some .int)) (by decide) rfl ?_
  intro p e s m args below meth c s₁ B hml hv
  obtain ⟨rfl, hP, hK⟩ := hv
  have hx := B.exec
  have hb := B.bytes
  have hr := B.returns
  have hts := atoms_spec (ws := vsX11_sum) B.pre
  have hown : s.vm.findClass RX11 = some m.cls := findClass_of_methodNamed B.named
  have hlocks := B.notSynchronized
  have hl := lv_entry ([.ref (a 0), .int p1, .int p2]) (n := 4) (Nat.le_of_ble_eq_true rfl)
  rw [lg_entry_eq]
  generalize (lg_sl ([.ref (a 0), .int p1, .int p2]) ++ List.replicate (4 - (lg_sl ([.ref (a 0), .int p1, .int p2])).length) Slot.unset).toArray = ls at hl ⊢
  have hl : lv_has ls 4 [(0, .ref (a 0)), (1, .int p1), (2, .int p2)] := hl
  refine lv_aload_n hx hb dX11_sum_0 rfl (lv_at hl 0 rfl) ?_
  refine lv_iload_n hx hb dX11_sum_1 rfl (lv_at hl 1 rfl) ?_
  refine va_csq (va_Run.run (va_runV (As := [.int p1]) (rest := []) ⟨hx, hb, hml, hown, hts⟩ (c_X11_tableAt l dC dI a cG cT ft TL hT p1) (cwV 1 hts g_X11_sum_X11_tableAt rfl rfl rfl (by decide +kernel) ⟨Nat.le_of_ble_eq_true rfl, Nat.le_of_ble_eq_true rfl⟩) ⟨fun a U g mk q => by obtain ⟨q0, qP, qK⟩ := q; exact ⟨q0, qP, va_K.moved (u := U) (U := U.calling g mk a) (Vm.Alike.refl U.vm) qK⟩, va_recv hK hP (ci := 10) (q0 := 0) rfl rfl, fun U hU hW => ⟨rfl, by rw [hU]; exact hP, va_K.moved hW.alike hK⟩⟩ rfl rfl hl.1 rfl (lv_room (Nat.le_of_ble_eq_true rfl)) dX11_sum_2 ⟨Nat.zero_le _, Nat.zero_le _⟩)) (fun r_1 e_1 => ?_)
  subst e_1
  refine W.eq (g2 := F0 m 5 ls [.null]) rfl ?_
  refine lv_astore_nN (lv' := [(3, .null), (0, .ref (a 0)), (1, .int p1), (2, .int p2)]) hx hb dX11_sum_5 rfl hl (by decide) rfl (fun ls hl => ?_)
  refine lv_aload_nN hx hb dX11_sum_6 rfl (lv_at hl 0 rfl) ?_
  refine lv_ifnullN (tgt := 17) hx hb dX11_sum_7 (by decide) ?_
  refine lv_bipush (v := (-2)) hx hb dX11_sum_17 (by decide) ?_
  refine lv_goto (tgt := 28) hx hb dX11_sum_19 (by decide) ?_
  exact W.iret (v := (-2)) hx hb hr (fun t ht hW => ⟨(-2), rfl, rfl, ht⟩) (fun q h => by cases h) dX11_sum_28
def vsX11_tie : List Cond := .code yX11_tie cX11_tie 4 (some .int) :: ([] ++ (wsV RX11 83 RX11 yX11_tableAt vsX11_tableAt ++ []))
set_option maxRecDepth 100000 in
theorem gl_X11_tie : GoodIn lw_tbl vsX11_tie := gi_t 827 rfl rfl (goodIn_app gi_nil (goodIn_app gv_RX11_83 gi_nil))
theorem g_X11_tie_X11_tableAt : GoodIn vsX11_tie (wsV RX11 83 RX11 yX11_tableAt vsX11_tableAt) := fun w h => ⟨List.mem_cons_of_mem _ (List.mem_append_right _ (List.mem_append_left _ h)), (gv_RX11_83 w h).2⟩
set_option maxHeartbeats 4000000 in
set_option maxRecDepth 100000 in
theorem c_X11_tie (l : Launch) (dC : Nat → ClassId) (dI : Nat → Nat → Nat) (a : Nat → Nat) (cG cT : ClassId) (ft : Nat → Option Nat) (TL : va_W) (hT : fr_T ft TL) (p1 : Int32) : Met l yX11_tie vsX11_tie ({ frames := 1, cells := 0, slots := 0, locals := 22 }) (va_Pc [.ref (a 0), .int p1] (fun U => va_P (dC, dI) vwCl (wX a cG cT ft TL) U.heap ∧ va_K (dC, dI) vwCl (tX cG cT) U)) (vp_Si (fun r => r = -2)) 0 0 (fun _ => False) := by
  refine Met.ofW (cc := cX11_tie) (maxL := 4) (ret := (some .int)) (by decide) rfl ?_
  intro p e s m args below meth c s₁ B hml hv
  obtain ⟨rfl, hP, hK⟩ := hv
  have hx := B.exec
  have hb := B.bytes
  have hr := B.returns
  have hts := atoms_spec (ws := vsX11_tie) B.pre
  have hown : s.vm.findClass RX11 = some m.cls := findClass_of_methodNamed B.named
  have hlocks := B.notSynchronized
  have hl := lv_entry ([.ref (a 0), .int p1]) (n := 4) (Nat.le_of_ble_eq_true rfl)
  rw [lg_entry_eq]
  generalize (lg_sl ([.ref (a 0), .int p1]) ++ List.replicate (4 - (lg_sl ([.ref (a 0), .int p1])).length) Slot.unset).toArray = ls at hl ⊢
  have hl : lv_has ls 4 [(0, .ref (a 0)), (1, .int p1)] := hl
  refine lv_aload_n hx hb dX11_tie_0 rfl (lv_at hl 0 rfl) ?_
  refine lv_iload_n hx hb dX11_tie_1 rfl (lv_at hl 1 rfl) ?_
  refine va_csq (va_Run.run (va_runV (As := [.int p1]) (rest := []) ⟨hx, hb, hml, hown, hts⟩ (c_X11_tableAt l dC dI a cG cT ft TL hT p1) (cwV 1 hts g_X11_tie_X11_tableAt rfl rfl rfl (by decide +kernel) ⟨Nat.le_of_ble_eq_true rfl, Nat.le_of_ble_eq_true rfl⟩) ⟨fun a U g mk q => by obtain ⟨q0, qP, qK⟩ := q; exact ⟨q0, qP, va_K.moved (u := U) (U := U.calling g mk a) (Vm.Alike.refl U.vm) qK⟩, va_recv hK hP (ci := 10) (q0 := 0) rfl rfl, fun U hU hW => ⟨rfl, by rw [hU]; exact hP, va_K.moved hW.alike hK⟩⟩ rfl rfl hl.1 rfl (lv_room (Nat.le_of_ble_eq_true rfl)) dX11_tie_2 ⟨Nat.zero_le _, Nat.zero_le _⟩)) (fun r_1 e_1 => ?_)
  subst e_1
  refine W.eq (g2 := F0 m 5 ls [.null]) rfl ?_
  refine lv_astore_nN (lv' := [(2, .null), (0, .ref (a 0)), (1, .int p1)]) hx hb dX11_tie_5 rfl hl (by decide) rfl (fun ls hl => ?_)
  refine lv_aload_nN hx hb dX11_tie_6 rfl (lv_at hl 0 rfl) ?_
  refine lv_ifnonnullN hx hb dX11_tie_7 ?_
  refine lv_bipush (v := (-2)) hx hb dX11_tie_10 (by decide) ?_
  exact W.iret (v := (-2)) hx hb hr (fun t ht hW => ⟨(-2), rfl, rfl, ht⟩) (fun q h => by cases h) dX11_tie_12
def vsX11_best : List Cond := .code yX11_best cX11_best 4 (some .int) :: ([] ++ (wsV RX11 83 RX11 yX11_tableAt vsX11_tableAt ++ []))
set_option maxRecDepth 100000 in
theorem gl_X11_best : GoodIn lw_tbl vsX11_best := gi_t 831 rfl rfl (goodIn_app gi_nil (goodIn_app gv_RX11_83 gi_nil))
theorem g_X11_best_X11_tableAt : GoodIn vsX11_best (wsV RX11 83 RX11 yX11_tableAt vsX11_tableAt) := fun w h => ⟨List.mem_cons_of_mem _ (List.mem_append_right _ (List.mem_append_left _ h)), (gv_RX11_83 w h).2⟩
set_option maxHeartbeats 4000000 in
set_option maxRecDepth 100000 in
theorem c_X11_best (l : Launch) (dC : Nat → ClassId) (dI : Nat → Nat → Nat) (a : Nat → Nat) (cG cT : ClassId) (ft : Nat → Option Nat) (TL : va_W) (hT : fr_T ft TL) (p1 : Int32) (p2 : Int32) : Met l yX11_best vsX11_best ({ frames := 1, cells := 0, slots := 0, locals := 22 }) (va_Pc [.ref (a 0), .int p1, .int p2] (fun U => va_P (dC, dI) vwCl (wX a cG cT ft TL) U.heap ∧ va_K (dC, dI) vwCl (tX cG cT) U)) (vp_Si (fun r => r = -2)) 0 0 (fun _ => False) := by
  refine Met.ofW (cc := cX11_best) (maxL := 4) (ret := (some .int)) (by decide) rfl ?_
  intro p e s m args below meth c s₁ B hml hv
  obtain ⟨rfl, hP, hK⟩ := hv
  have hx := B.exec
  have hb := B.bytes
  have hr := B.returns
  have hts := atoms_spec (ws := vsX11_best) B.pre
  have hown : s.vm.findClass RX11 = some m.cls := findClass_of_methodNamed B.named
  have hlocks := B.notSynchronized
  have hl := lv_entry ([.ref (a 0), .int p1, .int p2]) (n := 4) (Nat.le_of_ble_eq_true rfl)
  rw [lg_entry_eq]
  generalize (lg_sl ([.ref (a 0), .int p1, .int p2]) ++ List.replicate (4 - (lg_sl ([.ref (a 0), .int p1, .int p2])).length) Slot.unset).toArray = ls at hl ⊢
  have hl : lv_has ls 4 [(0, .ref (a 0)), (1, .int p1), (2, .int p2)] := hl
  refine lv_aload_n hx hb dX11_best_0 rfl (lv_at hl 0 rfl) ?_
  refine lv_iload_n hx hb dX11_best_1 rfl (lv_at hl 1 rfl) ?_
  refine va_csq (va_Run.run (va_runV (As := [.int p1]) (rest := []) ⟨hx, hb, hml, hown, hts⟩ (c_X11_tableAt l dC dI a cG cT ft TL hT p1) (cwV 1 hts g_X11_best_X11_tableAt rfl rfl rfl (by decide +kernel) ⟨Nat.le_of_ble_eq_true rfl, Nat.le_of_ble_eq_true rfl⟩) ⟨fun a U g mk q => by obtain ⟨q0, qP, qK⟩ := q; exact ⟨q0, qP, va_K.moved (u := U) (U := U.calling g mk a) (Vm.Alike.refl U.vm) qK⟩, va_recv hK hP (ci := 10) (q0 := 0) rfl rfl, fun U hU hW => ⟨rfl, by rw [hU]; exact hP, va_K.moved hW.alike hK⟩⟩ rfl rfl hl.1 rfl (lv_room (Nat.le_of_ble_eq_true rfl)) dX11_best_2 ⟨Nat.zero_le _, Nat.zero_le _⟩)) (fun r_1 e_1 => ?_)
  subst e_1
  refine W.eq (g2 := F0 m 5 ls [.null]) rfl ?_
  refine lv_astore_nN (lv' := [(3, .null), (0, .ref (a 0)), (1, .int p1), (2, .int p2)]) hx hb dX11_best_5 rfl hl (by decide) rfl (fun ls hl => ?_)
  refine lv_aload_nN hx hb dX11_best_6 rfl (lv_at hl 0 rfl) ?_
  refine lv_ifnullN (tgt := 17) hx hb dX11_best_7 (by decide) ?_
  refine lv_bipush (v := (-2)) hx hb dX11_best_17 (by decide) ?_
  exact W.iret (v := (-2)) hx hb hr (fun t ht hW => ⟨(-2), rfl, rfl, ht⟩) (fun q h => by cases h) dX11_best_19
def vsX11_line : List Cond := .code yX11_line cX11_line 5 (some .int) :: ([] ++ (wsV RX11 83 RX11 yX11_tableAt vsX11_tableAt ++ []))
set_option maxRecDepth 100000 in
theorem gl_X11_line : GoodIn lw_tbl vsX11_line := gi_t 913 rfl rfl (goodIn_app gi_nil (goodIn_app gv_RX11_83 gi_nil))
theorem g_X11_line_X11_tableAt : GoodIn vsX11_line (wsV RX11 83 RX11 yX11_tableAt vsX11_tableAt) := fun w h => ⟨List.mem_cons_of_mem _ (List.mem_append_right _ (List.mem_append_left _ h)), (gv_RX11_83 w h).2⟩
set_option maxHeartbeats 4000000 in
set_option maxRecDepth 100000 in
theorem c_X11_line (l : Launch) (dC : Nat → ClassId) (dI : Nat → Nat → Nat) (a : Nat → Nat) (cG cT : ClassId) (ft : Nat → Option Nat) (TL : va_W) (hT : fr_T ft TL) (p1 : Int32) (p2 : Int32) (p3 : Int32) : Met l yX11_line vsX11_line ({ frames := 1, cells := 0, slots := 0, locals := 22 }) (va_Pc [.ref (a 0), .int p1, .int p2, .int p3] (fun U => va_P (dC, dI) vwCl (wX a cG cT ft TL) U.heap ∧ va_K (dC, dI) vwCl (tX cG cT) U)) (vp_Si (fun r => r = -2)) 0 0 (fun _ => False) := by
  refine Met.ofW (cc := cX11_line) (maxL := 5) (ret := (some .int)) (by decide) rfl ?_
  intro p e s m args below meth c s₁ B hml hv
  obtain ⟨rfl, hP, hK⟩ := hv
  have hx := B.exec
  have hb := B.bytes
  have hr := B.returns
  have hts := atoms_spec (ws := vsX11_line) B.pre
  have hown : s.vm.findClass RX11 = some m.cls := findClass_of_methodNamed B.named
  have hlocks := B.notSynchronized
  have hl := lv_entry ([.ref (a 0), .int p1, .int p2, .int p3]) (n := 5) (Nat.le_of_ble_eq_true rfl)
  rw [lg_entry_eq]
  generalize (lg_sl ([.ref (a 0), .int p1, .int p2, .int p3]) ++ List.replicate (5 - (lg_sl ([.ref (a 0), .int p1, .int p2, .int p3])).length) Slot.unset).toArray = ls at hl ⊢
  have hl : lv_has ls 5 [(0, .ref (a 0)), (1, .int p1), (2, .int p2), (3, .int p3)] := hl
  refine lv_aload_n hx hb dX11_line_0 rfl (lv_at hl 0 rfl) ?_
  refine lv_iload_n hx hb dX11_line_1 rfl (lv_at hl 1 rfl) ?_
  refine va_csq (va_Run.run (va_runV (As := [.int p1]) (rest := []) ⟨hx, hb, hml, hown, hts⟩ (c_X11_tableAt l dC dI a cG cT ft TL hT p1) (cwV 1 hts g_X11_line_X11_tableAt rfl rfl rfl (by decide +kernel) ⟨Nat.le_of_ble_eq_true rfl, Nat.le_of_ble_eq_true rfl⟩) ⟨fun a U g mk q => by obtain ⟨q0, qP, qK⟩ := q; exact ⟨q0, qP, va_K.moved (u := U) (U := U.calling g mk a) (Vm.Alike.refl U.vm) qK⟩, va_recv hK hP (ci := 10) (q0 := 0) rfl rfl, fun U hU hW => ⟨rfl, by rw [hU]; exact hP, va_K.moved hW.alike hK⟩⟩ rfl rfl hl.1 rfl (lv_room (Nat.le_of_ble_eq_true rfl)) dX11_line_2 ⟨Nat.zero_le _, Nat.zero_le _⟩)) (fun r_1 e_1 => ?_)
  subst e_1
  refine W.eq (g2 := F0 m 5 ls [.null]) rfl ?_
  refine lv_astoreN (lv' := [(4, .null), (0, .ref (a 0)), (1, .int p1), (2, .int p2), (3, .int p3)]) hx hb dX11_line_5 hl (by decide) rfl (fun ls hl => ?_)
  refine lv_aloadN hx hb dX11_line_7 (lv_at hl 0 rfl) ?_
  refine lv_ifnullN (tgt := 19) hx hb dX11_line_9 (by decide) ?_
  refine lv_bipush (v := (-2)) hx hb dX11_line_19 (by decide) ?_
  exact W.iret (v := (-2)) hx hb hr (fun t ht hW => ⟨(-2), rfl, rfl, ht⟩) (fun q h => by cases h) dX11_line_21
def vsX11_check : List Cond := .code yX11_check cX11_check 5 (some .int) :: ([] ++ (wsV RX11 83 RX11 yX11_tableAt vsX11_tableAt ++ []))
set_option maxRecDepth 100000 in
theorem gl_X11_check : GoodIn lw_tbl vsX11_check := gi_t 925 rfl rfl (goodIn_app gi_nil (goodIn_app gv_RX11_83 gi_nil))
theorem g_X11_check_X11_tableAt : GoodIn vsX11_check (wsV RX11 83 RX11 yX11_tableAt vsX11_tableAt) := fun w h => ⟨List.mem_cons_of_mem _ (List.mem_append_right _ (List.mem_append_left _ h)), (gv_RX11_83 w h).2⟩
set_option maxHeartbeats 4000000 in
set_option maxRecDepth 100000 in
theorem c_X11_check (l : Launch) (dC : Nat → ClassId) (dI : Nat → Nat → Nat) (a : Nat → Nat) (cG cT : ClassId) (ft : Nat → Option Nat) (TL : va_W) (hT : fr_T ft TL) (p1 : Int32) (p2 : Int32) : Met l yX11_check vsX11_check ({ frames := 1, cells := 0, slots := 0, locals := 22 }) (va_Pc [.ref (a 0), .int p1, .int p2] (fun U => va_P (dC, dI) vwCl (wX a cG cT ft TL) U.heap ∧ va_K (dC, dI) vwCl (tX cG cT) U)) (vp_Si (fun r => r = -2)) 0 0 (fun _ => False) := by
  refine Met.ofW (cc := cX11_check) (maxL := 5) (ret := (some .int)) (by decide) rfl ?_
  intro p e s m args below meth c s₁ B hml hv
  obtain ⟨rfl, hP, hK⟩ := hv
  have hx := B.exec
  have hb := B.bytes
  have hr := B.returns
  have hts := atoms_spec (ws := vsX11_check) B.pre
  have hown : s.vm.findClass RX11 = some m.cls := findClass_of_methodNamed B.named
  have hlocks := B.notSynchronized
  have hl := lv_entry ([.ref (a 0), .int p1, .int p2]) (n := 5) (Nat.le_of_ble_eq_true rfl)
  rw [lg_entry_eq]
  generalize (lg_sl ([.ref (a 0), .int p1, .int p2]) ++ List.replicate (5 - (lg_sl ([.ref (a 0), .int p1, .int p2])).length) Slot.unset).toArray = ls at hl ⊢
  have hl : lv_has ls 5 [(0, .ref (a 0)), (1, .int p1), (2, .int p2)] := hl
  refine lv_aload_n hx hb dX11_check_0 rfl (lv_at hl 0 rfl) ?_
  refine lv_iload_n hx hb dX11_check_1 rfl (lv_at hl 1 rfl) ?_
  refine va_csq (va_Run.run (va_runV (As := [.int p1]) (rest := []) ⟨hx, hb, hml, hown, hts⟩ (c_X11_tableAt l dC dI a cG cT ft TL hT p1) (cwV 1 hts g_X11_check_X11_tableAt rfl rfl rfl (by decide +kernel) ⟨Nat.le_of_ble_eq_true rfl, Nat.le_of_ble_eq_true rfl⟩) ⟨fun a U g mk q => by obtain ⟨q0, qP, qK⟩ := q; exact ⟨q0, qP, va_K.moved (u := U) (U := U.calling g mk a) (Vm.Alike.refl U.vm) qK⟩, va_recv hK hP (ci := 10) (q0 := 0) rfl rfl, fun U hU hW => ⟨rfl, by rw [hU]; exact hP, va_K.moved hW.alike hK⟩⟩ rfl rfl hl.1 rfl (lv_room (Nat.le_of_ble_eq_true rfl)) dX11_check_2 ⟨Nat.zero_le _, Nat.zero_le _⟩)) (fun r_1 e_1 => ?_)
  subst e_1
  refine W.eq (g2 := F0 m 5 ls [.null]) rfl ?_
  refine lv_astore_nN (lv' := [(3, .null), (0, .ref (a 0)), (1, .int p1), (2, .int p2)]) hx hb dX11_check_5 rfl hl (by decide) rfl (fun ls hl => ?_)
  refine lv_aload_nN hx hb dX11_check_6 rfl (lv_at hl 0 rfl) ?_
  refine lv_ifnullN (tgt := 17) hx hb dX11_check_7 (by decide) ?_
  refine lv_bipush (v := (-2)) hx hb dX11_check_17 (by decide) ?_
  exact W.iret (v := (-2)) hx hb hr (fun t ht hW => ⟨(-2), rfl, rfl, ht⟩) (fun q h => by cases h) dX11_check_19
def vsX11_claim : List Cond := .code yX11_claim cX11_claim 6 (some .int) :: ([] ++ (wsV RX11 83 RX11 yX11_tableAt vsX11_tableAt ++ []))
set_option maxRecDepth 100000 in
theorem gl_X11_claim : GoodIn lw_tbl vsX11_claim := gi_t 936 rfl rfl (goodIn_app gi_nil (goodIn_app gv_RX11_83 gi_nil))
theorem g_X11_claim_X11_tableAt : GoodIn vsX11_claim (wsV RX11 83 RX11 yX11_tableAt vsX11_tableAt) := fun w h => ⟨List.mem_cons_of_mem _ (List.mem_append_right _ (List.mem_append_left _ h)), (gv_RX11_83 w h).2⟩
set_option maxHeartbeats 4000000 in
set_option maxRecDepth 100000 in
theorem c_X11_claim (l : Launch) (dC : Nat → ClassId) (dI : Nat → Nat → Nat) (a : Nat → Nat) (cG cT : ClassId) (ft : Nat → Option Nat) (TL : va_W) (hT : fr_T ft TL) (p1 : Int32) (p2 : Int32) (p3 : Int32) : Met l yX11_claim vsX11_claim ({ frames := 1, cells := 0, slots := 0, locals := 22 }) (va_Pc [.ref (a 0), .int p1, .int p2, .int p3] (fun U => va_P (dC, dI) vwCl (wX a cG cT ft TL) U.heap ∧ va_K (dC, dI) vwCl (tX cG cT) U)) (vp_Si (fun r => r = -2)) 0 0 (fun _ => False) := by
  refine Met.ofW (cc := cX11_claim) (maxL := 6) (ret := (some .int)) (by decide) rfl ?_
  intro p e s m args below meth c s₁ B hml hv
  obtain ⟨rfl, hP, hK⟩ := hv
  have hx := B.exec
  have hb := B.bytes
  have hr := B.returns
  have hts := atoms_spec (ws := vsX11_claim) B.pre
  have hown : s.vm.findClass RX11 = some m.cls := findClass_of_methodNamed B.named
  have hlocks := B.notSynchronized
  have hl := lv_entry ([.ref (a 0), .int p1, .int p2, .int p3]) (n := 6) (Nat.le_of_ble_eq_true rfl)
  rw [lg_entry_eq]
  generalize (lg_sl ([.ref (a 0), .int p1, .int p2, .int p3]) ++ List.replicate (6 - (lg_sl ([.ref (a 0), .int p1, .int p2, .int p3])).length) Slot.unset).toArray = ls at hl ⊢
  have hl : lv_has ls 6 [(0, .ref (a 0)), (1, .int p1), (2, .int p2), (3, .int p3)] := hl
  refine lv_aload_n hx hb dX11_claim_0 rfl (lv_at hl 0 rfl) ?_
  refine lv_iload_n hx hb dX11_claim_1 rfl (lv_at hl 1 rfl) ?_
  refine va_csq (va_Run.run (va_runV (As := [.int p1]) (rest := []) ⟨hx, hb, hml, hown, hts⟩ (c_X11_tableAt l dC dI a cG cT ft TL hT p1) (cwV 1 hts g_X11_claim_X11_tableAt rfl rfl rfl (by decide +kernel) ⟨Nat.le_of_ble_eq_true rfl, Nat.le_of_ble_eq_true rfl⟩) ⟨fun a U g mk q => by obtain ⟨q0, qP, qK⟩ := q; exact ⟨q0, qP, va_K.moved (u := U) (U := U.calling g mk a) (Vm.Alike.refl U.vm) qK⟩, va_recv hK hP (ci := 10) (q0 := 0) rfl rfl, fun U hU hW => ⟨rfl, by rw [hU]; exact hP, va_K.moved hW.alike hK⟩⟩ rfl rfl hl.1 rfl (lv_room (Nat.le_of_ble_eq_true rfl)) dX11_claim_2 ⟨Nat.zero_le _, Nat.zero_le _⟩)) (fun r_1 e_1 => ?_)
  subst e_1
  refine W.eq (g2 := F0 m 5 ls [.null]) rfl ?_
  refine lv_astoreN (lv' := [(4, .null), (0, .ref (a 0)), (1, .int p1), (2, .int p2), (3, .int p3)]) hx hb dX11_claim_5 hl (by decide) rfl (fun ls hl => ?_)
  refine lv_aloadN hx hb dX11_claim_7 (lv_at hl 0 rfl) ?_
  refine lv_ifnullN (tgt := 19) hx hb dX11_claim_9 (by decide) ?_
  refine lv_bipush (v := (-2)) hx hb dX11_claim_19 (by decide) ?_
  exact W.iret (v := (-2)) hx hb hr (fun t ht hW => ⟨(-2), rfl, rfl, ht⟩) (fun q h => by cases h) dX11_claim_21
def vsX11_undo : List Cond := .code yX11_undo cX11_undo 3 (some .int) :: ([] ++ (wsV RX11 83 RX11 yX11_tableAt vsX11_tableAt ++ []))
set_option maxRecDepth 100000 in
theorem gl_X11_undo : GoodIn lw_tbl vsX11_undo := gi_t 945 rfl rfl (goodIn_app gi_nil (goodIn_app gv_RX11_83 gi_nil))
theorem g_X11_undo_X11_tableAt : GoodIn vsX11_undo (wsV RX11 83 RX11 yX11_tableAt vsX11_tableAt) := fun w h => ⟨List.mem_cons_of_mem _ (List.mem_append_right _ (List.mem_append_left _ h)), (gv_RX11_83 w h).2⟩
set_option maxHeartbeats 4000000 in
set_option maxRecDepth 100000 in
theorem c_X11_undo (l : Launch) (dC : Nat → ClassId) (dI : Nat → Nat → Nat) (a : Nat → Nat) (cG cT : ClassId) (ft : Nat → Option Nat) (TL : va_W) (hT : fr_T ft TL) (p1 : Int32) : Met l yX11_undo vsX11_undo ({ frames := 1, cells := 0, slots := 0, locals := 22 }) (va_Pc [.ref (a 0), .int p1] (fun U => va_P (dC, dI) vwCl (wX a cG cT ft TL) U.heap ∧ va_K (dC, dI) vwCl (tX cG cT) U)) (vp_Si (fun r => r = -2)) 0 0 (fun _ => False) := by
  refine Met.ofW (cc := cX11_undo) (maxL := 3) (ret := (some .int)) (by decide) rfl ?_
  intro p e s m args below meth c s₁ B hml hv
  obtain ⟨rfl, hP, hK⟩ := hv
  have hx := B.exec
  have hb := B.bytes
  have hr := B.returns
  have hts := atoms_spec (ws := vsX11_undo) B.pre
  have hown : s.vm.findClass RX11 = some m.cls := findClass_of_methodNamed B.named
  have hlocks := B.notSynchronized
  have hl := lv_entry ([.ref (a 0), .int p1]) (n := 3) (Nat.le_of_ble_eq_true rfl)
  rw [lg_entry_eq]
  generalize (lg_sl ([.ref (a 0), .int p1]) ++ List.replicate (3 - (lg_sl ([.ref (a 0), .int p1])).length) Slot.unset).toArray = ls at hl ⊢
  have hl : lv_has ls 3 [(0, .ref (a 0)), (1, .int p1)] := hl
  refine lv_aload_n hx hb dX11_undo_0 rfl (lv_at hl 0 rfl) ?_
  refine lv_iload_n hx hb dX11_undo_1 rfl (lv_at hl 1 rfl) ?_
  refine va_csq (va_Run.run (va_runV (As := [.int p1]) (rest := []) ⟨hx, hb, hml, hown, hts⟩ (c_X11_tableAt l dC dI a cG cT ft TL hT p1) (cwV 1 hts g_X11_undo_X11_tableAt rfl rfl rfl (by decide +kernel) ⟨Nat.le_of_ble_eq_true rfl, Nat.le_of_ble_eq_true rfl⟩) ⟨fun a U g mk q => by obtain ⟨q0, qP, qK⟩ := q; exact ⟨q0, qP, va_K.moved (u := U) (U := U.calling g mk a) (Vm.Alike.refl U.vm) qK⟩, va_recv hK hP (ci := 10) (q0 := 0) rfl rfl, fun U hU hW => ⟨rfl, by rw [hU]; exact hP, va_K.moved hW.alike hK⟩⟩ rfl rfl hl.1 rfl (lv_room (Nat.le_of_ble_eq_true rfl)) dX11_undo_2 ⟨Nat.zero_le _, Nat.zero_le _⟩)) (fun r_1 e_1 => ?_)
  subst e_1
  refine W.eq (g2 := F0 m 5 ls [.null]) rfl ?_
  refine lv_astore_nN (lv' := [(2, .null), (0, .ref (a 0)), (1, .int p1)]) hx hb dX11_undo_5 rfl hl (by decide) rfl (fun ls hl => ?_)
  refine lv_aload_nN hx hb dX11_undo_6 rfl (lv_at hl 0 rfl) ?_
  refine lv_ifnonnullN hx hb dX11_undo_7 ?_
  refine lv_bipush (v := (-2)) hx hb dX11_undo_10 (by decide) ?_
  exact W.iret (v := (-2)) hx hb hr (fun t ht hW => ⟨(-2), rfl, rfl, ht⟩) (fun q h => by cases h) dX11_undo_12
def vsX11_replay : List Cond := .code yX11_replay cX11_replay 10 (some .int) :: ([] ++ (wsV RX11 83 RX11 yX11_tableAt vsX11_tableAt ++ []))
set_option maxRecDepth 100000 in
theorem gl_X11_replay : GoodIn lw_tbl vsX11_replay := gi_t 949 rfl rfl (goodIn_app gi_nil (goodIn_app gv_RX11_83 gi_nil))
theorem g_X11_replay_X11_tableAt : GoodIn vsX11_replay (wsV RX11 83 RX11 yX11_tableAt vsX11_tableAt) := fun w h => ⟨List.mem_cons_of_mem _ (List.mem_append_right _ (List.mem_append_left _ h)), (gv_RX11_83 w h).2⟩
set_option maxHeartbeats 4000000 in
set_option maxRecDepth 100000 in
theorem c_X11_replay (l : Launch) (dC : Nat → ClassId) (dI : Nat → Nat → Nat) (a : Nat → Nat) (cG cT : ClassId) (ft : Nat → Option Nat) (TL : va_W) (hT : fr_T ft TL) (p1 : Int32) : Met l yX11_replay vsX11_replay ({ frames := 1, cells := 0, slots := 0, locals := 22 }) (va_Pc [.ref (a 0), .int p1] (fun U => va_P (dC, dI) vwCl (wX a cG cT ft TL) U.heap ∧ va_K (dC, dI) vwCl (tX cG cT) U)) (vp_Si (fun r => r = -2)) 0 0 (fun _ => False) := by
  refine Met.ofW (cc := cX11_replay) (maxL := 10) (ret := (some .int)) (by decide) rfl ?_
  intro p e s m args below meth c s₁ B hml hv
  obtain ⟨rfl, hP, hK⟩ := hv
  have hx := B.exec
  have hb := B.bytes
  have hr := B.returns
  have hts := atoms_spec (ws := vsX11_replay) B.pre
  have hown : s.vm.findClass RX11 = some m.cls := findClass_of_methodNamed B.named
  have hlocks := B.notSynchronized
  have hl := lv_entry ([.ref (a 0), .int p1]) (n := 10) (Nat.le_of_ble_eq_true rfl)
  rw [lg_entry_eq]
  generalize (lg_sl ([.ref (a 0), .int p1]) ++ List.replicate (10 - (lg_sl ([.ref (a 0), .int p1])).length) Slot.unset).toArray = ls at hl ⊢
  have hl : lv_has ls 10 [(0, .ref (a 0)), (1, .int p1)] := hl
  refine lv_aload_n hx hb dX11_replay_0 rfl (lv_at hl 0 rfl) ?_
  refine lv_iload_n hx hb dX11_replay_1 rfl (lv_at hl 1 rfl) ?_
  refine va_csq (va_Run.run (va_runV (As := [.int p1]) (rest := []) ⟨hx, hb, hml, hown, hts⟩ (c_X11_tableAt l dC dI a cG cT ft TL hT p1) (cwV 1 hts g_X11_replay_X11_tableAt rfl rfl rfl (by decide +kernel) ⟨Nat.le_of_ble_eq_true rfl, Nat.le_of_ble_eq_true rfl⟩) ⟨fun a U g mk q => by obtain ⟨q0, qP, qK⟩ := q; exact ⟨q0, qP, va_K.moved (u := U) (U := U.calling g mk a) (Vm.Alike.refl U.vm) qK⟩, va_recv hK hP (ci := 10) (q0 := 0) rfl rfl, fun U hU hW => ⟨rfl, by rw [hU]; exact hP, va_K.moved hW.alike hK⟩⟩ rfl rfl hl.1 rfl (lv_room (Nat.le_of_ble_eq_true rfl)) dX11_replay_2 ⟨Nat.zero_le _, Nat.zero_le _⟩)) (fun r_1 e_1 => ?_)
  subst e_1
  refine W.eq (g2 := F0 m 5 ls [.null]) rfl ?_
  refine lv_astore_nN (lv' := [(2, .null), (0, .ref (a 0)), (1, .int p1)]) hx hb dX11_replay_5 rfl hl (by decide) rfl (fun ls hl => ?_)
  refine lv_aload_nN hx hb dX11_replay_6 rfl (lv_at hl 0 rfl) ?_
  refine lv_ifnonnullN hx hb dX11_replay_7 ?_
  refine lv_bipush (v := (-2)) hx hb dX11_replay_10 (by decide) ?_
  exact W.iret (v := (-2)) hx hb hr (fun t ht hW => ⟨(-2), rfl, rfl, ht⟩) (fun q h => by cases h) dX11_replay_12
def vsX11_digest : List Cond := .code yX11_digest cX11_digest 5 (some .int) :: ([] ++ (wsV RX11 83 RX11 yX11_tableAt vsX11_tableAt ++ []))
set_option maxRecDepth 100000 in
theorem gl_X11_digest : GoodIn lw_tbl vsX11_digest := gi_t 966 rfl rfl (goodIn_app gi_nil (goodIn_app gv_RX11_83 gi_nil))
theorem g_X11_digest_X11_tableAt : GoodIn vsX11_digest (wsV RX11 83 RX11 yX11_tableAt vsX11_tableAt) := fun w h => ⟨List.mem_cons_of_mem _ (List.mem_append_right _ (List.mem_append_left _ h)), (gv_RX11_83 w h).2⟩
set_option maxHeartbeats 4000000 in
set_option maxRecDepth 100000 in
theorem c_X11_digest (l : Launch) (dC : Nat → ClassId) (dI : Nat → Nat → Nat) (a : Nat → Nat) (cG cT : ClassId) (ft : Nat → Option Nat) (TL : va_W) (hT : fr_T ft TL) (p1 : Int32) : Met l yX11_digest vsX11_digest ({ frames := 1, cells := 0, slots := 0, locals := 22 }) (va_Pc [.ref (a 0), .int p1] (fun U => va_P (dC, dI) vwCl (wX a cG cT ft TL) U.heap ∧ va_K (dC, dI) vwCl (tX cG cT) U)) (vp_Si (fun r => r = -2)) 0 0 (fun _ => False) := by
  refine Met.ofW (cc := cX11_digest) (maxL := 5) (ret := (some .int)) (by decide) rfl ?_
  intro p e s m args below meth c s₁ B hml hv
  obtain ⟨rfl, hP, hK⟩ := hv
  have hx := B.exec
  have hb := B.bytes
  have hr := B.returns
  have hts := atoms_spec (ws := vsX11_digest) B.pre
  have hown : s.vm.findClass RX11 = some m.cls := findClass_of_methodNamed B.named
  have hlocks := B.notSynchronized
  have hl := lv_entry ([.ref (a 0), .int p1]) (n := 5) (Nat.le_of_ble_eq_true rfl)
  rw [lg_entry_eq]
  generalize (lg_sl ([.ref (a 0), .int p1]) ++ List.replicate (5 - (lg_sl ([.ref (a 0), .int p1])).length) Slot.unset).toArray = ls at hl ⊢
  have hl : lv_has ls 5 [(0, .ref (a 0)), (1, .int p1)] := hl
  refine lv_aload_n hx hb dX11_digest_0 rfl (lv_at hl 0 rfl) ?_
  refine lv_iload_n hx hb dX11_digest_1 rfl (lv_at hl 1 rfl) ?_
  refine va_csq (va_Run.run (va_runV (As := [.int p1]) (rest := []) ⟨hx, hb, hml, hown, hts⟩ (c_X11_tableAt l dC dI a cG cT ft TL hT p1) (cwV 1 hts g_X11_digest_X11_tableAt rfl rfl rfl (by decide +kernel) ⟨Nat.le_of_ble_eq_true rfl, Nat.le_of_ble_eq_true rfl⟩) ⟨fun a U g mk q => by obtain ⟨q0, qP, qK⟩ := q; exact ⟨q0, qP, va_K.moved (u := U) (U := U.calling g mk a) (Vm.Alike.refl U.vm) qK⟩, va_recv hK hP (ci := 10) (q0 := 0) rfl rfl, fun U hU hW => ⟨rfl, by rw [hU]; exact hP, va_K.moved hW.alike hK⟩⟩ rfl rfl hl.1 rfl (lv_room (Nat.le_of_ble_eq_true rfl)) dX11_digest_2 ⟨Nat.zero_le _, Nat.zero_le _⟩)) (fun r_1 e_1 => ?_)
  subst e_1
  refine W.eq (g2 := F0 m 5 ls [.null]) rfl ?_
  refine lv_astore_nN (lv' := [(2, .null), (0, .ref (a 0)), (1, .int p1)]) hx hb dX11_digest_5 rfl hl (by decide) rfl (fun ls hl => ?_)
  refine lv_aload_nN hx hb dX11_digest_6 rfl (lv_at hl 0 rfl) ?_
  refine lv_ifnonnullN hx hb dX11_digest_7 ?_
  refine lv_bipush (v := (-2)) hx hb dX11_digest_10 (by decide) ?_
  exact W.iret (v := (-2)) hx hb hr (fun t ht hW => ⟨(-2), rfl, rfl, ht⟩) (fun q h => by cases h) dX11_digest_12
def vsX11_status : List Cond := .code yX11_status cX11_status 5 (some .int) :: ([] ++ (wsV RX11 83 RX11 yX11_tableAt vsX11_tableAt ++ []))
set_option maxRecDepth 100000 in
theorem gl_X11_status : GoodIn lw_tbl vsX11_status := gi_t 1008 rfl rfl (goodIn_app gi_nil (goodIn_app gv_RX11_83 gi_nil))
theorem g_X11_status_X11_tableAt : GoodIn vsX11_status (wsV RX11 83 RX11 yX11_tableAt vsX11_tableAt) := fun w h => ⟨List.mem_cons_of_mem _ (List.mem_append_right _ (List.mem_append_left _ h)), (gv_RX11_83 w h).2⟩
set_option maxHeartbeats 4000000 in
set_option maxRecDepth 100000 in
theorem c_X11_status (l : Launch) (dC : Nat → ClassId) (dI : Nat → Nat → Nat) (a : Nat → Nat) (cG cT : ClassId) (ft : Nat → Option Nat) (TL : va_W) (hT : fr_T ft TL) (p1 : Int32) (p2 : Int32) : Met l yX11_status vsX11_status ({ frames := 1, cells := 0, slots := 0, locals := 22 }) (va_Pc [.ref (a 0), .int p1, .int p2] (fun U => va_P (dC, dI) vwCl (wX a cG cT ft TL) U.heap ∧ va_K (dC, dI) vwCl (tX cG cT) U)) (vp_Si (fun r => r = -2)) 0 0 (fun _ => False) := by
  refine Met.ofW (cc := cX11_status) (maxL := 5) (ret := (some .int)) (by decide) rfl ?_
  intro p e s m args below meth c s₁ B hml hv
  obtain ⟨rfl, hP, hK⟩ := hv
  have hx := B.exec
  have hb := B.bytes
  have hr := B.returns
  have hts := atoms_spec (ws := vsX11_status) B.pre
  have hown : s.vm.findClass RX11 = some m.cls := findClass_of_methodNamed B.named
  have hlocks := B.notSynchronized
  have hl := lv_entry ([.ref (a 0), .int p1, .int p2]) (n := 5) (Nat.le_of_ble_eq_true rfl)
  rw [lg_entry_eq]
  generalize (lg_sl ([.ref (a 0), .int p1, .int p2]) ++ List.replicate (5 - (lg_sl ([.ref (a 0), .int p1, .int p2])).length) Slot.unset).toArray = ls at hl ⊢
  have hl : lv_has ls 5 [(0, .ref (a 0)), (1, .int p1), (2, .int p2)] := hl
  refine lv_aload_n hx hb dX11_status_0 rfl (lv_at hl 0 rfl) ?_
  refine lv_iload_n hx hb dX11_status_1 rfl (lv_at hl 1 rfl) ?_
  refine va_csq (va_Run.run (va_runV (As := [.int p1]) (rest := []) ⟨hx, hb, hml, hown, hts⟩ (c_X11_tableAt l dC dI a cG cT ft TL hT p1) (cwV 1 hts g_X11_status_X11_tableAt rfl rfl rfl (by decide +kernel) ⟨Nat.le_of_ble_eq_true rfl, Nat.le_of_ble_eq_true rfl⟩) ⟨fun a U g mk q => by obtain ⟨q0, qP, qK⟩ := q; exact ⟨q0, qP, va_K.moved (u := U) (U := U.calling g mk a) (Vm.Alike.refl U.vm) qK⟩, va_recv hK hP (ci := 10) (q0 := 0) rfl rfl, fun U hU hW => ⟨rfl, by rw [hU]; exact hP, va_K.moved hW.alike hK⟩⟩ rfl rfl hl.1 rfl (lv_room (Nat.le_of_ble_eq_true rfl)) dX11_status_2 ⟨Nat.zero_le _, Nat.zero_le _⟩)) (fun r_1 e_1 => ?_)
  subst e_1
  refine W.eq (g2 := F0 m 5 ls [.null]) rfl ?_
  refine lv_astore_nN (lv' := [(3, .null), (0, .ref (a 0)), (1, .int p1), (2, .int p2)]) hx hb dX11_status_5 rfl hl (by decide) rfl (fun ls hl => ?_)
  refine lv_aload_nN hx hb dX11_status_6 rfl (lv_at hl 0 rfl) ?_
  refine lv_ifnonnullN hx hb dX11_status_7 ?_
  refine lv_bipush (v := (-2)) hx hb dX11_status_10 (by decide) ?_
  exact W.iret (v := (-2)) hx hb hr (fun t ht hW => ⟨(-2), rfl, rfl, ht⟩) (fun q h => by cases h) dX11_status_12
def vsX11_kindOf : List Cond := .code yX11_kindOf cX11_kindOf 3 (some .int) :: ([] ++ (wsV RX11 61 RX11 yX11_gameAt vsX11_gameAt ++ []))
set_option maxRecDepth 100000 in
theorem gl_X11_kindOf : GoodIn lw_tbl vsX11_kindOf := gi_t 395 rfl rfl (goodIn_app gi_nil (goodIn_app gv_RX11_61 gi_nil))
theorem g_X11_kindOf_X11_gameAt : GoodIn vsX11_kindOf (wsV RX11 61 RX11 yX11_gameAt vsX11_gameAt) := fun w h => ⟨List.mem_cons_of_mem _ (List.mem_append_right _ (List.mem_append_left _ h)), (gv_RX11_61 w h).2⟩
set_option maxHeartbeats 4000000 in
set_option maxRecDepth 100000 in
theorem c_X11_kindOf (l : Launch) (dC : Nat → ClassId) (dI : Nat → Nat → Nat) (a : Nat → Nat) (cG cT : ClassId) (ft : Nat → Option Nat) (TL : va_W) (hT : fr_T ft TL) (p1 : Int32) : Met l yX11_kindOf vsX11_kindOf ({ frames := 2, cells := 0, slots := 0, locals := 41 }) (va_Pc [.ref (a 0), .int p1] (fun U => va_P (dC, dI) vwCl (wX a cG cT ft TL) U.heap ∧ va_K (dC, dI) vwCl (tX cG cT) U)) (vp_Si (fun r => r = -2)) 0 0 (fun _ => False) := by
  refine Met.ofW (cc := cX11_kindOf) (maxL := 3) (ret := (some .int)) (by decide) rfl ?_
  intro p e s m args below meth c s₁ B hml hv
  obtain ⟨rfl, hP, hK⟩ := hv
  have hx := B.exec
  have hb := B.bytes
  have hr := B.returns
  have hts := atoms_spec (ws := vsX11_kindOf) B.pre
  have hown : s.vm.findClass RX11 = some m.cls := findClass_of_methodNamed B.named
  have hlocks := B.notSynchronized
  have hl := lv_entry ([.ref (a 0), .int p1]) (n := 3) (Nat.le_of_ble_eq_true rfl)
  rw [lg_entry_eq]
  generalize (lg_sl ([.ref (a 0), .int p1]) ++ List.replicate (3 - (lg_sl ([.ref (a 0), .int p1])).length) Slot.unset).toArray = ls at hl ⊢
  have hl : lv_has ls 3 [(0, .ref (a 0)), (1, .int p1)] := hl
  refine lv_aload_n hx hb dX11_kindOf_0 rfl (lv_at hl 0 rfl) ?_
  refine lv_iload_n hx hb dX11_kindOf_1 rfl (lv_at hl 1 rfl) ?_
  refine va_csq (va_Run.run (va_runV (As := [.int p1]) (rest := []) ⟨hx, hb, hml, hown, hts⟩ (c_X11_gameAt l dC dI a cG cT ft TL hT p1) (cwV 1 hts g_X11_kindOf_X11_gameAt rfl rfl rfl (by decide +kernel) ⟨Nat.le_of_ble_eq_true rfl, Nat.le_of_ble_eq_true rfl⟩) ⟨fun a U g mk q => by obtain ⟨q0, qP, qK⟩ := q; exact ⟨q0, qP, va_K.moved (u := U) (U := U.calling g mk a) (Vm.Alike.refl U.vm) qK⟩, va_recv hK hP (ci := 10) (q0 := 0) rfl rfl, fun U hU hW => ⟨rfl, by rw [hU]; exact hP, va_K.moved hW.alike hK⟩⟩ rfl rfl hl.1 rfl (lv_room (Nat.le_of_ble_eq_true rfl)) dX11_kindOf_2 ⟨Nat.zero_le _, Nat.zero_le _⟩)) (fun r_1 e_1 => ?_)
  subst e_1
  refine W.eq (g2 := F0 m 5 ls [.null]) rfl ?_
  refine lv_astore_nN (lv' := [(2, .null), (0, .ref (a 0)), (1, .int p1)]) hx hb dX11_kindOf_5 rfl hl (by decide) rfl (fun ls hl => ?_)
  refine lv_aload_nN hx hb dX11_kindOf_6 rfl (lv_at hl 0 rfl) ?_
  refine lv_ifnonnullN hx hb dX11_kindOf_7 ?_
  refine lv_bipush (v := (-2)) hx hb dX11_kindOf_10 (by decide) ?_
  refine lv_goto (tgt := 19) hx hb dX11_kindOf_12 (by decide) ?_
  exact W.iret (v := (-2)) hx hb hr (fun t ht hW => ⟨(-2), rfl, rfl, ht⟩) (fun q h => by cases h) dX11_kindOf_19
set_option maxRecDepth 100000 in
theorem gv_RX11_284 : GoodIn lw_tbl (wsV RX11 284 RX6 yX6_findingAt vsX6_findingAt) := (gi_t 975 (by decide +kernel) rfl (gi_t 976 (by decide +kernel) rfl (gi_t 977 (by decide +kernel) rfl (gi_t 6 (by decide +kernel) rfl gl_X6_findingAt))))
def vsX11_finding : List Cond := .code yX11_finding cX11_finding 3 (some .int) :: ([.fieldLink RX11 43 "CardTables" "notes" "LCardTables$Notes;"] ++ (wsX110 ++ (wsV RX11 284 RX6 yX6_findingAt vsX6_findingAt ++ [])))
set_option maxRecDepth 100000 in
theorem gl_X11_finding : GoodIn lw_tbl vsX11_finding := gi_t 974 rfl rfl (goodIn_app (gi_t 303 (by decide +kernel) rfl gi_nil) (goodIn_app gc_X11 (goodIn_app gv_RX11_284 gi_nil)))
theorem g_X11_finding_X6_findingAt : GoodIn vsX11_finding (wsV RX11 284 RX6 yX6_findingAt vsX6_findingAt) := fun w h => ⟨List.mem_cons_of_mem _ (List.mem_append_right _ (List.mem_append_right _ (List.mem_append_left _ h))), (gv_RX11_284 w h).2⟩
set_option maxHeartbeats 4000000 in
set_option maxRecDepth 100000 in
theorem c_X11_finding (l : Launch) (dC : Nat → ClassId) (dI : Nat → Nat → Nat) (a : Nat → Nat) (cG cT : ClassId) (ft : Nat → Option Nat) (TL : va_W) (hT : fr_T ft TL) (p1 : Int32) (p2 : Int32) : Met l yX11_finding vsX11_finding ({ frames := 2, cells := 0, slots := 0, locals := 63 }) (va_Pc [.ref (a 0), .int p1, .int p2] (fun U => va_P (dC, dI) vwCl (wX a cG cT ft TL) U.heap ∧ va_K (dC, dI) vwCl (tX cG cT) U)) (vp_Si (fun r => r = f_finding p2)) 0 0 (fun _ => False) := by
  refine Met.ofW (cc := cX11_finding) (maxL := 3) (ret := (some .int)) (by decide) rfl ?_
  intro p e s m args below meth c s₁ B hml hv
  obtain ⟨rfl, hP, hK⟩ := hv
  have hx := B.exec
  have hb := B.bytes
  have hr := B.returns
  have hts := atoms_spec (ws := vsX11_finding) B.pre
  have hown : s.vm.findClass RX11 = some m.cls := findClass_of_methodNamed B.named
  have hlocks := B.notSynchronized
  have hl := lv_entry ([.ref (a 0), .int p1, .int p2]) (n := 3) (Nat.le_of_ble_eq_true rfl)
  rw [lg_entry_eq]
  generalize (lg_sl ([.ref (a 0), .int p1, .int p2]) ++ List.replicate (3 - (lg_sl ([.ref (a 0), .int p1, .int p2])).length) Slot.unset).toArray = ls at hl ⊢
  have hl : lv_has ls 3 [(0, .ref (a 0)), (1, .int p1), (2, .int p2)] := hl
  refine lv_iload_n hx hb dX11_finding_0 rfl (lv_at hl 2 rfl) ?_
  refine lv_if_lt (tgt := 9) hx hb dX11_finding_1 (by decide) (fun c_1 => ?_) (fun c_1 => ?_)
  · skip
    refine lv_bipush (v := (-3)) hx hb dX11_finding_9 (by decide) ?_
    exact W.iret (v := (-3)) hx hb hr (fun t ht hW => ⟨(-3), rfl, (by unfold f_finding; exact (if_pos (by simp only [fa_lt, fa_le, ti_m1, ti_0, ti_1, ti_2, ti_3, ti_4, ti_5, ti_6, ti_60] at c_1 ⊢; omega)).symm), ht⟩) (fun q h => by cases h) dX11_finding_11
  · skip
    refine lv_iload_n hx hb dX11_finding_4 rfl (lv_at hl 2 rfl) ?_
    refine lv_iconst (v := 5) hx hb dX11_finding_5 (by decide) ?_
    refine lv_icmp_lt (tgt := 12) hx hb dX11_finding_6 (by decide) (fun c_2 => ?_) (fun c_2 => ?_)
    · skip
      refine lv_aload_n hx hb dX11_finding_12 rfl (lv_at hl 0 rfl) ?_
      refine va_get (D := (dC, dI)) (ci := 10) (v := .ref (a 3)) (C := RX11) (T := TX11) (N := 9) hx hb hts (by decide +kernel) hown hK hP 0 rfl rfl 6 (by decide) (hts (.fieldLink RX11 43 "CardTables" "notes" "LCardTables$Notes;") (List.mem_of_getElem? (l := vsX11_finding) (i := 1) rfl)) (fun _ h9 => h9) rfl dX11_finding_13 ?_
      refine lv_iload_n hx hb dX11_finding_16 rfl (lv_at hl 1 rfl) ?_
      refine lv_iload_n hx hb dX11_finding_17 rfl (lv_at hl 2 rfl) ?_
      have hPc := hP.sub (ws' := [(a 3, .inr (5, [.int 0, .ref (a 10), .ref (a 11), .int 0, .int 0, .int 0, .int 0]))]) [3] rfl
      have hKc := hK.sub (tys' := []) [] rfl
      refine vp_callSi (va_Run.run (va_runV (As := [.int p1, .int p2]) (rest := []) ⟨hx, hb, hml, hown, hts⟩ (c_X6_findingAt l dC dI (a 3) (a 10) (a 11) p1 p2) (cwV 2 hts g_X11_finding_X6_findingAt rfl rfl rfl (by decide +kernel) ⟨Nat.le_of_ble_eq_true rfl, Nat.le_of_ble_eq_true rfl⟩) ⟨fun a U g mk q => by obtain ⟨q0, qP, qK⟩ := q; exact ⟨q0, qP, va_K.moved (u := U) (U := U.calling g mk a) (Vm.Alike.refl U.vm) qK⟩, va_recv hKc hPc (ci := 5) (q0 := 0) rfl rfl, fun U hU hW => ⟨rfl, by rw [hU]; exact hPc, va_K.moved hW.alike hKc⟩⟩ rfl rfl hl.1 rfl (lv_room (Nat.le_of_ble_eq_true rfl)) dX11_finding_18 ⟨Nat.zero_le _, Nat.zero_le _⟩)) (fun r_3 e_3 => ?_)
      subst e_3
      exact W.iret (v := (-1)) hx hb hr (fun t ht hW => ⟨(-1), rfl, (by unfold f_finding; exact (if_neg (by simp only [fa_lt, fa_le, ti_m1, ti_0, ti_1, ti_2, ti_3, ti_4, ti_5, ti_6, ti_60] at c_1 c_2 ⊢; omega)).symm), ht⟩) (fun q h => by cases h) dX11_finding_21
    · skip
      refine lv_bipush (v := (-3)) hx hb dX11_finding_9 (by decide) ?_
      exact W.iret (v := (-3)) hx hb hr (fun t ht hW => ⟨(-3), rfl, (by unfold f_finding; exact (if_pos (by simp only [fa_lt, fa_le, ti_m1, ti_0, ti_1, ti_2, ti_3, ti_4, ti_5, ti_6, ti_60] at c_1 c_2 ⊢; omega)).symm), ht⟩) (fun q h => by cases h) dX11_finding_11
set_option maxRecDepth 100000 in
theorem gv_RX11_287 : GoodIn lw_tbl (wsV RX11 287 RX6 yX6_bodyAt vsX6_bodyAt) := (gi_t 985 (by decide +kernel) rfl (gi_t 986 (by decide +kernel) rfl (gi_t 987 (by decide +kernel) rfl (gi_t 6 (by decide +kernel) rfl gl_X6_bodyAt))))
def vsX11_trace : List Cond := .code yX11_trace cX11_trace 2 (some .int) :: ([.fieldLink RX11 43 "CardTables" "notes" "LCardTables$Notes;"] ++ (wsX110 ++ (wsV RX11 287 RX6 yX6_bodyAt vsX6_bodyAt ++ [])))
set_option maxRecDepth 100000 in
theorem gl_X11_trace : GoodIn lw_tbl vsX11_trace := gi_t 984 rfl rfl (goodIn_app (gi_t 303 (by decide +kernel) rfl gi_nil) (goodIn_app gc_X11 (goodIn_app gv_RX11_287 gi_nil)))
theorem g_X11_trace_X6_bodyAt : GoodIn vsX11_trace (wsV RX11 287 RX6 yX6_bodyAt vsX6_bodyAt) := fun w h => ⟨List.mem_cons_of_mem _ (List.mem_append_right _ (List.mem_append_right _ (List.mem_append_left _ h))), (gv_RX11_287 w h).2⟩
set_option maxHeartbeats 4000000 in
set_option maxRecDepth 100000 in
theorem c_X11_trace (l : Launch) (dC : Nat → ClassId) (dI : Nat → Nat → Nat) (a : Nat → Nat) (cG cT : ClassId) (ft : Nat → Option Nat) (TL : va_W) (hT : fr_T ft TL) (p1 : Int32) : Met l yX11_trace vsX11_trace ({ frames := 2, cells := 0, slots := 0, locals := 61 }) (va_Pc [.ref (a 0), .int p1] (fun U => va_P (dC, dI) vwCl (wX a cG cT ft TL) U.heap ∧ va_K (dC, dI) vwCl (tX cG cT) U)) (vp_Si (fun r => r = -1)) 0 0 (fun _ => False) := by
  refine Met.ofW (cc := cX11_trace) (maxL := 2) (ret := (some .int)) (by decide) rfl ?_
  intro p e s m args below meth c s₁ B hml hv
  obtain ⟨rfl, hP, hK⟩ := hv
  have hx := B.exec
  have hb := B.bytes
  have hr := B.returns
  have hts := atoms_spec (ws := vsX11_trace) B.pre
  have hown : s.vm.findClass RX11 = some m.cls := findClass_of_methodNamed B.named
  have hlocks := B.notSynchronized
  have hl := lv_entry ([.ref (a 0), .int p1]) (n := 2) (Nat.le_of_ble_eq_true rfl)
  rw [lg_entry_eq]
  generalize (lg_sl ([.ref (a 0), .int p1]) ++ List.replicate (2 - (lg_sl ([.ref (a 0), .int p1])).length) Slot.unset).toArray = ls at hl ⊢
  have hl : lv_has ls 2 [(0, .ref (a 0)), (1, .int p1)] := hl
  refine lv_aload_n hx hb dX11_trace_0 rfl (lv_at hl 0 rfl) ?_
  refine va_get (D := (dC, dI)) (ci := 10) (v := .ref (a 3)) (C := RX11) (T := TX11) (N := 9) hx hb hts (by decide +kernel) hown hK hP 0 rfl rfl 6 (by decide) (hts (.fieldLink RX11 43 "CardTables" "notes" "LCardTables$Notes;") (List.mem_of_getElem? (l := vsX11_trace) (i := 1) rfl)) (fun _ h9 => h9) rfl dX11_trace_1 ?_
  refine lv_iload_n hx hb dX11_trace_4 rfl (lv_at hl 1 rfl) ?_
  have hPc := hP.sub (ws' := [(a 3, .inr (5, [.int 0, .ref (a 10), .ref (a 11), .int 0, .int 0, .int 0, .int 0]))]) [3] rfl
  have hKc := hK.sub (tys' := []) [] rfl
  refine vp_callSi (va_Run.run (va_runV (As := [.int p1]) (rest := []) ⟨hx, hb, hml, hown, hts⟩ (c_X6_bodyAt l dC dI (a 3) (a 10) (a 11) p1) (cwV 1 hts g_X11_trace_X6_bodyAt rfl rfl rfl (by decide +kernel) ⟨Nat.le_of_ble_eq_true rfl, Nat.le_of_ble_eq_true rfl⟩) ⟨fun a U g mk q => by obtain ⟨q0, qP, qK⟩ := q; exact ⟨q0, qP, va_K.moved (u := U) (U := U.calling g mk a) (Vm.Alike.refl U.vm) qK⟩, va_recv hKc hPc (ci := 5) (q0 := 0) rfl rfl, fun U hU hW => ⟨rfl, by rw [hU]; exact hPc, va_K.moved hW.alike hKc⟩⟩ rfl rfl hl.1 rfl (lv_room (Nat.le_of_ble_eq_true rfl)) dX11_trace_5 ⟨Nat.zero_le _, Nat.zero_le _⟩)) (fun r_1 e_1 => ?_)
  subst e_1
  exact W.iret (v := (-1)) hx hb hr (fun t ht hW => ⟨(-1), rfl, rfl, ht⟩) (fun q h => by cases h) dX11_trace_8
set_option maxRecDepth 100000 in
theorem gv_RX11_299 : GoodIn lw_tbl (wsV RX11 299 RX11 yX11_tablesThere vsX11_tablesThere) := (gi_t 997 (by decide +kernel) rfl (gi_t 999 (by decide +kernel) rfl (gi_s 24 (by decide +kernel) rfl (gi_t 1 (by decide +kernel) rfl gl_X11_tablesThere))))
set_option maxRecDepth 100000 in
theorem gv_RX11_303 : GoodIn lw_tbl (wsV RX11 303 RX11 yX11_gamesThere vsX11_gamesThere) := (gi_t 1001 (by decide +kernel) rfl (gi_t 1003 (by decide +kernel) rfl (gi_s 25 (by decide +kernel) rfl (gi_t 1 (by decide +kernel) rfl gl_X11_gamesThere))))
def vsX11_count : List Cond := .code yX11_count cX11_count 2 (some .int) :: ([.fieldLink RX11 43 "CardTables" "notes" "LCardTables$Notes;", .fieldLink RX11 293 "CardTables$Notes" "tries" "I", .fieldLink RX11 296 "CardTables$Notes" "findingCount" "I", .fieldLink RX11 148 "CardTables$Notes" "number" "I"] ++ (wsX110 ++ (wsX60 ++ (wsV RX11 299 RX11 yX11_tablesThere vsX11_tablesThere ++ (wsV RX11 303 RX11 yX11_gamesThere vsX11_gamesThere ++ [])))))
set_option maxRecDepth 100000 in
theorem gl_X11_count : GoodIn lw_tbl vsX11_count := gi_t 996 rfl rfl (goodIn_app (gi_t 303 (by decide +kernel) rfl (gi_t 227 (by decide +kernel) rfl (gi_t 225 (by decide +kernel) rfl (gi_t 228 (by decide +kernel) rfl gi_nil)))) (goodIn_app gc_X11 (goodIn_app gc_X6 (goodIn_app gv_RX11_299 (goodIn_app gv_RX11_303 gi_nil)))))
theorem g_X11_count_X11_tablesThere : GoodIn vsX11_count (wsV RX11 299 RX11 yX11_tablesThere vsX11_tablesThere) := fun w h => ⟨List.mem_cons_of_mem _ (List.mem_append_right _ (List.mem_append_right _ (List.mem_append_right _ (List.mem_append_left _ h)))), (gv_RX11_299 w h).2⟩
theorem g_X11_count_X11_gamesThere : GoodIn vsX11_count (wsV RX11 303 RX11 yX11_gamesThere vsX11_gamesThere) := fun w h => ⟨List.mem_cons_of_mem _ (List.mem_append_right _ (List.mem_append_right _ (List.mem_append_right _ (List.mem_append_right _ (List.mem_append_left _ h))))), (gv_RX11_303 w h).2⟩
set_option maxHeartbeats 4000000 in
set_option maxRecDepth 100000 in
theorem c_X11_count (l : Launch) (dC : Nat → ClassId) (dI : Nat → Nat → Nat) (a : Nat → Nat) (cG cT : ClassId) (ft : Nat → Option Nat) (TL : va_W) (hT : fr_T ft TL) (p1 : Int32) : Met l yX11_count vsX11_count ({ frames := 2, cells := 0, slots := 0, locals := 44 }) (va_Pc [.ref (a 0), .int p1] (fun U => va_P (dC, dI) vwCl (wX a cG cT ft TL) U.heap ∧ va_K (dC, dI) vwCl (tX cG cT) U)) (vp_Si (fun r => r = f_count p1)) 0 0 (fun _ => False) := by
  refine Met.ofW (cc := cX11_count) (maxL := 2) (ret := (some .int)) (by decide) rfl ?_
  intro p e s m args below meth c s₁ B hml hv
  obtain ⟨rfl, hP, hK⟩ := hv
  have hx := B.exec
  have hb := B.bytes
  have hr := B.returns
  have hts := atoms_spec (ws := vsX11_count) B.pre
  have hown : s.vm.findClass RX11 = some m.cls := findClass_of_methodNamed B.named
  have hlocks := B.notSynchronized
  have hl := lv_entry ([.ref (a 0), .int p1]) (n := 2) (Nat.le_of_ble_eq_true rfl)
  rw [lg_entry_eq]
  generalize (lg_sl ([.ref (a 0), .int p1]) ++ List.replicate (2 - (lg_sl ([.ref (a 0), .int p1])).length) Slot.unset).toArray = ls at hl ⊢
  have hl : lv_has ls 2 [(0, .ref (a 0)), (1, .int p1)] := hl
  refine lv_iload_n hx hb dX11_count_0 rfl (lv_at hl 1 rfl) ?_
  by_cases hs_1_0 : p1 = 0
  · subst hs_1_0
    refine lv_tableIn (off := 35) (tgt := 36) hx hb dX11_count_1 (by decide +kernel) (by decide +kernel) (by decide +kernel) (by decide) ?_
    refine lv_aload_n hx hb dX11_count_36 rfl (lv_at hl 0 rfl) ?_
    refine va_get (D := (dC, dI)) (ci := 10) (v := .ref (a 3)) (C := RX11) (T := TX11) (N := 9) hx hb hts (by decide +kernel) hown hK hP 0 rfl rfl 6 (by decide) (hts (.fieldLink RX11 43 "CardTables" "notes" "LCardTables$Notes;") (List.mem_of_getElem? (l := vsX11_count) (i := 1) rfl)) (fun _ h9 => h9) rfl dX11_count_37 ?_
    refine va_get (D := (dC, dI)) (ci := 5) (v := .int 0) (C := RX6) (T := TX6) (N := 7) hx hb hts (by decide +kernel) hown hK hP 3 rfl rfl 5 (by decide) (hts (.fieldLink RX11 293 "CardTables$Notes" "tries" "I") (List.mem_of_getElem? (l := vsX11_count) (i := 2) rfl)) (fun _ h9 => h9) rfl dX11_count_40 ?_
    exact W.iret (v := 0) hx hb hr (fun t ht hW => ⟨0, rfl, (by decide +kernel), ht⟩) (fun q h => by cases h) dX11_count_43
  by_cases hs_1_1 : p1 = 1
  · subst hs_1_1
    refine lv_tableIn (off := 43) (tgt := 44) hx hb dX11_count_1 (by decide +kernel) (by decide +kernel) (by decide +kernel) (by decide) ?_
    refine lv_aload_n hx hb dX11_count_44 rfl (lv_at hl 0 rfl) ?_
    refine va_get (D := (dC, dI)) (ci := 10) (v := .ref (a 3)) (C := RX11) (T := TX11) (N := 9) hx hb hts (by decide +kernel) hown hK hP 0 rfl rfl 6 (by decide) (hts (.fieldLink RX11 43 "CardTables" "notes" "LCardTables$Notes;") (List.mem_of_getElem? (l := vsX11_count) (i := 1) rfl)) (fun _ h9 => h9) rfl dX11_count_45 ?_
    refine va_get (D := (dC, dI)) (ci := 5) (v := .int 0) (C := RX6) (T := TX6) (N := 7) hx hb hts (by decide +kernel) hown hK hP 3 rfl rfl 4 (by decide) (hts (.fieldLink RX11 296 "CardTables$Notes" "findingCount" "I") (List.mem_of_getElem? (l := vsX11_count) (i := 3) rfl)) (fun _ h9 => h9) rfl dX11_count_48 ?_
    exact W.iret (v := 0) hx hb hr (fun t ht hW => ⟨0, rfl, (by decide +kernel), ht⟩) (fun q h => by cases h) dX11_count_51
  by_cases hs_1_2 : p1 = 2
  · subst hs_1_2
    refine lv_tableIn (off := 51) (tgt := 52) hx hb dX11_count_1 (by decide +kernel) (by decide +kernel) (by decide +kernel) (by decide) ?_
    refine lv_aload_n hx hb dX11_count_52 rfl (lv_at hl 0 rfl) ?_
    refine va_get (D := (dC, dI)) (ci := 10) (v := .ref (a 3)) (C := RX11) (T := TX11) (N := 9) hx hb hts (by decide +kernel) hown hK hP 0 rfl rfl 6 (by decide) (hts (.fieldLink RX11 43 "CardTables" "notes" "LCardTables$Notes;") (List.mem_of_getElem? (l := vsX11_count) (i := 1) rfl)) (fun _ h9 => h9) rfl dX11_count_53 ?_
    refine va_get (D := (dC, dI)) (ci := 5) (v := .int 0) (C := RX6) (T := TX6) (N := 7) hx hb hts (by decide +kernel) hown hK hP 3 rfl rfl 6 (by decide) (hts (.fieldLink RX11 148 "CardTables$Notes" "number" "I") (List.mem_of_getElem? (l := vsX11_count) (i := 4) rfl)) (fun _ h9 => h9) rfl dX11_count_56 ?_
    exact W.iret (v := 0) hx hb hr (fun t ht hW => ⟨0, rfl, (by decide +kernel), ht⟩) (fun q h => by cases h) dX11_count_59
  by_cases hs_1_3 : p1 = 3
  · subst hs_1_3
    refine lv_tableIn (off := 59) (tgt := 60) hx hb dX11_count_1 (by decide +kernel) (by decide +kernel) (by decide +kernel) (by decide) ?_
    refine lv_aload_n hx hb dX11_count_60 rfl (lv_at hl 0 rfl) ?_
    refine vp_callSi (va_Run.run (va_runV (As := []) (rest := []) ⟨hx, hb, hml, hown, hts⟩ (c_X11_tablesThere l dC dI a cG cT ft TL hT ) (cwV 0 hts g_X11_count_X11_tablesThere rfl rfl rfl (by decide +kernel) ⟨Nat.le_of_ble_eq_true rfl, Nat.le_of_ble_eq_true rfl⟩) ⟨fun a U g mk q => by obtain ⟨q0, qP, qK⟩ := q; exact ⟨q0, qP, va_K.moved (u := U) (U := U.calling g mk a) (Vm.Alike.refl U.vm) qK⟩, va_recv hK hP (ci := 10) (q0 := 0) rfl rfl, fun U hU hW => ⟨rfl, by rw [hU]; exact hP, va_K.moved hW.alike hK⟩⟩ rfl rfl hl.1 rfl (lv_room (Nat.le_of_ble_eq_true rfl)) dX11_count_61 ⟨Nat.zero_le _, Nat.zero_le _⟩)) (fun r_2 e_2 => ?_)
    subst e_2
    exact W.iret (v := 0) hx hb hr (fun t ht hW => ⟨0, rfl, (by decide +kernel), ht⟩) (fun q h => by cases h) dX11_count_64
  by_cases hs_1_4 : p1 = 4
  · subst hs_1_4
    refine lv_tableIn (off := 64) (tgt := 65) hx hb dX11_count_1 (by decide +kernel) (by decide +kernel) (by decide +kernel) (by decide) ?_
    refine lv_aload_n hx hb dX11_count_65 rfl (lv_at hl 0 rfl) ?_
    refine vp_callSi (va_Run.run (va_runV (As := []) (rest := []) ⟨hx, hb, hml, hown, hts⟩ (c_X11_gamesThere l dC dI a cG cT ft TL hT ) (cwV 0 hts g_X11_count_X11_gamesThere rfl rfl rfl (by decide +kernel) ⟨Nat.le_of_ble_eq_true rfl, Nat.le_of_ble_eq_true rfl⟩) ⟨fun a U g mk q => by obtain ⟨q0, qP, qK⟩ := q; exact ⟨q0, qP, va_K.moved (u := U) (U := U.calling g mk a) (Vm.Alike.refl U.vm) qK⟩, va_recv hK hP (ci := 10) (q0 := 0) rfl rfl, fun U hU hW => ⟨rfl, by rw [hU]; exact hP, va_K.moved hW.alike hK⟩⟩ rfl rfl hl.1 rfl (lv_room (Nat.le_of_ble_eq_true rfl)) dX11_count_66 ⟨Nat.zero_le _, Nat.zero_le _⟩)) (fun r_3 e_3 => ?_)
    subst e_3
    exact W.iret (v := 0) hx hb hr (fun t ht hW => ⟨0, rfl, (by decide +kernel), ht⟩) (fun q h => by cases h) dX11_count_69
  have ht_1_0 : ¬ p1.toInt = 0 := fun h => hs_1_0 ((fa_eq _ _).mpr (h.trans (by decide +kernel)))
  have ht_1_1 : ¬ p1.toInt = 1 := fun h => hs_1_1 ((fa_eq _ _).mpr (h.trans (by decide +kernel)))
  have ht_1_2 : ¬ p1.toInt = 2 := fun h => hs_1_2 ((fa_eq _ _).mpr (h.trans (by decide +kernel)))
  have ht_1_3 : ¬ p1.toInt = 3 := fun h => hs_1_3 ((fa_eq _ _).mpr (h.trans (by decide +kernel)))
  have ht_1_4 : ¬ p1.toInt = 4 := fun h => hs_1_4 ((fa_eq _ _).mpr (h.trans (by decide +kernel)))
  refine lv_tableOut (tgt := 70) hx hb dX11_count_1 (by omega) (by decide) ?_
  refine lv_bipush (v := (-3)) hx hb dX11_count_70 (by decide) ?_
  exact W.iret (v := (-3)) hx hb hr (fun t ht hW => ⟨(-3), rfl, (by unfold f_count; exact (if_pos (by simp only [fa_lt, ti_m1, ti_0, ti_1, ti_2, ti_3, ti_4, ti_5, ti_6, ti_60]; omega)).symm), ht⟩) (fun q h => by cases h) dX11_count_72
