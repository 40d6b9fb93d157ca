section LC
variable {p : Program} {l : Launch} {e : Env} {s : State} {m : MethodId} {below : List Frame} {meth : Method} {c : Code} {H : Heap} {locs : List Loc} {Q : State → Prop}
variable {ls : Array Slot} {D : va_G} {K Km : zK} {V : zV} {f : Nat → Int32} {A : Nat → Nat → Int32} {a b sb L N : Nat} {i : Int32} {xs : Nat → Int32}
set_option maxHeartbeats 4000000 in
set_option maxRecDepth 100000 in
theorem lc_12 (G : lwG p s m meth c sb L xs D) (hi : i.toInt = 5 * (N : Int)) (hL : 5 * N + 5 ≤ L) (T : lwT D s K V a Km f A b (N : Int) H locs) (hl : lv_has ls 4 [(3, .int i), (2, .ref b), (1, .ref a), (0, .ref sb)]) (nx : ∀ (K : zK) (V : zV) (f : Nat → Int32) (A : Nat → Nat → Int32) (H : Heap) (locs : List Loc) (ls : Array Slot), lwT D s K V a Km f A b ((N : Int) + 1) H locs → lv_has ls 4 [(3, .int i), (2, .ref b), (1, .ref a), (0, .ref sb)] → W p l e room_1 s m #[Value.ref sb] below meth c H locs (2000 + (N + 1)) (700000 + 3 * (N + 1)) Q (F0 m 1419 ls [])) : W p l e room_1 s m #[Value.ref sb] below meth c H locs (2000 + N) (700000 + 3 * N) Q (F0 m 690 ls []) := by
  obtain ⟨hx, hb, hr, hml, hown, hts, hX, hbl, hlocks, hgv⟩ := id G.1
  have hL2 := G.2.1
  obtain ⟨vi, va, vg⟩ := V
  have hf : (2000 + N) + 0 ≤ room_1.cells ∧ (700000 + 3 * N) + 0 ≤ room_1.slots := ⟨by show 2000 + N + 0 ≤ 600000; omega, by show 700000 + 3 * N + 0 ≤ 7302250; omega⟩
  have h600 : 0 ≤ (N : Int) ∧ (N : Int) ≤ 600 := ⟨by omega, by omega⟩
  refine lv_aload_n hx hb dL_law_690 rfl (lv_at hl 2 rfl) ?_
  refine lw_arg (k := 1) (kv := 1) G T.2.2.2.2 hl hi hL rfl ti_1 (by decide) dL_law_691 dL_law_692 dL_law_693 dL_law_694 dL_law_695 ?_
  refine lw_arg (k := 2) (kv := 2) G T.2.2.2.2 hl hi hL rfl ti_2 (by decide) dL_law_696 dL_law_697 dL_law_698 dL_law_699 dL_law_700 ?_
  refine lw_arg (k := 3) (kv := 3) G T.2.2.2.2 hl hi hL rfl ti_3 (by decide) dL_law_701 dL_law_702 dL_law_703 dL_law_704 dL_law_705 ?_
  refine lw_cX T (lw_runX (As := [.int (xs (5 * N + 1)), .int (xs (5 * N + 2)), .int (xs (5 * N + 3))]) (rest := []) G T.1 T.2.2.2.2 (c_X11_revoke l D K T.1.1 vi va vg T.1.2.1 a T.1.2.2.2.1.1 T.1.2.2.2.1.2 (xs (5 * N + 1)) (xs (5 * N + 2)) (xs (5 * N + 3))) m_X11_revoke rfl wm_L_66 ⟨Nat.le_of_ble_eq_true rfl, Nat.le_of_ble_eq_true rfl⟩ hf hl.1 (Nat.le_of_ble_eq_true rfl) dL_law_706) (fun r V h => h) (fun r1 V1 H locs p1 T => ?_)
  refine lv_pop hx hb dL_law_709 rfl ?_
  refine lv_aload_n hx hb dL_law_710 rfl (lv_at hl 1 rfl) ?_
  refine lw_arg (k := 1) (kv := 1) G T.2.2.2.2 hl hi hL rfl ti_1 (by decide) dL_law_711 dL_law_712 dL_law_713 dL_law_714 dL_law_715 ?_
  refine lw_arg (k := 2) (kv := 2) G T.2.2.2.2 hl hi hL rfl ti_2 (by decide) dL_law_716 dL_law_717 dL_law_718 dL_law_719 dL_law_720 ?_
  refine lw_arg (k := 3) (kv := 3) G T.2.2.2.2 hl hi hL rfl ti_3 (by decide) dL_law_721 dL_law_722 dL_law_723 dL_law_724 dL_law_725 ?_
  refine lw_cM T (lw_runM (As := [.int (xs (5 * N + 1)), .int (xs (5 * N + 2)), .int (xs (5 * N + 3))]) (rest := []) G T.2.1 T.2.2.2.2 (c_X12_revoke l D Km T.2.1.1 f A T.2.1.2.1 (N : Int) b T.2.1.2.2.2.2.1.1 T.2.1.2.2.2.2.1.2 (xs (5 * N + 1)) (xs (5 * N + 2)) (xs (5 * N + 3)) T.2.1.2.2.1 h600) m_X12_revoke rfl wm_L_69 ⟨Nat.le_of_ble_eq_true rfl, Nat.le_of_ble_eq_true rfl⟩ hf hl.1 (Nat.le_of_ble_eq_true rfl) dL_law_726) (fun r f' A' h => ⟨h.1, h.2.2.2, h.2.1 43 (by decide)⟩) (fun r2 f2 A2 H locs p2 T9 => ?_)
  refine lv_pop hx hb dL_law_729 rfl ?_
  refine lv_goto (tgt := 1419) hx hb dL_law_730 (by decide) ?_
  refine W.widen (k := 2000 + (N + 1)) (n := 700000 + 3 * (N + 1)) (by omega) (by omega) ?_
  exact nx _ _ _ _ _ _ _ T9 hl
set_option maxHeartbeats 4000000 in
set_option maxRecDepth 100000 in
theorem lc_13 (G : lwG p s m meth c sb L xs D) (hi : i.toInt = 5 * (N : Int)) (hL : 5 * N + 5 ≤ L) (T : lwT D s K V a Km f A b (N : Int) H locs) (hl : lv_has ls 4 [(3, .int i), (2, .ref b), (1, .ref a), (0, .ref sb)]) (nx : ∀ (K : zK) (V : zV) (f : Nat → Int32) (A : Nat → Nat → Int32) (H : Heap) (locs : List Loc) (ls : Array Slot), lwT D s K V a Km f A b ((N : Int) + 1) H locs → lv_has ls 4 [(3, .int i), (2, .ref b), (1, .ref a), (0, .ref sb)] → W p l e room_1 s m #[Value.ref sb] below meth c H locs (2000 + (N + 1)) (700000 + 3 * (N + 1)) Q (F0 m 1419 ls [])) : W p l e room_1 s m #[Value.ref sb] below meth c H locs (2000 + N) (700000 + 3 * N) Q (F0 m 733 ls []) := by
  obtain ⟨hx, hb, hr, hml, hown, hts, hX, hbl, hlocks, hgv⟩ := id G.1
  have hL2 := G.2.1
  obtain ⟨vi, va, vg⟩ := V
  have hf : (2000 + N) + 0 ≤ room_1.cells ∧ (700000 + 3 * N) + 0 ≤ room_1.slots := ⟨by show 2000 + N + 0 ≤ 600000; omega, by show 700000 + 3 * N + 0 ≤ 7302250; omega⟩
  have h600 : 0 ≤ (N : Int) ∧ (N : Int) ≤ 600 := ⟨by omega, by omega⟩
  refine lv_aload_n hx hb dL_law_733 rfl (lv_at hl 2 rfl) ?_
  refine lw_arg (k := 1) (kv := 1) G T.2.2.2.2 hl hi hL rfl ti_1 (by decide) dL_law_734 dL_law_735 dL_law_736 dL_law_737 dL_law_738 ?_
  refine lw_arg (k := 2) (kv := 2) G T.2.2.2.2 hl hi hL rfl ti_2 (by decide) dL_law_739 dL_law_740 dL_law_741 dL_law_742 dL_law_743 ?_
  refine lw_arg (k := 3) (kv := 3) G T.2.2.2.2 hl hi hL rfl ti_3 (by decide) dL_law_744 dL_law_745 dL_law_746 dL_law_747 dL_law_748 ?_
  refine lw_cX T (lw_runX (As := [.int (xs (5 * N + 1)), .int (xs (5 * N + 2)), .int (xs (5 * N + 3))]) (rest := []) G T.1 T.2.2.2.2 (c_X11_allowed l D K T.1.1 vi va vg T.1.2.1 a T.1.2.2.2.1.1 T.1.2.2.2.1.2 (xs (5 * N + 1)) (xs (5 * N + 2)) (xs (5 * N + 3))) m_X11_allowed rfl wm_L_70 ⟨Nat.le_of_ble_eq_true rfl, Nat.le_of_ble_eq_true rfl⟩ hf hl.1 (Nat.le_of_ble_eq_true rfl) dL_law_749) (fun r V h => h) (fun r1 V1 H locs p1 T => ?_)
  refine lv_pop hx hb dL_law_752 rfl ?_
  refine lv_aload_n hx hb dL_law_753 rfl (lv_at hl 1 rfl) ?_
  refine lw_arg (k := 1) (kv := 1) G T.2.2.2.2 hl hi hL rfl ti_1 (by decide) dL_law_754 dL_law_755 dL_law_756 dL_law_757 dL_law_758 ?_
  refine lw_arg (k := 2) (kv := 2) G T.2.2.2.2 hl hi hL rfl ti_2 (by decide) dL_law_759 dL_law_760 dL_law_761 dL_law_762 dL_law_763 ?_
  refine lw_arg (k := 3) (kv := 3) G T.2.2.2.2 hl hi hL rfl ti_3 (by decide) dL_law_764 dL_law_765 dL_law_766 dL_law_767 dL_law_768 ?_
  refine lw_cM T (lw_runM (As := [.int (xs (5 * N + 1)), .int (xs (5 * N + 2)), .int (xs (5 * N + 3))]) (rest := []) G T.2.1 T.2.2.2.2 (c_X12_allowed l D Km T.2.1.1 f A T.2.1.2.1 b T.2.1.2.2.2.2.1.1 T.2.1.2.2.2.2.1.2 (xs (5 * N + 1)) (xs (5 * N + 2)) (xs (5 * N + 3)) (by have h := T.2.1.2.2.1.2.2.1; omega)) m_X12_allowed rfl wm_L_73 ⟨Nat.le_of_ble_eq_true rfl, Nat.le_of_ble_eq_true rfl⟩ hf hl.1 (Nat.le_of_ble_eq_true rfl) dL_law_769) (fun r f' A' h => ⟨h.1, T.2.1.2.2.1.same (by omega) (h.2.1 40 (by decide)) (h.2.2.1 23 (by decide)) (h.2.2.1 20 (by decide)) (by have h9 := h.2.2.2.2.1; omega) (by rw [h.2.2.1 9 (by decide)]; omega), h.2.1 43 (by decide)⟩) (fun r2 f2 A2 H locs p2 T9 => ?_)
  refine lv_pop hx hb dL_law_772 rfl ?_
  refine lv_goto (tgt := 1419) hx hb dL_law_773 (by decide) ?_
  refine W.widen (k := 2000 + (N + 1)) (n := 700000 + 3 * (N + 1)) (by omega) (by omega) ?_
  exact nx _ _ _ _ _ _ _ T9 hl
set_option maxHeartbeats 4000000 in
set_option maxRecDepth 100000 in
theorem lc_14 (G : lwG p s m meth c sb L xs D) (hi : i.toInt = 5 * (N : Int)) (hL : 5 * N + 5 ≤ L) (T : lwT D s K V a Km f A b (N : Int) H locs) (hl : lv_has ls 4 [(3, .int i), (2, .ref b), (1, .ref a), (0, .ref sb)]) (nx : ∀ (K : zK) (V : zV) (f : Nat → Int32) (A : Nat → Nat → Int32) (H : Heap) (locs : List Loc) (ls : Array Slot), lwT D s K V a Km f A b ((N : Int) + 1) H locs → lv_has ls 4 [(3, .int i), (2, .ref b), (1, .ref a), (0, .ref sb)] → W p l e room_1 s m #[Value.ref sb] below meth c H locs (2000 + (N + 1)) (700000 + 3 * (N + 1)) Q (F0 m 1419 ls [])) : W p l e room_1 s m #[Value.ref sb] below meth c H locs (2000 + N) (700000 + 3 * N) Q (F0 m 776 ls []) := by
  obtain ⟨hx, hb, hr, hml, hown, hts, hX, hbl, hlocks, hgv⟩ := id G.1
  have hL2 := G.2.1
  obtain ⟨vi, va, vg⟩ := V
  have hf : (2000 + N) + 0 ≤ room_1.cells ∧ (700000 + 3 * N) + 0 ≤ room_1.slots := ⟨by show 2000 + N + 0 ≤ 600000; omega, by show 700000 + 3 * N + 0 ≤ 7302250; omega⟩
  have h600 : 0 ≤ (N : Int) ∧ (N : Int) ≤ 600 := ⟨by omega, by omega⟩
  refine lv_aload_n hx hb dL_law_776 rfl (lv_at hl 2 rfl) ?_
  refine lw_arg (k := 1) (kv := 1) G T.2.2.2.2 hl hi hL rfl ti_1 (by decide) dL_law_777 dL_law_778 dL_law_779 dL_law_780 dL_law_781 ?_
  refine lw_cS (lw_runX (As := [.int (xs (5 * N + 1))]) (rest := []) G T.1 T.2.2.2.2 (c_X11_turn l D K T.1.1 vi va vg T.1.2.1 a T.1.2.2.2.1.1 T.1.2.2.2.1.2 (xs (5 * N + 1))) m_X11_turn rfl wm_L_74 ⟨Nat.le_of_ble_eq_true rfl, Nat.le_of_ble_eq_true rfl⟩ hf hl.1 (Nat.le_of_ble_eq_true rfl) dL_law_782) (fun r1 p1 => ?_)
  refine lv_pop hx hb dL_law_785 rfl ?_
  refine lv_aload_n hx hb dL_law_786 rfl (lv_at hl 1 rfl) ?_
  refine lw_arg (k := 1) (kv := 1) G T.2.2.2.2 hl hi hL rfl ti_1 (by decide) dL_law_787 dL_law_788 dL_law_789 dL_law_790 dL_law_791 ?_
  refine lw_cS (lw_runM (As := [.int (xs (5 * N + 1))]) (rest := []) G T.2.1 T.2.2.2.2 (c_X12_turn l D Km T.2.1.1 f A T.2.1.2.1 b T.2.1.2.2.2.2.1.1 T.2.1.2.2.2.2.1.2 (xs (5 * N + 1))) m_X12_turn rfl wm_L_77 ⟨Nat.le_of_ble_eq_true rfl, Nat.le_of_ble_eq_true rfl⟩ hf hl.1 (Nat.le_of_ble_eq_true rfl) dL_law_792) (fun r2 p2 => ?_)
  have T9 := T.up
  refine lv_pop hx hb dL_law_795 rfl ?_
  refine lv_goto (tgt := 1419) hx hb dL_law_796 (by decide) ?_
  refine W.widen (k := 2000 + (N + 1)) (n := 700000 + 3 * (N + 1)) (by omega) (by omega) ?_
  exact nx _ _ _ _ _ _ _ T9 hl
set_option maxHeartbeats 4000000 in
set_option maxRecDepth 100000 in
theorem lc_15 (G : lwG p s m meth c sb L xs D) (hi : i.toInt = 5 * (N : Int)) (hL : 5 * N + 5 ≤ L) (T : lwT D s K V a Km f A b (N : Int) H locs) (hl : lv_has ls 4 [(3, .int i), (2, .ref b), (1, .ref a), (0, .ref sb)]) (nx : ∀ (K : zK) (V : zV) (f : Nat → Int32) (A : Nat → Nat → Int32) (H : Heap) (locs : List Loc) (ls : Array Slot), lwT D s K V a Km f A b ((N : Int) + 1) H locs → lv_has ls 4 [(3, .int i), (2, .ref b), (1, .ref a), (0, .ref sb)] → W p l e room_1 s m #[Value.ref sb] below meth c H locs (2000 + (N + 1)) (700000 + 3 * (N + 1)) Q (F0 m 1419 ls [])) : W p l e room_1 s m #[Value.ref sb] below meth c H locs (2000 + N) (700000 + 3 * N) Q (F0 m 799 ls []) := by
  obtain ⟨hx, hb, hr, hml, hown, hts, hX, hbl, hlocks, hgv⟩ := id G.1
  have hL2 := G.2.1
  obtain ⟨vi, va, vg⟩ := V
  have hf : (2000 + N) + 0 ≤ room_1.cells ∧ (700000 + 3 * N) + 0 ≤ room_1.slots := ⟨by show 2000 + N + 0 ≤ 600000; omega, by show 700000 + 3 * N + 0 ≤ 7302250; omega⟩
  have h600 : 0 ≤ (N : Int) ∧ (N : Int) ≤ 600 := ⟨by omega, by omega⟩
  refine lv_aload_n hx hb dL_law_799 rfl (lv_at hl 2 rfl) ?_
  refine lw_arg (k := 1) (kv := 1) G T.2.2.2.2 hl hi hL rfl ti_1 (by decide) dL_law_800 dL_law_801 dL_law_802 dL_law_803 dL_law_804 ?_
  refine lw_arg (k := 2) (kv := 2) G T.2.2.2.2 hl hi hL rfl ti_2 (by decide) dL_law_805 dL_law_806 dL_law_807 dL_law_808 dL_law_809 ?_
  refine lw_cS (lw_runX (As := [.int (xs (5 * N + 1)), .int (xs (5 * N + 2))]) (rest := []) G T.1 T.2.2.2.2 (c_X11_trick l D K T.1.1 vi va vg T.1.2.1 a T.1.2.2.2.1.1 T.1.2.2.2.1.2 (xs (5 * N + 1)) (xs (5 * N + 2))) m_X11_trick rfl wm_L_78 ⟨Nat.le_of_ble_eq_true rfl, Nat.le_of_ble_eq_true rfl⟩ hf hl.1 (Nat.le_of_ble_eq_true rfl) dL_law_810) (fun r1 p1 => ?_)
  refine lv_pop hx hb dL_law_813 rfl ?_
  refine lv_aload_n hx hb dL_law_814 rfl (lv_at hl 1 rfl) ?_
  refine lw_arg (k := 1) (kv := 1) G T.2.2.2.2 hl hi hL rfl ti_1 (by decide) dL_law_815 dL_law_816 dL_law_817 dL_law_818 dL_law_819 ?_
  refine lw_arg (k := 2) (kv := 2) G T.2.2.2.2 hl hi hL rfl ti_2 (by decide) dL_law_820 dL_law_821 dL_law_822 dL_law_823 dL_law_824 ?_
  refine lw_cS (lw_runM (As := [.int (xs (5 * N + 1)), .int (xs (5 * N + 2))]) (rest := []) G T.2.1 T.2.2.2.2 (c_X12_trick l D Km T.2.1.1 f A T.2.1.2.1 b T.2.1.2.2.2.2.1.1 T.2.1.2.2.2.2.1.2 (xs (5 * N + 1)) (xs (5 * N + 2))) m_X12_trick rfl wm_L_81 ⟨Nat.le_of_ble_eq_true rfl, Nat.le_of_ble_eq_true rfl⟩ hf hl.1 (Nat.le_of_ble_eq_true rfl) dL_law_825) (fun r2 p2 => ?_)
  have T9 := T.up
  refine lv_pop hx hb dL_law_828 rfl ?_
  refine lv_goto (tgt := 1419) hx hb dL_law_829 (by decide) ?_
  refine W.widen (k := 2000 + (N + 1)) (n := 700000 + 3 * (N + 1)) (by omega) (by omega) ?_
  exact nx _ _ _ _ _ _ _ T9 hl
set_option maxHeartbeats 4000000 in
set_option maxRecDepth 100000 in
theorem lc_16 (G : lwG p s m meth c sb L xs D) (hi : i.toInt = 5 * (N : Int)) (hL : 5 * N + 5 ≤ L) (T : lwT D s K V a Km f A b (N : Int) H locs) (hl : lv_has ls 4 [(3, .int i), (2, .ref b), (1, .ref a), (0, .ref sb)]) (nx : ∀ (K : zK) (V : zV) (f : Nat → Int32) (A : Nat → Nat → Int32) (H : Heap) (locs : List Loc) (ls : Array Slot), lwT D s K V a Km f A b ((N : Int) + 1) H locs → lv_has ls 4 [(3, .int i), (2, .ref b), (1, .ref a), (0, .ref sb)] → W p l e room_1 s m #[Value.ref sb] below meth c H locs (2000 + (N + 1)) (700000 + 3 * (N + 1)) Q (F0 m 1419 ls [])) : W p l e room_1 s m #[Value.ref sb] below meth c H locs (2000 + N) (700000 + 3 * N) Q (F0 m 832 ls []) := by
  obtain ⟨hx, hb, hr, hml, hown, hts, hX, hbl, hlocks, hgv⟩ := id G.1
  have hL2 := G.2.1
  obtain ⟨vi, va, vg⟩ := V
  have hf : (2000 + N) + 0 ≤ room_1.cells ∧ (700000 + 3 * N) + 0 ≤ room_1.slots := ⟨by show 2000 + N + 0 ≤ 600000; omega, by show 700000 + 3 * N + 0 ≤ 7302250; omega⟩
  have h600 : 0 ≤ (N : Int) ∧ (N : Int) ≤ 600 := ⟨by omega, by omega⟩
  refine lv_aload_n hx hb dL_law_832 rfl (lv_at hl 2 rfl) ?_
  refine lw_arg (k := 1) (kv := 1) G T.2.2.2.2 hl hi hL rfl ti_1 (by decide) dL_law_833 dL_law_834 dL_law_835 dL_law_836 dL_law_837 ?_
  refine lw_arg (k := 2) (kv := 2) G T.2.2.2.2 hl hi hL rfl ti_2 (by decide) dL_law_838 dL_law_839 dL_law_840 dL_law_841 dL_law_842 ?_
  refine lw_arg (k := 3) (kv := 3) G T.2.2.2.2 hl hi hL rfl ti_3 (by decide) dL_law_843 dL_law_844 dL_law_845 dL_law_846 dL_law_847 ?_
  refine lw_cS (lw_runX (As := [.int (xs (5 * N + 1)), .int (xs (5 * N + 2)), .int (xs (5 * N + 3))]) (rest := []) G T.1 T.2.2.2.2 (c_X11_hand l D K T.1.1 vi va vg T.1.2.1 a T.1.2.2.2.1.1 T.1.2.2.2.1.2 (xs (5 * N + 1)) (xs (5 * N + 2)) (xs (5 * N + 3))) m_X11_hand rfl wm_L_82 ⟨Nat.le_of_ble_eq_true rfl, Nat.le_of_ble_eq_true rfl⟩ hf hl.1 (Nat.le_of_ble_eq_true rfl) dL_law_848) (fun r1 p1 => ?_)
  refine lv_pop hx hb dL_law_851 rfl ?_
  refine lv_aload_n hx hb dL_law_852 rfl (lv_at hl 1 rfl) ?_
  refine lw_arg (k := 1) (kv := 1) G T.2.2.2.2 hl hi hL rfl ti_1 (by decide) dL_law_853 dL_law_854 dL_law_855 dL_law_856 dL_law_857 ?_
  refine lw_arg (k := 2) (kv := 2) G T.2.2.2.2 hl hi hL rfl ti_2 (by decide) dL_law_858 dL_law_859 dL_law_860 dL_law_861 dL_law_862 ?_
  refine lw_arg (k := 3) (kv := 3) G T.2.2.2.2 hl hi hL rfl ti_3 (by decide) dL_law_863 dL_law_864 dL_law_865 dL_law_866 dL_law_867 ?_
  refine lw_cS (lw_runM (As := [.int (xs (5 * N + 1)), .int (xs (5 * N + 2)), .int (xs (5 * N + 3))]) (rest := []) G T.2.1 T.2.2.2.2 (c_X12_hand l D Km T.2.1.1 f A T.2.1.2.1 b T.2.1.2.2.2.2.1.1 T.2.1.2.2.2.2.1.2 (xs (5 * N + 1)) (xs (5 * N + 2)) (xs (5 * N + 3))) m_X12_hand rfl wm_L_85 ⟨Nat.le_of_ble_eq_true rfl, Nat.le_of_ble_eq_true rfl⟩ hf hl.1 (Nat.le_of_ble_eq_true rfl) dL_law_868) (fun r2 p2 => ?_)
  have T9 := T.up
  refine lv_pop hx hb dL_law_871 rfl ?_
  refine lv_goto (tgt := 1419) hx hb dL_law_872 (by decide) ?_
  refine W.widen (k := 2000 + (N + 1)) (n := 700000 + 3 * (N + 1)) (by omega) (by omega) ?_
  exact nx _ _ _ _ _ _ _ T9 hl
set_option maxHeartbeats 4000000 in
set_option maxRecDepth 100000 in
theorem lc_17 (G : lwG p s m meth c sb L xs D) (hi : i.toInt = 5 * (N : Int)) (hL : 5 * N + 5 ≤ L) (T : lwT D s K V a Km f A b (N : Int) H locs) (hl : lv_has ls 4 [(3, .int i), (2, .ref b), (1, .ref a), (0, .ref sb)]) (nx : ∀ (K : zK) (V : zV) (f : Nat → Int32) (A : Nat → Nat → Int32) (H : Heap) (locs : List Loc) (ls : Array Slot), lwT D s K V a Km f A b ((N : Int) + 1) H locs → lv_has ls 4 [(3, .int i), (2, .ref b), (1, .ref a), (0, .ref sb)] → W p l e room_1 s m #[Value.ref sb] below meth c H locs (2000 + (N + 1)) (700000 + 3 * (N + 1)) Q (F0 m 1419 ls [])) : W p l e room_1 s m #[Value.ref sb] below meth c H locs (2000 + N) (700000 + 3 * N) Q (F0 m 875 ls []) := by
  obtain ⟨hx, hb, hr, hml, hown, hts, hX, hbl, hlocks, hgv⟩ := id G.1
  have hL2 := G.2.1
  obtain ⟨vi, va, vg⟩ := V
  have hf : (2000 + N) + 0 ≤ room_1.cells ∧ (700000 + 3 * N) + 0 ≤ room_1.slots := ⟨by show 2000 + N + 0 ≤ 600000; omega, by show 700000 + 3 * N + 0 ≤ 7302250; omega⟩
  have h600 : 0 ≤ (N : Int) ∧ (N : Int) ≤ 600 := ⟨by omega, by omega⟩
  refine lv_aload_n hx hb dL_law_875 rfl (lv_at hl 2 rfl) ?_
  refine lw_arg (k := 1) (kv := 1) G T.2.2.2.2 hl hi hL rfl ti_1 (by decide) dL_law_876 dL_law_877 dL_law_878 dL_law_879 dL_law_880 ?_
  refine lw_arg (k := 2) (kv := 2) G T.2.2.2.2 hl hi hL rfl ti_2 (by decide) dL_law_881 dL_law_882 dL_law_883 dL_law_884 dL_law_885 ?_
  refine lw_cS (lw_runX (As := [.int (xs (5 * N + 1)), .int (xs (5 * N + 2))]) (rest := []) G T.1 T.2.2.2.2 (c_X11_left l D K T.1.1 vi va vg T.1.2.1 a T.1.2.2.2.1.1 T.1.2.2.2.1.2 (xs (5 * N + 1)) (xs (5 * N + 2))) m_X11_left rfl wm_L_86 ⟨Nat.le_of_ble_eq_true rfl, Nat.le_of_ble_eq_true rfl⟩ hf hl.1 (Nat.le_of_ble_eq_true rfl) dL_law_886) (fun r1 p1 => ?_)
  refine lv_pop hx hb dL_law_889 rfl ?_
  refine lv_aload_n hx hb dL_law_890 rfl (lv_at hl 1 rfl) ?_
  refine lw_arg (k := 1) (kv := 1) G T.2.2.2.2 hl hi hL rfl ti_1 (by decide) dL_law_891 dL_law_892 dL_law_893 dL_law_894 dL_law_895 ?_
  refine lw_arg (k := 2) (kv := 2) G T.2.2.2.2 hl hi hL rfl ti_2 (by decide) dL_law_896 dL_law_897 dL_law_898 dL_law_899 dL_law_900 ?_
  refine lw_cS (lw_runM (As := [.int (xs (5 * N + 1)), .int (xs (5 * N + 2))]) (rest := []) G T.2.1 T.2.2.2.2 (c_X12_left l D Km T.2.1.1 f A T.2.1.2.1 b T.2.1.2.2.2.2.1.1 T.2.1.2.2.2.2.1.2 (xs (5 * N + 1)) (xs (5 * N + 2))) m_X12_left rfl wm_L_89 ⟨Nat.le_of_ble_eq_true rfl, Nat.le_of_ble_eq_true rfl⟩ hf hl.1 (Nat.le_of_ble_eq_true rfl) dL_law_901) (fun r2 p2 => ?_)
  have T9 := T.up
  refine lv_pop hx hb dL_law_904 rfl ?_
  refine lv_goto (tgt := 1419) hx hb dL_law_905 (by decide) ?_
  refine W.widen (k := 2000 + (N + 1)) (n := 700000 + 3 * (N + 1)) (by omega) (by omega) ?_
  exact nx _ _ _ _ _ _ _ T9 hl
set_option maxHeartbeats 4000000 in
set_option maxRecDepth 100000 in
theorem lc_18 (G : lwG p s m meth c sb L xs D) (hi : i.toInt = 5 * (N : Int)) (hL : 5 * N + 5 ≤ L) (T : lwT D s K V a Km f A b (N : Int) H locs) (hl : lv_has ls 4 [(3, .int i), (2, .ref b), (1, .ref a), (0, .ref sb)]) (nx : ∀ (K : zK) (V : zV) (f : Nat → Int32) (A : Nat → Nat → Int32) (H : Heap) (locs : List Loc) (ls : Array Slot), lwT D s K V a Km f A b ((N : Int) + 1) H locs → lv_has ls 4 [(3, .int i), (2, .ref b), (1, .ref a), (0, .ref sb)] → W p l e room_1 s m #[Value.ref sb] below meth c H locs (2000 + (N + 1)) (700000 + 3 * (N + 1)) Q (F0 m 1419 ls [])) : W p l e room_1 s m #[Value.ref sb] below meth c H locs (2000 + N) (700000 + 3 * N) Q (F0 m 908 ls []) := by
  obtain ⟨hx, hb, hr, hml, hown, hts, hX, hbl, hlocks, hgv⟩ := id G.1
  have hL2 := G.2.1
  obtain ⟨vi, va, vg⟩ := V
  have hf : (2000 + N) + 0 ≤ room_1.cells ∧ (700000 + 3 * N) + 0 ≤ room_1.slots := ⟨by show 2000 + N + 0 ≤ 600000; omega, by show 700000 + 3 * N + 0 ≤ 7302250; omega⟩
  have h600 : 0 ≤ (N : Int) ∧ (N : Int) ≤ 600 := ⟨by omega, by omega⟩
  refine lv_aload_n hx hb dL_law_908 rfl (lv_at hl 2 rfl) ?_
  refine lw_arg (k := 1) (kv := 1) G T.2.2.2.2 hl hi hL rfl ti_1 (by decide) dL_law_909 dL_law_910 dL_law_911 dL_law_912 dL_law_913 ?_
  refine lw_cS (lw_runX (As := [.int (xs (5 * N + 1))]) (rest := []) G T.1 T.2.2.2.2 (c_X11_winner l D K T.1.1 vi va vg T.1.2.1 a T.1.2.2.2.1.1 T.1.2.2.2.1.2 (xs (5 * N + 1))) m_X11_winner rfl wm_L_90 ⟨Nat.le_of_ble_eq_true rfl, Nat.le_of_ble_eq_true rfl⟩ hf hl.1 (Nat.le_of_ble_eq_true rfl) dL_law_914) (fun r1 p1 => ?_)
  refine lv_pop hx hb dL_law_917 rfl ?_
  refine lv_aload_n hx hb dL_law_918 rfl (lv_at hl 1 rfl) ?_
  refine lw_arg (k := 1) (kv := 1) G T.2.2.2.2 hl hi hL rfl ti_1 (by decide) dL_law_919 dL_law_920 dL_law_921 dL_law_922 dL_law_923 ?_
  refine lw_cS (lw_runM (As := [.int (xs (5 * N + 1))]) (rest := []) G T.2.1 T.2.2.2.2 (c_X12_winner l D Km T.2.1.1 f A T.2.1.2.1 b T.2.1.2.2.2.2.1.1 T.2.1.2.2.2.2.1.2 (xs (5 * N + 1))) m_X12_winner rfl wm_L_93 ⟨Nat.le_of_ble_eq_true rfl, Nat.le_of_ble_eq_true rfl⟩ hf hl.1 (Nat.le_of_ble_eq_true rfl) dL_law_924) (fun r2 p2 => ?_)
  have T9 := T.up
  refine lv_pop hx hb dL_law_927 rfl ?_
  refine lv_goto (tgt := 1419) hx hb dL_law_928 (by decide) ?_
  refine W.widen (k := 2000 + (N + 1)) (n := 700000 + 3 * (N + 1)) (by omega) (by omega) ?_
  exact nx _ _ _ _ _ _ _ T9 hl
set_option maxHeartbeats 4000000 in
set_option maxRecDepth 100000 in
theorem lc_19 (G : lwG p s m meth c sb L xs D) (hi : i.toInt = 5 * (N : Int)) (hL : 5 * N + 5 ≤ L) (T : lwT D s K V a Km f A b (N : Int) H locs) (hl : lv_has ls 4 [(3, .int i), (2, .ref b), (1, .ref a), (0, .ref sb)]) (nx : ∀ (K : zK) (V : zV) (f : Nat → Int32) (A : Nat → Nat → Int32) (H : Heap) (locs : List Loc) (ls : Array Slot), lwT D s K V a Km f A b ((N : Int) + 1) H locs → lv_has ls 4 [(3, .int i), (2, .ref b), (1, .ref a), (0, .ref sb)] → W p l e room_1 s m #[Value.ref sb] below meth c H locs (2000 + (N + 1)) (700000 + 3 * (N + 1)) Q (F0 m 1419 ls [])) : W p l e room_1 s m #[Value.ref sb] below meth c H locs (2000 + N) (700000 + 3 * N) Q (F0 m 931 ls []) := by
  obtain ⟨hx, hb, hr, hml, hown, hts, hX, hbl, hlocks, hgv⟩ := id G.1
  have hL2 := G.2.1
  obtain ⟨vi, va, vg⟩ := V
  have hf : (2000 + N) + 0 ≤ room_1.cells ∧ (700000 + 3 * N) + 0 ≤ room_1.slots := ⟨by show 2000 + N + 0 ≤ 600000; omega, by show 700000 + 3 * N + 0 ≤ 7302250; omega⟩
  have h600 : 0 ≤ (N : Int) ∧ (N : Int) ≤ 600 := ⟨by omega, by omega⟩
  refine lv_aload_n hx hb dL_law_931 rfl (lv_at hl 2 rfl) ?_
  refine lw_arg (k := 1) (kv := 1) G T.2.2.2.2 hl hi hL rfl ti_1 (by decide) dL_law_932 dL_law_933 dL_law_934 dL_law_935 dL_law_936 ?_
  refine lw_arg (k := 2) (kv := 2) G T.2.2.2.2 hl hi hL rfl ti_2 (by decide) dL_law_937 dL_law_938 dL_law_939 dL_law_940 dL_law_941 ?_
  refine lw_arg (k := 3) (kv := 3) G T.2.2.2.2 hl hi hL rfl ti_3 (by decide) dL_law_942 dL_law_943 dL_law_944 dL_law_945 dL_law_946 ?_
  refine lw_cS (lw_runX (As := [.int (xs (5 * N + 1)), .int (xs (5 * N + 2)), .int (xs (5 * N + 3))]) (rest := []) G T.1 T.2.2.2.2 (c_X11_won l D K T.1.1 vi va vg T.1.2.1 a T.1.2.2.2.1.1 T.1.2.2.2.1.2 (xs (5 * N + 1)) (xs (5 * N + 2)) (xs (5 * N + 3))) m_X11_won rfl wm_L_94 ⟨Nat.le_of_ble_eq_true rfl, Nat.le_of_ble_eq_true rfl⟩ hf hl.1 (Nat.le_of_ble_eq_true rfl) dL_law_947) (fun r1 p1 => ?_)
  refine lv_pop hx hb dL_law_950 rfl ?_
  refine lv_aload_n hx hb dL_law_951 rfl (lv_at hl 1 rfl) ?_
  refine lw_arg (k := 1) (kv := 1) G T.2.2.2.2 hl hi hL rfl ti_1 (by decide) dL_law_952 dL_law_953 dL_law_954 dL_law_955 dL_law_956 ?_
  refine lw_arg (k := 2) (kv := 2) G T.2.2.2.2 hl hi hL rfl ti_2 (by decide) dL_law_957 dL_law_958 dL_law_959 dL_law_960 dL_law_961 ?_
  refine lw_arg (k := 3) (kv := 3) G T.2.2.2.2 hl hi hL rfl ti_3 (by decide) dL_law_962 dL_law_963 dL_law_964 dL_law_965 dL_law_966 ?_
  refine lw_cS (lw_runM (As := [.int (xs (5 * N + 1)), .int (xs (5 * N + 2)), .int (xs (5 * N + 3))]) (rest := []) G T.2.1 T.2.2.2.2 (c_X12_won l D Km T.2.1.1 f A T.2.1.2.1 b T.2.1.2.2.2.2.1.1 T.2.1.2.2.2.2.1.2 (xs (5 * N + 1)) (xs (5 * N + 2)) (xs (5 * N + 3))) m_X12_won rfl wm_L_97 ⟨Nat.le_of_ble_eq_true rfl, Nat.le_of_ble_eq_true rfl⟩ hf hl.1 (Nat.le_of_ble_eq_true rfl) dL_law_967) (fun r2 p2 => ?_)
  have T9 := T.up
  refine lv_pop hx hb dL_law_970 rfl ?_
  refine lv_goto (tgt := 1419) hx hb dL_law_971 (by decide) ?_
  refine W.widen (k := 2000 + (N + 1)) (n := 700000 + 3 * (N + 1)) (by omega) (by omega) ?_
  exact nx _ _ _ _ _ _ _ T9 hl
set_option maxHeartbeats 4000000 in
set_option maxRecDepth 100000 in
theorem lc_20 (G : lwG p s m meth c sb L xs D) (hi : i.toInt = 5 * (N : Int)) (hL : 5 * N + 5 ≤ L) (T : lwT D s K V a Km f A b (N : Int) H locs) (hl : lv_has ls 4 [(3, .int i), (2, .ref b), (1, .ref a), (0, .ref sb)]) (nx : ∀ (K : zK) (V : zV) (f : Nat → Int32) (A : Nat → Nat → Int32) (H : Heap) (locs : List Loc) (ls : Array Slot), lwT D s K V a Km f A b ((N : Int) + 1) H locs → lv_has ls 4 [(3, .int i), (2, .ref b), (1, .ref a), (0, .ref sb)] → W p l e room_1 s m #[Value.ref sb] below meth c H locs (2000 + (N + 1)) (700000 + 3 * (N + 1)) Q (F0 m 1419 ls [])) : W p l e room_1 s m #[Value.ref sb] below meth c H locs (2000 + N) (700000 + 3 * N) Q (F0 m 974 ls []) := by
  obtain ⟨hx, hb, hr, hml, hown, hts, hX, hbl, hlocks, hgv⟩ := id G.1
  have hL2 := G.2.1
  obtain ⟨vi, va, vg⟩ := V
  have hf : (2000 + N) + 0 ≤ room_1.cells ∧ (700000 + 3 * N) + 0 ≤ room_1.slots := ⟨by show 2000 + N + 0 ≤ 600000; omega, by show 700000 + 3 * N + 0 ≤ 7302250; omega⟩
  have h600 : 0 ≤ (N : Int) ∧ (N : Int) ≤ 600 := ⟨by omega, by omega⟩
  refine lv_aload_n hx hb dL_law_974 rfl (lv_at hl 2 rfl) ?_
  refine lw_arg (k := 1) (kv := 1) G T.2.2.2.2 hl hi hL rfl ti_1 (by decide) dL_law_975 dL_law_976 dL_law_977 dL_law_978 dL_law_979 ?_
  refine lw_arg (k := 2) (kv := 2) G T.2.2.2.2 hl hi hL rfl ti_2 (by decide) dL_law_980 dL_law_981 dL_law_982 dL_law_983 dL_law_984 ?_
  refine lw_arg (k := 3) (kv := 3) G T.2.2.2.2 hl hi hL rfl ti_3 (by decide) dL_law_985 dL_law_986 dL_law_987 dL_law_988 dL_law_989 ?_
  refine lw_cS (lw_runX (As := [.int (xs (5 * N + 1)), .int (xs (5 * N + 2)), .int (xs (5 * N + 3))]) (rest := []) G T.1 T.2.2.2.2 (c_X11_revokes l D K T.1.1 vi va vg T.1.2.1 a T.1.2.2.2.1.1 T.1.2.2.2.1.2 (xs (5 * N + 1)) (xs (5 * N + 2)) (xs (5 * N + 3))) m_X11_revokes rfl wm_L_98 ⟨Nat.le_of_ble_eq_true rfl, Nat.le_of_ble_eq_true rfl⟩ hf hl.1 (Nat.le_of_ble_eq_true rfl) dL_law_990) (fun r1 p1 => ?_)
  refine lv_pop hx hb dL_law_993 rfl ?_
  refine lv_aload_n hx hb dL_law_994 rfl (lv_at hl 1 rfl) ?_
  refine lw_arg (k := 1) (kv := 1) G T.2.2.2.2 hl hi hL rfl ti_1 (by decide) dL_law_995 dL_law_996 dL_law_997 dL_law_998 dL_law_999 ?_
  refine lw_arg (k := 2) (kv := 2) G T.2.2.2.2 hl hi hL rfl ti_2 (by decide) dL_law_1000 dL_law_1001 dL_law_1002 dL_law_1003 dL_law_1004 ?_
  refine lw_arg (k := 3) (kv := 3) G T.2.2.2.2 hl hi hL rfl ti_3 (by decide) dL_law_1005 dL_law_1006 dL_law_1007 dL_law_1008 dL_law_1009 ?_
  refine lw_cS (lw_runM (As := [.int (xs (5 * N + 1)), .int (xs (5 * N + 2)), .int (xs (5 * N + 3))]) (rest := []) G T.2.1 T.2.2.2.2 (c_X12_revokes l D Km T.2.1.1 f A T.2.1.2.1 b T.2.1.2.2.2.2.1.1 T.2.1.2.2.2.2.1.2 (xs (5 * N + 1)) (xs (5 * N + 2)) (xs (5 * N + 3))) m_X12_revokes rfl wm_L_101 ⟨Nat.le_of_ble_eq_true rfl, Nat.le_of_ble_eq_true rfl⟩ hf hl.1 (Nat.le_of_ble_eq_true rfl) dL_law_1010) (fun r2 p2 => ?_)
  have T9 := T.up
  refine lv_pop hx hb dL_law_1013 rfl ?_
  refine lv_goto (tgt := 1419) hx hb dL_law_1014 (by decide) ?_
  refine W.widen (k := 2000 + (N + 1)) (n := 700000 + 3 * (N + 1)) (by omega) (by omega) ?_
  exact nx _ _ _ _ _ _ _ T9 hl
set_option maxHeartbeats 4000000 in
set_option maxRecDepth 100000 in
theorem lc_21 (G : lwG p s m meth c sb L xs D) (hi : i.toInt = 5 * (N : Int)) (hL : 5 * N + 5 ≤ L) (T : lwT D s K V a Km f A b (N : Int) H locs) (hl : lv_has ls 4 [(3, .int i), (2, .ref b), (1, .ref a), (0, .ref sb)]) (nx : ∀ (K : zK) (V : zV) (f : Nat → Int32) (A : Nat → Nat → Int32) (H : Heap) (locs : List Loc) (ls : Array Slot), lwT D s K V a Km f A b ((N : Int) + 1) H locs → lv_has ls 4 [(3, .int i), (2, .ref b), (1, .ref a), (0, .ref sb)] → W p l e room_1 s m #[Value.ref sb] below meth c H locs (2000 + (N + 1)) (700000 + 3 * (N + 1)) Q (F0 m 1419 ls [])) : W p l e room_1 s m #[Value.ref sb] below meth c H locs (2000 + N) (700000 + 3 * N) Q (F0 m 1017 ls []) := by
  obtain ⟨hx, hb, hr, hml, hown, hts, hX, hbl, hlocks, hgv⟩ := id G.1
  have hL2 := G.2.1
  obtain ⟨vi, va, vg⟩ := V
  have hf : (2000 + N) + 0 ≤ room_1.cells ∧ (700000 + 3 * N) + 0 ≤ room_1.slots := ⟨by show 2000 + N + 0 ≤ 600000; omega, by show 700000 + 3 * N + 0 ≤ 7302250; omega⟩
  have h600 : 0 ≤ (N : Int) ∧ (N : Int) ≤ 600 := ⟨by omega, by omega⟩
  refine lv_aload_n hx hb dL_law_1017 rfl (lv_at hl 2 rfl) ?_
  refine lw_arg (k := 1) (kv := 1) G T.2.2.2.2 hl hi hL rfl ti_1 (by decide) dL_law_1018 dL_law_1019 dL_law_1020 dL_law_1021 dL_law_1022 ?_
  refine lw_arg (k := 2) (kv := 2) G T.2.2.2.2 hl hi hL rfl ti_2 (by decide) dL_law_1023 dL_law_1024 dL_law_1025 dL_law_1026 dL_law_1027 ?_
  refine lw_cS (lw_runX (As := [.int (xs (5 * N + 1)), .int (xs (5 * N + 2))]) (rest := []) G T.1 T.2.2.2.2 (c_X11_sum l D K T.1.1 vi va vg T.1.2.1 a T.1.2.2.2.1.1 T.1.2.2.2.1.2 (xs (5 * N + 1)) (xs (5 * N + 2))) m_X11_sum rfl wm_L_102 ⟨Nat.le_of_ble_eq_true rfl, Nat.le_of_ble_eq_true rfl⟩ hf hl.1 (Nat.le_of_ble_eq_true rfl) dL_law_1028) (fun r1 p1 => ?_)
  refine lv_pop hx hb dL_law_1031 rfl ?_
  refine lv_aload_n hx hb dL_law_1032 rfl (lv_at hl 1 rfl) ?_
  refine lw_arg (k := 1) (kv := 1) G T.2.2.2.2 hl hi hL rfl ti_1 (by decide) dL_law_1033 dL_law_1034 dL_law_1035 dL_law_1036 dL_law_1037 ?_
  refine lw_arg (k := 2) (kv := 2) G T.2.2.2.2 hl hi hL rfl ti_2 (by decide) dL_law_1038 dL_law_1039 dL_law_1040 dL_law_1041 dL_law_1042 ?_
  refine lw_cS (lw_runM (As := [.int (xs (5 * N + 1)), .int (xs (5 * N + 2))]) (rest := []) G T.2.1 T.2.2.2.2 (c_X12_sum l D Km T.2.1.1 f A T.2.1.2.1 b T.2.1.2.2.2.2.1.1 T.2.1.2.2.2.2.1.2 (xs (5 * N + 1)) (xs (5 * N + 2))) m_X12_sum rfl wm_L_105 ⟨Nat.le_of_ble_eq_true rfl, Nat.le_of_ble_eq_true rfl⟩ hf hl.1 (Nat.le_of_ble_eq_true rfl) dL_law_1043) (fun r2 p2 => ?_)
  have T9 := T.up
  refine lv_pop hx hb dL_law_1046 rfl ?_
  refine lv_goto (tgt := 1419) hx hb dL_law_1047 (by decide) ?_
  refine W.widen (k := 2000 + (N + 1)) (n := 700000 + 3 * (N + 1)) (by omega) (by omega) ?_
  exact nx _ _ _ _ _ _ _ T9 hl
set_option maxHeartbeats 4000000 in
set_option maxRecDepth 100000 in
theorem lc_22 (G : lwG p s m meth c sb L xs D) (hi : i.toInt = 5 * (N : Int)) (hL : 5 * N + 5 ≤ L) (T : lwT D s K V a Km f A b (N : Int) H locs) (hl : lv_has ls 4 [(3, .int i), (2, .ref b), (1, .ref a), (0, .ref sb)]) (nx : ∀ (K : zK) (V : zV) (f : Nat → Int32) (A : Nat → Nat → Int32) (H : Heap) (locs : List Loc) (ls : Array Slot), lwT D s K V a Km f A b ((N : Int) + 1) H locs → lv_has ls 4 [(3, .int i), (2, .ref b), (1, .ref a), (0, .ref sb)] → W p l e room_1 s m #[Value.ref sb] below meth c H locs (2000 + (N + 1)) (700000 + 3 * (N + 1)) Q (F0 m 1419 ls [])) : W p l e room_1 s m #[Value.ref sb] below meth c H locs (2000 + N) (700000 + 3 * N) Q (F0 m 1050 ls []) := by
  obtain ⟨hx, hb, hr, hml, hown, hts, hX, hbl, hlocks, hgv⟩ := id G.1
  have hL2 := G.2.1
  obtain ⟨vi, va, vg⟩ := V
  have hf : (2000 + N) + 0 ≤ room_1.cells ∧ (700000 + 3 * N) + 0 ≤ room_1.slots := ⟨by show 2000 + N + 0 ≤ 600000; omega, by show 700000 + 3 * N + 0 ≤ 7302250; omega⟩
  have h600 : 0 ≤ (N : Int) ∧ (N : Int) ≤ 600 := ⟨by omega, by omega⟩
  refine lv_aload_n hx hb dL_law_1050 rfl (lv_at hl 2 rfl) ?_
  refine lw_arg (k := 1) (kv := 1) G T.2.2.2.2 hl hi hL rfl ti_1 (by decide) dL_law_1051 dL_law_1052 dL_law_1053 dL_law_1054 dL_law_1055 ?_
  refine lw_cS (lw_runX (As := [.int (xs (5 * N + 1))]) (rest := []) G T.1 T.2.2.2.2 (c_X11_tie l D K T.1.1 vi va vg T.1.2.1 a T.1.2.2.2.1.1 T.1.2.2.2.1.2 (xs (5 * N + 1))) m_X11_tie rfl wm_L_106 ⟨Nat.le_of_ble_eq_true rfl, Nat.le_of_ble_eq_true rfl⟩ hf hl.1 (Nat.le_of_ble_eq_true rfl) dL_law_1056) (fun r1 p1 => ?_)
  refine lv_pop hx hb dL_law_1059 rfl ?_
  refine lv_aload_n hx hb dL_law_1060 rfl (lv_at hl 1 rfl) ?_
  refine lw_arg (k := 1) (kv := 1) G T.2.2.2.2 hl hi hL rfl ti_1 (by decide) dL_law_1061 dL_law_1062 dL_law_1063 dL_law_1064 dL_law_1065 ?_
  refine lw_cS (lw_runM (As := [.int (xs (5 * N + 1))]) (rest := []) G T.2.1 T.2.2.2.2 (c_X12_tie l D Km T.2.1.1 f A T.2.1.2.1 b T.2.1.2.2.2.2.1.1 T.2.1.2.2.2.2.1.2 (xs (5 * N + 1))) m_X12_tie rfl wm_L_109 ⟨Nat.le_of_ble_eq_true rfl, Nat.le_of_ble_eq_true rfl⟩ hf hl.1 (Nat.le_of_ble_eq_true rfl) dL_law_1066) (fun r2 p2 => ?_)
  have T9 := T.up
  refine lv_pop hx hb dL_law_1069 rfl ?_
  refine lv_goto (tgt := 1419) hx hb dL_law_1070 (by decide) ?_
  refine W.widen (k := 2000 + (N + 1)) (n := 700000 + 3 * (N + 1)) (by omega) (by omega) ?_
  exact nx _ _ _ _ _ _ _ T9 hl
set_option maxHeartbeats 4000000 in
set_option maxRecDepth 100000 in
theorem lc_23 (G : lwG p s m meth c sb L xs D) (hi : i.toInt = 5 * (N : Int)) (hL : 5 * N + 5 ≤ L) (T : lwT D s K V a Km f A b (N : Int) H locs) (hl : lv_has ls 4 [(3, .int i), (2, .ref b), (1, .ref a), (0, .ref sb)]) (nx : ∀ (K : zK) (V : zV) (f : Nat → Int32) (A : Nat → Nat → Int32) (H : Heap) (locs : List Loc) (ls : Array Slot), lwT D s K V a Km f A b ((N : Int) + 1) H locs → lv_has ls 4 [(3, .int i), (2, .ref b), (1, .ref a), (0, .ref sb)] → W p l e room_1 s m #[Value.ref sb] below meth c H locs (2000 + (N + 1)) (700000 + 3 * (N + 1)) Q (F0 m 1419 ls [])) : W p l e room_1 s m #[Value.ref sb] below meth c H locs (2000 + N) (700000 + 3 * N) Q (F0 m 1073 ls []) := by
  obtain ⟨hx, hb, hr, hml, hown, hts, hX, hbl, hlocks, hgv⟩ := id G.1
  have hL2 := G.2.1
  obtain ⟨vi, va, vg⟩ := V
  have hf : (2000 + N) + 0 ≤ room_1.cells ∧ (700000 + 3 * N) + 0 ≤ room_1.slots := ⟨by show 2000 + N + 0 ≤ 600000; omega, by show 700000 + 3 * N + 0 ≤ 7302250; omega⟩
  have h600 : 0 ≤ (N : Int) ∧ (N : Int) ≤ 600 := ⟨by omega, by omega⟩
  refine lv_aload_n hx hb dL_law_1073 rfl (lv_at hl 2 rfl) ?_
  refine lw_arg (k := 1) (kv := 1) G T.2.2.2.2 hl hi hL rfl ti_1 (by decide) dL_law_1074 dL_law_1075 dL_law_1076 dL_law_1077 dL_law_1078 ?_
  refine lw_arg (k := 2) (kv := 2) G T.2.2.2.2 hl hi hL rfl ti_2 (by decide) dL_law_1079 dL_law_1080 dL_law_1081 dL_law_1082 dL_law_1083 ?_
  refine lw_cX T (lw_runX (As := [.int (xs (5 * N + 1)), .int (xs (5 * N + 2))]) (rest := []) G T.1 T.2.2.2.2 (c_X11_best l D K T.1.1 vi va vg T.1.2.1 a T.1.2.2.2.1.1 T.1.2.2.2.1.2 (xs (5 * N + 1)) (xs (5 * N + 2))) m_X11_best rfl wm_L_110 ⟨Nat.le_of_ble_eq_true rfl, Nat.le_of_ble_eq_true rfl⟩ hf hl.1 (Nat.le_of_ble_eq_true rfl) dL_law_1084) (fun r V h => h) (fun r1 V1 H locs p1 T => ?_)
  refine lv_pop hx hb dL_law_1087 rfl ?_
  refine lv_aload_n hx hb dL_law_1088 rfl (lv_at hl 1 rfl) ?_
  refine lw_arg (k := 1) (kv := 1) G T.2.2.2.2 hl hi hL rfl ti_1 (by decide) dL_law_1089 dL_law_1090 dL_law_1091 dL_law_1092 dL_law_1093 ?_
  refine lw_arg (k := 2) (kv := 2) G T.2.2.2.2 hl hi hL rfl ti_2 (by decide) dL_law_1094 dL_law_1095 dL_law_1096 dL_law_1097 dL_law_1098 ?_
  refine lw_cM T (lw_runM (As := [.int (xs (5 * N + 1)), .int (xs (5 * N + 2))]) (rest := []) G T.2.1 T.2.2.2.2 (c_X12_best l D Km T.2.1.1 f A T.2.1.2.1 (N : Int) b T.2.1.2.2.2.2.1.1 T.2.1.2.2.2.2.1.2 (xs (5 * N + 1)) (xs (5 * N + 2)) T.2.1.2.2.1 h600) m_X12_best rfl wm_L_113 ⟨Nat.le_of_ble_eq_true rfl, Nat.le_of_ble_eq_true rfl⟩ hf hl.1 (Nat.le_of_ble_eq_true rfl) dL_law_1099) (fun r f' A' h => ⟨h.1, h.2.2.2, h.2.1 43 (by decide)⟩) (fun r2 f2 A2 H locs p2 T9 => ?_)
  refine lv_pop hx hb dL_law_1102 rfl ?_
  refine lv_goto (tgt := 1419) hx hb dL_law_1103 (by decide) ?_
  refine W.widen (k := 2000 + (N + 1)) (n := 700000 + 3 * (N + 1)) (by omega) (by omega) ?_
  exact nx _ _ _ _ _ _ _ T9 hl
end LC
