theorem ap_Pl {D : va_G} {cl : List vw_C} {X Y : va_W} {H : Heap} (h : va_P D cl (X ++ Y) H) : va_P D cl X H := fun k q hk => h k q (by rw [List.getElem?_append_left (List.getElem?_eq_some_iff.mp hk).1]; exact hk)
theorem ap_r {X Y : va_W} {k : Nat} {q : Nat × va_E} (hk : Y[k]? = some q) : (X ++ Y)[X.length + k]? = some q := by rw [List.getElem?_append_right (Nat.le_add_right _ _), Nat.add_sub_cancel_left]; exact hk
theorem ap_l {X Y : va_W} {k : Nat} {q : Nat × va_E} (hk : X[k]? = some q) : (X ++ Y)[k]? = some q := by rw [List.getElem?_append_left (List.getElem?_eq_some_iff.mp hk).1]; exact hk
theorem ap_Pr {D : va_G} {cl : List vw_C} {X Y : va_W} {H : Heap} (h : va_P D cl (X ++ Y) H) : va_P D cl Y H := fun k q hk => h (X.length + k) q (ap_r hk)
theorem ap_Dl {A : Nat → Prop} {X Y : va_W} (h : va_D A (X ++ Y)) : va_D A X := ⟨fun i j p q hi hj e => h.1 i j p q (ap_l hi) (ap_l hj) e, fun k q hk => h.2 k q (ap_l hk)⟩
theorem ap_Dr {A : Nat → Prop} {X Y : va_W} (h : va_D A (X ++ Y)) : va_D A Y := ⟨fun i j p q hi hj e => by have := h.1 _ _ p q (ap_r hi) (ap_r hj) e; omega, fun k q hk => h.2 _ q (ap_r hk)⟩
theorem ap_ne {A : Nat → Prop} {X Y : va_W} (h : va_D A (X ++ Y)) {i j : Nat} {p q : Nat × va_E} (hi : X[i]? = some p) (hj : Y[j]? = some q) : p.1 ≠ q.1 := fun e => by have h1 := h.1 _ _ p q (ap_l hi) (ap_r hj) e; have h2 := (List.getElem?_eq_some_iff.mp hi).1; omega
/-! THE CLAIM OUT OF ONE WALK OF THE LAW'S BODY. Your part is whole_start (and what it stands on); all else here is the same for every law, but numbers. -/
def R_law : String := "CardTablesLaw"
def lw_P (b : Addr) (xs : List Int32) (args : Array Value) (s : State) : Prop := args = #[.ref b] ∧ s.IntsAt b xs ∧ xs.length ≤ 5 ∧ (Jvm.Cond.and given_1 narrow_1).before args s = true
def lw_Q (_ : Array Value) (s : State) (o : Outcome) (t : State) : Prop := o = .returned (some (.int 1)) ∧ Framed s o t [] 600000 7302250
def lw_Z (below : List Frame) (a : Array Value) (s : State) : State → Prop := fun t => ∃ o, t.status = .running ∧ Ended t below o ∧ lw_Q a s o t
/-- the law's own end, with 1 on the stack, nothing written that was there before, its room as the claim has it -/
theorem lw_ret {p : Program} {l : Launch} {e : Env} {s : State} {m : MethodId} {below : List Frame} {meth : Method} {c : Code} {b : Nat} (hx : p.tables.exec = Jvm.exec) (hb : c.code = code) (hr : meth.sig.returnType = ret) (hlocks : meth.locks = false) {pc : Nat} {H : Heap} {ls : Array Slot} (hdg : decode code pc = .ok (.ireturn, 1)) : W p l e room_1 s m #[Value.ref b] below meth c H [] 600000 7302250 (lw_Z below #[Value.ref b] s) (F0 m pc ls [.int 1]) := by
  intro T hT X
  obtain ⟨fs, hret, hrun, hended, hW, hframe⟩ := X.leave (v := some (.int 1)) (hlocks := hlocks) (fun h => by rw [hr] at h; cases h)
  have hmeth' : T.vm.method? m = some meth := X.method'
  refine ⟨T.setFrames fs, ?_, .returned (some (.int 1)), hrun, hended, rfl, ⟨_, rfl⟩, hW, hframe⟩
  jvm_step X.here [X.here.top, hx, hb, hdg, hmeth', hr, ret, narrow_b1]
  (try refine ⟨rfl, ?_⟩); (try refine ⟨rfl, ?_⟩)
  first | (intro acts; rw [hret _ acts rfl rfl rfl]) | rw [hret _ _ rfl rfl rfl]
  exact Steps.refl _
/-- what holds at the law's entry: the machine, the code, the tables' words (any of lw_tbl by 'hts w (by decide +kernel)'), the script of L ints xs at the cell b, what the Statement gives of the start (any of its parts by flat_of_before) -/
def lw_At (p : Program) (s : State) (m : MethodId) (meth : Method) (c : Code) (b L : Nat) (xs : Nat → Int32) : Prop :=
  p.tables.exec = Jvm.exec ∧ c.code = code ∧ meth.sig.returnType = ret ∧ c.maxLocals = 4 ∧ s.vm.findClass R_law = some m.cls ∧ (∀ w ∈ lw_tbl, w.before #[Value.ref b] s = true) ∧ va_X b L xs s s.heap ∧ b < s.heap.size ∧ meth.locks = false ∧ (Jvm.Cond.and given_1 narrow_1).before #[Value.ref b] s = true

/-- the law's state ahead of its call: both are new, apart, and the law's own -/
def lw_St (p : Program) (s : State) (m : MethodId) (meth : Method) (c : Code) (dC : Nat → ClassId) (dI : Nat → Nat → Nat) (sb : Nat) (xs : Nat → Int32) (a : Nat → Nat) (cG cT : ClassId) (ft : Nat → Option Nat) (TL : va_W) (b : Nat → Nat) (c1 c2 c3 c4 : ClassId) (fk : Nat → Int32) (H : Heap) (locs : List Loc) : Prop :=
  lw_At p s m meth c sb 5 xs ∧ fr_T ft TL ∧ (∀ j, j < 6 → fk j = -1) ∧ va_K (dC, dI) vwCl (tX cG cT) s ∧ va_K (dC, dI) vwCl (tM c1 c2 c3 c4) s ∧ va_P (dC, dI) vwCl (wX a cG cT ft TL) H ∧ va_P (dC, dI) vwCl (wM b c1 c2 c3 c4 fk) H ∧ va_D (fun _ => True) (wX a cG cT ft TL) ∧ va_D (fun _ => True) (wM b c1 c2 c3 c4 fk) ∧ (∀ (k : Nat) (q : Nat × va_E), (wM b c1 c2 c3 c4 fk)[k]? = some q → q.1 < H.size ∧ ¬ va_A (wX a cG cT ft TL) H.size q.1) ∧ (∀ q, va_A (wX a cG cT ft TL) H.size q → s.heap.size ≤ q) ∧ (∀ q, va_A (wM b c1 c2 c3 c4 fk) H.size q → s.heap.size ≤ q) ∧ va_S (fun q : Nat => s.heap.size ≤ q) s.heap H locs ∧ va_Nw (.castable RX0 RX4) s ∧ va_Nw (.castable RX3 RX4) s ∧ va_Nw (.castable RX5 RX4) s ∧ va_Nw (.castable RX10 RX4) s
set_option maxHeartbeats 4000000 in
set_option maxRecDepth 100000 in
/-- behind the call: the script has no further one -/
theorem law_next {p : Program} {l : Launch} {e : Env} {s : State} {m : MethodId} {below : List Frame} {meth : Method} {c : Code} {sb : Nat} {xs : Nat → Int32} {H : Heap} {locs : List Loc} (C0 : lw_At p s m meth c sb 5 xs) (hS : va_S (fun q : Nat => s.heap.size ≤ q) s.heap H locs) {ls : Array Slot} {v1 v2 : Nat} (hl : lv_has ls 4 [(3, .int 0), (2, .ref v2), (1, .ref v1), (0, .ref sb)]) : W p l e room_1 s m #[Value.ref sb] below meth c H locs 1305 700005 (lw_Z below #[Value.ref sb] s) (F0 m 1419 ls []) := by
  obtain ⟨hx, hb, hr, hml, hown, hts, hX, hbl, hlocks, hgv⟩ := C0
  have hbA : ¬ (fun q : Nat => s.heap.size ≤ q) sb := Nat.not_le.mpr hbl
  refine lv_iinc (v := 5) (lv' := [(3, .int 5), (2, .ref v2), (1, .ref v1), (0, .ref sb)]) hx hb dL_law_1419 hl (k := 0) rfl (by decide) (by decide) rfl (fun ls hl => ?_)
  refine lv_goto (tgt := 18) hx hb dL_law_1422 (by decide) ?_
  refine lv_iload_n hx hb dL_law_18 rfl (lv_at hl 0 rfl) ?_
  refine lv_aload_n hx hb dL_law_19 rfl (lv_at hl 3 rfl) ?_
  refine va_slen hx hb hX hbl hbA hS dL_law_20 ?_
  refine lv_topi (fun x_2 ex_2 => ?_)
  obtain rfl : x_2 = 5 := ex_2.trans (by decide +kernel)
  refine lv_iconst (v := 5) hx hb dL_law_21 (by decide) ?_
  refine lv_isub hx hb dL_law_22 ?_
  refine lv_topi (fun x_3 ex_3 => ?_)
  obtain rfl : x_3 = 0 := ex_3.trans (by decide +kernel)
  refine lv_icmp_gt (tgt := 1425) hx hb dL_law_23 (by decide) (fun c_4 => ?_) (fun c_4 => ?_)
  · skip
    refine lv_iconst (v := 1) hx hb dL_law_1425 (by decide) ?_
    refine va_forget (fun q hq => hS.2.2 q hq) ?_
    refine W.widen (k := 600000) (n := 7302250) (by omega) (by omega) ?_
    exact lw_ret hx hb hr hlocks dL_law_1426
  · exact absurd c_4 (by decide +kernel)
set_option maxRecDepth 100000 in
theorem gv_RL_13 : GoodIn lw_tbl (wsV RL 13 RX11 yX11_game vsX11_game) := (gi_t 325 (by decide +kernel) rfl (gi_t 326 (by decide +kernel) rfl (gi_t 327 (by decide +kernel) rfl (gi_t 1 (by decide +kernel) rfl gl_X11_game))))
set_option maxRecDepth 100000 in
theorem gv_RL_17 : GoodIn lw_tbl (wsV RL 17 RX12 yX12_game vsX12_game) := (gi_t 1127 (by decide +kernel) rfl (gi_t 1128 (by decide +kernel) rfl (gi_t 1129 (by decide +kernel) rfl (gi_t 8 (by decide +kernel) rfl gl_X12_game))))
set_option maxRecDepth 100000 in
theorem gv_RL_18 : GoodIn lw_tbl (wsV RL 18 RX11 yX11_kindOf vsX11_kindOf) := (gi_t 392 (by decide +kernel) rfl (gi_t 393 (by decide +kernel) rfl (gi_t 394 (by decide +kernel) rfl (gi_t 1 (by decide +kernel) rfl gl_X11_kindOf))))
set_option maxRecDepth 100000 in
theorem gv_RL_22 : GoodIn lw_tbl (wsV RL 22 RX12 yX12_kindOf vsX12_kindOf) := (gi_t 1138 (by decide +kernel) rfl (gi_t 1139 (by decide +kernel) rfl (gi_t 1140 (by decide +kernel) rfl (gi_t 8 (by decide +kernel) rfl gl_X12_kindOf))))
set_option maxRecDepth 100000 in
theorem gv_RL_23 : GoodIn lw_tbl (wsV RL 23 RX11 yX11_table vsX11_table) := (gi_t 396 (by decide +kernel) rfl (gi_t 397 (by decide +kernel) rfl (gi_t 398 (by decide +kernel) rfl (gi_t 1 (by decide +kernel) rfl gl_X11_table))))
set_option maxRecDepth 100000 in
theorem gv_RL_27 : GoodIn lw_tbl (wsV RL 27 RX12 yX12_table vsX12_table) := (gi_t 1142 (by decide +kernel) rfl (gi_t 1143 (by decide +kernel) rfl (gi_t 1144 (by decide +kernel) rfl (gi_t 8 (by decide +kernel) rfl gl_X12_table))))
set_option maxRecDepth 100000 in
theorem gv_RL_28 : GoodIn lw_tbl (wsV RL 28 RX11 yX11_seat vsX11_seat) := (gi_t 427 (by decide +kernel) rfl (gi_t 428 (by decide +kernel) rfl (gi_t 429 (by decide +kernel) rfl (gi_t 1 (by decide +kernel) rfl gl_X11_seat))))
set_option maxRecDepth 100000 in
theorem gv_RL_32 : GoodIn lw_tbl (wsV RL 32 RX12 yX12_seat vsX12_seat) := (gi_t 1150 (by decide +kernel) rfl (gi_t 1151 (by decide +kernel) rfl (gi_t 1152 (by decide +kernel) rfl (gi_t 8 (by decide +kernel) rfl gl_X12_seat))))
set_option maxRecDepth 100000 in
theorem gv_RL_33 : GoodIn lw_tbl (wsV RL 33 RX11 yX11_kind vsX11_kind) := (gi_t 458 (by decide +kernel) rfl (gi_t 459 (by decide +kernel) rfl (gi_t 460 (by decide +kernel) rfl (gi_t 1 (by decide +kernel) rfl gl_X11_kind))))
set_option maxRecDepth 100000 in
theorem gv_RL_36 : GoodIn lw_tbl (wsV RL 36 RX12 yX12_kind vsX12_kind) := (gi_t 1161 (by decide +kernel) rfl (gi_t 1162 (by decide +kernel) rfl (gi_t 1163 (by decide +kernel) rfl (gi_t 8 (by decide +kernel) rfl gl_X12_kind))))
set_option maxRecDepth 100000 in
theorem gv_RL_37 : GoodIn lw_tbl (wsV RL 37 RX11 yX11_card vsX11_card) := (gi_t 467 (by decide +kernel) rfl (gi_t 468 (by decide +kernel) rfl (gi_t 469 (by decide +kernel) rfl (gi_t 1 (by decide +kernel) rfl gl_X11_card))))
set_option maxRecDepth 100000 in
theorem gv_RL_41 : GoodIn lw_tbl (wsV RL 41 RX12 yX12_card vsX12_card) := (gi_t 1169 (by decide +kernel) rfl (gi_t 1170 (by decide +kernel) rfl (gi_t 1171 (by decide +kernel) rfl (gi_t 8 (by decide +kernel) rfl gl_X12_card))))
set_option maxRecDepth 100000 in
theorem gv_RL_42 : GoodIn lw_tbl (wsV RL 42 RX11 yX11_match vsX11_match) := (gi_t 471 (by decide +kernel) rfl (gi_t 472 (by decide +kernel) rfl (gi_t 473 (by decide +kernel) rfl (gi_t 1 (by decide +kernel) rfl gl_X11_match))))
set_option maxRecDepth 100000 in
theorem gv_RL_45 : GoodIn lw_tbl (wsV RL 45 RX12 yX12_match vsX12_match) := (gi_t 1173 (by decide +kernel) rfl (gi_t 1174 (by decide +kernel) rfl (gi_t 1175 (by decide +kernel) rfl (gi_t 8 (by decide +kernel) rfl gl_X12_match))))
set_option maxRecDepth 100000 in
theorem gv_RL_46 : GoodIn lw_tbl (wsV RL 46 RX11 yX11_deal vsX11_deal) := (gi_t 476 (by decide +kernel) rfl (gi_t 477 (by decide +kernel) rfl (gi_t 478 (by decide +kernel) rfl (gi_t 1 (by decide +kernel) rfl gl_X11_deal))))
set_option maxRecDepth 100000 in
theorem gv_RL_49 : GoodIn lw_tbl (wsV RL 49 RX12 yX12_deal vsX12_deal) := (gi_t 1177 (by decide +kernel) rfl (gi_t 1178 (by decide +kernel) rfl (gi_t 1179 (by decide +kernel) rfl (gi_t 8 (by decide +kernel) rfl gl_X12_deal))))
set_option maxRecDepth 100000 in
theorem gv_RL_50 : GoodIn lw_tbl (wsV RL 50 RX11 yX11_give vsX11_give) := (gi_t 564 (by decide +kernel) rfl (gi_t 565 (by decide +kernel) rfl (gi_t 566 (by decide +kernel) rfl (gi_t 1 (by decide +kernel) rfl gl_X11_give))))
set_option maxRecDepth 100000 in
theorem gv_RL_53 : GoodIn lw_tbl (wsV RL 53 RX12 yX12_give vsX12_give) := (gi_t 1223 (by decide +kernel) rfl (gi_t 1224 (by decide +kernel) rfl (gi_t 1225 (by decide +kernel) rfl (gi_t 8 (by decide +kernel) rfl gl_X12_give))))
set_option maxRecDepth 100000 in
theorem gv_RL_54 : GoodIn lw_tbl (wsV RL 54 RX11 yX11_bid vsX11_bid) := (gi_t 592 (by decide +kernel) rfl (gi_t 593 (by decide +kernel) rfl (gi_t 594 (by decide +kernel) rfl (gi_t 1 (by decide +kernel) rfl gl_X11_bid))))
set_option maxRecDepth 100000 in
theorem gv_RL_57 : GoodIn lw_tbl (wsV RL 57 RX12 yX12_bid vsX12_bid) := (gi_t 1239 (by decide +kernel) rfl (gi_t 1240 (by decide +kernel) rfl (gi_t 1241 (by decide +kernel) rfl (gi_t 8 (by decide +kernel) rfl gl_X12_bid))))
set_option maxRecDepth 100000 in
theorem gv_RL_58 : GoodIn lw_tbl (wsV RL 58 RX11 yX11_doubled vsX11_doubled) := (gi_t 605 (by decide +kernel) rfl (gi_t 606 (by decide +kernel) rfl (gi_t 607 (by decide +kernel) rfl (gi_t 1 (by decide +kernel) rfl gl_X11_doubled))))
set_option maxRecDepth 100000 in
theorem gv_RL_61 : GoodIn lw_tbl (wsV RL 61 RX12 yX12_doubled vsX12_doubled) := (gi_t 1251 (by decide +kernel) rfl (gi_t 1252 (by decide +kernel) rfl (gi_t 1253 (by decide +kernel) rfl (gi_t 8 (by decide +kernel) rfl gl_X12_doubled))))
set_option maxRecDepth 100000 in
theorem gv_RL_62 : GoodIn lw_tbl (wsV RL 62 RX11 yX11_lay vsX11_lay) := (gi_t 613 (by decide +kernel) rfl (gi_t 614 (by decide +kernel) rfl (gi_t 615 (by decide +kernel) rfl (gi_t 1 (by decide +kernel) rfl gl_X11_lay))))
set_option maxRecDepth 100000 in
theorem gv_RL_65 : GoodIn lw_tbl (wsV RL 65 RX12 yX12_lay vsX12_lay) := (gi_t 1259 (by decide +kernel) rfl (gi_t 1260 (by decide +kernel) rfl (gi_t 1261 (by decide +kernel) rfl (gi_t 8 (by decide +kernel) rfl gl_X12_lay))))
set_option maxRecDepth 100000 in
theorem gv_RL_66 : GoodIn lw_tbl (wsV RL 66 RX11 yX11_revoke vsX11_revoke) := (gi_t 773 (by decide +kernel) rfl (gi_t 774 (by decide +kernel) rfl (gi_t 775 (by decide +kernel) rfl (gi_t 1 (by decide +kernel) rfl gl_X11_revoke))))
set_option maxRecDepth 100000 in
theorem gv_RL_69 : GoodIn lw_tbl (wsV RL 69 RX12 yX12_revoke vsX12_revoke) := (gi_t 1343 (by decide +kernel) rfl (gi_t 1344 (by decide +kernel) rfl (gi_t 1345 (by decide +kernel) rfl (gi_t 8 (by decide +kernel) rfl gl_X12_revoke))))
set_option maxRecDepth 100000 in
theorem gv_RL_70 : GoodIn lw_tbl (wsV RL 70 RX11 yX11_allowed vsX11_allowed) := (gi_t 777 (by decide +kernel) rfl (gi_t 778 (by decide +kernel) rfl (gi_t 779 (by decide +kernel) rfl (gi_t 1 (by decide +kernel) rfl gl_X11_allowed))))
set_option maxRecDepth 100000 in
theorem gv_RL_73 : GoodIn lw_tbl (wsV RL 73 RX12 yX12_allowed vsX12_allowed) := (gi_t 1347 (by decide +kernel) rfl (gi_t 1348 (by decide +kernel) rfl (gi_t 1349 (by decide +kernel) rfl (gi_t 8 (by decide +kernel) rfl gl_X12_allowed))))
set_option maxRecDepth 100000 in
theorem gv_RL_74 : GoodIn lw_tbl (wsV RL 74 RX11 yX11_turn vsX11_turn) := (gi_t 781 (by decide +kernel) rfl (gi_t 782 (by decide +kernel) rfl (gi_t 783 (by decide +kernel) rfl (gi_t 1 (by decide +kernel) rfl gl_X11_turn))))
set_option maxRecDepth 100000 in
theorem gv_RL_77 : GoodIn lw_tbl (wsV RL 77 RX12 yX12_turn vsX12_turn) := (gi_t 1351 (by decide +kernel) rfl (gi_t 1352 (by decide +kernel) rfl (gi_t 1353 (by decide +kernel) rfl (gi_t 8 (by decide +kernel) rfl gl_X12_turn))))
set_option maxRecDepth 100000 in
theorem gv_RL_78 : GoodIn lw_tbl (wsV RL 78 RX11 yX11_trick vsX11_trick) := (gi_t 785 (by decide +kernel) rfl (gi_t 786 (by decide +kernel) rfl (gi_t 787 (by decide +kernel) rfl (gi_t 1 (by decide +kernel) rfl gl_X11_trick))))
set_option maxRecDepth 100000 in
theorem gv_RL_81 : GoodIn lw_tbl (wsV RL 81 RX12 yX12_trick vsX12_trick) := (gi_t 1355 (by decide +kernel) rfl (gi_t 1356 (by decide +kernel) rfl (gi_t 1357 (by decide +kernel) rfl (gi_t 8 (by decide +kernel) rfl gl_X12_trick))))
set_option maxRecDepth 100000 in
theorem gv_RL_82 : GoodIn lw_tbl (wsV RL 82 RX11 yX11_hand vsX11_hand) := (gi_t 790 (by decide +kernel) rfl (gi_t 791 (by decide +kernel) rfl (gi_t 792 (by decide +kernel) rfl (gi_t 1 (by decide +kernel) rfl gl_X11_hand))))
set_option maxRecDepth 100000 in
theorem gv_RL_85 : GoodIn lw_tbl (wsV RL 85 RX12 yX12_hand vsX12_hand) := (gi_t 1359 (by decide +kernel) rfl (gi_t 1360 (by decide +kernel) rfl (gi_t 1361 (by decide +kernel) rfl (gi_t 8 (by decide +kernel) rfl gl_X12_hand))))
set_option maxRecDepth 100000 in
theorem gv_RL_86 : GoodIn lw_tbl (wsV RL 86 RX11 yX11_left vsX11_left) := (gi_t 795 (by decide +kernel) rfl (gi_t 796 (by decide +kernel) rfl (gi_t 797 (by decide +kernel) rfl (gi_t 1 (by decide +kernel) rfl gl_X11_left))))
set_option maxRecDepth 100000 in
theorem gv_RL_89 : GoodIn lw_tbl (wsV RL 89 RX12 yX12_left vsX12_left) := (gi_t 1363 (by decide +kernel) rfl (gi_t 1364 (by decide +kernel) rfl (gi_t 1365 (by decide +kernel) rfl (gi_t 8 (by decide +kernel) rfl gl_X12_left))))
set_option maxRecDepth 100000 in
theorem gv_RL_90 : GoodIn lw_tbl (wsV RL 90 RX11 yX11_winner vsX11_winner) := (gi_t 799 (by decide +kernel) rfl (gi_t 800 (by decide +kernel) rfl (gi_t 801 (by decide +kernel) rfl (gi_t 1 (by decide +kernel) rfl gl_X11_winner))))
set_option maxRecDepth 100000 in
theorem gv_RL_93 : GoodIn lw_tbl (wsV RL 93 RX12 yX12_winner vsX12_winner) := (gi_t 1367 (by decide +kernel) rfl (gi_t 1368 (by decide +kernel) rfl (gi_t 1369 (by decide +kernel) rfl (gi_t 8 (by decide +kernel) rfl gl_X12_winner))))
set_option maxRecDepth 100000 in
theorem gv_RL_94 : GoodIn lw_tbl (wsV RL 94 RX11 yX11_won vsX11_won) := (gi_t 803 (by decide +kernel) rfl (gi_t 804 (by decide +kernel) rfl (gi_t 805 (by decide +kernel) rfl (gi_t 1 (by decide +kernel) rfl gl_X11_won))))
set_option maxRecDepth 100000 in
theorem gv_RL_97 : GoodIn lw_tbl (wsV RL 97 RX12 yX12_won vsX12_won) := (gi_t 1371 (by decide +kernel) rfl (gi_t 1372 (by decide +kernel) rfl (gi_t 1373 (by decide +kernel) rfl (gi_t 8 (by decide +kernel) rfl gl_X12_won))))
set_option maxRecDepth 100000 in
theorem gv_RL_98 : GoodIn lw_tbl (wsV RL 98 RX11 yX11_revokes vsX11_revokes) := (gi_t 812 (by decide +kernel) rfl (gi_t 813 (by decide +kernel) rfl (gi_t 814 (by decide +kernel) rfl (gi_t 1 (by decide +kernel) rfl gl_X11_revokes))))
set_option maxRecDepth 100000 in
theorem gv_RL_101 : GoodIn lw_tbl (wsV RL 101 RX12 yX12_revokes vsX12_revokes) := (gi_t 1375 (by decide +kernel) rfl (gi_t 1376 (by decide +kernel) rfl (gi_t 1377 (by decide +kernel) rfl (gi_t 8 (by decide +kernel) rfl gl_X12_revokes))))
set_option maxRecDepth 100000 in
theorem gv_RL_102 : GoodIn lw_tbl (wsV RL 102 RX11 yX11_sum vsX11_sum) := (gi_t 820 (by decide +kernel) rfl (gi_t 821 (by decide +kernel) rfl (gi_t 822 (by decide +kernel) rfl (gi_t 1 (by decide +kernel) rfl gl_X11_sum))))
set_option maxRecDepth 100000 in
theorem gv_RL_105 : GoodIn lw_tbl (wsV RL 105 RX12 yX12_sum vsX12_sum) := (gi_t 1379 (by decide +kernel) rfl (gi_t 1380 (by decide +kernel) rfl (gi_t 1381 (by decide +kernel) rfl (gi_t 8 (by decide +kernel) rfl gl_X12_sum))))
set_option maxRecDepth 100000 in
theorem gv_RL_106 : GoodIn lw_tbl (wsV RL 106 RX11 yX11_tie vsX11_tie) := (gi_t 824 (by decide +kernel) rfl (gi_t 825 (by decide +kernel) rfl (gi_t 826 (by decide +kernel) rfl (gi_t 1 (by decide +kernel) rfl gl_X11_tie))))
set_option maxRecDepth 100000 in
theorem gv_RL_109 : GoodIn lw_tbl (wsV RL 109 RX12 yX12_tie vsX12_tie) := (gi_t 1383 (by decide +kernel) rfl (gi_t 1384 (by decide +kernel) rfl (gi_t 1385 (by decide +kernel) rfl (gi_t 8 (by decide +kernel) rfl gl_X12_tie))))
set_option maxRecDepth 100000 in
theorem gv_RL_110 : GoodIn lw_tbl (wsV RL 110 RX11 yX11_best vsX11_best) := (gi_t 828 (by decide +kernel) rfl (gi_t 829 (by decide +kernel) rfl (gi_t 830 (by decide +kernel) rfl (gi_t 1 (by decide +kernel) rfl gl_X11_best))))
set_option maxRecDepth 100000 in
theorem gv_RL_113 : GoodIn lw_tbl (wsV RL 113 RX12 yX12_best vsX12_best) := (gi_t 1387 (by decide +kernel) rfl (gi_t 1388 (by decide +kernel) rfl (gi_t 1389 (by decide +kernel) rfl (gi_t 8 (by decide +kernel) rfl gl_X12_best))))
set_option maxRecDepth 100000 in
theorem gv_RL_114 : GoodIn lw_tbl (wsV RL 114 RX11 yX11_line vsX11_line) := (gi_t 910 (by decide +kernel) rfl (gi_t 911 (by decide +kernel) rfl (gi_t 912 (by decide +kernel) rfl (gi_t 1 (by decide +kernel) rfl gl_X11_line))))
set_option maxRecDepth 100000 in
theorem gv_RL_117 : GoodIn lw_tbl (wsV RL 117 RX12 yX12_line vsX12_line) := (gi_t 1452 (by decide +kernel) rfl (gi_t 1453 (by decide +kernel) rfl (gi_t 1454 (by decide +kernel) rfl (gi_t 8 (by decide +kernel) rfl gl_X12_line))))
set_option maxRecDepth 100000 in
theorem gv_RL_118 : GoodIn lw_tbl (wsV RL 118 RX11 yX11_check vsX11_check) := (gi_t 922 (by decide +kernel) rfl (gi_t 923 (by decide +kernel) rfl (gi_t 924 (by decide +kernel) rfl (gi_t 1 (by decide +kernel) rfl gl_X11_check))))
set_option maxRecDepth 100000 in
theorem gv_RL_121 : GoodIn lw_tbl (wsV RL 121 RX12 yX12_check vsX12_check) := (gi_t 1448 (by decide +kernel) rfl (gi_t 1449 (by decide +kernel) rfl (gi_t 1450 (by decide +kernel) rfl (gi_t 8 (by decide +kernel) rfl gl_X12_check))))
set_option maxRecDepth 100000 in
theorem gv_RL_122 : GoodIn lw_tbl (wsV RL 122 RX11 yX11_claim vsX11_claim) := (gi_t 933 (by decide +kernel) rfl (gi_t 934 (by decide +kernel) rfl (gi_t 935 (by decide +kernel) rfl (gi_t 1 (by decide +kernel) rfl gl_X11_claim))))
set_option maxRecDepth 100000 in
theorem gv_RL_125 : GoodIn lw_tbl (wsV RL 125 RX12 yX12_claim vsX12_claim) := (gi_t 1456 (by decide +kernel) rfl (gi_t 1457 (by decide +kernel) rfl (gi_t 1458 (by decide +kernel) rfl (gi_t 8 (by decide +kernel) rfl gl_X12_claim))))
set_option maxRecDepth 100000 in
theorem gv_RL_126 : GoodIn lw_tbl (wsV RL 126 RX11 yX11_undo vsX11_undo) := (gi_t 942 (by decide +kernel) rfl (gi_t 943 (by decide +kernel) rfl (gi_t 944 (by decide +kernel) rfl (gi_t 1 (by decide +kernel) rfl gl_X11_undo))))
set_option maxRecDepth 100000 in
theorem gv_RL_129 : GoodIn lw_tbl (wsV RL 129 RX12 yX12_undo vsX12_undo) := (gi_t 1464 (by decide +kernel) rfl (gi_t 1465 (by decide +kernel) rfl (gi_t 1466 (by decide +kernel) rfl (gi_t 8 (by decide +kernel) rfl gl_X12_undo))))
set_option maxRecDepth 100000 in
theorem gv_RL_130 : GoodIn lw_tbl (wsV RL 130 RX11 yX11_replay vsX11_replay) := (gi_t 946 (by decide +kernel) rfl (gi_t 947 (by decide +kernel) rfl (gi_t 948 (by decide +kernel) rfl (gi_t 1 (by decide +kernel) rfl gl_X11_replay))))
set_option maxRecDepth 100000 in
theorem gv_RL_133 : GoodIn lw_tbl (wsV RL 133 RX12 yX12_replay vsX12_replay) := (gi_t 1468 (by decide +kernel) rfl (gi_t 1469 (by decide +kernel) rfl (gi_t 1470 (by decide +kernel) rfl (gi_t 8 (by decide +kernel) rfl gl_X12_replay))))
set_option maxRecDepth 100000 in
theorem gv_RL_134 : GoodIn lw_tbl (wsV RL 134 RX11 yX11_digest vsX11_digest) := (gi_t 963 (by decide +kernel) rfl (gi_t 964 (by decide +kernel) rfl (gi_t 965 (by decide +kernel) rfl (gi_t 1 (by decide +kernel) rfl gl_X11_digest))))
set_option maxRecDepth 100000 in
theorem gv_RL_137 : GoodIn lw_tbl (wsV RL 137 RX12 yX12_digest vsX12_digest) := (gi_t 1476 (by decide +kernel) rfl (gi_t 1477 (by decide +kernel) rfl (gi_t 1478 (by decide +kernel) rfl (gi_t 8 (by decide +kernel) rfl gl_X12_digest))))
set_option maxRecDepth 100000 in
theorem gv_RL_138 : GoodIn lw_tbl (wsV RL 138 RX11 yX11_finding vsX11_finding) := (gi_t 971 (by decide +kernel) rfl (gi_t 972 (by decide +kernel) rfl (gi_t 973 (by decide +kernel) rfl (gi_t 1 (by decide +kernel) rfl gl_X11_finding))))
set_option maxRecDepth 100000 in
theorem gv_RL_141 : GoodIn lw_tbl (wsV RL 141 RX12 yX12_finding vsX12_finding) := (gi_t 1480 (by decide +kernel) rfl (gi_t 1481 (by decide +kernel) rfl (gi_t 1482 (by decide +kernel) rfl (gi_t 8 (by decide +kernel) rfl gl_X12_finding))))
set_option maxRecDepth 100000 in
theorem gv_RL_142 : GoodIn lw_tbl (wsV RL 142 RX11 yX11_trace vsX11_trace) := (gi_t 981 (by decide +kernel) rfl (gi_t 982 (by decide +kernel) rfl (gi_t 983 (by decide +kernel) rfl (gi_t 1 (by decide +kernel) rfl gl_X11_trace))))
set_option maxRecDepth 100000 in
theorem gv_RL_145 : GoodIn lw_tbl (wsV RL 145 RX12 yX12_trace vsX12_trace) := (gi_t 1484 (by decide +kernel) rfl (gi_t 1485 (by decide +kernel) rfl (gi_t 1486 (by decide +kernel) rfl (gi_t 8 (by decide +kernel) rfl gl_X12_trace))))
set_option maxRecDepth 100000 in
theorem gv_RL_146 : GoodIn lw_tbl (wsV RL 146 RX11 yX11_forget vsX11_forget) := (gi_t 989 (by decide +kernel) rfl (gi_t 990 (by decide +kernel) rfl (gi_t 991 (by decide +kernel) rfl (gi_t 1 (by decide +kernel) rfl gl_X11_forget))))
set_option maxRecDepth 100000 in
theorem gv_RL_150 : GoodIn lw_tbl (wsV RL 150 RX12 yX12_forget vsX12_forget) := (gi_t 1488 (by decide +kernel) rfl (gi_t 1489 (by decide +kernel) rfl (gi_t 1490 (by decide +kernel) rfl (gi_t 8 (by decide +kernel) rfl gl_X12_forget))))
set_option maxRecDepth 100000 in
theorem gv_RL_151 : GoodIn lw_tbl (wsV RL 151 RX11 yX11_count vsX11_count) := (gi_t 993 (by decide +kernel) rfl (gi_t 994 (by decide +kernel) rfl (gi_t 995 (by decide +kernel) rfl (gi_t 1 (by decide +kernel) rfl gl_X11_count))))
set_option maxRecDepth 100000 in
theorem gv_RL_154 : GoodIn lw_tbl (wsV RL 154 RX12 yX12_count vsX12_count) := (gi_t 1492 (by decide +kernel) rfl (gi_t 1493 (by decide +kernel) rfl (gi_t 1494 (by decide +kernel) rfl (gi_t 8 (by decide +kernel) rfl gl_X12_count))))
set_option maxRecDepth 100000 in
theorem gv_RL_155 : GoodIn lw_tbl (wsV RL 155 RX11 yX11_status vsX11_status) := (gi_t 1005 (by decide +kernel) rfl (gi_t 1006 (by decide +kernel) rfl (gi_t 1007 (by decide +kernel) rfl (gi_t 1 (by decide +kernel) rfl gl_X11_status))))
set_option maxRecDepth 100000 in
theorem gv_RL_158 : GoodIn lw_tbl (wsV RL 158 RX12 yX12_status vsX12_status) := (gi_t 1496 (by decide +kernel) rfl (gi_t 1497 (by decide +kernel) rfl (gi_t 1498 (by decide +kernel) rfl (gi_t 8 (by decide +kernel) rfl gl_X12_status))))
