set_option maxHeartbeats 4000000 in
set_option maxRecDepth 100000 in
/-- Table(id): no game yet -/
theorem c_Table_init (l : Launch) (dC : Nat → ClassId) (dI : Nat → Nat → Nat) (h0 sz : Nat) (i : Int32) : Met l yX9_init wsX9_init ({ frames := 3, cells := 28, slots := 549, locals := 81 }) (va_Pc [.ref h0, .int i] (fun U => U.heap.size = sz ∧ va_P (dC, dI) vwCl [(h0, .inr (8, [.int 0, .null, .int 0, .int 0, .int 0, .null, .null, .null, .null, .null, .null, .null, .null, .null]))] U.heap ∧ va_K (dC, dI) vwCl [] U ∧ va_D (fun _ => True) [(h0, .inr (8, [.int 0, .null, .int 0, .int 0, .int 0, .null, .null, .null, .null, .null, .null, .null, .null, .null]))] ∧ va_AO RX8 U ∧ va_Nw (.methodLinkNest RX9 46 yX1_init RX11) U)) (va_Qv (fun _ : Unit => True) (fun _ t => ∃ fs : List Value, fs[1]? = some .null ∧ va_P (dC, dI) vwCl [(h0, .inr (8, fs))] t.heap ∧ va_K (dC, dI) vwCl [] t ∧ va_D (va_A [(h0, .inr (8, [.int 0, .null, .int 0, .int 0, .int 0, .null, .null, .null, .null, .null, .null, .null, .null, .null]))] sz) [(h0, .inr (8, fs))]) (va_A [(h0, .inr (8, [.int 0, .null, .int 0, .int 0, .int 0, .null, .null, .null, .null, .null, .null, .null, .null, .null]))] sz)) 28 549 (va_A [(h0, .inr (8, [.int 0, .null, .int 0, .int 0, .int 0, .null, .null, .null, .null, .null, .null, .null, .null, .null]))] sz) := by
  refine Met.ofW (cc := cX9_init) (maxL := 3) (ret := none) (by decide) rfl ?_
  intro p e s m args below meth c s₁ B hml hv
  obtain ⟨rfl, hsz, hP, hK, hD0, hAO_RX8, hN46⟩ := hv
  have hx := B.exec
  have hb := B.bytes
  have hr := B.returns
  have hts := atoms_spec (ws := wsX9_init) B.pre
  have hown : s.vm.findClass RX9 = some m.cls := findClass_of_methodNamed B.named
  have hlocks := B.notSynchronized
  have hin : meth.name = "<init>" := (name_of_methodNamed B.named B.method).1
  subst hsz
  have hD := hD0.self (sz := s.heap.size)
  generalize hAe : va_A [(h0, .inr (8, [.int 0, .null, .int 0, .int 0, .int 0, .null, .null, .null, .null, .null, .null, .null, .null, .null]))] s.heap.size = A at hD ⊢
  have hA : ∀ q : Nat, s.heap.size ≤ q → A q := fun q h => by rw [← hAe]; exact Or.inr h
  have hS : va_S A s.heap s.heap [] := va_S.rf
  have hP : va_P (dC, dI) vwCl [(h0, .inr (8, [.int 0, .null, .int 0, .int 0, .int 0, .null, .null, .null, .null, .null, .null, .null, .null, .null]))] s.heap := hP
  have hl := lv_entry ([.ref h0, .int i]) (n := 3) (Nat.le_of_ble_eq_true rfl)
  rw [lg_entry_eq]
  generalize (lg_sl ([.ref h0, .int i]) ++ List.replicate (3 - (lg_sl ([.ref h0, .int i])).length) Slot.unset).toArray = ls at hl ⊢
  have hl : lv_has ls 3 [(0, .ref h0), (1, .int i)] := hl
  refine lv_aload_n hx hb dX9_init_0 rfl (lv_at hl 0 rfl) ?_
  refine W.objInit hx hb hown (hts (.methodLink RX9 3 objectInit) (List.mem_of_getElem? (l := wsX9_init) (i := 1) rfl)) (hts (.instanceMethod objectInit) (List.mem_of_getElem? (l := wsX9_init) (i := 2) rfl)) (hts (.code objectInit ⟨#[0xb1]⟩ 1 none) (List.mem_of_getElem? (l := wsX9_init) (i := 3) rfl)) rfl (by rw [hml]; exact hl.1) rfl dX9_init_1 (Nat.le_of_ble_eq_true rfl) (Nat.le_of_ble_eq_true rfl) ?_
  refine W.eq (g2 := F0 m 4 ls []) rfl ?_
  refine lv_aload_n hx hb dX9_init_4 rfl (lv_at hl 0 rfl) ?_
  refine lv_bipush (v := 60) hx hb dX9_init_5 (by decide) ?_
  refine va_newa (atype := .int) (a0 := (60, .inl (fun _ => 0))) (N' := 60) (ty := .int) hx hb (hts (.arrayClass .int) (List.mem_of_getElem? (l := wsX9_init) (i := 4) rfl)) rfl hK hP hD hS hA (fun _ => rfl) (by decide +kernel) (by decide +kernel) (by decide +kernel) (Nat.le_of_ble_eq_true rfl) (Nat.le_of_ble_eq_true rfl) dX9_init_7 (fun q_1 cA_1 H hK hP hD hS => ?_)
  have hP : va_P (dC, dI) vwCl [(h0, .inr (8, [.int 0, .null, .int 0, .int 0, .int 0, .null, .null, .null, .null, .null, .null, .null, .null, .null])), (q_1, .inl (cA_1, 60, .inl (fun _ => 0)))] H := hP
  have hD : va_D A [(h0, .inr (8, [.int 0, .null, .int 0, .int 0, .int 0, .null, .null, .null, .null, .null, .null, .null, .null, .null])), (q_1, .inl (cA_1, 60, .inl (fun _ => 0)))] := hD
  have hK : va_K (dC, dI) vwCl [(cA_1, .int)] s := hK
  refine W.widen (k := 1) (n := 60) (by omega) (by omega) ?_
  refine va_putF (D := (dC, dI)) (ci := 8) (v := .ref q_1) (ty := .array .int) (C := RX9) (T := TX9) (N := 14) hx hb hts (by decide +kernel) tyX9 tyX9_ok nmX9 hown hK hP hD hS 0 rfl rfl 5 (by decide) (hts (.fieldLink RX9 9 "CardTables$Table" "colours" "[I") (List.mem_of_getElem? (l := wsX9_init) (i := 5) rfl)) (fun _ h9 => h9) rfl hin rfl (by decide +kernel) rfl rfl (Nat.le_of_ble_eq_true rfl) dX9_init_9 (fun H locs hP hD hS => ?_)
  have hP : va_P (dC, dI) vwCl [(h0, .inr (8, [.int 0, .null, .int 0, .int 0, .int 0, .ref q_1, .null, .null, .null, .null, .null, .null, .null, .null])), (q_1, .inl (cA_1, 60, .inl (fun _ => 0)))] H := hP
  have hD : va_D A [(h0, .inr (8, [.int 0, .null, .int 0, .int 0, .int 0, .ref q_1, .null, .null, .null, .null, .null, .null, .null, .null])), (q_1, .inl (cA_1, 60, .inl (fun _ => 0)))] := hD
  have hP := hP.sub (ws' := [(h0, .inr (8, [.int 0, .null, .int 0, .int 0, .int 0, .ref q_1, .null, .null, .null, .null, .null, .null, .null, .null]))]) [0] rfl
  have hD := hD.sub (ws' := [(h0, .inr (8, [.int 0, .null, .int 0, .int 0, .int 0, .ref q_1, .null, .null, .null, .null, .null, .null, .null, .null]))]) [0] (by decide) rfl
  have hK := hK.sub (tys' := []) [] rfl
  refine lv_aload_n hx hb dX9_init_12 rfl (lv_at hl 0 rfl) ?_
  refine lv_bipush (v := 60) hx hb dX9_init_13 (by decide) ?_
  refine va_newa (atype := .int) (a0 := (60, .inl (fun _ => 0))) (N' := 60) (ty := .int) hx hb (hts (.arrayClass .int) (List.mem_of_getElem? (l := wsX9_init) (i := 4) rfl)) rfl hK hP hD hS hA (fun _ => rfl) (by decide +kernel) (by decide +kernel) (by decide +kernel) (Nat.le_of_ble_eq_true rfl) (Nat.le_of_ble_eq_true rfl) dX9_init_15 (fun q_2 cA_2 H hK hP hD hS => ?_)
  have hP : va_P (dC, dI) vwCl [(h0, .inr (8, [.int 0, .null, .int 0, .int 0, .int 0, .ref q_1, .null, .null, .null, .null, .null, .null, .null, .null])), (q_2, .inl (cA_2, 60, .inl (fun _ => 0)))] H := hP
  have hD : va_D A [(h0, .inr (8, [.int 0, .null, .int 0, .int 0, .int 0, .ref q_1, .null, .null, .null, .null, .null, .null, .null, .null])), (q_2, .inl (cA_2, 60, .inl (fun _ => 0)))] := hD
  have hK : va_K (dC, dI) vwCl [(cA_2, .int)] s := hK
  refine W.widen (k := 2) (n := 120) (by omega) (by omega) ?_
  refine va_putF (D := (dC, dI)) (ci := 8) (v := .ref q_2) (ty := .array .int) (C := RX9) (T := TX9) (N := 14) hx hb hts (by decide +kernel) tyX9 tyX9_ok nmX9 hown hK hP hD hS 0 rfl rfl 6 (by decide) (hts (.fieldLink RX9 15 "CardTables$Table" "places" "[I") (List.mem_of_getElem? (l := wsX9_init) (i := 6) rfl)) (fun _ h9 => h9) rfl hin rfl (by decide +kernel) rfl rfl (Nat.le_of_ble_eq_true rfl) dX9_init_17 (fun H locs hP hD hS => ?_)
  have hP : va_P (dC, dI) vwCl [(h0, .inr (8, [.int 0, .null, .int 0, .int 0, .int 0, .ref q_1, .ref q_2, .null, .null, .null, .null, .null, .null, .null])), (q_2, .inl (cA_2, 60, .inl (fun _ => 0)))] H := hP
  have hD : va_D A [(h0, .inr (8, [.int 0, .null, .int 0, .int 0, .int 0, .ref q_1, .ref q_2, .null, .null, .null, .null, .null, .null, .null])), (q_2, .inl (cA_2, 60, .inl (fun _ => 0)))] := hD
  have hP := hP.sub (ws' := [(h0, .inr (8, [.int 0, .null, .int 0, .int 0, .int 0, .ref q_1, .ref q_2, .null, .null, .null, .null, .null, .null, .null]))]) [0] rfl
  have hD := hD.sub (ws' := [(h0, .inr (8, [.int 0, .null, .int 0, .int 0, .int 0, .ref q_1, .ref q_2, .null, .null, .null, .null, .null, .null, .null]))]) [0] (by decide) rfl
  have hK := hK.sub (tys' := []) [] rfl
  refine lv_aload_n hx hb dX9_init_20 rfl (lv_at hl 0 rfl) ?_
  refine lv_iconst (v := 4) hx hb dX9_init_21 (by decide) ?_
  refine va_newa (atype := .boolean) (a0 := (4, .inl (fun _ => 0))) (N' := 4) (ty := .boolean) hx hb (hts (.arrayClass .boolean) (List.mem_of_getElem? (l := wsX9_init) (i := 7) rfl)) rfl hK hP hD hS hA (fun _ => rfl) (by decide +kernel) (by decide +kernel) (by decide +kernel) (Nat.le_of_ble_eq_true rfl) (Nat.le_of_ble_eq_true rfl) dX9_init_22 (fun q_3 cA_3 H hK hP hD hS => ?_)
  have hP : va_P (dC, dI) vwCl [(h0, .inr (8, [.int 0, .null, .int 0, .int 0, .int 0, .ref q_1, .ref q_2, .null, .null, .null, .null, .null, .null, .null])), (q_3, .inl (cA_3, 4, .inl (fun _ => 0)))] H := hP
  have hD : va_D A [(h0, .inr (8, [.int 0, .null, .int 0, .int 0, .int 0, .ref q_1, .ref q_2, .null, .null, .null, .null, .null, .null, .null])), (q_3, .inl (cA_3, 4, .inl (fun _ => 0)))] := hD
  have hK : va_K (dC, dI) vwCl [(cA_3, .boolean)] s := hK
  refine W.widen (k := 3) (n := 124) (by omega) (by omega) ?_
  refine va_putF (D := (dC, dI)) (ci := 8) (v := .ref q_3) (ty := .array .boolean) (C := RX9) (T := TX9) (N := 14) hx hb hts (by decide +kernel) tyX9 tyX9_ok nmX9 hown hK hP hD hS 0 rfl rfl 7 (by decide) (hts (.fieldLink RX9 18 "CardTables$Table" "taken" "[Z") (List.mem_of_getElem? (l := wsX9_init) (i := 8) rfl)) (fun _ h9 => h9) rfl hin rfl (by decide +kernel) rfl rfl (Nat.le_of_ble_eq_true rfl) dX9_init_24 (fun H locs hP hD hS => ?_)
  have hP : va_P (dC, dI) vwCl [(h0, .inr (8, [.int 0, .null, .int 0, .int 0, .int 0, .ref q_1, .ref q_2, .ref q_3, .null, .null, .null, .null, .null, .null])), (q_3, .inl (cA_3, 4, .inl (fun _ => 0)))] H := hP
  have hD : va_D A [(h0, .inr (8, [.int 0, .null, .int 0, .int 0, .int 0, .ref q_1, .ref q_2, .ref q_3, .null, .null, .null, .null, .null, .null])), (q_3, .inl (cA_3, 4, .inl (fun _ => 0)))] := hD
  have hP := hP.sub (ws' := [(h0, .inr (8, [.int 0, .null, .int 0, .int 0, .int 0, .ref q_1, .ref q_2, .ref q_3, .null, .null, .null, .null, .null, .null]))]) [0] rfl
  have hD := hD.sub (ws' := [(h0, .inr (8, [.int 0, .null, .int 0, .int 0, .int 0, .ref q_1, .ref q_2, .ref q_3, .null, .null, .null, .null, .null, .null]))]) [0] (by decide) rfl
  have hK := hK.sub (tys' := []) [] rfl
  refine lv_aload_n hx hb dX9_init_27 rfl (lv_at hl 0 rfl) ?_
  refine lv_iconst (v := 4) hx hb dX9_init_28 (by decide) ?_
  refine va_newa (atype := .int) (a0 := (4, .inl (fun _ => 0))) (N' := 4) (ty := .int) hx hb (hts (.arrayClass .int) (List.mem_of_getElem? (l := wsX9_init) (i := 4) rfl)) rfl hK hP hD hS hA (fun _ => rfl) (by decide +kernel) (by decide +kernel) (by decide +kernel) (Nat.le_of_ble_eq_true rfl) (Nat.le_of_ble_eq_true rfl) dX9_init_29 (fun q_4 cA_4 H hK hP hD hS => ?_)
  have hP : va_P (dC, dI) vwCl [(h0, .inr (8, [.int 0, .null, .int 0, .int 0, .int 0, .ref q_1, .ref q_2, .ref q_3, .null, .null, .null, .null, .null, .null])), (q_4, .inl (cA_4, 4, .inl (fun _ => 0)))] H := hP
  have hD : va_D A [(h0, .inr (8, [.int 0, .null, .int 0, .int 0, .int 0, .ref q_1, .ref q_2, .ref q_3, .null, .null, .null, .null, .null, .null])), (q_4, .inl (cA_4, 4, .inl (fun _ => 0)))] := hD
  have hK : va_K (dC, dI) vwCl [(cA_4, .int)] s := hK
  refine W.widen (k := 4) (n := 128) (by omega) (by omega) ?_
  refine va_putF (D := (dC, dI)) (ci := 8) (v := .ref q_4) (ty := .array .int) (C := RX9) (T := TX9) (N := 14) hx hb hts (by decide +kernel) tyX9 tyX9_ok nmX9 hown hK hP hD hS 0 rfl rfl 8 (by decide) (hts (.fieldLink RX9 22 "CardTables$Table" "sums" "[I") (List.mem_of_getElem? (l := wsX9_init) (i := 9) rfl)) (fun _ h9 => h9) rfl hin rfl (by decide +kernel) rfl rfl (Nat.le_of_ble_eq_true rfl) dX9_init_31 (fun H locs hP hD hS => ?_)
  have hP : va_P (dC, dI) vwCl [(h0, .inr (8, [.int 0, .null, .int 0, .int 0, .int 0, .ref q_1, .ref q_2, .ref q_3, .ref q_4, .null, .null, .null, .null, .null])), (q_4, .inl (cA_4, 4, .inl (fun _ => 0)))] H := hP
  have hD : va_D A [(h0, .inr (8, [.int 0, .null, .int 0, .int 0, .int 0, .ref q_1, .ref q_2, .ref q_3, .ref q_4, .null, .null, .null, .null, .null])), (q_4, .inl (cA_4, 4, .inl (fun _ => 0)))] := hD
  have hP := hP.sub (ws' := [(h0, .inr (8, [.int 0, .null, .int 0, .int 0, .int 0, .ref q_1, .ref q_2, .ref q_3, .ref q_4, .null, .null, .null, .null, .null]))]) [0] rfl
  have hD := hD.sub (ws' := [(h0, .inr (8, [.int 0, .null, .int 0, .int 0, .int 0, .ref q_1, .ref q_2, .ref q_3, .ref q_4, .null, .null, .null, .null, .null]))]) [0] (by decide) rfl
  have hK := hK.sub (tys' := []) [] rfl
  refine lv_aload_n hx hb dX9_init_34 rfl (lv_at hl 0 rfl) ?_
  refine va_new (ci := 7) (fs := [.null, .int 0]) (C := RX8) (T := TX8) (N := 2) hx hb hts (by decide +kernel) tyX8 tyX8_ok hown (hts (.classLink RX9 25 RX8) (List.mem_of_getElem? (l := wsX9_init) (i := 10) rfl)) (hts (.instantiable RX8 2) (List.mem_of_getElem? (l := wsX9_init) (i := 11) rfl)) (hts (.initialized RX8) (List.mem_of_getElem? (l := wsX9_init) (i := 12) rfl)) hK hP hD hS hA rfl (fun j hj => by rcases (show j = 0 ∨ j = 1 by omega) with rfl | rfl <;> rfl) (Nat.le_of_ble_eq_true rfl) (Nat.le_of_ble_eq_true rfl) dX9_init_35 (fun q_5 H hP hD hS => ?_)
  have hP : va_P (dC, dI) vwCl [(h0, .inr (8, [.int 0, .null, .int 0, .int 0, .int 0, .ref q_1, .ref q_2, .ref q_3, .ref q_4, .null, .null, .null, .null, .null])), (q_5, .inr (7, [.null, .int 0]))] H := hP
  have hD : va_D A [(h0, .inr (8, [.int 0, .null, .int 0, .int 0, .int 0, .ref q_1, .ref q_2, .ref q_3, .ref q_4, .null, .null, .null, .null, .null])), (q_5, .inr (7, [.null, .int 0]))] := hD
  refine W.widen (k := 5) (n := 130) (by omega) (by omega) ?_
  refine lv_dup hx hb dX9_init_38 rfl ?_
  refine lv_bipush (v := 60) hx hb dX9_init_39 (by decide) ?_
  have hPc := hP.sub (ws' := [(q_5, .inr (7, [.null, .int 0]))]) [1] rfl
  have hDc := hD.sub (ws' := [(q_5, .inr (7, [.null, .int 0]))]) [1] (by decide) rfl
  have hKc := hK.sub (tys' := []) [] rfl
  have hFc := va_free (wc := [(q_5, .inr (7, [.null, .int 0]))]) hD hS hA [1] rfl
  refine va_callv (va_runI (As := [.int 60]) (rest := [.ref q_5, .ref h0]) ⟨hx, hb, hml, hown, hts⟩ (c_Row_init l dC dI q_5 H.size 60 60 (by decide +kernel) (by decide +kernel) (by decide +kernel) (by decide +kernel)) (cwI 1 hts gX9_init_X8_init rfl rfl rfl (hts (.initialized RX8) (List.mem_of_getElem? (l := wsX9_init) (i := 12) rfl)) (hts (.methodLink RX9 27 yX8_init) (List.mem_of_getElem? (l := wsX9_init) (i := 22) rfl)) (hts (.instanceMethod yX8_init) (List.mem_of_getElem? (l := wsX9_init) (i := 23) rfl)) rfl (by decide +kernel) ⟨Nat.le_of_ble_eq_true rfl, Nat.le_of_ble_eq_true rfl⟩) ⟨fun a U g mk q => by obtain ⟨q0, q1, qP, qK, qD⟩ := q; exact ⟨q0, q1, qP, va_K.moved (u := U) (U := U.calling g mk a) (Vm.Alike.refl U.vm) qK, qD⟩, fun U hU hW => ⟨rfl, by rw [hU], by rw [hU]; exact hPc, va_K.moved hW.alike hKc, hDc.weaken (fun _ _ _ _ => trivial)⟩⟩ rfl rfl hl.1 rfl (lv_room (Nat.le_of_ble_eq_true rfl)) dX9_init_41 ⟨Nat.le_of_ble_eq_true rfl, Nat.le_of_ble_eq_true rfl⟩) hS (fun q _ h => hFc q h) hFc (fun u t H1 locs ht hvm hw hB hz1 hk1 hS => ?_)
  obtain ⟨rq_6, rc_6, hP1, hK1, hD1⟩ := hB
  rw [ht] at hP1
  have hK1 := va_K.moved hvm.symm hK1
  obtain ⟨hP, hD⟩ := va_join (wr := [(h0, .inr (8, [.int 0, .null, .int 0, .int 0, .int 0, .ref q_1, .ref q_2, .ref q_3, .ref q_4, .null, .null, .null, .null, .null]))]) (w1 := [(q_5, .inr (7, [.ref rq_6, .int 0])), (rq_6, .inl (rc_6, 60, .inl (fun _ => 0)))]) hP hD [1] [0] rfl rfl (by decide) (by decide) hk1 hFc hP1 hD1
  have hK := (hK.sub (tys' := []) [] rfl).app hK1
  generalize H1 = H at hP hS ⊢
  have hP : va_P (dC, dI) vwCl [(h0, .inr (8, [.int 0, .null, .int 0, .int 0, .int 0, .ref q_1, .ref q_2, .ref q_3, .ref q_4, .null, .null, .null, .null, .null])), (q_5, .inr (7, [.ref rq_6, .int 0])), (rq_6, .inl (rc_6, 60, .inl (fun _ => 0)))] H := hP
  have hD : va_D A [(h0, .inr (8, [.int 0, .null, .int 0, .int 0, .int 0, .ref q_1, .ref q_2, .ref q_3, .ref q_4, .null, .null, .null, .null, .null])), (q_5, .inr (7, [.ref rq_6, .int 0])), (rq_6, .inl (rc_6, 60, .inl (fun _ => 0)))] := hD
  have hK : va_K (dC, dI) vwCl [(rc_6, .int)] s := hK
  refine W.widen (k := 6) (n := 190) (by omega) (by omega) ?_
  refine va_putF (D := (dC, dI)) (ci := 8) (v := .ref q_5) (ty := .object "CardTables$Row") (C := RX9) (T := TX9) (N := 14) hx hb hts (by decide +kernel) tyX9 tyX9_ok nmX9 hown hK hP hD hS 0 rfl rfl 9 (by decide) (hts (.fieldLink RX9 30 "CardTables$Table" "rest" "LCardTables$Row;") (List.mem_of_getElem? (l := wsX9_init) (i := 13) rfl)) (fun _ h9 => h9) rfl hin rfl (by decide +kernel) rfl rfl (Nat.le_of_ble_eq_true rfl) dX9_init_44 (fun H locs hP hD hS => ?_)
  have hP : va_P (dC, dI) vwCl [(h0, .inr (8, [.int 0, .null, .int 0, .int 0, .int 0, .ref q_1, .ref q_2, .ref q_3, .ref q_4, .ref q_5, .null, .null, .null, .null])), (q_5, .inr (7, [.ref rq_6, .int 0])), (rq_6, .inl (rc_6, 60, .inl (fun _ => 0)))] H := hP
  have hD : va_D A [(h0, .inr (8, [.int 0, .null, .int 0, .int 0, .int 0, .ref q_1, .ref q_2, .ref q_3, .ref q_4, .ref q_5, .null, .null, .null, .null])), (q_5, .inr (7, [.ref rq_6, .int 0])), (rq_6, .inl (rc_6, 60, .inl (fun _ => 0)))] := hD
  have hP := hP.sub (ws' := [(h0, .inr (8, [.int 0, .null, .int 0, .int 0, .int 0, .ref q_1, .ref q_2, .ref q_3, .ref q_4, .ref q_5, .null, .null, .null, .null]))]) [0] rfl
  have hD := hD.sub (ws' := [(h0, .inr (8, [.int 0, .null, .int 0, .int 0, .int 0, .ref q_1, .ref q_2, .ref q_3, .ref q_4, .ref q_5, .null, .null, .null, .null]))]) [0] (by decide) rfl
  have hK := hK.sub (tys' := []) [] rfl
  refine lv_aload_n hx hb dX9_init_47 rfl (lv_at hl 0 rfl) ?_
  refine va_new (ci := 7) (fs := [.null, .int 0]) (C := RX8) (T := TX8) (N := 2) hx hb hts (by decide +kernel) tyX8 tyX8_ok hown (hts (.classLink RX9 25 RX8) (List.mem_of_getElem? (l := wsX9_init) (i := 10) rfl)) (hts (.instantiable RX8 2) (List.mem_of_getElem? (l := wsX9_init) (i := 11) rfl)) (hts (.initialized RX8) (List.mem_of_getElem? (l := wsX9_init) (i := 12) rfl)) hK hP hD hS hA rfl (fun j hj => by rcases (show j = 0 ∨ j = 1 by omega) with rfl | rfl <;> rfl) (Nat.le_of_ble_eq_true rfl) (Nat.le_of_ble_eq_true rfl) dX9_init_48 (fun q_7 H hP hD hS => ?_)
  have hP : va_P (dC, dI) vwCl [(h0, .inr (8, [.int 0, .null, .int 0, .int 0, .int 0, .ref q_1, .ref q_2, .ref q_3, .ref q_4, .ref q_5, .null, .null, .null, .null])), (q_7, .inr (7, [.null, .int 0]))] H := hP
  have hD : va_D A [(h0, .inr (8, [.int 0, .null, .int 0, .int 0, .int 0, .ref q_1, .ref q_2, .ref q_3, .ref q_4, .ref q_5, .null, .null, .null, .null])), (q_7, .inr (7, [.null, .int 0]))] := hD
  refine W.widen (k := 7) (n := 192) (by omega) (by omega) ?_
  refine lv_dup hx hb dX9_init_51 rfl ?_
  refine lv_iconst (v := 4) hx hb dX9_init_52 (by decide) ?_
  have hPc := hP.sub (ws' := [(q_7, .inr (7, [.null, .int 0]))]) [1] rfl
  have hDc := hD.sub (ws' := [(q_7, .inr (7, [.null, .int 0]))]) [1] (by decide) rfl
  have hKc := hK.sub (tys' := []) [] rfl
  have hFc := va_free (wc := [(q_7, .inr (7, [.null, .int 0]))]) hD hS hA [1] rfl
  refine va_callv (va_runI (As := [.int 4]) (rest := [.ref q_7, .ref h0]) ⟨hx, hb, hml, hown, hts⟩ (c_Row_init l dC dI q_7 H.size 4 4 (by decide +kernel) (by decide +kernel) (by decide +kernel) (by decide +kernel)) (cwI 1 hts gX9_init_X8_init rfl rfl rfl (hts (.initialized RX8) (List.mem_of_getElem? (l := wsX9_init) (i := 12) rfl)) (hts (.methodLink RX9 27 yX8_init) (List.mem_of_getElem? (l := wsX9_init) (i := 22) rfl)) (hts (.instanceMethod yX8_init) (List.mem_of_getElem? (l := wsX9_init) (i := 23) rfl)) rfl (by decide +kernel) ⟨Nat.le_of_ble_eq_true rfl, Nat.le_of_ble_eq_true rfl⟩) ⟨fun a U g mk q => by obtain ⟨q0, q1, qP, qK, qD⟩ := q; exact ⟨q0, q1, qP, va_K.moved (u := U) (U := U.calling g mk a) (Vm.Alike.refl U.vm) qK, qD⟩, fun U hU hW => ⟨rfl, by rw [hU], by rw [hU]; exact hPc, va_K.moved hW.alike hKc, hDc.weaken (fun _ _ _ _ => trivial)⟩⟩ rfl rfl hl.1 rfl (lv_room (Nat.le_of_ble_eq_true rfl)) dX9_init_53 ⟨Nat.le_of_ble_eq_true rfl, Nat.le_of_ble_eq_true rfl⟩) hS (fun q _ h => hFc q h) hFc (fun u t H1 locs ht hvm hw hB hz1 hk1 hS => ?_)
  obtain ⟨rq_8, rc_8, hP1, hK1, hD1⟩ := hB
  rw [ht] at hP1
  have hK1 := va_K.moved hvm.symm hK1
  obtain ⟨hP, hD⟩ := va_join (wr := [(h0, .inr (8, [.int 0, .null, .int 0, .int 0, .int 0, .ref q_1, .ref q_2, .ref q_3, .ref q_4, .ref q_5, .null, .null, .null, .null]))]) (w1 := [(q_7, .inr (7, [.ref rq_8, .int 0])), (rq_8, .inl (rc_8, 4, .inl (fun _ => 0)))]) hP hD [1] [0] rfl rfl (by decide) (by decide) hk1 hFc hP1 hD1
  have hK := (hK.sub (tys' := []) [] rfl).app hK1
  generalize H1 = H at hP hS ⊢
  have hP : va_P (dC, dI) vwCl [(h0, .inr (8, [.int 0, .null, .int 0, .int 0, .int 0, .ref q_1, .ref q_2, .ref q_3, .ref q_4, .ref q_5, .null, .null, .null, .null])), (q_7, .inr (7, [.ref rq_8, .int 0])), (rq_8, .inl (rc_8, 4, .inl (fun _ => 0)))] H := hP
  have hD : va_D A [(h0, .inr (8, [.int 0, .null, .int 0, .int 0, .int 0, .ref q_1, .ref q_2, .ref q_3, .ref q_4, .ref q_5, .null, .null, .null, .null])), (q_7, .inr (7, [.ref rq_8, .int 0])), (rq_8, .inl (rc_8, 4, .inl (fun _ => 0)))] := hD
  have hK : va_K (dC, dI) vwCl [(rc_8, .int)] s := hK
  refine W.widen (k := 8) (n := 196) (by omega) (by omega) ?_
  refine va_putF (D := (dC, dI)) (ci := 8) (v := .ref q_7) (ty := .object "CardTables$Row") (C := RX9) (T := TX9) (N := 14) hx hb hts (by decide +kernel) tyX9 tyX9_ok nmX9 hown hK hP hD hS 0 rfl rfl 10 (by decide) (hts (.fieldLink RX9 34 "CardTables$Table" "trick" "LCardTables$Row;") (List.mem_of_getElem? (l := wsX9_init) (i := 14) rfl)) (fun _ h9 => h9) rfl hin rfl (by decide +kernel) rfl rfl (Nat.le_of_ble_eq_true rfl) dX9_init_56 (fun H locs hP hD hS => ?_)
  have hP : va_P (dC, dI) vwCl [(h0, .inr (8, [.int 0, .null, .int 0, .int 0, .int 0, .ref q_1, .ref q_2, .ref q_3, .ref q_4, .ref q_5, .ref q_7, .null, .null, .null])), (q_7, .inr (7, [.ref rq_8, .int 0])), (rq_8, .inl (rc_8, 4, .inl (fun _ => 0)))] H := hP
  have hD : va_D A [(h0, .inr (8, [.int 0, .null, .int 0, .int 0, .int 0, .ref q_1, .ref q_2, .ref q_3, .ref q_4, .ref q_5, .ref q_7, .null, .null, .null])), (q_7, .inr (7, [.ref rq_8, .int 0])), (rq_8, .inl (rc_8, 4, .inl (fun _ => 0)))] := hD
  have hP := hP.sub (ws' := [(h0, .inr (8, [.int 0, .null, .int 0, .int 0, .int 0, .ref q_1, .ref q_2, .ref q_3, .ref q_4, .ref q_5, .ref q_7, .null, .null, .null]))]) [0] rfl
  have hD := hD.sub (ws' := [(h0, .inr (8, [.int 0, .null, .int 0, .int 0, .int 0, .ref q_1, .ref q_2, .ref q_3, .ref q_4, .ref q_5, .ref q_7, .null, .null, .null]))]) [0] (by decide) rfl
  have hK := hK.sub (tys' := []) [] rfl
  refine lv_aload_n hx hb dX9_init_59 rfl (lv_at hl 0 rfl) ?_
  refine va_new (ci := 7) (fs := [.null, .int 0]) (C := RX8) (T := TX8) (N := 2) hx hb hts (by decide +kernel) tyX8 tyX8_ok hown (hts (.classLink RX9 25 RX8) (List.mem_of_getElem? (l := wsX9_init) (i := 10) rfl)) (hts (.instantiable RX8 2) (List.mem_of_getElem? (l := wsX9_init) (i := 11) rfl)) (hts (.initialized RX8) (List.mem_of_getElem? (l := wsX9_init) (i := 12) rfl)) hK hP hD hS hA rfl (fun j hj => by rcases (show j = 0 ∨ j = 1 by omega) with rfl | rfl <;> rfl) (Nat.le_of_ble_eq_true rfl) (Nat.le_of_ble_eq_true rfl) dX9_init_60 (fun q_9 H hP hD hS => ?_)
  have hP : va_P (dC, dI) vwCl [(h0, .inr (8, [.int 0, .null, .int 0, .int 0, .int 0, .ref q_1, .ref q_2, .ref q_3, .ref q_4, .ref q_5, .ref q_7, .null, .null, .null])), (q_9, .inr (7, [.null, .int 0]))] H := hP
  have hD : va_D A [(h0, .inr (8, [.int 0, .null, .int 0, .int 0, .int 0, .ref q_1, .ref q_2, .ref q_3, .ref q_4, .ref q_5, .ref q_7, .null, .null, .null])), (q_9, .inr (7, [.null, .int 0]))] := hD
  refine W.widen (k := 9) (n := 198) (by omega) (by omega) ?_
  refine lv_dup hx hb dX9_init_63 rfl ?_
  refine lv_iconst (v := 4) hx hb dX9_init_64 (by decide) ?_
  have hPc := hP.sub (ws' := [(q_9, .inr (7, [.null, .int 0]))]) [1] rfl
  have hDc := hD.sub (ws' := [(q_9, .inr (7, [.null, .int 0]))]) [1] (by decide) rfl
  have hKc := hK.sub (tys' := []) [] rfl
  have hFc := va_free (wc := [(q_9, .inr (7, [.null, .int 0]))]) hD hS hA [1] rfl
  refine va_callv (va_runI (As := [.int 4]) (rest := [.ref q_9, .ref h0]) ⟨hx, hb, hml, hown, hts⟩ (c_Row_init l dC dI q_9 H.size 4 4 (by decide +kernel) (by decide +kernel) (by decide +kernel) (by decide +kernel)) (cwI 1 hts gX9_init_X8_init rfl rfl rfl (hts (.initialized RX8) (List.mem_of_getElem? (l := wsX9_init) (i := 12) rfl)) (hts (.methodLink RX9 27 yX8_init) (List.mem_of_getElem? (l := wsX9_init) (i := 22) rfl)) (hts (.instanceMethod yX8_init) (List.mem_of_getElem? (l := wsX9_init) (i := 23) rfl)) rfl (by decide +kernel) ⟨Nat.le_of_ble_eq_true rfl, Nat.le_of_ble_eq_true rfl⟩) ⟨fun a U g mk q => by obtain ⟨q0, q1, qP, qK, qD⟩ := q; exact ⟨q0, q1, qP, va_K.moved (u := U) (U := U.calling g mk a) (Vm.Alike.refl U.vm) qK, qD⟩, fun U hU hW => ⟨rfl, by rw [hU], by rw [hU]; exact hPc, va_K.moved hW.alike hKc, hDc.weaken (fun _ _ _ _ => trivial)⟩⟩ rfl rfl hl.1 rfl (lv_room (Nat.le_of_ble_eq_true rfl)) dX9_init_65 ⟨Nat.le_of_ble_eq_true rfl, Nat.le_of_ble_eq_true rfl⟩) hS (fun q _ h => hFc q h) hFc (fun u t H1 locs ht hvm hw hB hz1 hk1 hS => ?_)
  obtain ⟨rq_10, rc_10, hP1, hK1, hD1⟩ := hB
  rw [ht] at hP1
  have hK1 := va_K.moved hvm.symm hK1
  obtain ⟨hP, hD⟩ := va_join (wr := [(h0, .inr (8, [.int 0, .null, .int 0, .int 0, .int 0, .ref q_1, .ref q_2, .ref q_3, .ref q_4, .ref q_5, .ref q_7, .null, .null, .null]))]) (w1 := [(q_9, .inr (7, [.ref rq_10, .int 0])), (rq_10, .inl (rc_10, 4, .inl (fun _ => 0)))]) hP hD [1] [0] rfl rfl (by decide) (by decide) hk1 hFc hP1 hD1
  have hK := (hK.sub (tys' := []) [] rfl).app hK1
  generalize H1 = H at hP hS ⊢
  have hP : va_P (dC, dI) vwCl [(h0, .inr (8, [.int 0, .null, .int 0, .int 0, .int 0, .ref q_1, .ref q_2, .ref q_3, .ref q_4, .ref q_5, .ref q_7, .null, .null, .null])), (q_9, .inr (7, [.ref rq_10, .int 0])), (rq_10, .inl (rc_10, 4, .inl (fun _ => 0)))] H := hP
  have hD : va_D A [(h0, .inr (8, [.int 0, .null, .int 0, .int 0, .int 0, .ref q_1, .ref q_2, .ref q_3, .ref q_4, .ref q_5, .ref q_7, .null, .null, .null])), (q_9, .inr (7, [.ref rq_10, .int 0])), (rq_10, .inl (rc_10, 4, .inl (fun _ => 0)))] := hD
  have hK : va_K (dC, dI) vwCl [(rc_10, .int)] s := hK
  refine W.widen (k := 10) (n := 202) (by omega) (by omega) ?_
  refine va_putF (D := (dC, dI)) (ci := 8) (v := .ref q_9) (ty := .object "CardTables$Row") (C := RX9) (T := TX9) (N := 14) hx hb hts (by decide +kernel) tyX9 tyX9_ok nmX9 hown hK hP hD hS 0 rfl rfl 11 (by decide) (hts (.fieldLink RX9 37 "CardTables$Table" "layers" "LCardTables$Row;") (List.mem_of_getElem? (l := wsX9_init) (i := 15) rfl)) (fun _ h9 => h9) rfl hin rfl (by decide +kernel) rfl rfl (Nat.le_of_ble_eq_true rfl) dX9_init_68 (fun H locs hP hD hS => ?_)
  have hP : va_P (dC, dI) vwCl [(h0, .inr (8, [.int 0, .null, .int 0, .int 0, .int 0, .ref q_1, .ref q_2, .ref q_3, .ref q_4, .ref q_5, .ref q_7, .ref q_9, .null, .null])), (q_9, .inr (7, [.ref rq_10, .int 0])), (rq_10, .inl (rc_10, 4, .inl (fun _ => 0)))] H := hP
  have hD : va_D A [(h0, .inr (8, [.int 0, .null, .int 0, .int 0, .int 0, .ref q_1, .ref q_2, .ref q_3, .ref q_4, .ref q_5, .ref q_7, .ref q_9, .null, .null])), (q_9, .inr (7, [.ref rq_10, .int 0])), (rq_10, .inl (rc_10, 4, .inl (fun _ => 0)))] := hD
  have hP := hP.sub (ws' := [(h0, .inr (8, [.int 0, .null, .int 0, .int 0, .int 0, .ref q_1, .ref q_2, .ref q_3, .ref q_4, .ref q_5, .ref q_7, .ref q_9, .null, .null]))]) [0] rfl
  have hD := hD.sub (ws' := [(h0, .inr (8, [.int 0, .null, .int 0, .int 0, .int 0, .ref q_1, .ref q_2, .ref q_3, .ref q_4, .ref q_5, .ref q_7, .ref q_9, .null, .null]))]) [0] (by decide) rfl
  have hK := hK.sub (tys' := []) [] rfl
  refine lv_aload_n hx hb dX9_init_71 rfl (lv_at hl 0 rfl) ?_
  refine lv_iconst (v := 4) hx hb dX9_init_72 (by decide) ?_
  refine va_newq (C := RX8) (N' := 4) hx hb hown (hts (.classLink RX9 25 RX8) (List.mem_of_getElem? (l := wsX9_init) (i := 10) rfl)) hAO_RX8 hK hP hD hS hA (by decide +kernel) (by decide +kernel) (by decide +kernel) (Nat.le_of_ble_eq_true rfl) (Nat.le_of_ble_eq_true rfl) dX9_init_73 (fun q_11 cA_11 H hK hP hD hS => ?_)
  have hP : va_P (dC, dI) vwCl [(h0, .inr (8, [.int 0, .null, .int 0, .int 0, .int 0, .ref q_1, .ref q_2, .ref q_3, .ref q_4, .ref q_5, .ref q_7, .ref q_9, .null, .null])), (q_11, .inl (cA_11, 4, .inr (.inr (.inr (.inr (fun _ => none))))))] H := hP
  have hD : va_D A [(h0, .inr (8, [.int 0, .null, .int 0, .int 0, .int 0, .ref q_1, .ref q_2, .ref q_3, .ref q_4, .ref q_5, .ref q_7, .ref q_9, .null, .null])), (q_11, .inl (cA_11, 4, .inr (.inr (.inr (.inr (fun _ => none))))))] := hD
  have hK : va_K (dC, dI) vwCl [(cA_11, .object RX8)] s := hK
  refine W.widen (k := 11) (n := 206) (by omega) (by omega) ?_
  refine va_putF (D := (dC, dI)) (ci := 8) (v := .ref q_11) (ty := .array (.object "CardTables$Row")) (C := RX9) (T := TX9) (N := 14) hx hb hts (by decide +kernel) tyX9 tyX9_ok nmX9 hown hK hP hD hS 0 rfl rfl 12 (by decide) (hts (.fieldLink RX9 40 "CardTables$Table" "hands" "[LCardTables$Row;") (List.mem_of_getElem? (l := wsX9_init) (i := 16) rfl)) (fun _ h9 => h9) rfl hin rfl (by decide +kernel) rfl rfl (Nat.le_of_ble_eq_true rfl) dX9_init_76 (fun H locs hP hD hS => ?_)
  have hP : va_P (dC, dI) vwCl [(h0, .inr (8, [.int 0, .null, .int 0, .int 0, .int 0, .ref q_1, .ref q_2, .ref q_3, .ref q_4, .ref q_5, .ref q_7, .ref q_9, .ref q_11, .null])), (q_11, .inl (cA_11, 4, .inr (.inr (.inr (.inr (fun _ => none))))))] H := hP
  have hD : va_D A [(h0, .inr (8, [.int 0, .null, .int 0, .int 0, .int 0, .ref q_1, .ref q_2, .ref q_3, .ref q_4, .ref q_5, .ref q_7, .ref q_9, .ref q_11, .null])), (q_11, .inl (cA_11, 4, .inr (.inr (.inr (.inr (fun _ => none))))))] := hD
  have hP := hP.sub (ws' := [(h0, .inr (8, [.int 0, .null, .int 0, .int 0, .int 0, .ref q_1, .ref q_2, .ref q_3, .ref q_4, .ref q_5, .ref q_7, .ref q_9, .ref q_11, .null])), (q_11, .inl (cA_11, 4, .inr (.inr (.inr (.inr (fun _ => none))))))]) [0, 1] rfl
  have hD := hD.sub (ws' := [(h0, .inr (8, [.int 0, .null, .int 0, .int 0, .int 0, .ref q_1, .ref q_2, .ref q_3, .ref q_4, .ref q_5, .ref q_7, .ref q_9, .ref q_11, .null])), (q_11, .inl (cA_11, 4, .inr (.inr (.inr (.inr (fun _ => none))))))]) [0, 1] (by decide) rfl
  have hK := hK.sub (tys' := [(cA_11, .object RX8)]) [0] rfl
  refine lv_aload_n hx hb dX9_init_79 rfl (lv_at hl 0 rfl) ?_
  refine va_new (ci := 1) (fs := [.int 0, .int 0, .int 0, .int 0, .int 0, .int 0, .int 0, .int 0, .int 0, .int 0, .int 0, .null, .null, .null, .null, .null, .null, .null]) (C := RX1) (T := TX1) (N := 18) hx hb hts (by decide +kernel) tyX1 tyX1_ok hown (hts (.classLink RX9 44 RX1) (List.mem_of_getElem? (l := wsX9_init) (i := 17) rfl)) (hts (.instantiable RX1 18) (List.mem_of_getElem? (l := wsX9_init) (i := 18) rfl)) (hts (.initialized RX1) (List.mem_of_getElem? (l := wsX9_init) (i := 19) rfl)) hK hP hD hS hA rfl (fun j hj => by rcases (show j = 0 ∨ j = 1 ∨ j = 2 ∨ j = 3 ∨ j = 4 ∨ j = 5 ∨ j = 6 ∨ j = 7 ∨ j = 8 ∨ j = 9 ∨ j = 10 ∨ j = 11 ∨ j = 12 ∨ j = 13 ∨ j = 14 ∨ j = 15 ∨ j = 16 ∨ j = 17 by omega) with rfl | rfl | rfl | rfl | rfl | rfl | rfl | rfl | rfl | rfl | rfl | rfl | rfl | rfl | rfl | rfl | rfl | rfl <;> rfl) (Nat.le_of_ble_eq_true rfl) (Nat.le_of_ble_eq_true rfl) dX9_init_80 (fun q_12 H hP hD hS => ?_)
  have hP : va_P (dC, dI) vwCl [(h0, .inr (8, [.int 0, .null, .int 0, .int 0, .int 0, .ref q_1, .ref q_2, .ref q_3, .ref q_4, .ref q_5, .ref q_7, .ref q_9, .ref q_11, .null])), (q_11, .inl (cA_11, 4, .inr (.inr (.inr (.inr (fun _ => none)))))), (q_12, .inr (1, [.int 0, .int 0, .int 0, .int 0, .int 0, .int 0, .int 0, .int 0, .int 0, .int 0, .int 0, .null, .null, .null, .null, .null, .null, .null]))] H := hP
  have hD : va_D A [(h0, .inr (8, [.int 0, .null, .int 0, .int 0, .int 0, .ref q_1, .ref q_2, .ref q_3, .ref q_4, .ref q_5, .ref q_7, .ref q_9, .ref q_11, .null])), (q_11, .inl (cA_11, 4, .inr (.inr (.inr (.inr (fun _ => none)))))), (q_12, .inr (1, [.int 0, .int 0, .int 0, .int 0, .int 0, .int 0, .int 0, .int 0, .int 0, .int 0, .int 0, .null, .null, .null, .null, .null, .null, .null]))] := hD
  refine W.widen (k := 12) (n := 224) (by omega) (by omega) ?_
  refine lv_dup hx hb dX9_init_83 rfl ?_
  have hPc := hP.sub (ws' := [(q_12, .inr (1, [.int 0, .int 0, .int 0, .int 0, .int 0, .int 0, .int 0, .int 0, .int 0, .int 0, .int 0, .null, .null, .null, .null, .null, .null, .null]))]) [2] rfl
  have hDc := hD.sub (ws' := [(q_12, .inr (1, [.int 0, .int 0, .int 0, .int 0, .int 0, .int 0, .int 0, .int 0, .int 0, .int 0, .int 0, .null, .null, .null, .null, .null, .null, .null]))]) [2] (by decide) rfl
  have hKc := hK.sub (tys' := []) [] rfl
  have hFc := va_free (wc := [(q_12, .inr (1, [.int 0, .int 0, .int 0, .int 0, .int 0, .int 0, .int 0, .int 0, .int 0, .int 0, .int 0, .null, .null, .null, .null, .null, .null, .null]))]) hD hS hA [2] rfl
  refine va_callv (va_runIN (As := []) (rest := [.ref q_12, .ref h0]) ⟨hx, hb, hml, hown, hts⟩ (c_Deal_init l dC dI q_12 H.size) ⟨va_cnB 0 hts gX9_init_X1_init_n46 rfl rfl rfl hN46 (hts (.initialized RX1) (List.mem_of_getElem? (l := wsX9_init) (i := 19) rfl)) (by decide +kernel) ⟨Nat.le_of_ble_eq_true rfl, Nat.le_of_ble_eq_true rfl⟩, rfl, (hts (.instanceMethod yX1_init) (List.mem_of_getElem? (l := wsX9_init) (i := 31) rfl))⟩ ⟨fun a U g mk q => by obtain ⟨q0, q1, qP, qK, qD⟩ := q; exact ⟨q0, q1, qP, va_K.moved (u := U) (U := U.calling g mk a) (Vm.Alike.refl U.vm) qK, qD⟩, fun U hU hW => ⟨rfl, by rw [hU], by rw [hU]; exact hPc, va_K.moved hW.alike hKc, hDc.weaken (fun _ _ _ _ => trivial)⟩⟩ rfl rfl hl.1 rfl (lv_room (Nat.le_of_ble_eq_true rfl)) dX9_init_84 ⟨Nat.le_of_ble_eq_true rfl, Nat.le_of_ble_eq_true rfl⟩) hS (fun q _ h => hFc q h) hFc (fun u t H1 locs ht hvm hw hB hz1 hk1 hS => ?_)
  obtain ⟨df_13, hP1, hK1, hD1⟩ := hB
  rw [ht] at hP1
  have hK1 := va_K.moved hvm.symm hK1
  obtain ⟨hP, hD⟩ := va_join (wr := [(h0, .inr (8, [.int 0, .null, .int 0, .int 0, .int 0, .ref q_1, .ref q_2, .ref q_3, .ref q_4, .ref q_5, .ref q_7, .ref q_9, .ref q_11, .null])), (q_11, .inl (cA_11, 4, .inr (.inr (.inr (.inr (fun _ => none))))))]) (w1 := [(q_12, .inr (1, df_13))]) hP hD [2] [0, 1] rfl rfl (by decide) (by decide) hk1 hFc hP1 hD1
  have hK := (hK.sub (tys' := [(cA_11, .object RX8)]) [0] rfl).app hK1
  generalize H1 = H at hP hS ⊢
  have hP : va_P (dC, dI) vwCl [(h0, .inr (8, [.int 0, .null, .int 0, .int 0, .int 0, .ref q_1, .ref q_2, .ref q_3, .ref q_4, .ref q_5, .ref q_7, .ref q_9, .ref q_11, .null])), (q_11, .inl (cA_11, 4, .inr (.inr (.inr (.inr (fun _ => none)))))), (q_12, .inr (1, df_13))] H := hP
  have hD : va_D A [(h0, .inr (8, [.int 0, .null, .int 0, .int 0, .int 0, .ref q_1, .ref q_2, .ref q_3, .ref q_4, .ref q_5, .ref q_7, .ref q_9, .ref q_11, .null])), (q_11, .inl (cA_11, 4, .inr (.inr (.inr (.inr (fun _ => none)))))), (q_12, .inr (1, df_13))] := hD
  have hK : va_K (dC, dI) vwCl [(cA_11, .object RX8)] s := hK
  refine W.widen (k := 20) (n := 481) (by omega) (by omega) ?_
  refine va_putF (D := (dC, dI)) (ci := 8) (v := .ref q_12) (ty := .object "CardTables$Deal") (C := RX9) (T := TX9) (N := 14) hx hb hts (by decide +kernel) tyX9 tyX9_ok nmX9 hown hK hP hD hS 0 rfl rfl 13 (by decide) (hts (.fieldLink RX9 47 "CardTables$Table" "deal" "LCardTables$Deal;") (List.mem_of_getElem? (l := wsX9_init) (i := 20) rfl)) (fun _ h9 => h9) rfl hin rfl (by decide +kernel) rfl rfl (Nat.le_of_ble_eq_true rfl) dX9_init_87 (fun H locs hP hD hS => ?_)
  have hP : va_P (dC, dI) vwCl [(h0, .inr (8, [.int 0, .null, .int 0, .int 0, .int 0, .ref q_1, .ref q_2, .ref q_3, .ref q_4, .ref q_5, .ref q_7, .ref q_9, .ref q_11, .ref q_12])), (q_11, .inl (cA_11, 4, .inr (.inr (.inr (.inr (fun _ => none)))))), (q_12, .inr (1, df_13))] H := hP
  have hD : va_D A [(h0, .inr (8, [.int 0, .null, .int 0, .int 0, .int 0, .ref q_1, .ref q_2, .ref q_3, .ref q_4, .ref q_5, .ref q_7, .ref q_9, .ref q_11, .ref q_12])), (q_11, .inl (cA_11, 4, .inr (.inr (.inr (.inr (fun _ => none)))))), (q_12, .inr (1, df_13))] := hD
  have hP := hP.sub (ws' := [(h0, .inr (8, [.int 0, .null, .int 0, .int 0, .int 0, .ref q_1, .ref q_2, .ref q_3, .ref q_4, .ref q_5, .ref q_7, .ref q_9, .ref q_11, .ref q_12])), (q_11, .inl (cA_11, 4, .inr (.inr (.inr (.inr (fun _ => none))))))]) [0, 1] rfl
  have hD := hD.sub (ws' := [(h0, .inr (8, [.int 0, .null, .int 0, .int 0, .int 0, .ref q_1, .ref q_2, .ref q_3, .ref q_4, .ref q_5, .ref q_7, .ref q_9, .ref q_11, .ref q_12])), (q_11, .inl (cA_11, 4, .inr (.inr (.inr (.inr (fun _ => none))))))]) [0, 1] (by decide) rfl
  have hK := hK.sub (tys' := [(cA_11, .object RX8)]) [0] rfl
  refine lv_aload_n hx hb dX9_init_90 rfl (lv_at hl 0 rfl) ?_
  refine lv_iload_n hx hb dX9_init_91 rfl (lv_at hl 1 rfl) ?_
  refine va_putF (D := (dC, dI)) (ci := 8) (v := .int i) (ty := .int) (C := RX9) (T := TX9) (N := 14) hx hb hts (by decide +kernel) tyX9 tyX9_ok nmX9 hown hK hP hD hS 0 rfl rfl 0 (by decide) (hts (.fieldLink RX9 51 "CardTables$Table" "id" "I") (List.mem_of_getElem? (l := wsX9_init) (i := 21) rfl)) (fun _ h9 => h9) rfl hin rfl (by decide +kernel) rfl rfl (Nat.le_of_ble_eq_true rfl) dX9_init_92 (fun H locs hP hD hS => ?_)
  have hP : va_P (dC, dI) vwCl [(h0, .inr (8, [.int i, .null, .int 0, .int 0, .int 0, .ref q_1, .ref q_2, .ref q_3, .ref q_4, .ref q_5, .ref q_7, .ref q_9, .ref q_11, .ref q_12])), (q_11, .inl (cA_11, 4, .inr (.inr (.inr (.inr (fun _ => none))))))] H := hP
  have hD : va_D A [(h0, .inr (8, [.int i, .null, .int 0, .int 0, .int 0, .ref q_1, .ref q_2, .ref q_3, .ref q_4, .ref q_5, .ref q_7, .ref q_9, .ref q_11, .ref q_12])), (q_11, .inl (cA_11, 4, .inr (.inr (.inr (.inr (fun _ => none))))))] := hD
  have hP := hP.sub (ws' := [(h0, .inr (8, [.int i, .null, .int 0, .int 0, .int 0, .ref q_1, .ref q_2, .ref q_3, .ref q_4, .ref q_5, .ref q_7, .ref q_9, .ref q_11, .ref q_12])), (q_11, .inl (cA_11, 4, .inr (.inr (.inr (.inr (fun _ => none))))))]) [0, 1] rfl
  have hD := hD.sub (ws' := [(h0, .inr (8, [.int i, .null, .int 0, .int 0, .int 0, .ref q_1, .ref q_2, .ref q_3, .ref q_4, .ref q_5, .ref q_7, .ref q_9, .ref q_11, .ref q_12])), (q_11, .inl (cA_11, 4, .inr (.inr (.inr (.inr (fun _ => none))))))]) [0, 1] (by decide) rfl
  have hK := hK.sub (tys' := [(cA_11, .object RX8)]) [0] rfl
  refine lv_iconst (v := 0) hx hb dX9_init_95 (by decide) ?_
  refine lv_istore_n (lv' := [(2, .int 0), (0, .ref h0), (1, .int i)]) hx hb dX9_init_96 rfl hl (by decide) rfl (fun ls hl => ?_)
  refine lv_iload_n hx hb dX9_init_97 rfl (lv_at hl 0 rfl) ?_
  refine lv_iconst (v := 4) hx hb dX9_init_98 (by decide) ?_
  refine lv_icmp_ge (tgt := 123) hx hb dX9_init_99 (by decide) (fun c_14 => ?_) (fun c_14 => ?_)
  · exact absurd c_14 (by decide +kernel)
  · skip
    refine lv_aload_n hx hb dX9_init_102 rfl (lv_at hl 1 rfl) ?_
    refine va_get (D := (dC, dI)) (ci := 8) (v := .ref q_11) (C := RX9) (T := TX9) (N := 14) hx hb hts (by decide +kernel) hown hK hP 0 rfl rfl 12 (by decide) (hts (.fieldLink RX9 40 "CardTables$Table" "hands" "[LCardTables$Row;") (List.mem_of_getElem? (l := wsX9_init) (i := 16) rfl)) (fun _ h9 => h9) rfl dX9_init_103 ?_
    refine lv_iload_n hx hb dX9_init_106 rfl (lv_at hl 0 rfl) ?_
    refine va_new (ci := 7) (fs := [.null, .int 0]) (C := RX8) (T := TX8) (N := 2) hx hb hts (by decide +kernel) tyX8 tyX8_ok hown (hts (.classLink RX9 25 RX8) (List.mem_of_getElem? (l := wsX9_init) (i := 10) rfl)) (hts (.instantiable RX8 2) (List.mem_of_getElem? (l := wsX9_init) (i := 11) rfl)) (hts (.initialized RX8) (List.mem_of_getElem? (l := wsX9_init) (i := 12) rfl)) hK hP hD hS hA rfl (fun j hj => by rcases (show j = 0 ∨ j = 1 by omega) with rfl | rfl <;> rfl) (Nat.le_of_ble_eq_true rfl) (Nat.le_of_ble_eq_true rfl) dX9_init_107 (fun q_15 H hP hD hS => ?_)
    have hP : va_P (dC, dI) vwCl [(h0, .inr (8, [.int i, .null, .int 0, .int 0, .int 0, .ref q_1, .ref q_2, .ref q_3, .ref q_4, .ref q_5, .ref q_7, .ref q_9, .ref q_11, .ref q_12])), (q_11, .inl (cA_11, 4, .inr (.inr (.inr (.inr (fun _ => none)))))), (q_15, .inr (7, [.null, .int 0]))] H := hP
    have hD : va_D A [(h0, .inr (8, [.int i, .null, .int 0, .int 0, .int 0, .ref q_1, .ref q_2, .ref q_3, .ref q_4, .ref q_5, .ref q_7, .ref q_9, .ref q_11, .ref q_12])), (q_11, .inl (cA_11, 4, .inr (.inr (.inr (.inr (fun _ => none)))))), (q_15, .inr (7, [.null, .int 0]))] := hD
    refine W.widen (k := 21) (n := 483) (by omega) (by omega) ?_
    refine lv_dup hx hb dX9_init_110 rfl ?_
    refine lv_bipush (v := 15) hx hb dX9_init_111 (by decide) ?_
    have hPc := hP.sub (ws' := [(q_15, .inr (7, [.null, .int 0]))]) [2] rfl
    have hDc := hD.sub (ws' := [(q_15, .inr (7, [.null, .int 0]))]) [2] (by decide) rfl
    have hKc := hK.sub (tys' := []) [] rfl
    have hFc := va_free (wc := [(q_15, .inr (7, [.null, .int 0]))]) hD hS hA [2] rfl
    refine va_callv (va_runI (As := [.int 15]) (rest := [.ref q_15, .int 0, .ref q_11]) ⟨hx, hb, hml, hown, hts⟩ (c_Row_init l dC dI q_15 H.size 15 15 (by decide +kernel) (by decide +kernel) (by decide +kernel) (by decide +kernel)) (cwI 1 hts gX9_init_X8_init rfl rfl rfl (hts (.initialized RX8) (List.mem_of_getElem? (l := wsX9_init) (i := 12) rfl)) (hts (.methodLink RX9 27 yX8_init) (List.mem_of_getElem? (l := wsX9_init) (i := 22) rfl)) (hts (.instanceMethod yX8_init) (List.mem_of_getElem? (l := wsX9_init) (i := 23) rfl)) rfl (by decide +kernel) ⟨Nat.le_of_ble_eq_true rfl, Nat.le_of_ble_eq_true rfl⟩) ⟨fun a U g mk q => by obtain ⟨q0, q1, qP, qK, qD⟩ := q; exact ⟨q0, q1, qP, va_K.moved (u := U) (U := U.calling g mk a) (Vm.Alike.refl U.vm) qK, qD⟩, fun U hU hW => ⟨rfl, by rw [hU], by rw [hU]; exact hPc, va_K.moved hW.alike hKc, hDc.weaken (fun _ _ _ _ => trivial)⟩⟩ rfl rfl hl.1 rfl (lv_room (Nat.le_of_ble_eq_true rfl)) dX9_init_113 ⟨Nat.le_of_ble_eq_true rfl, Nat.le_of_ble_eq_true rfl⟩) hS (fun q _ h => hFc q h) hFc (fun u t H1 locs ht hvm hw hB hz1 hk1 hS => ?_)
    obtain ⟨rq_16, rc_16, hP1, hK1, hD1⟩ := hB
    rw [ht] at hP1
    have hK1 := va_K.moved hvm.symm hK1
    obtain ⟨hP, hD⟩ := va_join (wr := [(h0, .inr (8, [.int i, .null, .int 0, .int 0, .int 0, .ref q_1, .ref q_2, .ref q_3, .ref q_4, .ref q_5, .ref q_7, .ref q_9, .ref q_11, .ref q_12])), (q_11, .inl (cA_11, 4, .inr (.inr (.inr (.inr (fun _ => none))))))]) (w1 := [(q_15, .inr (7, [.ref rq_16, .int 0])), (rq_16, .inl (rc_16, 15, .inl (fun _ => 0)))]) hP hD [2] [0, 1] rfl rfl (by decide) (by decide) hk1 hFc hP1 hD1
    have hK := (hK.sub (tys' := [(cA_11, .object RX8)]) [0] rfl).app hK1
    generalize H1 = H at hP hS ⊢
    have hP : va_P (dC, dI) vwCl [(h0, .inr (8, [.int i, .null, .int 0, .int 0, .int 0, .ref q_1, .ref q_2, .ref q_3, .ref q_4, .ref q_5, .ref q_7, .ref q_9, .ref q_11, .ref q_12])), (q_11, .inl (cA_11, 4, .inr (.inr (.inr (.inr (fun _ => none)))))), (q_15, .inr (7, [.ref rq_16, .int 0])), (rq_16, .inl (rc_16, 15, .inl (fun _ => 0)))] H := hP
    have hD : va_D A [(h0, .inr (8, [.int i, .null, .int 0, .int 0, .int 0, .ref q_1, .ref q_2, .ref q_3, .ref q_4, .ref q_5, .ref q_7, .ref q_9, .ref q_11, .ref q_12])), (q_11, .inl (cA_11, 4, .inr (.inr (.inr (.inr (fun _ => none)))))), (q_15, .inr (7, [.ref rq_16, .int 0])), (rq_16, .inl (rc_16, 15, .inl (fun _ => 0)))] := hD
    have hK : va_K (dC, dI) vwCl [(cA_11, .object RX8), (rc_16, .int)] s := hK
    refine W.widen (k := 22) (n := 498) (by omega) (by omega) ?_
    refine va_astq hx hb hK hP hD hS 1 0 2 7 rfl rfl rfl rfl (by unfold vp_in; decide +kernel) dX9_init_116 (fun H locs hP hD hS => ?_)
    have hP : va_P (dC, dI) vwCl [(h0, .inr (8, [.int i, .null, .int 0, .int 0, .int 0, .ref q_1, .ref q_2, .ref q_3, .ref q_4, .ref q_5, .ref q_7, .ref q_9, .ref q_11, .ref q_12])), (q_11, .inl (cA_11, 4, .inr (.inr (.inr (.inr (va_up (fun _ => none) 0 (some q_15))))))), (q_15, .inr (7, [.ref rq_16, .int 0])), (rq_16, .inl (rc_16, 15, .inl (fun _ => 0)))] H := hP
    have hD : va_D A [(h0, .inr (8, [.int i, .null, .int 0, .int 0, .int 0, .ref q_1, .ref q_2, .ref q_3, .ref q_4, .ref q_5, .ref q_7, .ref q_9, .ref q_11, .ref q_12])), (q_11, .inl (cA_11, 4, .inr (.inr (.inr (.inr (va_up (fun _ => none) 0 (some q_15))))))), (q_15, .inr (7, [.ref rq_16, .int 0])), (rq_16, .inl (rc_16, 15, .inl (fun _ => 0)))] := hD
    generalize hg_17 : va_up (fun _ => none) 0 (some q_15) = fg_17 at hP hD
    have hP : va_P (dC, dI) vwCl [(h0, .inr (8, [.int i, .null, .int 0, .int 0, .int 0, .ref q_1, .ref q_2, .ref q_3, .ref q_4, .ref q_5, .ref q_7, .ref q_9, .ref q_11, .ref q_12])), (q_11, .inl (cA_11, 4, .inr (.inr (.inr (.inr fg_17))))), (q_15, .inr (7, [.ref rq_16, .int 0])), (rq_16, .inl (rc_16, 15, .inl (fun _ => 0)))] H := hP
    have hD : va_D A [(h0, .inr (8, [.int i, .null, .int 0, .int 0, .int 0, .ref q_1, .ref q_2, .ref q_3, .ref q_4, .ref q_5, .ref q_7, .ref q_9, .ref q_11, .ref q_12])), (q_11, .inl (cA_11, 4, .inr (.inr (.inr (.inr fg_17))))), (q_15, .inr (7, [.ref rq_16, .int 0])), (rq_16, .inl (rc_16, 15, .inl (fun _ => 0)))] := hD
    have hP := hP.sub (ws' := [(h0, .inr (8, [.int i, .null, .int 0, .int 0, .int 0, .ref q_1, .ref q_2, .ref q_3, .ref q_4, .ref q_5, .ref q_7, .ref q_9, .ref q_11, .ref q_12])), (q_11, .inl (cA_11, 4, .inr (.inr (.inr (.inr fg_17)))))]) [0, 1] rfl
    have hD := hD.sub (ws' := [(h0, .inr (8, [.int i, .null, .int 0, .int 0, .int 0, .ref q_1, .ref q_2, .ref q_3, .ref q_4, .ref q_5, .ref q_7, .ref q_9, .ref q_11, .ref q_12])), (q_11, .inl (cA_11, 4, .inr (.inr (.inr (.inr fg_17)))))]) [0, 1] (by decide) rfl
    have hK := hK.sub (tys' := [(cA_11, .object RX8)]) [0] rfl
    refine lv_iinc (v := 1) (lv' := [(2, .int 1), (0, .ref h0), (1, .int i)]) hx hb dX9_init_117 hl (k := 0) rfl (by decide) (by decide) rfl (fun ls hl => ?_)
    refine lv_goto (tgt := 97) hx hb dX9_init_120 (by decide) ?_
    refine lv_iload_n hx hb dX9_init_97 rfl (lv_at hl 0 rfl) ?_
    refine lv_iconst (v := 4) hx hb dX9_init_98 (by decide) ?_
    refine lv_icmp_ge (tgt := 123) hx hb dX9_init_99 (by decide) (fun c_19 => ?_) (fun c_19 => ?_)
    · exact absurd c_19 (by decide +kernel)
    · skip
      refine lv_aload_n hx hb dX9_init_102 rfl (lv_at hl 1 rfl) ?_
      refine va_get (D := (dC, dI)) (ci := 8) (v := .ref q_11) (C := RX9) (T := TX9) (N := 14) hx hb hts (by decide +kernel) hown hK hP 0 rfl rfl 12 (by decide) (hts (.fieldLink RX9 40 "CardTables$Table" "hands" "[LCardTables$Row;") (List.mem_of_getElem? (l := wsX9_init) (i := 16) rfl)) (fun _ h9 => h9) rfl dX9_init_103 ?_
      refine lv_iload_n hx hb dX9_init_106 rfl (lv_at hl 0 rfl) ?_
      refine va_new (ci := 7) (fs := [.null, .int 0]) (C := RX8) (T := TX8) (N := 2) hx hb hts (by decide +kernel) tyX8 tyX8_ok hown (hts (.classLink RX9 25 RX8) (List.mem_of_getElem? (l := wsX9_init) (i := 10) rfl)) (hts (.instantiable RX8 2) (List.mem_of_getElem? (l := wsX9_init) (i := 11) rfl)) (hts (.initialized RX8) (List.mem_of_getElem? (l := wsX9_init) (i := 12) rfl)) hK hP hD hS hA rfl (fun j hj => by rcases (show j = 0 ∨ j = 1 by omega) with rfl | rfl <;> rfl) (Nat.le_of_ble_eq_true rfl) (Nat.le_of_ble_eq_true rfl) dX9_init_107 (fun q_20 H hP hD hS => ?_)
      have hP : va_P (dC, dI) vwCl [(h0, .inr (8, [.int i, .null, .int 0, .int 0, .int 0, .ref q_1, .ref q_2, .ref q_3, .ref q_4, .ref q_5, .ref q_7, .ref q_9, .ref q_11, .ref q_12])), (q_11, .inl (cA_11, 4, .inr (.inr (.inr (.inr fg_17))))), (q_20, .inr (7, [.null, .int 0]))] H := hP
      have hD : va_D A [(h0, .inr (8, [.int i, .null, .int 0, .int 0, .int 0, .ref q_1, .ref q_2, .ref q_3, .ref q_4, .ref q_5, .ref q_7, .ref q_9, .ref q_11, .ref q_12])), (q_11, .inl (cA_11, 4, .inr (.inr (.inr (.inr fg_17))))), (q_20, .inr (7, [.null, .int 0]))] := hD
      refine W.widen (k := 23) (n := 500) (by omega) (by omega) ?_
      refine lv_dup hx hb dX9_init_110 rfl ?_
      refine lv_bipush (v := 15) hx hb dX9_init_111 (by decide) ?_
      have hPc := hP.sub (ws' := [(q_20, .inr (7, [.null, .int 0]))]) [2] rfl
      have hDc := hD.sub (ws' := [(q_20, .inr (7, [.null, .int 0]))]) [2] (by decide) rfl
      have hKc := hK.sub (tys' := []) [] rfl
      have hFc := va_free (wc := [(q_20, .inr (7, [.null, .int 0]))]) hD hS hA [2] rfl
      refine va_callv (va_runI (As := [.int 15]) (rest := [.ref q_20, .int 1, .ref q_11]) ⟨hx, hb, hml, hown, hts⟩ (c_Row_init l dC dI q_20 H.size 15 15 (by decide +kernel) (by decide +kernel) (by decide +kernel) (by decide +kernel)) (cwI 1 hts gX9_init_X8_init rfl rfl rfl (hts (.initialized RX8) (List.mem_of_getElem? (l := wsX9_init) (i := 12) rfl)) (hts (.methodLink RX9 27 yX8_init) (List.mem_of_getElem? (l := wsX9_init) (i := 22) rfl)) (hts (.instanceMethod yX8_init) (List.mem_of_getElem? (l := wsX9_init) (i := 23) rfl)) rfl (by decide +kernel) ⟨Nat.le_of_ble_eq_true rfl, Nat.le_of_ble_eq_true rfl⟩) ⟨fun a U g mk q => by obtain ⟨q0, q1, qP, qK, qD⟩ := q; exact ⟨q0, q1, qP, va_K.moved (u := U) (U := U.calling g mk a) (Vm.Alike.refl U.vm) qK, qD⟩, fun U hU hW => ⟨rfl, by rw [hU], by rw [hU]; exact hPc, va_K.moved hW.alike hKc, hDc.weaken (fun _ _ _ _ => trivial)⟩⟩ rfl rfl hl.1 rfl (lv_room (Nat.le_of_ble_eq_true rfl)) dX9_init_113 ⟨Nat.le_of_ble_eq_true rfl, Nat.le_of_ble_eq_true rfl⟩) hS (fun q _ h => hFc q h) hFc (fun u t H1 locs ht hvm hw hB hz1 hk1 hS => ?_)
      obtain ⟨rq_21, rc_21, hP1, hK1, hD1⟩ := hB
      rw [ht] at hP1
      have hK1 := va_K.moved hvm.symm hK1
      obtain ⟨hP, hD⟩ := va_join (wr := [(h0, .inr (8, [.int i, .null, .int 0, .int 0, .int 0, .ref q_1, .ref q_2, .ref q_3, .ref q_4, .ref q_5, .ref q_7, .ref q_9, .ref q_11, .ref q_12])), (q_11, .inl (cA_11, 4, .inr (.inr (.inr (.inr fg_17)))))]) (w1 := [(q_20, .inr (7, [.ref rq_21, .int 0])), (rq_21, .inl (rc_21, 15, .inl (fun _ => 0)))]) hP hD [2] [0, 1] rfl rfl (by decide) (by decide) hk1 hFc hP1 hD1
      have hK := (hK.sub (tys' := [(cA_11, .object RX8)]) [0] rfl).app hK1
      generalize H1 = H at hP hS ⊢
      have hP : va_P (dC, dI) vwCl [(h0, .inr (8, [.int i, .null, .int 0, .int 0, .int 0, .ref q_1, .ref q_2, .ref q_3, .ref q_4, .ref q_5, .ref q_7, .ref q_9, .ref q_11, .ref q_12])), (q_11, .inl (cA_11, 4, .inr (.inr (.inr (.inr fg_17))))), (q_20, .inr (7, [.ref rq_21, .int 0])), (rq_21, .inl (rc_21, 15, .inl (fun _ => 0)))] H := hP
      have hD : va_D A [(h0, .inr (8, [.int i, .null, .int 0, .int 0, .int 0, .ref q_1, .ref q_2, .ref q_3, .ref q_4, .ref q_5, .ref q_7, .ref q_9, .ref q_11, .ref q_12])), (q_11, .inl (cA_11, 4, .inr (.inr (.inr (.inr fg_17))))), (q_20, .inr (7, [.ref rq_21, .int 0])), (rq_21, .inl (rc_21, 15, .inl (fun _ => 0)))] := hD
      have hK : va_K (dC, dI) vwCl [(cA_11, .object RX8), (rc_21, .int)] s := hK
      refine W.widen (k := 24) (n := 515) (by omega) (by omega) ?_
      refine va_astq hx hb hK hP hD hS 1 0 2 7 rfl rfl rfl rfl (by unfold vp_in; decide +kernel) dX9_init_116 (fun H locs hP hD hS => ?_)
      have hP : va_P (dC, dI) vwCl [(h0, .inr (8, [.int i, .null, .int 0, .int 0, .int 0, .ref q_1, .ref q_2, .ref q_3, .ref q_4, .ref q_5, .ref q_7, .ref q_9, .ref q_11, .ref q_12])), (q_11, .inl (cA_11, 4, .inr (.inr (.inr (.inr (va_up (fg_17) 1 (some q_20))))))), (q_20, .inr (7, [.ref rq_21, .int 0])), (rq_21, .inl (rc_21, 15, .inl (fun _ => 0)))] H := hP
      have hD : va_D A [(h0, .inr (8, [.int i, .null, .int 0, .int 0, .int 0, .ref q_1, .ref q_2, .ref q_3, .ref q_4, .ref q_5, .ref q_7, .ref q_9, .ref q_11, .ref q_12])), (q_11, .inl (cA_11, 4, .inr (.inr (.inr (.inr (va_up (fg_17) 1 (some q_20))))))), (q_20, .inr (7, [.ref rq_21, .int 0])), (rq_21, .inl (rc_21, 15, .inl (fun _ => 0)))] := hD
      generalize hg_22 : va_up (fg_17) 1 (some q_20) = fg_22 at hP hD
      have hP : va_P (dC, dI) vwCl [(h0, .inr (8, [.int i, .null, .int 0, .int 0, .int 0, .ref q_1, .ref q_2, .ref q_3, .ref q_4, .ref q_5, .ref q_7, .ref q_9, .ref q_11, .ref q_12])), (q_11, .inl (cA_11, 4, .inr (.inr (.inr (.inr fg_22))))), (q_20, .inr (7, [.ref rq_21, .int 0])), (rq_21, .inl (rc_21, 15, .inl (fun _ => 0)))] H := hP
      have hD : va_D A [(h0, .inr (8, [.int i, .null, .int 0, .int 0, .int 0, .ref q_1, .ref q_2, .ref q_3, .ref q_4, .ref q_5, .ref q_7, .ref q_9, .ref q_11, .ref q_12])), (q_11, .inl (cA_11, 4, .inr (.inr (.inr (.inr fg_22))))), (q_20, .inr (7, [.ref rq_21, .int 0])), (rq_21, .inl (rc_21, 15, .inl (fun _ => 0)))] := hD
      have hP := hP.sub (ws' := [(h0, .inr (8, [.int i, .null, .int 0, .int 0, .int 0, .ref q_1, .ref q_2, .ref q_3, .ref q_4, .ref q_5, .ref q_7, .ref q_9, .ref q_11, .ref q_12])), (q_11, .inl (cA_11, 4, .inr (.inr (.inr (.inr fg_22)))))]) [0, 1] rfl
      have hD := hD.sub (ws' := [(h0, .inr (8, [.int i, .null, .int 0, .int 0, .int 0, .ref q_1, .ref q_2, .ref q_3, .ref q_4, .ref q_5, .ref q_7, .ref q_9, .ref q_11, .ref q_12])), (q_11, .inl (cA_11, 4, .inr (.inr (.inr (.inr fg_22)))))]) [0, 1] (by decide) rfl
      have hK := hK.sub (tys' := [(cA_11, .object RX8)]) [0] rfl
      refine lv_iinc (v := 2) (lv' := [(2, .int 2), (0, .ref h0), (1, .int i)]) hx hb dX9_init_117 hl (k := 0) rfl (by decide) (by decide) rfl (fun ls hl => ?_)
      refine lv_goto (tgt := 97) hx hb dX9_init_120 (by decide) ?_
      refine lv_iload_n hx hb dX9_init_97 rfl (lv_at hl 0 rfl) ?_
      refine lv_iconst (v := 4) hx hb dX9_init_98 (by decide) ?_
      refine lv_icmp_ge (tgt := 123) hx hb dX9_init_99 (by decide) (fun c_24 => ?_) (fun c_24 => ?_)
      · exact absurd c_24 (by decide +kernel)
      · skip
        refine lv_aload_n hx hb dX9_init_102 rfl (lv_at hl 1 rfl) ?_
        refine va_get (D := (dC, dI)) (ci := 8) (v := .ref q_11) (C := RX9) (T := TX9) (N := 14) hx hb hts (by decide +kernel) hown hK hP 0 rfl rfl 12 (by decide) (hts (.fieldLink RX9 40 "CardTables$Table" "hands" "[LCardTables$Row;") (List.mem_of_getElem? (l := wsX9_init) (i := 16) rfl)) (fun _ h9 => h9) rfl dX9_init_103 ?_
        refine lv_iload_n hx hb dX9_init_106 rfl (lv_at hl 0 rfl) ?_
        refine va_new (ci := 7) (fs := [.null, .int 0]) (C := RX8) (T := TX8) (N := 2) hx hb hts (by decide +kernel) tyX8 tyX8_ok hown (hts (.classLink RX9 25 RX8) (List.mem_of_getElem? (l := wsX9_init) (i := 10) rfl)) (hts (.instantiable RX8 2) (List.mem_of_getElem? (l := wsX9_init) (i := 11) rfl)) (hts (.initialized RX8) (List.mem_of_getElem? (l := wsX9_init) (i := 12) rfl)) hK hP hD hS hA rfl (fun j hj => by rcases (show j = 0 ∨ j = 1 by omega) with rfl | rfl <;> rfl) (Nat.le_of_ble_eq_true rfl) (Nat.le_of_ble_eq_true rfl) dX9_init_107 (fun q_25 H hP hD hS => ?_)
        have hP : va_P (dC, dI) vwCl [(h0, .inr (8, [.int i, .null, .int 0, .int 0, .int 0, .ref q_1, .ref q_2, .ref q_3, .ref q_4, .ref q_5, .ref q_7, .ref q_9, .ref q_11, .ref q_12])), (q_11, .inl (cA_11, 4, .inr (.inr (.inr (.inr fg_22))))), (q_25, .inr (7, [.null, .int 0]))] H := hP
        have hD : va_D A [(h0, .inr (8, [.int i, .null, .int 0, .int 0, .int 0, .ref q_1, .ref q_2, .ref q_3, .ref q_4, .ref q_5, .ref q_7, .ref q_9, .ref q_11, .ref q_12])), (q_11, .inl (cA_11, 4, .inr (.inr (.inr (.inr fg_22))))), (q_25, .inr (7, [.null, .int 0]))] := hD
        refine W.widen (k := 25) (n := 517) (by omega) (by omega) ?_
        refine lv_dup hx hb dX9_init_110 rfl ?_
        refine lv_bipush (v := 15) hx hb dX9_init_111 (by decide) ?_
        have hPc := hP.sub (ws' := [(q_25, .inr (7, [.null, .int 0]))]) [2] rfl
        have hDc := hD.sub (ws' := [(q_25, .inr (7, [.null, .int 0]))]) [2] (by decide) rfl
        have hKc := hK.sub (tys' := []) [] rfl
        have hFc := va_free (wc := [(q_25, .inr (7, [.null, .int 0]))]) hD hS hA [2] rfl
        refine va_callv (va_runI (As := [.int 15]) (rest := [.ref q_25, .int 2, .ref q_11]) ⟨hx, hb, hml, hown, hts⟩ (c_Row_init l dC dI q_25 H.size 15 15 (by decide +kernel) (by decide +kernel) (by decide +kernel) (by decide +kernel)) (cwI 1 hts gX9_init_X8_init rfl rfl rfl (hts (.initialized RX8) (List.mem_of_getElem? (l := wsX9_init) (i := 12) rfl)) (hts (.methodLink RX9 27 yX8_init) (List.mem_of_getElem? (l := wsX9_init) (i := 22) rfl)) (hts (.instanceMethod yX8_init) (List.mem_of_getElem? (l := wsX9_init) (i := 23) rfl)) rfl (by decide +kernel) ⟨Nat.le_of_ble_eq_true rfl, Nat.le_of_ble_eq_true rfl⟩) ⟨fun a U g mk q => by obtain ⟨q0, q1, qP, qK, qD⟩ := q; exact ⟨q0, q1, qP, va_K.moved (u := U) (U := U.calling g mk a) (Vm.Alike.refl U.vm) qK, qD⟩, fun U hU hW => ⟨rfl, by rw [hU], by rw [hU]; exact hPc, va_K.moved hW.alike hKc, hDc.weaken (fun _ _ _ _ => trivial)⟩⟩ rfl rfl hl.1 rfl (lv_room (Nat.le_of_ble_eq_true rfl)) dX9_init_113 ⟨Nat.le_of_ble_eq_true rfl, Nat.le_of_ble_eq_true rfl⟩) hS (fun q _ h => hFc q h) hFc (fun u t H1 locs ht hvm hw hB hz1 hk1 hS => ?_)
        obtain ⟨rq_26, rc_26, hP1, hK1, hD1⟩ := hB
        rw [ht] at hP1
        have hK1 := va_K.moved hvm.symm hK1
        obtain ⟨hP, hD⟩ := va_join (wr := [(h0, .inr (8, [.int i, .null, .int 0, .int 0, .int 0, .ref q_1, .ref q_2, .ref q_3, .ref q_4, .ref q_5, .ref q_7, .ref q_9, .ref q_11, .ref q_12])), (q_11, .inl (cA_11, 4, .inr (.inr (.inr (.inr fg_22)))))]) (w1 := [(q_25, .inr (7, [.ref rq_26, .int 0])), (rq_26, .inl (rc_26, 15, .inl (fun _ => 0)))]) hP hD [2] [0, 1] rfl rfl (by decide) (by decide) hk1 hFc hP1 hD1
        have hK := (hK.sub (tys' := [(cA_11, .object RX8)]) [0] rfl).app hK1
        generalize H1 = H at hP hS ⊢
        have hP : va_P (dC, dI) vwCl [(h0, .inr (8, [.int i, .null, .int 0, .int 0, .int 0, .ref q_1, .ref q_2, .ref q_3, .ref q_4, .ref q_5, .ref q_7, .ref q_9, .ref q_11, .ref q_12])), (q_11, .inl (cA_11, 4, .inr (.inr (.inr (.inr fg_22))))), (q_25, .inr (7, [.ref rq_26, .int 0])), (rq_26, .inl (rc_26, 15, .inl (fun _ => 0)))] H := hP
        have hD : va_D A [(h0, .inr (8, [.int i, .null, .int 0, .int 0, .int 0, .ref q_1, .ref q_2, .ref q_3, .ref q_4, .ref q_5, .ref q_7, .ref q_9, .ref q_11, .ref q_12])), (q_11, .inl (cA_11, 4, .inr (.inr (.inr (.inr fg_22))))), (q_25, .inr (7, [.ref rq_26, .int 0])), (rq_26, .inl (rc_26, 15, .inl (fun _ => 0)))] := hD
        have hK : va_K (dC, dI) vwCl [(cA_11, .object RX8), (rc_26, .int)] s := hK
        refine W.widen (k := 26) (n := 532) (by omega) (by omega) ?_
        refine va_astq hx hb hK hP hD hS 1 0 2 7 rfl rfl rfl rfl (by unfold vp_in; decide +kernel) dX9_init_116 (fun H locs hP hD hS => ?_)
        have hP : va_P (dC, dI) vwCl [(h0, .inr (8, [.int i, .null, .int 0, .int 0, .int 0, .ref q_1, .ref q_2, .ref q_3, .ref q_4, .ref q_5, .ref q_7, .ref q_9, .ref q_11, .ref q_12])), (q_11, .inl (cA_11, 4, .inr (.inr (.inr (.inr (va_up (fg_22) 2 (some q_25))))))), (q_25, .inr (7, [.ref rq_26, .int 0])), (rq_26, .inl (rc_26, 15, .inl (fun _ => 0)))] H := hP
        have hD : va_D A [(h0, .inr (8, [.int i, .null, .int 0, .int 0, .int 0, .ref q_1, .ref q_2, .ref q_3, .ref q_4, .ref q_5, .ref q_7, .ref q_9, .ref q_11, .ref q_12])), (q_11, .inl (cA_11, 4, .inr (.inr (.inr (.inr (va_up (fg_22) 2 (some q_25))))))), (q_25, .inr (7, [.ref rq_26, .int 0])), (rq_26, .inl (rc_26, 15, .inl (fun _ => 0)))] := hD
        generalize hg_27 : va_up (fg_22) 2 (some q_25) = fg_27 at hP hD
        have hP : va_P (dC, dI) vwCl [(h0, .inr (8, [.int i, .null, .int 0, .int 0, .int 0, .ref q_1, .ref q_2, .ref q_3, .ref q_4, .ref q_5, .ref q_7, .ref q_9, .ref q_11, .ref q_12])), (q_11, .inl (cA_11, 4, .inr (.inr (.inr (.inr fg_27))))), (q_25, .inr (7, [.ref rq_26, .int 0])), (rq_26, .inl (rc_26, 15, .inl (fun _ => 0)))] H := hP
        have hD : va_D A [(h0, .inr (8, [.int i, .null, .int 0, .int 0, .int 0, .ref q_1, .ref q_2, .ref q_3, .ref q_4, .ref q_5, .ref q_7, .ref q_9, .ref q_11, .ref q_12])), (q_11, .inl (cA_11, 4, .inr (.inr (.inr (.inr fg_27))))), (q_25, .inr (7, [.ref rq_26, .int 0])), (rq_26, .inl (rc_26, 15, .inl (fun _ => 0)))] := hD
        have hP := hP.sub (ws' := [(h0, .inr (8, [.int i, .null, .int 0, .int 0, .int 0, .ref q_1, .ref q_2, .ref q_3, .ref q_4, .ref q_5, .ref q_7, .ref q_9, .ref q_11, .ref q_12])), (q_11, .inl (cA_11, 4, .inr (.inr (.inr (.inr fg_27)))))]) [0, 1] rfl
        have hD := hD.sub (ws' := [(h0, .inr (8, [.int i, .null, .int 0, .int 0, .int 0, .ref q_1, .ref q_2, .ref q_3, .ref q_4, .ref q_5, .ref q_7, .ref q_9, .ref q_11, .ref q_12])), (q_11, .inl (cA_11, 4, .inr (.inr (.inr (.inr fg_27)))))]) [0, 1] (by decide) rfl
        have hK := hK.sub (tys' := [(cA_11, .object RX8)]) [0] rfl
        refine lv_iinc (v := 3) (lv' := [(2, .int 3), (0, .ref h0), (1, .int i)]) hx hb dX9_init_117 hl (k := 0) rfl (by decide) (by decide) rfl (fun ls hl => ?_)
        refine lv_goto (tgt := 97) hx hb dX9_init_120 (by decide) ?_
        refine lv_iload_n hx hb dX9_init_97 rfl (lv_at hl 0 rfl) ?_
        refine lv_iconst (v := 4) hx hb dX9_init_98 (by decide) ?_
        refine lv_icmp_ge (tgt := 123) hx hb dX9_init_99 (by decide) (fun c_29 => ?_) (fun c_29 => ?_)
        · exact absurd c_29 (by decide +kernel)
        · skip
          refine lv_aload_n hx hb dX9_init_102 rfl (lv_at hl 1 rfl) ?_
          refine va_get (D := (dC, dI)) (ci := 8) (v := .ref q_11) (C := RX9) (T := TX9) (N := 14) hx hb hts (by decide +kernel) hown hK hP 0 rfl rfl 12 (by decide) (hts (.fieldLink RX9 40 "CardTables$Table" "hands" "[LCardTables$Row;") (List.mem_of_getElem? (l := wsX9_init) (i := 16) rfl)) (fun _ h9 => h9) rfl dX9_init_103 ?_
          refine lv_iload_n hx hb dX9_init_106 rfl (lv_at hl 0 rfl) ?_
          refine va_new (ci := 7) (fs := [.null, .int 0]) (C := RX8) (T := TX8) (N := 2) hx hb hts (by decide +kernel) tyX8 tyX8_ok hown (hts (.classLink RX9 25 RX8) (List.mem_of_getElem? (l := wsX9_init) (i := 10) rfl)) (hts (.instantiable RX8 2) (List.mem_of_getElem? (l := wsX9_init) (i := 11) rfl)) (hts (.initialized RX8) (List.mem_of_getElem? (l := wsX9_init) (i := 12) rfl)) hK hP hD hS hA rfl (fun j hj => by rcases (show j = 0 ∨ j = 1 by omega) with rfl | rfl <;> rfl) (Nat.le_of_ble_eq_true rfl) (Nat.le_of_ble_eq_true rfl) dX9_init_107 (fun q_30 H hP hD hS => ?_)
          have hP : va_P (dC, dI) vwCl [(h0, .inr (8, [.int i, .null, .int 0, .int 0, .int 0, .ref q_1, .ref q_2, .ref q_3, .ref q_4, .ref q_5, .ref q_7, .ref q_9, .ref q_11, .ref q_12])), (q_11, .inl (cA_11, 4, .inr (.inr (.inr (.inr fg_27))))), (q_30, .inr (7, [.null, .int 0]))] H := hP
          have hD : va_D A [(h0, .inr (8, [.int i, .null, .int 0, .int 0, .int 0, .ref q_1, .ref q_2, .ref q_3, .ref q_4, .ref q_5, .ref q_7, .ref q_9, .ref q_11, .ref q_12])), (q_11, .inl (cA_11, 4, .inr (.inr (.inr (.inr fg_27))))), (q_30, .inr (7, [.null, .int 0]))] := hD
          refine W.widen (k := 27) (n := 534) (by omega) (by omega) ?_
          refine lv_dup hx hb dX9_init_110 rfl ?_
          refine lv_bipush (v := 15) hx hb dX9_init_111 (by decide) ?_
          have hPc := hP.sub (ws' := [(q_30, .inr (7, [.null, .int 0]))]) [2] rfl
          have hDc := hD.sub (ws' := [(q_30, .inr (7, [.null, .int 0]))]) [2] (by decide) rfl
          have hKc := hK.sub (tys' := []) [] rfl
          have hFc := va_free (wc := [(q_30, .inr (7, [.null, .int 0]))]) hD hS hA [2] rfl
          refine va_callv (va_runI (As := [.int 15]) (rest := [.ref q_30, .int 3, .ref q_11]) ⟨hx, hb, hml, hown, hts⟩ (c_Row_init l dC dI q_30 H.size 15 15 (by decide +kernel) (by decide +kernel) (by decide +kernel) (by decide +kernel)) (cwI 1 hts gX9_init_X8_init rfl rfl rfl (hts (.initialized RX8) (List.mem_of_getElem? (l := wsX9_init) (i := 12) rfl)) (hts (.methodLink RX9 27 yX8_init) (List.mem_of_getElem? (l := wsX9_init) (i := 22) rfl)) (hts (.instanceMethod yX8_init) (List.mem_of_getElem? (l := wsX9_init) (i := 23) rfl)) rfl (by decide +kernel) ⟨Nat.le_of_ble_eq_true rfl, Nat.le_of_ble_eq_true rfl⟩) ⟨fun a U g mk q => by obtain ⟨q0, q1, qP, qK, qD⟩ := q; exact ⟨q0, q1, qP, va_K.moved (u := U) (U := U.calling g mk a) (Vm.Alike.refl U.vm) qK, qD⟩, fun U hU hW => ⟨rfl, by rw [hU], by rw [hU]; exact hPc, va_K.moved hW.alike hKc, hDc.weaken (fun _ _ _ _ => trivial)⟩⟩ rfl rfl hl.1 rfl (lv_room (Nat.le_of_ble_eq_true rfl)) dX9_init_113 ⟨Nat.le_of_ble_eq_true rfl, Nat.le_of_ble_eq_true rfl⟩) hS (fun q _ h => hFc q h) hFc (fun u t H1 locs ht hvm hw hB hz1 hk1 hS => ?_)
          obtain ⟨rq_31, rc_31, hP1, hK1, hD1⟩ := hB
          rw [ht] at hP1
          have hK1 := va_K.moved hvm.symm hK1
          obtain ⟨hP, hD⟩ := va_join (wr := [(h0, .inr (8, [.int i, .null, .int 0, .int 0, .int 0, .ref q_1, .ref q_2, .ref q_3, .ref q_4, .ref q_5, .ref q_7, .ref q_9, .ref q_11, .ref q_12])), (q_11, .inl (cA_11, 4, .inr (.inr (.inr (.inr fg_27)))))]) (w1 := [(q_30, .inr (7, [.ref rq_31, .int 0])), (rq_31, .inl (rc_31, 15, .inl (fun _ => 0)))]) hP hD [2] [0, 1] rfl rfl (by decide) (by decide) hk1 hFc hP1 hD1
          have hK := (hK.sub (tys' := [(cA_11, .object RX8)]) [0] rfl).app hK1
          generalize H1 = H at hP hS ⊢
          have hP : va_P (dC, dI) vwCl [(h0, .inr (8, [.int i, .null, .int 0, .int 0, .int 0, .ref q_1, .ref q_2, .ref q_3, .ref q_4, .ref q_5, .ref q_7, .ref q_9, .ref q_11, .ref q_12])), (q_11, .inl (cA_11, 4, .inr (.inr (.inr (.inr fg_27))))), (q_30, .inr (7, [.ref rq_31, .int 0])), (rq_31, .inl (rc_31, 15, .inl (fun _ => 0)))] H := hP
          have hD : va_D A [(h0, .inr (8, [.int i, .null, .int 0, .int 0, .int 0, .ref q_1, .ref q_2, .ref q_3, .ref q_4, .ref q_5, .ref q_7, .ref q_9, .ref q_11, .ref q_12])), (q_11, .inl (cA_11, 4, .inr (.inr (.inr (.inr fg_27))))), (q_30, .inr (7, [.ref rq_31, .int 0])), (rq_31, .inl (rc_31, 15, .inl (fun _ => 0)))] := hD
          have hK : va_K (dC, dI) vwCl [(cA_11, .object RX8), (rc_31, .int)] s := hK
          refine W.widen (k := 28) (n := 549) (by omega) (by omega) ?_
          refine va_astq hx hb hK hP hD hS 1 0 2 7 rfl rfl rfl rfl (by unfold vp_in; decide +kernel) dX9_init_116 (fun H locs hP hD hS => ?_)
          have hP : va_P (dC, dI) vwCl [(h0, .inr (8, [.int i, .null, .int 0, .int 0, .int 0, .ref q_1, .ref q_2, .ref q_3, .ref q_4, .ref q_5, .ref q_7, .ref q_9, .ref q_11, .ref q_12])), (q_11, .inl (cA_11, 4, .inr (.inr (.inr (.inr (va_up (fg_27) 3 (some q_30))))))), (q_30, .inr (7, [.ref rq_31, .int 0])), (rq_31, .inl (rc_31, 15, .inl (fun _ => 0)))] H := hP
          have hD : va_D A [(h0, .inr (8, [.int i, .null, .int 0, .int 0, .int 0, .ref q_1, .ref q_2, .ref q_3, .ref q_4, .ref q_5, .ref q_7, .ref q_9, .ref q_11, .ref q_12])), (q_11, .inl (cA_11, 4, .inr (.inr (.inr (.inr (va_up (fg_27) 3 (some q_30))))))), (q_30, .inr (7, [.ref rq_31, .int 0])), (rq_31, .inl (rc_31, 15, .inl (fun _ => 0)))] := hD
          generalize hg_32 : va_up (fg_27) 3 (some q_30) = fg_32 at hP hD
          have hP : va_P (dC, dI) vwCl [(h0, .inr (8, [.int i, .null, .int 0, .int 0, .int 0, .ref q_1, .ref q_2, .ref q_3, .ref q_4, .ref q_5, .ref q_7, .ref q_9, .ref q_11, .ref q_12])), (q_11, .inl (cA_11, 4, .inr (.inr (.inr (.inr fg_32))))), (q_30, .inr (7, [.ref rq_31, .int 0])), (rq_31, .inl (rc_31, 15, .inl (fun _ => 0)))] H := hP
          have hD : va_D A [(h0, .inr (8, [.int i, .null, .int 0, .int 0, .int 0, .ref q_1, .ref q_2, .ref q_3, .ref q_4, .ref q_5, .ref q_7, .ref q_9, .ref q_11, .ref q_12])), (q_11, .inl (cA_11, 4, .inr (.inr (.inr (.inr fg_32))))), (q_30, .inr (7, [.ref rq_31, .int 0])), (rq_31, .inl (rc_31, 15, .inl (fun _ => 0)))] := hD
          have hP := hP.sub (ws' := [(h0, .inr (8, [.int i, .null, .int 0, .int 0, .int 0, .ref q_1, .ref q_2, .ref q_3, .ref q_4, .ref q_5, .ref q_7, .ref q_9, .ref q_11, .ref q_12])), (q_11, .inl (cA_11, 4, .inr (.inr (.inr (.inr fg_32)))))]) [0, 1] rfl
          have hD := hD.sub (ws' := [(h0, .inr (8, [.int i, .null, .int 0, .int 0, .int 0, .ref q_1, .ref q_2, .ref q_3, .ref q_4, .ref q_5, .ref q_7, .ref q_9, .ref q_11, .ref q_12])), (q_11, .inl (cA_11, 4, .inr (.inr (.inr (.inr fg_32)))))]) [0, 1] (by decide) rfl
          have hK := hK.sub (tys' := [(cA_11, .object RX8)]) [0] rfl
          refine lv_iinc (v := 4) (lv' := [(2, .int 4), (0, .ref h0), (1, .int i)]) hx hb dX9_init_117 hl (k := 0) rfl (by decide) (by decide) rfl (fun ls hl => ?_)
          refine lv_goto (tgt := 97) hx hb dX9_init_120 (by decide) ?_
          refine lv_iload_n hx hb dX9_init_97 rfl (lv_at hl 0 rfl) ?_
          refine lv_iconst (v := 4) hx hb dX9_init_98 (by decide) ?_
          refine lv_icmp_ge (tgt := 123) hx hb dX9_init_99 (by decide) (fun c_34 => ?_) (fun c_34 => ?_)
          · skip
            have hP9 := hP.sub (ws' := [(h0, .inr (8, [.int i, .null, .int 0, .int 0, .int 0, .ref q_1, .ref q_2, .ref q_3, .ref q_4, .ref q_5, .ref q_7, .ref q_9, .ref q_11, .ref q_12]))]) [0] rfl
            have hD9 := hD.sub (ws' := [(h0, .inr (8, [.int i, .null, .int 0, .int 0, .int 0, .ref q_1, .ref q_2, .ref q_3, .ref q_4, .ref q_5, .ref q_7, .ref q_9, .ref q_11, .ref q_12]))]) [0] (by decide) rfl
            have hK9 := hK.sub (tys' := []) [] rfl
            exact W.vret hx hb hr (fun t ht hW => ⟨⟨(), rfl, trivial, _, rfl, by rw [ht]; exact hP9, va_K.moved hW.alike hK9, hD9⟩, hS.F ht⟩) hS.2.2 dX9_init_123
          · exact absurd c_34 (by decide +kernel)
