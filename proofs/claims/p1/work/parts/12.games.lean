set_option maxHeartbeats 4000000 in
set_option maxRecDepth 100000 in
/-- X4_init of a X3 -/
theorem c_X4_init_X3 (l : Launch) (dC : Nat → ClassId) (dI : Nat → Nat → Nat) (h0 sz : Nat) (k : Int32) : Met l yX4_init wsX4_init ({ frames := 1, cells := 0, slots := 0, locals := 12 }) (va_Pc [.ref h0, .int k] (fun U => U.heap.size = sz ∧ va_P (dC, dI) vwCl [(h0, .inr (3, [.int 0]))] U.heap ∧ va_K (dC, dI) vwCl [] U ∧ va_D (fun _ => True) [(h0, .inr (3, [.int 0]))])) (va_Qv (fun _ : Unit => True) (fun _ t => ∃ fs : List Value, va_P (dC, dI) vwCl [(h0, .inr (3, fs))] t.heap ∧ va_K (dC, dI) vwCl [] t ∧ va_D (va_A [(h0, .inr (3, [.int 0]))] sz) [(h0, .inr (3, fs))]) (va_A [(h0, .inr (3, [.int 0]))] sz)) 0 0 (va_A [(h0, .inr (3, [.int 0]))] sz) := by
  refine Met.ofW (cc := cX4_init) (maxL := 2) (ret := none) (by decide) rfl ?_
  intro p e s m args below meth c s₁ B hml hv
  obtain ⟨rfl, hsz, hP, hK, hD0⟩ := hv
  have hx := B.exec
  have hb := B.bytes
  have hr := B.returns
  have hts := atoms_spec (ws := wsX4_init) B.pre
  have hown : s.vm.findClass RX4 = some m.cls := findClass_of_methodNamed B.named
  have hlocks := B.notSynchronized
  have hin : meth.name = "<init>" := (name_of_methodNamed B.named B.method).1
  subst hsz
  have hD := hD0.self (sz := s.heap.size)
  generalize hAe : va_A [(h0, .inr (3, [.int 0]))] s.heap.size = A at hD ⊢
  have hA : ∀ q : Nat, s.heap.size ≤ q → A q := fun q h => by rw [← hAe]; exact Or.inr h
  have hS : va_S A s.heap s.heap [] := va_S.rf
  have hP : va_P (dC, dI) vwCl [(h0, .inr (3, [.int 0]))] s.heap := hP
  have hl := lv_entry ([.ref h0, .int k]) (n := 2) (Nat.le_of_ble_eq_true rfl)
  rw [lg_entry_eq]
  generalize (lg_sl ([.ref h0, .int k]) ++ List.replicate (2 - (lg_sl ([.ref h0, .int k])).length) Slot.unset).toArray = ls at hl ⊢
  have hl : lv_has ls 2 [(0, .ref h0), (1, .int k)] := hl
  refine lv_aload_n hx hb dX4_init_0 rfl (lv_at hl 0 rfl) ?_
  refine W.objInit hx hb hown (hts (.methodLink RX4 1 objectInit) (List.mem_of_getElem? (l := wsX4_init) (i := 1) rfl)) (hts (.instanceMethod objectInit) (List.mem_of_getElem? (l := wsX4_init) (i := 2) rfl)) (hts (.code objectInit ⟨#[0xb1]⟩ 1 none) (List.mem_of_getElem? (l := wsX4_init) (i := 3) rfl)) rfl (by rw [hml]; exact hl.1) rfl dX4_init_1 (Nat.le_of_ble_eq_true rfl) (Nat.le_of_ble_eq_true rfl) ?_
  refine W.eq (g2 := F0 m 4 ls []) rfl ?_
  refine lv_aload_n hx hb dX4_init_4 rfl (lv_at hl 0 rfl) ?_
  refine lv_iload_n hx hb dX4_init_5 rfl (lv_at hl 1 rfl) ?_
  refine va_putF (D := (dC, dI)) (ci := 3) (v := .int k) (ty := .int) (C := RX3) (T := TX3) (N := 1) hx hb hts (by decide +kernel) tyX3 tyX3_ok nmX3 hown hK hP hD hS 0 rfl rfl 0 (by decide) (hts (.fieldLink RX4 7 "CardTables$Game" "type" "I") (List.mem_of_getElem? (l := wsX4_init) (i := 4) rfl)) (fun _ h9 => h9) rfl hin rfl (by decide +kernel) rfl rfl (Nat.le_of_ble_eq_true rfl) dX4_init_6 (fun H locs hP hD hS => ?_)
  have hP : va_P (dC, dI) vwCl [(h0, .inr (3, [.int k]))] H := hP
  have hD : va_D A [(h0, .inr (3, [.int k]))] := hD
  have hP9 := hP.sub (ws' := [(h0, .inr (3, [.int k]))]) [0] rfl
  have hD9 := hD.sub (ws' := [(h0, .inr (3, [.int k]))]) [0] (by decide) rfl
  have hK9 := hK.sub (tys' := []) [] rfl
  exact W.vret hx hb hr (fun t ht hW => ⟨⟨(), rfl, trivial, _, by rw [ht]; exact hP9, va_K.moved hW.alike hK9, hD9⟩, hS.F ht⟩) hS.2.2 dX4_init_9
set_option maxHeartbeats 4000000 in
set_option maxRecDepth 100000 in
/-- X4_init of a X5 -/
theorem c_X4_init_X5 (l : Launch) (dC : Nat → ClassId) (dI : Nat → Nat → Nat) (h0 sz : Nat) (k : Int32) : Met l yX4_init wsX4_init ({ frames := 1, cells := 0, slots := 0, locals := 12 }) (va_Pc [.ref h0, .int k] (fun U => U.heap.size = sz ∧ va_P (dC, dI) vwCl [(h0, .inr (4, [.int 0]))] U.heap ∧ va_K (dC, dI) vwCl [] U ∧ va_D (fun _ => True) [(h0, .inr (4, [.int 0]))])) (va_Qv (fun _ : Unit => True) (fun _ t => ∃ fs : List Value, va_P (dC, dI) vwCl [(h0, .inr (4, fs))] t.heap ∧ va_K (dC, dI) vwCl [] t ∧ va_D (va_A [(h0, .inr (4, [.int 0]))] sz) [(h0, .inr (4, fs))]) (va_A [(h0, .inr (4, [.int 0]))] sz)) 0 0 (va_A [(h0, .inr (4, [.int 0]))] sz) := by
  refine Met.ofW (cc := cX4_init) (maxL := 2) (ret := none) (by decide) rfl ?_
  intro p e s m args below meth c s₁ B hml hv
  obtain ⟨rfl, hsz, hP, hK, hD0⟩ := hv
  have hx := B.exec
  have hb := B.bytes
  have hr := B.returns
  have hts := atoms_spec (ws := wsX4_init) B.pre
  have hown : s.vm.findClass RX4 = some m.cls := findClass_of_methodNamed B.named
  have hlocks := B.notSynchronized
  have hin : meth.name = "<init>" := (name_of_methodNamed B.named B.method).1
  subst hsz
  have hD := hD0.self (sz := s.heap.size)
  generalize hAe : va_A [(h0, .inr (4, [.int 0]))] s.heap.size = A at hD ⊢
  have hA : ∀ q : Nat, s.heap.size ≤ q → A q := fun q h => by rw [← hAe]; exact Or.inr h
  have hS : va_S A s.heap s.heap [] := va_S.rf
  have hP : va_P (dC, dI) vwCl [(h0, .inr (4, [.int 0]))] s.heap := hP
  have hl := lv_entry ([.ref h0, .int k]) (n := 2) (Nat.le_of_ble_eq_true rfl)
  rw [lg_entry_eq]
  generalize (lg_sl ([.ref h0, .int k]) ++ List.replicate (2 - (lg_sl ([.ref h0, .int k])).length) Slot.unset).toArray = ls at hl ⊢
  have hl : lv_has ls 2 [(0, .ref h0), (1, .int k)] := hl
  refine lv_aload_n hx hb dX4_init_0 rfl (lv_at hl 0 rfl) ?_
  refine W.objInit hx hb hown (hts (.methodLink RX4 1 objectInit) (List.mem_of_getElem? (l := wsX4_init) (i := 1) rfl)) (hts (.instanceMethod objectInit) (List.mem_of_getElem? (l := wsX4_init) (i := 2) rfl)) (hts (.code objectInit ⟨#[0xb1]⟩ 1 none) (List.mem_of_getElem? (l := wsX4_init) (i := 3) rfl)) rfl (by rw [hml]; exact hl.1) rfl dX4_init_1 (Nat.le_of_ble_eq_true rfl) (Nat.le_of_ble_eq_true rfl) ?_
  refine W.eq (g2 := F0 m 4 ls []) rfl ?_
  refine lv_aload_n hx hb dX4_init_4 rfl (lv_at hl 0 rfl) ?_
  refine lv_iload_n hx hb dX4_init_5 rfl (lv_at hl 1 rfl) ?_
  refine va_putF (D := (dC, dI)) (ci := 4) (v := .int k) (ty := .int) (C := RX5) (T := TX5) (N := 1) hx hb hts (by decide +kernel) tyX5 tyX5_ok nmX5 hown hK hP hD hS 0 rfl rfl 0 (by decide) (hts (.fieldLink RX4 7 "CardTables$Game" "type" "I") (List.mem_of_getElem? (l := wsX4_init) (i := 4) rfl)) (fun _ h9 => h9) rfl hin rfl (by decide +kernel) rfl rfl (Nat.le_of_ble_eq_true rfl) dX4_init_6 (fun H locs hP hD hS => ?_)
  have hP : va_P (dC, dI) vwCl [(h0, .inr (4, [.int k]))] H := hP
  have hD : va_D A [(h0, .inr (4, [.int k]))] := hD
  have hP9 := hP.sub (ws' := [(h0, .inr (4, [.int k]))]) [0] rfl
  have hD9 := hD.sub (ws' := [(h0, .inr (4, [.int k]))]) [0] (by decide) rfl
  have hK9 := hK.sub (tys' := []) [] rfl
  exact W.vret hx hb hr (fun t ht hW => ⟨⟨(), rfl, trivial, _, by rw [ht]; exact hP9, va_K.moved hW.alike hK9, hD9⟩, hS.F ht⟩) hS.2.2 dX4_init_9
set_option maxHeartbeats 4000000 in
set_option maxRecDepth 100000 in
/-- X4_init of a X10 -/
theorem c_X4_init_X10 (l : Launch) (dC : Nat → ClassId) (dI : Nat → Nat → Nat) (h0 sz : Nat) (k : Int32) : Met l yX4_init wsX4_init ({ frames := 1, cells := 0, slots := 0, locals := 12 }) (va_Pc [.ref h0, .int k] (fun U => U.heap.size = sz ∧ va_P (dC, dI) vwCl [(h0, .inr (9, [.int 0]))] U.heap ∧ va_K (dC, dI) vwCl [] U ∧ va_D (fun _ => True) [(h0, .inr (9, [.int 0]))])) (va_Qv (fun _ : Unit => True) (fun _ t => ∃ fs : List Value, va_P (dC, dI) vwCl [(h0, .inr (9, fs))] t.heap ∧ va_K (dC, dI) vwCl [] t ∧ va_D (va_A [(h0, .inr (9, [.int 0]))] sz) [(h0, .inr (9, fs))]) (va_A [(h0, .inr (9, [.int 0]))] sz)) 0 0 (va_A [(h0, .inr (9, [.int 0]))] sz) := by
  refine Met.ofW (cc := cX4_init) (maxL := 2) (ret := none) (by decide) rfl ?_
  intro p e s m args below meth c s₁ B hml hv
  obtain ⟨rfl, hsz, hP, hK, hD0⟩ := hv
  have hx := B.exec
  have hb := B.bytes
  have hr := B.returns
  have hts := atoms_spec (ws := wsX4_init) B.pre
  have hown : s.vm.findClass RX4 = some m.cls := findClass_of_methodNamed B.named
  have hlocks := B.notSynchronized
  have hin : meth.name = "<init>" := (name_of_methodNamed B.named B.method).1
  subst hsz
  have hD := hD0.self (sz := s.heap.size)
  generalize hAe : va_A [(h0, .inr (9, [.int 0]))] s.heap.size = A at hD ⊢
  have hA : ∀ q : Nat, s.heap.size ≤ q → A q := fun q h => by rw [← hAe]; exact Or.inr h
  have hS : va_S A s.heap s.heap [] := va_S.rf
  have hP : va_P (dC, dI) vwCl [(h0, .inr (9, [.int 0]))] s.heap := hP
  have hl := lv_entry ([.ref h0, .int k]) (n := 2) (Nat.le_of_ble_eq_true rfl)
  rw [lg_entry_eq]
  generalize (lg_sl ([.ref h0, .int k]) ++ List.replicate (2 - (lg_sl ([.ref h0, .int k])).length) Slot.unset).toArray = ls at hl ⊢
  have hl : lv_has ls 2 [(0, .ref h0), (1, .int k)] := hl
  refine lv_aload_n hx hb dX4_init_0 rfl (lv_at hl 0 rfl) ?_
  refine W.objInit hx hb hown (hts (.methodLink RX4 1 objectInit) (List.mem_of_getElem? (l := wsX4_init) (i := 1) rfl)) (hts (.instanceMethod objectInit) (List.mem_of_getElem? (l := wsX4_init) (i := 2) rfl)) (hts (.code objectInit ⟨#[0xb1]⟩ 1 none) (List.mem_of_getElem? (l := wsX4_init) (i := 3) rfl)) rfl (by rw [hml]; exact hl.1) rfl dX4_init_1 (Nat.le_of_ble_eq_true rfl) (Nat.le_of_ble_eq_true rfl) ?_
  refine W.eq (g2 := F0 m 4 ls []) rfl ?_
  refine lv_aload_n hx hb dX4_init_4 rfl (lv_at hl 0 rfl) ?_
  refine lv_iload_n hx hb dX4_init_5 rfl (lv_at hl 1 rfl) ?_
  refine va_putF (D := (dC, dI)) (ci := 9) (v := .int k) (ty := .int) (C := RX10) (T := TX10) (N := 1) hx hb hts (by decide +kernel) tyX10 tyX10_ok nmX10 hown hK hP hD hS 0 rfl rfl 0 (by decide) (hts (.fieldLink RX4 7 "CardTables$Game" "type" "I") (List.mem_of_getElem? (l := wsX4_init) (i := 4) rfl)) (fun _ h9 => h9) rfl hin rfl (by decide +kernel) rfl rfl (Nat.le_of_ble_eq_true rfl) dX4_init_6 (fun H locs hP hD hS => ?_)
  have hP : va_P (dC, dI) vwCl [(h0, .inr (9, [.int k]))] H := hP
  have hD : va_D A [(h0, .inr (9, [.int k]))] := hD
  have hP9 := hP.sub (ws' := [(h0, .inr (9, [.int k]))]) [0] rfl
  have hD9 := hD.sub (ws' := [(h0, .inr (9, [.int k]))]) [0] (by decide) rfl
  have hK9 := hK.sub (tys' := []) [] rfl
  exact W.vret hx hb hr (fun t ht hW => ⟨⟨(), rfl, trivial, _, by rw [ht]; exact hP9, va_K.moved hW.alike hK9, hD9⟩, hS.F ht⟩) hS.2.2 dX4_init_9
set_option maxHeartbeats 4000000 in
set_option maxRecDepth 100000 in
/-- X4_init of a X0 -/
theorem c_X4_init_X0 (l : Launch) (dC : Nat → ClassId) (dI : Nat → Nat → Nat) (h0 sz : Nat) (k : Int32) : Met l yX4_init wsX4_init ({ frames := 1, cells := 0, slots := 0, locals := 12 }) (va_Pc [.ref h0, .int k] (fun U => U.heap.size = sz ∧ va_P (dC, dI) vwCl [(h0, .inr (0, [.int 0]))] U.heap ∧ va_K (dC, dI) vwCl [] U ∧ va_D (fun _ => True) [(h0, .inr (0, [.int 0]))])) (va_Qv (fun _ : Unit => True) (fun _ t => ∃ fs : List Value, va_P (dC, dI) vwCl [(h0, .inr (0, fs))] t.heap ∧ va_K (dC, dI) vwCl [] t ∧ va_D (va_A [(h0, .inr (0, [.int 0]))] sz) [(h0, .inr (0, fs))]) (va_A [(h0, .inr (0, [.int 0]))] sz)) 0 0 (va_A [(h0, .inr (0, [.int 0]))] sz) := by
  refine Met.ofW (cc := cX4_init) (maxL := 2) (ret := none) (by decide) rfl ?_
  intro p e s m args below meth c s₁ B hml hv
  obtain ⟨rfl, hsz, hP, hK, hD0⟩ := hv
  have hx := B.exec
  have hb := B.bytes
  have hr := B.returns
  have hts := atoms_spec (ws := wsX4_init) B.pre
  have hown : s.vm.findClass RX4 = some m.cls := findClass_of_methodNamed B.named
  have hlocks := B.notSynchronized
  have hin : meth.name = "<init>" := (name_of_methodNamed B.named B.method).1
  subst hsz
  have hD := hD0.self (sz := s.heap.size)
  generalize hAe : va_A [(h0, .inr (0, [.int 0]))] s.heap.size = A at hD ⊢
  have hA : ∀ q : Nat, s.heap.size ≤ q → A q := fun q h => by rw [← hAe]; exact Or.inr h
  have hS : va_S A s.heap s.heap [] := va_S.rf
  have hP : va_P (dC, dI) vwCl [(h0, .inr (0, [.int 0]))] s.heap := hP
  have hl := lv_entry ([.ref h0, .int k]) (n := 2) (Nat.le_of_ble_eq_true rfl)
  rw [lg_entry_eq]
  generalize (lg_sl ([.ref h0, .int k]) ++ List.replicate (2 - (lg_sl ([.ref h0, .int k])).length) Slot.unset).toArray = ls at hl ⊢
  have hl : lv_has ls 2 [(0, .ref h0), (1, .int k)] := hl
  refine lv_aload_n hx hb dX4_init_0 rfl (lv_at hl 0 rfl) ?_
  refine W.objInit hx hb hown (hts (.methodLink RX4 1 objectInit) (List.mem_of_getElem? (l := wsX4_init) (i := 1) rfl)) (hts (.instanceMethod objectInit) (List.mem_of_getElem? (l := wsX4_init) (i := 2) rfl)) (hts (.code objectInit ⟨#[0xb1]⟩ 1 none) (List.mem_of_getElem? (l := wsX4_init) (i := 3) rfl)) rfl (by rw [hml]; exact hl.1) rfl dX4_init_1 (Nat.le_of_ble_eq_true rfl) (Nat.le_of_ble_eq_true rfl) ?_
  refine W.eq (g2 := F0 m 4 ls []) rfl ?_
  refine lv_aload_n hx hb dX4_init_4 rfl (lv_at hl 0 rfl) ?_
  refine lv_iload_n hx hb dX4_init_5 rfl (lv_at hl 1 rfl) ?_
  refine va_putF (D := (dC, dI)) (ci := 0) (v := .int k) (ty := .int) (C := RX0) (T := TX0) (N := 1) hx hb hts (by decide +kernel) tyX0 tyX0_ok nmX0 hown hK hP hD hS 0 rfl rfl 0 (by decide) (hts (.fieldLink RX4 7 "CardTables$Game" "type" "I") (List.mem_of_getElem? (l := wsX4_init) (i := 4) rfl)) (fun _ h9 => h9) rfl hin rfl (by decide +kernel) rfl rfl (Nat.le_of_ble_eq_true rfl) dX4_init_6 (fun H locs hP hD hS => ?_)
  have hP : va_P (dC, dI) vwCl [(h0, .inr (0, [.int k]))] H := hP
  have hD : va_D A [(h0, .inr (0, [.int k]))] := hD
  have hP9 := hP.sub (ws' := [(h0, .inr (0, [.int k]))]) [0] rfl
  have hD9 := hD.sub (ws' := [(h0, .inr (0, [.int k]))]) [0] (by decide) rfl
  have hK9 := hK.sub (tys' := []) [] rfl
  exact W.vret hx hb hr (fun t ht hW => ⟨⟨(), rfl, trivial, _, by rw [ht]; exact hP9, va_K.moved hW.alike hK9, hD9⟩, hS.F ht⟩) hS.2.2 dX4_init_9
set_option maxHeartbeats 4000000 in
set_option maxRecDepth 100000 in
/-- X3_init of a X3 -/
theorem c_X3_init_X3 (l : Launch) (dC : Nat → ClassId) (dI : Nat → Nat → Nat) (h0 sz : Nat) (k : Int32) : Met l yX3_init wsX3_init ({ frames := 2, cells := 0, slots := 0, locals := 33 }) (va_Pc [.ref h0, .int k] (fun U => U.heap.size = sz ∧ va_P (dC, dI) vwCl [(h0, .inr (3, [.int 0]))] U.heap ∧ va_K (dC, dI) vwCl [] U ∧ va_D (fun _ => True) [(h0, .inr (3, [.int 0]))])) (va_Qv (fun _ : Unit => True) (fun _ t => ∃ fs : List Value, va_P (dC, dI) vwCl [(h0, .inr (3, fs))] t.heap ∧ va_K (dC, dI) vwCl [] t ∧ va_D (va_A [(h0, .inr (3, [.int 0]))] sz) [(h0, .inr (3, fs))]) (va_A [(h0, .inr (3, [.int 0]))] sz)) 0 0 (va_A [(h0, .inr (3, [.int 0]))] sz) := by
  refine Met.ofW (cc := cX3_init) (maxL := 2) (ret := none) (by decide) rfl ?_
  intro p e s m args below meth c s₁ B hml hv
  obtain ⟨rfl, hsz, hP, hK, hD0⟩ := hv
  have hx := B.exec
  have hb := B.bytes
  have hr := B.returns
  have hts := atoms_spec (ws := wsX3_init) B.pre
  have hown : s.vm.findClass RX3 = some m.cls := findClass_of_methodNamed B.named
  have hlocks := B.notSynchronized
  have hin : meth.name = "<init>" := (name_of_methodNamed B.named B.method).1
  subst hsz
  have hD := hD0.self (sz := s.heap.size)
  generalize hAe : va_A [(h0, .inr (3, [.int 0]))] s.heap.size = A at hD ⊢
  have hA : ∀ q : Nat, s.heap.size ≤ q → A q := fun q h => by rw [← hAe]; exact Or.inr h
  have hS : va_S A s.heap s.heap [] := va_S.rf
  have hP : va_P (dC, dI) vwCl [(h0, .inr (3, [.int 0]))] s.heap := hP
  have hl := lv_entry ([.ref h0, .int k]) (n := 2) (Nat.le_of_ble_eq_true rfl)
  rw [lg_entry_eq]
  generalize (lg_sl ([.ref h0, .int k]) ++ List.replicate (2 - (lg_sl ([.ref h0, .int k])).length) Slot.unset).toArray = ls at hl ⊢
  have hl : lv_has ls 2 [(0, .ref h0), (1, .int k)] := hl
  refine lv_aload_n hx hb dX3_init_0 rfl (lv_at hl 0 rfl) ?_
  refine lv_iload_n hx hb dX3_init_1 rfl (lv_at hl 1 rfl) ?_
  have hPc := hP.sub (ws' := [(h0, .inr (3, [.int 0]))]) [0] rfl
  have hDc := hD.sub (ws' := [(h0, .inr (3, [.int 0]))]) [0] (by decide) rfl
  have hKc := hK.sub (tys' := []) [] rfl
  have hFc := va_free (wc := [(h0, .inr (3, [.int 0]))]) hD hS hA [0] rfl
  refine va_callv (va_runI (As := [.int k]) (rest := []) ⟨hx, hb, hml, hown, hts⟩ (c_X4_init_X3 l dC dI h0 s.heap.size k) (cwI 1 hts gX3_init_X4_init rfl rfl rfl (hts (.initialized RX4) (List.mem_of_getElem? (l := wsX3_init) (i := 3) rfl)) (hts (.methodLink RX3 3 yX4_init) (List.mem_of_getElem? (l := wsX3_init) (i := 1) rfl)) (hts (.instanceMethod yX4_init) (List.mem_of_getElem? (l := wsX3_init) (i := 2) rfl)) rfl (by decide +kernel) ⟨Nat.le_of_ble_eq_true rfl, Nat.le_of_ble_eq_true rfl⟩) ⟨fun a U g mk q => by obtain ⟨q0, q1, qP, qK, qD⟩ := q; exact ⟨q0, q1, qP, va_K.moved (u := U) (U := U.calling g mk a) (Vm.Alike.refl U.vm) qK, qD⟩, fun U hU hW => ⟨rfl, by rw [hU], by rw [hU]; exact hPc, va_K.moved hW.alike hKc, hDc.weaken (fun _ _ _ _ => trivial)⟩⟩ rfl rfl hl.1 rfl (lv_room (Nat.le_of_ble_eq_true rfl)) dX3_init_2 ⟨Nat.le_of_ble_eq_true rfl, Nat.le_of_ble_eq_true rfl⟩) hS (fun q _ h => hFc q h) hFc (fun u t H1 locs ht hvm hw hB hz1 hk1 hS => ?_)
  obtain ⟨gf_1, hP1, hK1, hD1⟩ := hB
  rw [ht] at hP1
  have hK1 := va_K.moved hvm.symm hK1
  obtain ⟨hP, hD⟩ := va_join (wr := []) (w1 := [(h0, .inr (3, gf_1))]) hP hD [0] [] rfl rfl (by decide) (by decide) hk1 hFc hP1 hD1
  have hK := (hK.sub (tys' := []) [] rfl).app hK1
  generalize H1 = H at hP hS ⊢
  have hP : va_P (dC, dI) vwCl [(h0, .inr (3, gf_1))] H := hP
  have hD : va_D A [(h0, .inr (3, gf_1))] := hD
  have hK : va_K (dC, dI) vwCl [] s := hK
  refine W.widen (k := 0) (n := 0) (by omega) (by omega) ?_
  have hP9 := hP.sub (ws' := [(h0, .inr (3, gf_1))]) [0] rfl
  have hD9 := hD.sub (ws' := [(h0, .inr (3, gf_1))]) [0] (by decide) rfl
  have hK9 := hK.sub (tys' := []) [] rfl
  exact W.vret hx hb hr (fun t ht hW => ⟨⟨(), rfl, trivial, _, by rw [ht]; exact hP9, va_K.moved hW.alike hK9, hD9⟩, hS.F ht⟩) hS.2.2 dX3_init_5
set_option maxHeartbeats 4000000 in
set_option maxRecDepth 100000 in
/-- X3_init of a X5 -/
theorem c_X3_init_X5 (l : Launch) (dC : Nat → ClassId) (dI : Nat → Nat → Nat) (h0 sz : Nat) (k : Int32) : Met l yX3_init wsX3_init ({ frames := 2, cells := 0, slots := 0, locals := 33 }) (va_Pc [.ref h0, .int k] (fun U => U.heap.size = sz ∧ va_P (dC, dI) vwCl [(h0, .inr (4, [.int 0]))] U.heap ∧ va_K (dC, dI) vwCl [] U ∧ va_D (fun _ => True) [(h0, .inr (4, [.int 0]))])) (va_Qv (fun _ : Unit => True) (fun _ t => ∃ fs : List Value, va_P (dC, dI) vwCl [(h0, .inr (4, fs))] t.heap ∧ va_K (dC, dI) vwCl [] t ∧ va_D (va_A [(h0, .inr (4, [.int 0]))] sz) [(h0, .inr (4, fs))]) (va_A [(h0, .inr (4, [.int 0]))] sz)) 0 0 (va_A [(h0, .inr (4, [.int 0]))] sz) := by
  refine Met.ofW (cc := cX3_init) (maxL := 2) (ret := none) (by decide) rfl ?_
  intro p e s m args below meth c s₁ B hml hv
  obtain ⟨rfl, hsz, hP, hK, hD0⟩ := hv
  have hx := B.exec
  have hb := B.bytes
  have hr := B.returns
  have hts := atoms_spec (ws := wsX3_init) B.pre
  have hown : s.vm.findClass RX3 = some m.cls := findClass_of_methodNamed B.named
  have hlocks := B.notSynchronized
  have hin : meth.name = "<init>" := (name_of_methodNamed B.named B.method).1
  subst hsz
  have hD := hD0.self (sz := s.heap.size)
  generalize hAe : va_A [(h0, .inr (4, [.int 0]))] s.heap.size = A at hD ⊢
  have hA : ∀ q : Nat, s.heap.size ≤ q → A q := fun q h => by rw [← hAe]; exact Or.inr h
  have hS : va_S A s.heap s.heap [] := va_S.rf
  have hP : va_P (dC, dI) vwCl [(h0, .inr (4, [.int 0]))] s.heap := hP
  have hl := lv_entry ([.ref h0, .int k]) (n := 2) (Nat.le_of_ble_eq_true rfl)
  rw [lg_entry_eq]
  generalize (lg_sl ([.ref h0, .int k]) ++ List.replicate (2 - (lg_sl ([.ref h0, .int k])).length) Slot.unset).toArray = ls at hl ⊢
  have hl : lv_has ls 2 [(0, .ref h0), (1, .int k)] := hl
  refine lv_aload_n hx hb dX3_init_0 rfl (lv_at hl 0 rfl) ?_
  refine lv_iload_n hx hb dX3_init_1 rfl (lv_at hl 1 rfl) ?_
  have hPc := hP.sub (ws' := [(h0, .inr (4, [.int 0]))]) [0] rfl
  have hDc := hD.sub (ws' := [(h0, .inr (4, [.int 0]))]) [0] (by decide) rfl
  have hKc := hK.sub (tys' := []) [] rfl
  have hFc := va_free (wc := [(h0, .inr (4, [.int 0]))]) hD hS hA [0] rfl
  refine va_callv (va_runI (As := [.int k]) (rest := []) ⟨hx, hb, hml, hown, hts⟩ (c_X4_init_X5 l dC dI h0 s.heap.size k) (cwI 1 hts gX3_init_X4_init rfl rfl rfl (hts (.initialized RX4) (List.mem_of_getElem? (l := wsX3_init) (i := 3) rfl)) (hts (.methodLink RX3 3 yX4_init) (List.mem_of_getElem? (l := wsX3_init) (i := 1) rfl)) (hts (.instanceMethod yX4_init) (List.mem_of_getElem? (l := wsX3_init) (i := 2) rfl)) rfl (by decide +kernel) ⟨Nat.le_of_ble_eq_true rfl, Nat.le_of_ble_eq_true rfl⟩) ⟨fun a U g mk q => by obtain ⟨q0, q1, qP, qK, qD⟩ := q; exact ⟨q0, q1, qP, va_K.moved (u := U) (U := U.calling g mk a) (Vm.Alike.refl U.vm) qK, qD⟩, fun U hU hW => ⟨rfl, by rw [hU], by rw [hU]; exact hPc, va_K.moved hW.alike hKc, hDc.weaken (fun _ _ _ _ => trivial)⟩⟩ rfl rfl hl.1 rfl (lv_room (Nat.le_of_ble_eq_true rfl)) dX3_init_2 ⟨Nat.le_of_ble_eq_true rfl, Nat.le_of_ble_eq_true rfl⟩) hS (fun q _ h => hFc q h) hFc (fun u t H1 locs ht hvm hw hB hz1 hk1 hS => ?_)
  obtain ⟨gf_1, hP1, hK1, hD1⟩ := hB
  rw [ht] at hP1
  have hK1 := va_K.moved hvm.symm hK1
  obtain ⟨hP, hD⟩ := va_join (wr := []) (w1 := [(h0, .inr (4, gf_1))]) hP hD [0] [] rfl rfl (by decide) (by decide) hk1 hFc hP1 hD1
  have hK := (hK.sub (tys' := []) [] rfl).app hK1
  generalize H1 = H at hP hS ⊢
  have hP : va_P (dC, dI) vwCl [(h0, .inr (4, gf_1))] H := hP
  have hD : va_D A [(h0, .inr (4, gf_1))] := hD
  have hK : va_K (dC, dI) vwCl [] s := hK
  refine W.widen (k := 0) (n := 0) (by omega) (by omega) ?_
  have hP9 := hP.sub (ws' := [(h0, .inr (4, gf_1))]) [0] rfl
  have hD9 := hD.sub (ws' := [(h0, .inr (4, gf_1))]) [0] (by decide) rfl
  have hK9 := hK.sub (tys' := []) [] rfl
  exact W.vret hx hb hr (fun t ht hW => ⟨⟨(), rfl, trivial, _, by rw [ht]; exact hP9, va_K.moved hW.alike hK9, hD9⟩, hS.F ht⟩) hS.2.2 dX3_init_5
set_option maxHeartbeats 4000000 in
set_option maxRecDepth 100000 in
/-- X3_init of a X10 -/
theorem c_X3_init_X10 (l : Launch) (dC : Nat → ClassId) (dI : Nat → Nat → Nat) (h0 sz : Nat) (k : Int32) : Met l yX3_init wsX3_init ({ frames := 2, cells := 0, slots := 0, locals := 33 }) (va_Pc [.ref h0, .int k] (fun U => U.heap.size = sz ∧ va_P (dC, dI) vwCl [(h0, .inr (9, [.int 0]))] U.heap ∧ va_K (dC, dI) vwCl [] U ∧ va_D (fun _ => True) [(h0, .inr (9, [.int 0]))])) (va_Qv (fun _ : Unit => True) (fun _ t => ∃ fs : List Value, va_P (dC, dI) vwCl [(h0, .inr (9, fs))] t.heap ∧ va_K (dC, dI) vwCl [] t ∧ va_D (va_A [(h0, .inr (9, [.int 0]))] sz) [(h0, .inr (9, fs))]) (va_A [(h0, .inr (9, [.int 0]))] sz)) 0 0 (va_A [(h0, .inr (9, [.int 0]))] sz) := by
  refine Met.ofW (cc := cX3_init) (maxL := 2) (ret := none) (by decide) rfl ?_
  intro p e s m args below meth c s₁ B hml hv
  obtain ⟨rfl, hsz, hP, hK, hD0⟩ := hv
  have hx := B.exec
  have hb := B.bytes
  have hr := B.returns
  have hts := atoms_spec (ws := wsX3_init) B.pre
  have hown : s.vm.findClass RX3 = some m.cls := findClass_of_methodNamed B.named
  have hlocks := B.notSynchronized
  have hin : meth.name = "<init>" := (name_of_methodNamed B.named B.method).1
  subst hsz
  have hD := hD0.self (sz := s.heap.size)
  generalize hAe : va_A [(h0, .inr (9, [.int 0]))] s.heap.size = A at hD ⊢
  have hA : ∀ q : Nat, s.heap.size ≤ q → A q := fun q h => by rw [← hAe]; exact Or.inr h
  have hS : va_S A s.heap s.heap [] := va_S.rf
  have hP : va_P (dC, dI) vwCl [(h0, .inr (9, [.int 0]))] s.heap := hP
  have hl := lv_entry ([.ref h0, .int k]) (n := 2) (Nat.le_of_ble_eq_true rfl)
  rw [lg_entry_eq]
  generalize (lg_sl ([.ref h0, .int k]) ++ List.replicate (2 - (lg_sl ([.ref h0, .int k])).length) Slot.unset).toArray = ls at hl ⊢
  have hl : lv_has ls 2 [(0, .ref h0), (1, .int k)] := hl
  refine lv_aload_n hx hb dX3_init_0 rfl (lv_at hl 0 rfl) ?_
  refine lv_iload_n hx hb dX3_init_1 rfl (lv_at hl 1 rfl) ?_
  have hPc := hP.sub (ws' := [(h0, .inr (9, [.int 0]))]) [0] rfl
  have hDc := hD.sub (ws' := [(h0, .inr (9, [.int 0]))]) [0] (by decide) rfl
  have hKc := hK.sub (tys' := []) [] rfl
  have hFc := va_free (wc := [(h0, .inr (9, [.int 0]))]) hD hS hA [0] rfl
  refine va_callv (va_runI (As := [.int k]) (rest := []) ⟨hx, hb, hml, hown, hts⟩ (c_X4_init_X10 l dC dI h0 s.heap.size k) (cwI 1 hts gX3_init_X4_init rfl rfl rfl (hts (.initialized RX4) (List.mem_of_getElem? (l := wsX3_init) (i := 3) rfl)) (hts (.methodLink RX3 3 yX4_init) (List.mem_of_getElem? (l := wsX3_init) (i := 1) rfl)) (hts (.instanceMethod yX4_init) (List.mem_of_getElem? (l := wsX3_init) (i := 2) rfl)) rfl (by decide +kernel) ⟨Nat.le_of_ble_eq_true rfl, Nat.le_of_ble_eq_true rfl⟩) ⟨fun a U g mk q => by obtain ⟨q0, q1, qP, qK, qD⟩ := q; exact ⟨q0, q1, qP, va_K.moved (u := U) (U := U.calling g mk a) (Vm.Alike.refl U.vm) qK, qD⟩, fun U hU hW => ⟨rfl, by rw [hU], by rw [hU]; exact hPc, va_K.moved hW.alike hKc, hDc.weaken (fun _ _ _ _ => trivial)⟩⟩ rfl rfl hl.1 rfl (lv_room (Nat.le_of_ble_eq_true rfl)) dX3_init_2 ⟨Nat.le_of_ble_eq_true rfl, Nat.le_of_ble_eq_true rfl⟩) hS (fun q _ h => hFc q h) hFc (fun u t H1 locs ht hvm hw hB hz1 hk1 hS => ?_)
  obtain ⟨gf_1, hP1, hK1, hD1⟩ := hB
  rw [ht] at hP1
  have hK1 := va_K.moved hvm.symm hK1
  obtain ⟨hP, hD⟩ := va_join (wr := []) (w1 := [(h0, .inr (9, gf_1))]) hP hD [0] [] rfl rfl (by decide) (by decide) hk1 hFc hP1 hD1
  have hK := (hK.sub (tys' := []) [] rfl).app hK1
  generalize H1 = H at hP hS ⊢
  have hP : va_P (dC, dI) vwCl [(h0, .inr (9, gf_1))] H := hP
  have hD : va_D A [(h0, .inr (9, gf_1))] := hD
  have hK : va_K (dC, dI) vwCl [] s := hK
  refine W.widen (k := 0) (n := 0) (by omega) (by omega) ?_
  have hP9 := hP.sub (ws' := [(h0, .inr (9, gf_1))]) [0] rfl
  have hD9 := hD.sub (ws' := [(h0, .inr (9, gf_1))]) [0] (by decide) rfl
  have hK9 := hK.sub (tys' := []) [] rfl
  exact W.vret hx hb hr (fun t ht hW => ⟨⟨(), rfl, trivial, _, by rw [ht]; exact hP9, va_K.moved hW.alike hK9, hD9⟩, hS.F ht⟩) hS.2.2 dX3_init_5
set_option maxHeartbeats 4000000 in
set_option maxRecDepth 100000 in
/-- X3_init of a X0 -/
theorem c_X3_init_X0 (l : Launch) (dC : Nat → ClassId) (dI : Nat → Nat → Nat) (h0 sz : Nat) (k : Int32) : Met l yX3_init wsX3_init ({ frames := 2, cells := 0, slots := 0, locals := 33 }) (va_Pc [.ref h0, .int k] (fun U => U.heap.size = sz ∧ va_P (dC, dI) vwCl [(h0, .inr (0, [.int 0]))] U.heap ∧ va_K (dC, dI) vwCl [] U ∧ va_D (fun _ => True) [(h0, .inr (0, [.int 0]))])) (va_Qv (fun _ : Unit => True) (fun _ t => ∃ fs : List Value, va_P (dC, dI) vwCl [(h0, .inr (0, fs))] t.heap ∧ va_K (dC, dI) vwCl [] t ∧ va_D (va_A [(h0, .inr (0, [.int 0]))] sz) [(h0, .inr (0, fs))]) (va_A [(h0, .inr (0, [.int 0]))] sz)) 0 0 (va_A [(h0, .inr (0, [.int 0]))] sz) := by
  refine Met.ofW (cc := cX3_init) (maxL := 2) (ret := none) (by decide) rfl ?_
  intro p e s m args below meth c s₁ B hml hv
  obtain ⟨rfl, hsz, hP, hK, hD0⟩ := hv
  have hx := B.exec
  have hb := B.bytes
  have hr := B.returns
  have hts := atoms_spec (ws := wsX3_init) B.pre
  have hown : s.vm.findClass RX3 = some m.cls := findClass_of_methodNamed B.named
  have hlocks := B.notSynchronized
  have hin : meth.name = "<init>" := (name_of_methodNamed B.named B.method).1
  subst hsz
  have hD := hD0.self (sz := s.heap.size)
  generalize hAe : va_A [(h0, .inr (0, [.int 0]))] s.heap.size = A at hD ⊢
  have hA : ∀ q : Nat, s.heap.size ≤ q → A q := fun q h => by rw [← hAe]; exact Or.inr h
  have hS : va_S A s.heap s.heap [] := va_S.rf
  have hP : va_P (dC, dI) vwCl [(h0, .inr (0, [.int 0]))] s.heap := hP
  have hl := lv_entry ([.ref h0, .int k]) (n := 2) (Nat.le_of_ble_eq_true rfl)
  rw [lg_entry_eq]
  generalize (lg_sl ([.ref h0, .int k]) ++ List.replicate (2 - (lg_sl ([.ref h0, .int k])).length) Slot.unset).toArray = ls at hl ⊢
  have hl : lv_has ls 2 [(0, .ref h0), (1, .int k)] := hl
  refine lv_aload_n hx hb dX3_init_0 rfl (lv_at hl 0 rfl) ?_
  refine lv_iload_n hx hb dX3_init_1 rfl (lv_at hl 1 rfl) ?_
  have hPc := hP.sub (ws' := [(h0, .inr (0, [.int 0]))]) [0] rfl
  have hDc := hD.sub (ws' := [(h0, .inr (0, [.int 0]))]) [0] (by decide) rfl
  have hKc := hK.sub (tys' := []) [] rfl
  have hFc := va_free (wc := [(h0, .inr (0, [.int 0]))]) hD hS hA [0] rfl
  refine va_callv (va_runI (As := [.int k]) (rest := []) ⟨hx, hb, hml, hown, hts⟩ (c_X4_init_X0 l dC dI h0 s.heap.size k) (cwI 1 hts gX3_init_X4_init rfl rfl rfl (hts (.initialized RX4) (List.mem_of_getElem? (l := wsX3_init) (i := 3) rfl)) (hts (.methodLink RX3 3 yX4_init) (List.mem_of_getElem? (l := wsX3_init) (i := 1) rfl)) (hts (.instanceMethod yX4_init) (List.mem_of_getElem? (l := wsX3_init) (i := 2) rfl)) rfl (by decide +kernel) ⟨Nat.le_of_ble_eq_true rfl, Nat.le_of_ble_eq_true rfl⟩) ⟨fun a U g mk q => by obtain ⟨q0, q1, qP, qK, qD⟩ := q; exact ⟨q0, q1, qP, va_K.moved (u := U) (U := U.calling g mk a) (Vm.Alike.refl U.vm) qK, qD⟩, fun U hU hW => ⟨rfl, by rw [hU], by rw [hU]; exact hPc, va_K.moved hW.alike hKc, hDc.weaken (fun _ _ _ _ => trivial)⟩⟩ rfl rfl hl.1 rfl (lv_room (Nat.le_of_ble_eq_true rfl)) dX3_init_2 ⟨Nat.le_of_ble_eq_true rfl, Nat.le_of_ble_eq_true rfl⟩) hS (fun q _ h => hFc q h) hFc (fun u t H1 locs ht hvm hw hB hz1 hk1 hS => ?_)
  obtain ⟨gf_1, hP1, hK1, hD1⟩ := hB
  rw [ht] at hP1
  have hK1 := va_K.moved hvm.symm hK1
  obtain ⟨hP, hD⟩ := va_join (wr := []) (w1 := [(h0, .inr (0, gf_1))]) hP hD [0] [] rfl rfl (by decide) (by decide) hk1 hFc hP1 hD1
  have hK := (hK.sub (tys' := []) [] rfl).app hK1
  generalize H1 = H at hP hS ⊢
  have hP : va_P (dC, dI) vwCl [(h0, .inr (0, gf_1))] H := hP
  have hD : va_D A [(h0, .inr (0, gf_1))] := hD
  have hK : va_K (dC, dI) vwCl [] s := hK
  refine W.widen (k := 0) (n := 0) (by omega) (by omega) ?_
  have hP9 := hP.sub (ws' := [(h0, .inr (0, gf_1))]) [0] rfl
  have hD9 := hD.sub (ws' := [(h0, .inr (0, gf_1))]) [0] (by decide) rfl
  have hK9 := hK.sub (tys' := []) [] rfl
  exact W.vret hx hb hr (fun t ht hW => ⟨⟨(), rfl, trivial, _, by rw [ht]; exact hP9, va_K.moved hW.alike hK9, hD9⟩, hS.F ht⟩) hS.2.2 dX3_init_5
set_option maxHeartbeats 4000000 in
set_option maxRecDepth 100000 in
/-- X5_init of a X5 -/
theorem c_X5_init_X5 (l : Launch) (dC : Nat → ClassId) (dI : Nat → Nat → Nat) (h0 sz : Nat) (k : Int32) : Met l yX5_init wsX5_init ({ frames := 3, cells := 0, slots := 0, locals := 54 }) (va_Pc [.ref h0, .int k] (fun U => U.heap.size = sz ∧ va_P (dC, dI) vwCl [(h0, .inr (4, [.int 0]))] U.heap ∧ va_K (dC, dI) vwCl [] U ∧ va_D (fun _ => True) [(h0, .inr (4, [.int 0]))])) (va_Qv (fun _ : Unit => True) (fun _ t => ∃ fs : List Value, va_P (dC, dI) vwCl [(h0, .inr (4, fs))] t.heap ∧ va_K (dC, dI) vwCl [] t ∧ va_D (va_A [(h0, .inr (4, [.int 0]))] sz) [(h0, .inr (4, fs))]) (va_A [(h0, .inr (4, [.int 0]))] sz)) 0 0 (va_A [(h0, .inr (4, [.int 0]))] sz) := by
  refine Met.ofW (cc := cX5_init) (maxL := 2) (ret := none) (by decide) rfl ?_
  intro p e s m args below meth c s₁ B hml hv
  obtain ⟨rfl, hsz, hP, hK, hD0⟩ := hv
  have hx := B.exec
  have hb := B.bytes
  have hr := B.returns
  have hts := atoms_spec (ws := wsX5_init) B.pre
  have hown : s.vm.findClass RX5 = some m.cls := findClass_of_methodNamed B.named
  have hlocks := B.notSynchronized
  have hin : meth.name = "<init>" := (name_of_methodNamed B.named B.method).1
  subst hsz
  have hD := hD0.self (sz := s.heap.size)
  generalize hAe : va_A [(h0, .inr (4, [.int 0]))] s.heap.size = A at hD ⊢
  have hA : ∀ q : Nat, s.heap.size ≤ q → A q := fun q h => by rw [← hAe]; exact Or.inr h
  have hS : va_S A s.heap s.heap [] := va_S.rf
  have hP : va_P (dC, dI) vwCl [(h0, .inr (4, [.int 0]))] s.heap := hP
  have hl := lv_entry ([.ref h0, .int k]) (n := 2) (Nat.le_of_ble_eq_true rfl)
  rw [lg_entry_eq]
  generalize (lg_sl ([.ref h0, .int k]) ++ List.replicate (2 - (lg_sl ([.ref h0, .int k])).length) Slot.unset).toArray = ls at hl ⊢
  have hl : lv_has ls 2 [(0, .ref h0), (1, .int k)] := hl
  refine lv_aload_n hx hb dX5_init_0 rfl (lv_at hl 0 rfl) ?_
  refine lv_iload_n hx hb dX5_init_1 rfl (lv_at hl 1 rfl) ?_
  have hPc := hP.sub (ws' := [(h0, .inr (4, [.int 0]))]) [0] rfl
  have hDc := hD.sub (ws' := [(h0, .inr (4, [.int 0]))]) [0] (by decide) rfl
  have hKc := hK.sub (tys' := []) [] rfl
  have hFc := va_free (wc := [(h0, .inr (4, [.int 0]))]) hD hS hA [0] rfl
  refine va_callv (va_runI (As := [.int k]) (rest := []) ⟨hx, hb, hml, hown, hts⟩ (c_X3_init_X5 l dC dI h0 s.heap.size k) (cwI 1 hts gX5_init_X3_init rfl rfl rfl (hts (.initialized RX3) (List.mem_of_getElem? (l := wsX5_init) (i := 3) rfl)) (hts (.methodLink RX5 3 yX3_init) (List.mem_of_getElem? (l := wsX5_init) (i := 1) rfl)) (hts (.instanceMethod yX3_init) (List.mem_of_getElem? (l := wsX5_init) (i := 2) rfl)) rfl (by decide +kernel) ⟨Nat.le_of_ble_eq_true rfl, Nat.le_of_ble_eq_true rfl⟩) ⟨fun a U g mk q => by obtain ⟨q0, q1, qP, qK, qD⟩ := q; exact ⟨q0, q1, qP, va_K.moved (u := U) (U := U.calling g mk a) (Vm.Alike.refl U.vm) qK, qD⟩, fun U hU hW => ⟨rfl, by rw [hU], by rw [hU]; exact hPc, va_K.moved hW.alike hKc, hDc.weaken (fun _ _ _ _ => trivial)⟩⟩ rfl rfl hl.1 rfl (lv_room (Nat.le_of_ble_eq_true rfl)) dX5_init_2 ⟨Nat.le_of_ble_eq_true rfl, Nat.le_of_ble_eq_true rfl⟩) hS (fun q _ h => hFc q h) hFc (fun u t H1 locs ht hvm hw hB hz1 hk1 hS => ?_)
  obtain ⟨gf_1, hP1, hK1, hD1⟩ := hB
  rw [ht] at hP1
  have hK1 := va_K.moved hvm.symm hK1
  obtain ⟨hP, hD⟩ := va_join (wr := []) (w1 := [(h0, .inr (4, gf_1))]) hP hD [0] [] rfl rfl (by decide) (by decide) hk1 hFc hP1 hD1
  have hK := (hK.sub (tys' := []) [] rfl).app hK1
  generalize H1 = H at hP hS ⊢
  have hP : va_P (dC, dI) vwCl [(h0, .inr (4, gf_1))] H := hP
  have hD : va_D A [(h0, .inr (4, gf_1))] := hD
  have hK : va_K (dC, dI) vwCl [] s := hK
  refine W.widen (k := 0) (n := 0) (by omega) (by omega) ?_
  have hP9 := hP.sub (ws' := [(h0, .inr (4, gf_1))]) [0] rfl
  have hD9 := hD.sub (ws' := [(h0, .inr (4, gf_1))]) [0] (by decide) rfl
  have hK9 := hK.sub (tys' := []) [] rfl
  exact W.vret hx hb hr (fun t ht hW => ⟨⟨(), rfl, trivial, _, by rw [ht]; exact hP9, va_K.moved hW.alike hK9, hD9⟩, hS.F ht⟩) hS.2.2 dX5_init_5
set_option maxHeartbeats 4000000 in
set_option maxRecDepth 100000 in
/-- X5_init of a X0 -/
theorem c_X5_init_X0 (l : Launch) (dC : Nat → ClassId) (dI : Nat → Nat → Nat) (h0 sz : Nat) (k : Int32) : Met l yX5_init wsX5_init ({ frames := 3, cells := 0, slots := 0, locals := 54 }) (va_Pc [.ref h0, .int k] (fun U => U.heap.size = sz ∧ va_P (dC, dI) vwCl [(h0, .inr (0, [.int 0]))] U.heap ∧ va_K (dC, dI) vwCl [] U ∧ va_D (fun _ => True) [(h0, .inr (0, [.int 0]))])) (va_Qv (fun _ : Unit => True) (fun _ t => ∃ fs : List Value, va_P (dC, dI) vwCl [(h0, .inr (0, fs))] t.heap ∧ va_K (dC, dI) vwCl [] t ∧ va_D (va_A [(h0, .inr (0, [.int 0]))] sz) [(h0, .inr (0, fs))]) (va_A [(h0, .inr (0, [.int 0]))] sz)) 0 0 (va_A [(h0, .inr (0, [.int 0]))] sz) := by
  refine Met.ofW (cc := cX5_init) (maxL := 2) (ret := none) (by decide) rfl ?_
  intro p e s m args below meth c s₁ B hml hv
  obtain ⟨rfl, hsz, hP, hK, hD0⟩ := hv
  have hx := B.exec
  have hb := B.bytes
  have hr := B.returns
  have hts := atoms_spec (ws := wsX5_init) B.pre
  have hown : s.vm.findClass RX5 = some m.cls := findClass_of_methodNamed B.named
  have hlocks := B.notSynchronized
  have hin : meth.name = "<init>" := (name_of_methodNamed B.named B.method).1
  subst hsz
  have hD := hD0.self (sz := s.heap.size)
  generalize hAe : va_A [(h0, .inr (0, [.int 0]))] s.heap.size = A at hD ⊢
  have hA : ∀ q : Nat, s.heap.size ≤ q → A q := fun q h => by rw [← hAe]; exact Or.inr h
  have hS : va_S A s.heap s.heap [] := va_S.rf
  have hP : va_P (dC, dI) vwCl [(h0, .inr (0, [.int 0]))] s.heap := hP
  have hl := lv_entry ([.ref h0, .int k]) (n := 2) (Nat.le_of_ble_eq_true rfl)
  rw [lg_entry_eq]
  generalize (lg_sl ([.ref h0, .int k]) ++ List.replicate (2 - (lg_sl ([.ref h0, .int k])).length) Slot.unset).toArray = ls at hl ⊢
  have hl : lv_has ls 2 [(0, .ref h0), (1, .int k)] := hl
  refine lv_aload_n hx hb dX5_init_0 rfl (lv_at hl 0 rfl) ?_
  refine lv_iload_n hx hb dX5_init_1 rfl (lv_at hl 1 rfl) ?_
  have hPc := hP.sub (ws' := [(h0, .inr (0, [.int 0]))]) [0] rfl
  have hDc := hD.sub (ws' := [(h0, .inr (0, [.int 0]))]) [0] (by decide) rfl
  have hKc := hK.sub (tys' := []) [] rfl
  have hFc := va_free (wc := [(h0, .inr (0, [.int 0]))]) hD hS hA [0] rfl
  refine va_callv (va_runI (As := [.int k]) (rest := []) ⟨hx, hb, hml, hown, hts⟩ (c_X3_init_X0 l dC dI h0 s.heap.size k) (cwI 1 hts gX5_init_X3_init rfl rfl rfl (hts (.initialized RX3) (List.mem_of_getElem? (l := wsX5_init) (i := 3) rfl)) (hts (.methodLink RX5 3 yX3_init) (List.mem_of_getElem? (l := wsX5_init) (i := 1) rfl)) (hts (.instanceMethod yX3_init) (List.mem_of_getElem? (l := wsX5_init) (i := 2) rfl)) rfl (by decide +kernel) ⟨Nat.le_of_ble_eq_true rfl, Nat.le_of_ble_eq_true rfl⟩) ⟨fun a U g mk q => by obtain ⟨q0, q1, qP, qK, qD⟩ := q; exact ⟨q0, q1, qP, va_K.moved (u := U) (U := U.calling g mk a) (Vm.Alike.refl U.vm) qK, qD⟩, fun U hU hW => ⟨rfl, by rw [hU], by rw [hU]; exact hPc, va_K.moved hW.alike hKc, hDc.weaken (fun _ _ _ _ => trivial)⟩⟩ rfl rfl hl.1 rfl (lv_room (Nat.le_of_ble_eq_true rfl)) dX5_init_2 ⟨Nat.le_of_ble_eq_true rfl, Nat.le_of_ble_eq_true rfl⟩) hS (fun q _ h => hFc q h) hFc (fun u t H1 locs ht hvm hw hB hz1 hk1 hS => ?_)
  obtain ⟨gf_1, hP1, hK1, hD1⟩ := hB
  rw [ht] at hP1
  have hK1 := va_K.moved hvm.symm hK1
  obtain ⟨hP, hD⟩ := va_join (wr := []) (w1 := [(h0, .inr (0, gf_1))]) hP hD [0] [] rfl rfl (by decide) (by decide) hk1 hFc hP1 hD1
  have hK := (hK.sub (tys' := []) [] rfl).app hK1
  generalize H1 = H at hP hS ⊢
  have hP : va_P (dC, dI) vwCl [(h0, .inr (0, gf_1))] H := hP
  have hD : va_D A [(h0, .inr (0, gf_1))] := hD
  have hK : va_K (dC, dI) vwCl [] s := hK
  refine W.widen (k := 0) (n := 0) (by omega) (by omega) ?_
  have hP9 := hP.sub (ws' := [(h0, .inr (0, gf_1))]) [0] rfl
  have hD9 := hD.sub (ws' := [(h0, .inr (0, gf_1))]) [0] (by decide) rfl
  have hK9 := hK.sub (tys' := []) [] rfl
  exact W.vret hx hb hr (fun t ht hW => ⟨⟨(), rfl, trivial, _, by rw [ht]; exact hP9, va_K.moved hW.alike hK9, hD9⟩, hS.F ht⟩) hS.2.2 dX5_init_5
set_option maxHeartbeats 4000000 in
set_option maxRecDepth 100000 in
/-- X10_init of a X10 -/
theorem c_X10_init_X10 (l : Launch) (dC : Nat → ClassId) (dI : Nat → Nat → Nat) (h0 sz : Nat) : Met l yX10_init wsX10_init ({ frames := 3, cells := 0, slots := 0, locals := 54 }) (va_Pc [.ref h0] (fun U => U.heap.size = sz ∧ va_P (dC, dI) vwCl [(h0, .inr (9, [.int 0]))] U.heap ∧ va_K (dC, dI) vwCl [] U ∧ va_D (fun _ => True) [(h0, .inr (9, [.int 0]))])) (va_Qv (fun _ : Unit => True) (fun _ t => ∃ fs : List Value, va_P (dC, dI) vwCl [(h0, .inr (9, fs))] t.heap ∧ va_K (dC, dI) vwCl [] t ∧ va_D (va_A [(h0, .inr (9, [.int 0]))] sz) [(h0, .inr (9, fs))]) (va_A [(h0, .inr (9, [.int 0]))] sz)) 0 0 (va_A [(h0, .inr (9, [.int 0]))] sz) := by
  refine Met.ofW (cc := cX10_init) (maxL := 1) (ret := none) (by decide) rfl ?_
  intro p e s m args below meth c s₁ B hml hv
  obtain ⟨rfl, hsz, hP, hK, hD0⟩ := hv
  have hx := B.exec
  have hb := B.bytes
  have hr := B.returns
  have hts := atoms_spec (ws := wsX10_init) B.pre
  have hown : s.vm.findClass RX10 = some m.cls := findClass_of_methodNamed B.named
  have hlocks := B.notSynchronized
  have hin : meth.name = "<init>" := (name_of_methodNamed B.named B.method).1
  subst hsz
  have hD := hD0.self (sz := s.heap.size)
  generalize hAe : va_A [(h0, .inr (9, [.int 0]))] s.heap.size = A at hD ⊢
  have hA : ∀ q : Nat, s.heap.size ≤ q → A q := fun q h => by rw [← hAe]; exact Or.inr h
  have hS : va_S A s.heap s.heap [] := va_S.rf
  have hP : va_P (dC, dI) vwCl [(h0, .inr (9, [.int 0]))] s.heap := hP
  have hl := lv_entry ([.ref h0]) (n := 1) (Nat.le_of_ble_eq_true rfl)
  rw [lg_entry_eq]
  generalize (lg_sl ([.ref h0]) ++ List.replicate (1 - (lg_sl ([.ref h0])).length) Slot.unset).toArray = ls at hl ⊢
  have hl : lv_has ls 1 [(0, .ref h0)] := hl
  refine lv_aload_n hx hb dX10_init_0 rfl (lv_at hl 0 rfl) ?_
  refine lv_iconst (v := 2) hx hb dX10_init_1 (by decide) ?_
  have hPc := hP.sub (ws' := [(h0, .inr (9, [.int 0]))]) [0] rfl
  have hDc := hD.sub (ws' := [(h0, .inr (9, [.int 0]))]) [0] (by decide) rfl
  have hKc := hK.sub (tys' := []) [] rfl
  have hFc := va_free (wc := [(h0, .inr (9, [.int 0]))]) hD hS hA [0] rfl
  refine va_callv (va_runI (As := [.int 2]) (rest := []) ⟨hx, hb, hml, hown, hts⟩ (c_X3_init_X10 l dC dI h0 s.heap.size 2) (cwI 1 hts gX10_init_X3_init rfl rfl rfl (hts (.initialized RX3) (List.mem_of_getElem? (l := wsX10_init) (i := 3) rfl)) (hts (.methodLink RX10 3 yX3_init) (List.mem_of_getElem? (l := wsX10_init) (i := 1) rfl)) (hts (.instanceMethod yX3_init) (List.mem_of_getElem? (l := wsX10_init) (i := 2) rfl)) rfl (by decide +kernel) ⟨Nat.le_of_ble_eq_true rfl, Nat.le_of_ble_eq_true rfl⟩) ⟨fun a U g mk q => by obtain ⟨q0, q1, qP, qK, qD⟩ := q; exact ⟨q0, q1, qP, va_K.moved (u := U) (U := U.calling g mk a) (Vm.Alike.refl U.vm) qK, qD⟩, fun U hU hW => ⟨rfl, by rw [hU], by rw [hU]; exact hPc, va_K.moved hW.alike hKc, hDc.weaken (fun _ _ _ _ => trivial)⟩⟩ rfl rfl hl.1 rfl (lv_room (Nat.le_of_ble_eq_true rfl)) dX10_init_2 ⟨Nat.le_of_ble_eq_true rfl, Nat.le_of_ble_eq_true rfl⟩) hS (fun q _ h => hFc q h) hFc (fun u t H1 locs ht hvm hw hB hz1 hk1 hS => ?_)
  obtain ⟨gf_1, hP1, hK1, hD1⟩ := hB
  rw [ht] at hP1
  have hK1 := va_K.moved hvm.symm hK1
  obtain ⟨hP, hD⟩ := va_join (wr := []) (w1 := [(h0, .inr (9, gf_1))]) hP hD [0] [] rfl rfl (by decide) (by decide) hk1 hFc hP1 hD1
  have hK := (hK.sub (tys' := []) [] rfl).app hK1
  generalize H1 = H at hP hS ⊢
  have hP : va_P (dC, dI) vwCl [(h0, .inr (9, gf_1))] H := hP
  have hD : va_D A [(h0, .inr (9, gf_1))] := hD
  have hK : va_K (dC, dI) vwCl [] s := hK
  refine W.widen (k := 0) (n := 0) (by omega) (by omega) ?_
  have hP9 := hP.sub (ws' := [(h0, .inr (9, gf_1))]) [0] rfl
  have hD9 := hD.sub (ws' := [(h0, .inr (9, gf_1))]) [0] (by decide) rfl
  have hK9 := hK.sub (tys' := []) [] rfl
  exact W.vret hx hb hr (fun t ht hW => ⟨⟨(), rfl, trivial, _, by rw [ht]; exact hP9, va_K.moved hW.alike hK9, hD9⟩, hS.F ht⟩) hS.2.2 dX10_init_5
set_option maxHeartbeats 4000000 in
set_option maxRecDepth 100000 in
/-- X0_init of a X0 -/
theorem c_X0_init_X0 (l : Launch) (dC : Nat → ClassId) (dI : Nat → Nat → Nat) (h0 sz : Nat) : Met l yX0_init wsX0_init ({ frames := 4, cells := 0, slots := 0, locals := 75 }) (va_Pc [.ref h0] (fun U => U.heap.size = sz ∧ va_P (dC, dI) vwCl [(h0, .inr (0, [.int 0]))] U.heap ∧ va_K (dC, dI) vwCl [] U ∧ va_D (fun _ => True) [(h0, .inr (0, [.int 0]))])) (va_Qv (fun _ : Unit => True) (fun _ t => ∃ fs : List Value, va_P (dC, dI) vwCl [(h0, .inr (0, fs))] t.heap ∧ va_K (dC, dI) vwCl [] t ∧ va_D (va_A [(h0, .inr (0, [.int 0]))] sz) [(h0, .inr (0, fs))]) (va_A [(h0, .inr (0, [.int 0]))] sz)) 0 0 (va_A [(h0, .inr (0, [.int 0]))] sz) := by
  refine Met.ofW (cc := cX0_init) (maxL := 1) (ret := none) (by decide) rfl ?_
  intro p e s m args below meth c s₁ B hml hv
  obtain ⟨rfl, hsz, hP, hK, hD0⟩ := hv
  have hx := B.exec
  have hb := B.bytes
  have hr := B.returns
  have hts := atoms_spec (ws := wsX0_init) B.pre
  have hown : s.vm.findClass RX0 = some m.cls := findClass_of_methodNamed B.named
  have hlocks := B.notSynchronized
  have hin : meth.name = "<init>" := (name_of_methodNamed B.named B.method).1
  subst hsz
  have hD := hD0.self (sz := s.heap.size)
  generalize hAe : va_A [(h0, .inr (0, [.int 0]))] s.heap.size = A at hD ⊢
  have hA : ∀ q : Nat, s.heap.size ≤ q → A q := fun q h => by rw [← hAe]; exact Or.inr h
  have hS : va_S A s.heap s.heap [] := va_S.rf
  have hP : va_P (dC, dI) vwCl [(h0, .inr (0, [.int 0]))] s.heap := hP
  have hl := lv_entry ([.ref h0]) (n := 1) (Nat.le_of_ble_eq_true rfl)
  rw [lg_entry_eq]
  generalize (lg_sl ([.ref h0]) ++ List.replicate (1 - (lg_sl ([.ref h0])).length) Slot.unset).toArray = ls at hl ⊢
  have hl : lv_has ls 1 [(0, .ref h0)] := hl
  refine lv_aload_n hx hb dX0_init_0 rfl (lv_at hl 0 rfl) ?_
  refine lv_iconst (v := 3) hx hb dX0_init_1 (by decide) ?_
  have hPc := hP.sub (ws' := [(h0, .inr (0, [.int 0]))]) [0] rfl
  have hDc := hD.sub (ws' := [(h0, .inr (0, [.int 0]))]) [0] (by decide) rfl
  have hKc := hK.sub (tys' := []) [] rfl
  have hFc := va_free (wc := [(h0, .inr (0, [.int 0]))]) hD hS hA [0] rfl
  refine va_callv (va_runI (As := [.int 3]) (rest := []) ⟨hx, hb, hml, hown, hts⟩ (c_X5_init_X0 l dC dI h0 s.heap.size 3) (cwI 1 hts gX0_init_X5_init rfl rfl rfl (hts (.initialized RX5) (List.mem_of_getElem? (l := wsX0_init) (i := 3) rfl)) (hts (.methodLink RX0 3 yX5_init) (List.mem_of_getElem? (l := wsX0_init) (i := 1) rfl)) (hts (.instanceMethod yX5_init) (List.mem_of_getElem? (l := wsX0_init) (i := 2) rfl)) rfl (by decide +kernel) ⟨Nat.le_of_ble_eq_true rfl, Nat.le_of_ble_eq_true rfl⟩) ⟨fun a U g mk q => by obtain ⟨q0, q1, qP, qK, qD⟩ := q; exact ⟨q0, q1, qP, va_K.moved (u := U) (U := U.calling g mk a) (Vm.Alike.refl U.vm) qK, qD⟩, fun U hU hW => ⟨rfl, by rw [hU], by rw [hU]; exact hPc, va_K.moved hW.alike hKc, hDc.weaken (fun _ _ _ _ => trivial)⟩⟩ rfl rfl hl.1 rfl (lv_room (Nat.le_of_ble_eq_true rfl)) dX0_init_2 ⟨Nat.le_of_ble_eq_true rfl, Nat.le_of_ble_eq_true rfl⟩) hS (fun q _ h => hFc q h) hFc (fun u t H1 locs ht hvm hw hB hz1 hk1 hS => ?_)
  obtain ⟨gf_1, hP1, hK1, hD1⟩ := hB
  rw [ht] at hP1
  have hK1 := va_K.moved hvm.symm hK1
  obtain ⟨hP, hD⟩ := va_join (wr := []) (w1 := [(h0, .inr (0, gf_1))]) hP hD [0] [] rfl rfl (by decide) (by decide) hk1 hFc hP1 hD1
  have hK := (hK.sub (tys' := []) [] rfl).app hK1
  generalize H1 = H at hP hS ⊢
  have hP : va_P (dC, dI) vwCl [(h0, .inr (0, gf_1))] H := hP
  have hD : va_D A [(h0, .inr (0, gf_1))] := hD
  have hK : va_K (dC, dI) vwCl [] s := hK
  refine W.widen (k := 0) (n := 0) (by omega) (by omega) ?_
  have hP9 := hP.sub (ws' := [(h0, .inr (0, gf_1))]) [0] rfl
  have hD9 := hD.sub (ws' := [(h0, .inr (0, gf_1))]) [0] (by decide) rfl
  have hK9 := hK.sub (tys' := []) [] rfl
  exact W.vret hx hb hr (fun t ht hW => ⟨⟨(), rfl, trivial, _, by rw [ht]; exact hP9, va_K.moved hW.alike hK9, hD9⟩, hS.F ht⟩) hS.2.2 dX0_init_5
set_option maxHeartbeats 4000000 in
set_option maxRecDepth 100000 in
/-- newGame(kind): a new game of that kind (a FOLLOW for what is none) -/
theorem c_X11_newGame (l : Launch) (dC : Nat → ClassId) (dI : Nat → Nat → Nat) (sz : Nat) (k : Int32) : Met l yX11_newGame wsX11_newGame ({ frames := 5, cells := 1, slots := 1, locals := 95 }) (va_Pc [.int k] (fun U => U.heap.size = sz ∧ va_K (dC, dI) vwCl [] U)) (va_Qr (fun _ : Unit => True) (fun _ ra t => ∃ (ci : Nat) (fs : List Value), (ci = 0 ∨ ci = 3 ∨ ci = 4 ∨ ci = 9) ∧ va_P (dC, dI) vwCl [(ra, .inr (ci, fs))] t.heap ∧ va_D (va_A [] sz) [(ra, .inr (ci, fs))]) (va_A [] sz)) 1 1 (va_A [] sz) := by
  refine Met.ofW (cc := cX11_newGame) (maxL := 1) (ret := (some (.object "CardTables$Game"))) (by decide) rfl ?_
  intro p e s m args below meth c s₁ B hml hv
  obtain ⟨rfl, hsz, hK⟩ := hv
  have hx := B.exec
  have hb := B.bytes
  have hr := B.returns
  have hts := atoms_spec (ws := wsX11_newGame) B.pre
  have hown : s.vm.findClass RX11 = some m.cls := findClass_of_methodNamed B.named
  have hlocks := B.notSynchronized
  subst hsz
  generalize hAe : va_A [] s.heap.size = A
  have hA : ∀ q : Nat, s.heap.size ≤ q → A q := fun q h => by rw [← hAe]; exact Or.inr h
  have hP : va_P (dC, dI) vwCl [] s.heap := fun k q h => by simp at h
  have hD : va_D A [] := ⟨fun i j p q h => by simp at h, fun k q h => by simp at h⟩
  have hS : va_S A s.heap s.heap [] := va_S.rf
  have hl := lv_entry ([.int k]) (n := 1) (Nat.le_of_ble_eq_true rfl)
  rw [lg_entry_eq]
  generalize (lg_sl ([.int k]) ++ List.replicate (1 - (lg_sl ([.int k])).length) Slot.unset).toArray = ls at hl ⊢
  have hl : lv_has ls 1 [(0, .int k)] := hl
  refine lv_iload_n hx hb dX11_newGame_0 rfl (lv_at hl 0 rfl) ?_
  by_cases hs_1_0 : k = 1
  · subst hs_1_0
    refine lv_tableIn (off := 27) (tgt := 28) hx hb dX11_newGame_1 (by decide +kernel) (by decide +kernel) (by decide +kernel) (by decide) ?_
    refine va_new (ci := 4) (fs := [.int 0]) (C := RX5) (T := TX5) (N := 1) hx hb hts (by decide +kernel) tyX5 tyX5_ok hown (hts (.classLink RX11 324 RX5) (List.mem_of_getElem? (l := wsX11_newGame) (i := 1) rfl)) (hts (.instantiable RX5 1) (List.mem_of_getElem? (l := wsX11_newGame) (i := 2) rfl)) (hts (.initialized RX5) (List.mem_of_getElem? (l := wsX11_newGame) (i := 3) rfl)) hK hP hD hS hA rfl (fun j hj => by rcases (show j = 0 by omega) with rfl <;> rfl) (Nat.le_of_ble_eq_true rfl) (Nat.le_of_ble_eq_true rfl) dX11_newGame_28 (fun q_2 H hP hD hS => ?_)
    have hP : va_P (dC, dI) vwCl [(q_2, .inr (4, [.int 0]))] H := hP
    have hD : va_D A [(q_2, .inr (4, [.int 0]))] := hD
    refine W.widen (k := 1) (n := 1) (by omega) (by omega) ?_
    refine lv_dup hx hb dX11_newGame_31 rfl ?_
    refine lv_iconst (v := 1) hx hb dX11_newGame_32 (by decide) ?_
    have hPc := hP.sub (ws' := [(q_2, .inr (4, [.int 0]))]) [0] rfl
    have hDc := hD.sub (ws' := [(q_2, .inr (4, [.int 0]))]) [0] (by decide) rfl
    have hKc := hK.sub (tys' := []) [] rfl
    have hFc := va_free (wc := [(q_2, .inr (4, [.int 0]))]) hD hS hA [0] rfl
    refine va_callv (va_runI (As := [.int 1]) (rest := [.ref q_2]) ⟨hx, hb, hml, hown, hts⟩ (c_X5_init_X5 l dC dI q_2 H.size 1) (cwI 1 hts gX11_newGame_X5_init rfl rfl rfl (hts (.initialized RX5) (List.mem_of_getElem? (l := wsX11_newGame) (i := 3) rfl)) (hts (.methodLink RX11 326 yX5_init) (List.mem_of_getElem? (l := wsX11_newGame) (i := 13) rfl)) (hts (.instanceMethod yX5_init) (List.mem_of_getElem? (l := wsX11_newGame) (i := 14) rfl)) rfl (by decide +kernel) ⟨Nat.le_of_ble_eq_true rfl, Nat.le_of_ble_eq_true rfl⟩) ⟨fun a U g mk q => by obtain ⟨q0, q1, qP, qK, qD⟩ := q; exact ⟨q0, q1, qP, va_K.moved (u := U) (U := U.calling g mk a) (Vm.Alike.refl U.vm) qK, qD⟩, fun U hU hW => ⟨rfl, by rw [hU], by rw [hU]; exact hPc, va_K.moved hW.alike hKc, hDc.weaken (fun _ _ _ _ => trivial)⟩⟩ rfl rfl hl.1 rfl (lv_room (Nat.le_of_ble_eq_true rfl)) dX11_newGame_33 ⟨Nat.le_of_ble_eq_true rfl, Nat.le_of_ble_eq_true rfl⟩) hS (fun q _ h => hFc q h) hFc (fun u t H1 locs ht hvm hw hB hz1 hk1 hS => ?_)
    obtain ⟨gf_3, hP1, hK1, hD1⟩ := hB
    rw [ht] at hP1
    have hK1 := va_K.moved hvm.symm hK1
    obtain ⟨hP, hD⟩ := va_join (wr := []) (w1 := [(q_2, .inr (4, gf_3))]) hP hD [0] [] rfl rfl (by decide) (by decide) hk1 hFc hP1 hD1
    have hK := (hK.sub (tys' := []) [] rfl).app hK1
    generalize H1 = H at hP hS ⊢
    have hP : va_P (dC, dI) vwCl [(q_2, .inr (4, gf_3))] H := hP
    have hD : va_D A [(q_2, .inr (4, gf_3))] := hD
    have hK : va_K (dC, dI) vwCl [] s := hK
    refine W.widen (k := 1) (n := 1) (by omega) (by omega) ?_
    exact W.aret (v := .ref q_2) hx hb hr (Or.inl ⟨_, rfl⟩) (Or.inr ⟨_, rfl⟩) (fun t ht hW => ⟨⟨(), q_2, rfl, trivial, 4, _, by decide, by rw [ht]; exact hP, hD⟩, hS.F ht⟩) hS.2.2 dX11_newGame_36
  by_cases hs_1_1 : k = 2
  · subst hs_1_1
    refine lv_tableIn (off := 36) (tgt := 37) hx hb dX11_newGame_1 (by decide +kernel) (by decide +kernel) (by decide +kernel) (by decide) ?_
    refine va_new (ci := 9) (fs := [.int 0]) (C := RX10) (T := TX10) (N := 1) hx hb hts (by decide +kernel) tyX10 tyX10_ok hown (hts (.classLink RX11 327 RX10) (List.mem_of_getElem? (l := wsX11_newGame) (i := 4) rfl)) (hts (.instantiable RX10 1) (List.mem_of_getElem? (l := wsX11_newGame) (i := 5) rfl)) (hts (.initialized RX10) (List.mem_of_getElem? (l := wsX11_newGame) (i := 6) rfl)) hK hP hD hS hA rfl (fun j hj => by rcases (show j = 0 by omega) with rfl <;> rfl) (Nat.le_of_ble_eq_true rfl) (Nat.le_of_ble_eq_true rfl) dX11_newGame_37 (fun q_4 H hP hD hS => ?_)
    have hP : va_P (dC, dI) vwCl [(q_4, .inr (9, [.int 0]))] H := hP
    have hD : va_D A [(q_4, .inr (9, [.int 0]))] := hD
    refine W.widen (k := 1) (n := 1) (by omega) (by omega) ?_
    refine lv_dup hx hb dX11_newGame_40 rfl ?_
    have hPc := hP.sub (ws' := [(q_4, .inr (9, [.int 0]))]) [0] rfl
    have hDc := hD.sub (ws' := [(q_4, .inr (9, [.int 0]))]) [0] (by decide) rfl
    have hKc := hK.sub (tys' := []) [] rfl
    have hFc := va_free (wc := [(q_4, .inr (9, [.int 0]))]) hD hS hA [0] rfl
    refine va_callv (va_runI (As := []) (rest := [.ref q_4]) ⟨hx, hb, hml, hown, hts⟩ (c_X10_init_X10 l dC dI q_4 H.size ) (cwI 0 hts gX11_newGame_X10_init rfl rfl rfl (hts (.initialized RX10) (List.mem_of_getElem? (l := wsX11_newGame) (i := 6) rfl)) (hts (.methodLink RX11 329 yX10_init) (List.mem_of_getElem? (l := wsX11_newGame) (i := 27) rfl)) (hts (.instanceMethod yX10_init) (List.mem_of_getElem? (l := wsX11_newGame) (i := 28) rfl)) rfl (by decide +kernel) ⟨Nat.le_of_ble_eq_true rfl, Nat.le_of_ble_eq_true rfl⟩) ⟨fun a U g mk q => by obtain ⟨q0, q1, qP, qK, qD⟩ := q; exact ⟨q0, q1, qP, va_K.moved (u := U) (U := U.calling g mk a) (Vm.Alike.refl U.vm) qK, qD⟩, fun U hU hW => ⟨rfl, by rw [hU], by rw [hU]; exact hPc, va_K.moved hW.alike hKc, hDc.weaken (fun _ _ _ _ => trivial)⟩⟩ rfl rfl hl.1 rfl (lv_room (Nat.le_of_ble_eq_true rfl)) dX11_newGame_41 ⟨Nat.le_of_ble_eq_true rfl, Nat.le_of_ble_eq_true rfl⟩) hS (fun q _ h => hFc q h) hFc (fun u t H1 locs ht hvm hw hB hz1 hk1 hS => ?_)
    obtain ⟨gf_5, hP1, hK1, hD1⟩ := hB
    rw [ht] at hP1
    have hK1 := va_K.moved hvm.symm hK1
    obtain ⟨hP, hD⟩ := va_join (wr := []) (w1 := [(q_4, .inr (9, gf_5))]) hP hD [0] [] rfl rfl (by decide) (by decide) hk1 hFc hP1 hD1
    have hK := (hK.sub (tys' := []) [] rfl).app hK1
    generalize H1 = H at hP hS ⊢
    have hP : va_P (dC, dI) vwCl [(q_4, .inr (9, gf_5))] H := hP
    have hD : va_D A [(q_4, .inr (9, gf_5))] := hD
    have hK : va_K (dC, dI) vwCl [] s := hK
    refine W.widen (k := 1) (n := 1) (by omega) (by omega) ?_
    exact W.aret (v := .ref q_4) hx hb hr (Or.inl ⟨_, rfl⟩) (Or.inr ⟨_, rfl⟩) (fun t ht hW => ⟨⟨(), q_4, rfl, trivial, 9, _, by decide, by rw [ht]; exact hP, hD⟩, hS.F ht⟩) hS.2.2 dX11_newGame_44
  by_cases hs_1_2 : k = 3
  · subst hs_1_2
    refine lv_tableIn (off := 44) (tgt := 45) hx hb dX11_newGame_1 (by decide +kernel) (by decide +kernel) (by decide +kernel) (by decide) ?_
    refine va_new (ci := 0) (fs := [.int 0]) (C := RX0) (T := TX0) (N := 1) hx hb hts (by decide +kernel) tyX0 tyX0_ok hown (hts (.classLink RX11 330 RX0) (List.mem_of_getElem? (l := wsX11_newGame) (i := 7) rfl)) (hts (.instantiable RX0 1) (List.mem_of_getElem? (l := wsX11_newGame) (i := 8) rfl)) (hts (.initialized RX0) (List.mem_of_getElem? (l := wsX11_newGame) (i := 9) rfl)) hK hP hD hS hA rfl (fun j hj => by rcases (show j = 0 by omega) with rfl <;> rfl) (Nat.le_of_ble_eq_true rfl) (Nat.le_of_ble_eq_true rfl) dX11_newGame_45 (fun q_6 H hP hD hS => ?_)
    have hP : va_P (dC, dI) vwCl [(q_6, .inr (0, [.int 0]))] H := hP
    have hD : va_D A [(q_6, .inr (0, [.int 0]))] := hD
    refine W.widen (k := 1) (n := 1) (by omega) (by omega) ?_
    refine lv_dup hx hb dX11_newGame_48 rfl ?_
    have hPc := hP.sub (ws' := [(q_6, .inr (0, [.int 0]))]) [0] rfl
    have hDc := hD.sub (ws' := [(q_6, .inr (0, [.int 0]))]) [0] (by decide) rfl
    have hKc := hK.sub (tys' := []) [] rfl
    have hFc := va_free (wc := [(q_6, .inr (0, [.int 0]))]) hD hS hA [0] rfl
    refine va_callv (va_runI (As := []) (rest := [.ref q_6]) ⟨hx, hb, hml, hown, hts⟩ (c_X0_init_X0 l dC dI q_6 H.size ) (cwI 0 hts gX11_newGame_X0_init rfl rfl rfl (hts (.initialized RX0) (List.mem_of_getElem? (l := wsX11_newGame) (i := 9) rfl)) (hts (.methodLink RX11 332 yX0_init) (List.mem_of_getElem? (l := wsX11_newGame) (i := 31) rfl)) (hts (.instanceMethod yX0_init) (List.mem_of_getElem? (l := wsX11_newGame) (i := 32) rfl)) rfl (by decide +kernel) ⟨Nat.le_of_ble_eq_true rfl, Nat.le_of_ble_eq_true rfl⟩) ⟨fun a U g mk q => by obtain ⟨q0, q1, qP, qK, qD⟩ := q; exact ⟨q0, q1, qP, va_K.moved (u := U) (U := U.calling g mk a) (Vm.Alike.refl U.vm) qK, qD⟩, fun U hU hW => ⟨rfl, by rw [hU], by rw [hU]; exact hPc, va_K.moved hW.alike hKc, hDc.weaken (fun _ _ _ _ => trivial)⟩⟩ rfl rfl hl.1 rfl (lv_room (Nat.le_of_ble_eq_true rfl)) dX11_newGame_49 ⟨Nat.le_of_ble_eq_true rfl, Nat.le_of_ble_eq_true rfl⟩) hS (fun q _ h => hFc q h) hFc (fun u t H1 locs ht hvm hw hB hz1 hk1 hS => ?_)
    obtain ⟨gf_7, hP1, hK1, hD1⟩ := hB
    rw [ht] at hP1
    have hK1 := va_K.moved hvm.symm hK1
    obtain ⟨hP, hD⟩ := va_join (wr := []) (w1 := [(q_6, .inr (0, gf_7))]) hP hD [0] [] rfl rfl (by decide) (by decide) hk1 hFc hP1 hD1
    have hK := (hK.sub (tys' := []) [] rfl).app hK1
    generalize H1 = H at hP hS ⊢
    have hP : va_P (dC, dI) vwCl [(q_6, .inr (0, gf_7))] H := hP
    have hD : va_D A [(q_6, .inr (0, gf_7))] := hD
    have hK : va_K (dC, dI) vwCl [] s := hK
    refine W.widen (k := 1) (n := 1) (by omega) (by omega) ?_
    exact W.aret (v := .ref q_6) hx hb hr (Or.inl ⟨_, rfl⟩) (Or.inr ⟨_, rfl⟩) (fun t ht hW => ⟨⟨(), q_6, rfl, trivial, 0, _, by decide, by rw [ht]; exact hP, hD⟩, hS.F ht⟩) hS.2.2 dX11_newGame_52
  have ht_1_0 : ¬ k.toInt = 1 := fun h => hs_1_0 ((fa_eq _ _).mpr (h.trans (by decide +kernel)))
  have ht_1_1 : ¬ k.toInt = 2 := fun h => hs_1_1 ((fa_eq _ _).mpr (h.trans (by decide +kernel)))
  have ht_1_2 : ¬ k.toInt = 3 := fun h => hs_1_2 ((fa_eq _ _).mpr (h.trans (by decide +kernel)))
  refine lv_tableOut (tgt := 53) hx hb dX11_newGame_1 (by omega) (by decide) ?_
  refine va_new (ci := 3) (fs := [.int 0]) (C := RX3) (T := TX3) (N := 1) hx hb hts (by decide +kernel) tyX3 tyX3_ok hown (hts (.classLink RX11 68 RX3) (List.mem_of_getElem? (l := wsX11_newGame) (i := 10) rfl)) (hts (.instantiable RX3 1) (List.mem_of_getElem? (l := wsX11_newGame) (i := 11) rfl)) (hts (.initialized RX3) (List.mem_of_getElem? (l := wsX11_newGame) (i := 12) rfl)) hK hP hD hS hA rfl (fun j hj => by rcases (show j = 0 by omega) with rfl <;> rfl) (Nat.le_of_ble_eq_true rfl) (Nat.le_of_ble_eq_true rfl) dX11_newGame_53 (fun q_8 H hP hD hS => ?_)
  have hP : va_P (dC, dI) vwCl [(q_8, .inr (3, [.int 0]))] H := hP
  have hD : va_D A [(q_8, .inr (3, [.int 0]))] := hD
  refine W.widen (k := 1) (n := 1) (by omega) (by omega) ?_
  refine lv_dup hx hb dX11_newGame_56 rfl ?_
  refine lv_iconst (v := 0) hx hb dX11_newGame_57 (by decide) ?_
  have hPc := hP.sub (ws' := [(q_8, .inr (3, [.int 0]))]) [0] rfl
  have hDc := hD.sub (ws' := [(q_8, .inr (3, [.int 0]))]) [0] (by decide) rfl
  have hKc := hK.sub (tys' := []) [] rfl
  have hFc := va_free (wc := [(q_8, .inr (3, [.int 0]))]) hD hS hA [0] rfl
  refine va_callv (va_runI (As := [.int 0]) (rest := [.ref q_8]) ⟨hx, hb, hml, hown, hts⟩ (c_X3_init_X3 l dC dI q_8 H.size 0) (cwI 1 hts gX11_newGame_X3_init rfl rfl rfl (hts (.initialized RX3) (List.mem_of_getElem? (l := wsX11_newGame) (i := 12) rfl)) (hts (.methodLink RX11 333 yX3_init) (List.mem_of_getElem? (l := wsX11_newGame) (i := 35) rfl)) (hts (.instanceMethod yX3_init) (List.mem_of_getElem? (l := wsX11_newGame) (i := 17) rfl)) rfl (by decide +kernel) ⟨Nat.le_of_ble_eq_true rfl, Nat.le_of_ble_eq_true rfl⟩) ⟨fun a U g mk q => by obtain ⟨q0, q1, qP, qK, qD⟩ := q; exact ⟨q0, q1, qP, va_K.moved (u := U) (U := U.calling g mk a) (Vm.Alike.refl U.vm) qK, qD⟩, fun U hU hW => ⟨rfl, by rw [hU], by rw [hU]; exact hPc, va_K.moved hW.alike hKc, hDc.weaken (fun _ _ _ _ => trivial)⟩⟩ rfl rfl hl.1 rfl (lv_room (Nat.le_of_ble_eq_true rfl)) dX11_newGame_58 ⟨Nat.le_of_ble_eq_true rfl, Nat.le_of_ble_eq_true rfl⟩) hS (fun q _ h => hFc q h) hFc (fun u t H1 locs ht hvm hw hB hz1 hk1 hS => ?_)
  obtain ⟨gf_9, hP1, hK1, hD1⟩ := hB
  rw [ht] at hP1
  have hK1 := va_K.moved hvm.symm hK1
  obtain ⟨hP, hD⟩ := va_join (wr := []) (w1 := [(q_8, .inr (3, gf_9))]) hP hD [0] [] rfl rfl (by decide) (by decide) hk1 hFc hP1 hD1
  have hK := (hK.sub (tys' := []) [] rfl).app hK1
  generalize H1 = H at hP hS ⊢
  have hP : va_P (dC, dI) vwCl [(q_8, .inr (3, gf_9))] H := hP
  have hD : va_D A [(q_8, .inr (3, gf_9))] := hD
  have hK : va_K (dC, dI) vwCl [] s := hK
  refine W.widen (k := 1) (n := 1) (by omega) (by omega) ?_
  exact W.aret (v := .ref q_8) hx hb hr (Or.inl ⟨_, rfl⟩) (Or.inr ⟨_, rfl⟩) (fun t ht hW => ⟨⟨(), q_8, rfl, trivial, 3, _, by decide, by rw [ht]; exact hP, hD⟩, hS.F ht⟩) hS.2.2 dX11_newGame_61
