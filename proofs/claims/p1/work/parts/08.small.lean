def vsX11_isGame : List Cond := .code yX11_isGame cX11_isGame 1 (some .boolean) :: ([] ++ [])
set_option maxRecDepth 100000 in
theorem gl_X11_isGame : GoodIn lw_tbl vsX11_isGame := gi_t 331 rfl rfl (goodIn_app gi_nil gi_nil)
set_option maxHeartbeats 4000000 in
set_option maxRecDepth 100000 in
theorem c_X11_isGame (l : Launch) (dC : Nat → ClassId) (dI : Nat → Nat → Nat) (g : Int32) : Met l yX11_isGame vsX11_isGame ({ frames := 0, cells := 0, slots := 0, locals := 0 }) (va_Pc [.int g] (fun _ => True)) (vp_Si (fun r => (r = 1 ∧ (0 : Int32).toInt ≤ g.toInt ∧ g.toInt ≤ (5 : Int32).toInt) ∨ (r = 0 ∧ (g.toInt < (0 : Int32).toInt ∨ (5 : Int32).toInt < g.toInt)))) 0 0 (fun _ => False) := by
  refine Met.ofW (cc := cX11_isGame) (maxL := 1) (ret := (some .boolean)) (by decide) rfl ?_
  intro p e s m args below meth c s₁ B hml hv
  obtain ⟨rfl, -⟩ := hv
  have hx := B.exec
  have hb := B.bytes
  have hr := B.returns
  have hts := atoms_spec (ws := vsX11_isGame) B.pre
  have hown : s.vm.findClass RX11 = some m.cls := findClass_of_methodNamed B.named
  have hlocks := B.notSynchronized
  have hl := lv_entry ([.int g]) (n := 1) (Nat.le_of_ble_eq_true rfl)
  rw [lg_entry_eq]
  generalize (lg_sl ([.int g]) ++ List.replicate (1 - (lg_sl ([.int g])).length) Slot.unset).toArray = ls at hl ⊢
  have hl : lv_has ls 1 [(0, .int g)] := hl
  refine lv_iload_n hx hb dX11_isGame_0 rfl (lv_at hl 0 rfl) ?_
  refine lv_if_lt (tgt := 14) hx hb dX11_isGame_1 (by decide) (fun c_1 => ?_) (fun c_1 => ?_)
  · skip
    refine lv_iconst (v := 0) hx hb dX11_isGame_14 (by decide) ?_
    exact W.zret (v := 0) hx hb hr (by decide +kernel) (fun t ht hW => ⟨0, rfl, (by simp only [fa_lt, fa_le, ti_m1, ti_0, ti_1, ti_2, ti_3, ti_4, ti_5, ti_6, ti_60] at c_1; exact Or.inr ⟨rfl, by first | omega | (simp only [ti_m1, ti_0, ti_1, ti_2, ti_3, ti_4, ti_5, ti_6, ti_60]; omega)⟩), ht⟩) (fun q h => by cases h) dX11_isGame_15
  · skip
    refine lv_iload_n hx hb dX11_isGame_4 rfl (lv_at hl 0 rfl) ?_
    refine lv_bipush (v := 6) hx hb dX11_isGame_5 (by decide) ?_
    refine lv_icmp_ge (tgt := 14) hx hb dX11_isGame_7 (by decide) (fun c_2 => ?_) (fun c_2 => ?_)
    · skip
      refine lv_iconst (v := 0) hx hb dX11_isGame_14 (by decide) ?_
      exact W.zret (v := 0) hx hb hr (by decide +kernel) (fun t ht hW => ⟨0, rfl, (by simp only [fa_lt, fa_le, ti_m1, ti_0, ti_1, ti_2, ti_3, ti_4, ti_5, ti_6, ti_60] at c_1 c_2; exact Or.inr ⟨rfl, by first | omega | (simp only [ti_m1, ti_0, ti_1, ti_2, ti_3, ti_4, ti_5, ti_6, ti_60]; omega)⟩), ht⟩) (fun q h => by cases h) dX11_isGame_15
    · skip
      refine lv_iconst (v := 1) hx hb dX11_isGame_10 (by decide) ?_
      refine lv_goto (tgt := 15) hx hb dX11_isGame_11 (by decide) ?_
      exact W.zret (v := 1) hx hb hr (by decide +kernel) (fun t ht hW => ⟨1, rfl, (by simp only [fa_lt, fa_le, ti_m1, ti_0, ti_1, ti_2, ti_3, ti_4, ti_5, ti_6, ti_60] at c_1 c_2; exact Or.inl ⟨rfl, by first | omega | (simp only [ti_m1, ti_0, ti_1, ti_2, ti_3, ti_4, ti_5, ti_6, ti_60]; omega), by first | omega | (simp only [ti_m1, ti_0, ti_1, ti_2, ti_3, ti_4, ti_5, ti_6, ti_60]; omega)⟩), ht⟩) (fun q h => by cases h) dX11_isGame_15
def vsX12_in : List Cond := .code yX12_in cX12_in 3 (some .boolean) :: ([] ++ [])
set_option maxRecDepth 100000 in
theorem gl_X12_in : GoodIn lw_tbl vsX12_in := gi_t 1133 rfl rfl (goodIn_app gi_nil gi_nil)
set_option maxHeartbeats 4000000 in
set_option maxRecDepth 100000 in
theorem c_X12_in (l : Launch) (dC : Nat → ClassId) (dI : Nat → Nat → Nat) (v : Int32) (lo : Int32) (hi : Int32) : Met l yX12_in vsX12_in ({ frames := 0, cells := 0, slots := 0, locals := 0 }) (va_Pc [.int v, .int lo, .int hi] (fun _ => True)) (vp_Si (fun r => (r = 1 ∧ lo.toInt ≤ v.toInt ∧ v.toInt ≤ hi.toInt) ∨ (r = 0 ∧ (v.toInt < lo.toInt ∨ hi.toInt < v.toInt)))) 0 0 (fun _ => False) := by
  refine Met.ofW (cc := cX12_in) (maxL := 3) (ret := (some .boolean)) (by decide) rfl ?_
  intro p e s m args below meth c s₁ B hml hv
  obtain ⟨rfl, -⟩ := hv
  have hx := B.exec
  have hb := B.bytes
  have hr := B.returns
  have hts := atoms_spec (ws := vsX12_in) B.pre
  have hown : s.vm.findClass RX12 = some m.cls := findClass_of_methodNamed B.named
  have hlocks := B.notSynchronized
  have hl := lv_entry ([.int v, .int lo, .int hi]) (n := 3) (Nat.le_of_ble_eq_true rfl)
  rw [lg_entry_eq]
  generalize (lg_sl ([.int v, .int lo, .int hi]) ++ List.replicate (3 - (lg_sl ([.int v, .int lo, .int hi])).length) Slot.unset).toArray = ls at hl ⊢
  have hl : lv_has ls 3 [(0, .int v), (1, .int lo), (2, .int hi)] := hl
  refine lv_iload_n hx hb dX12_in_0 rfl (lv_at hl 0 rfl) ?_
  refine lv_iload_n hx hb dX12_in_1 rfl (lv_at hl 1 rfl) ?_
  refine lv_icmp_lt (tgt := 14) hx hb dX12_in_2 (by decide) (fun c_1 => ?_) (fun c_1 => ?_)
  · skip
    refine lv_iconst (v := 0) hx hb dX12_in_14 (by decide) ?_
    exact W.zret (v := 0) hx hb hr (by decide +kernel) (fun t ht hW => ⟨0, rfl, (by simp only [fa_lt, fa_le, ti_m1, ti_0, ti_1, ti_2, ti_3, ti_4, ti_5, ti_6, ti_60] at c_1; exact Or.inr ⟨rfl, by first | omega | (simp only [ti_m1, ti_0, ti_1, ti_2, ti_3, ti_4, ti_5, ti_6, ti_60]; omega)⟩), ht⟩) (fun q h => by cases h) dX12_in_15
  · skip
    refine lv_iload_n hx hb dX12_in_5 rfl (lv_at hl 0 rfl) ?_
    refine lv_iload_n hx hb dX12_in_6 rfl (lv_at hl 2 rfl) ?_
    refine lv_icmp_gt (tgt := 14) hx hb dX12_in_7 (by decide) (fun c_2 => ?_) (fun c_2 => ?_)
    · skip
      refine lv_iconst (v := 0) hx hb dX12_in_14 (by decide) ?_
      exact W.zret (v := 0) hx hb hr (by decide +kernel) (fun t ht hW => ⟨0, rfl, (by simp only [fa_lt, fa_le, ti_m1, ti_0, ti_1, ti_2, ti_3, ti_4, ti_5, ti_6, ti_60] at c_1 c_2; exact Or.inr ⟨rfl, by first | omega | (simp only [ti_m1, ti_0, ti_1, ti_2, ti_3, ti_4, ti_5, ti_6, ti_60]; omega)⟩), ht⟩) (fun q h => by cases h) dX12_in_15
    · skip
      refine lv_iconst (v := 1) hx hb dX12_in_10 (by decide) ?_
      refine lv_goto (tgt := 15) hx hb dX12_in_11 (by decide) ?_
      exact W.zret (v := 1) hx hb hr (by decide +kernel) (fun t ht hW => ⟨1, rfl, (by simp only [fa_lt, fa_le, ti_m1, ti_0, ti_1, ti_2, ti_3, ti_4, ti_5, ti_6, ti_60] at c_1 c_2; exact Or.inl ⟨rfl, by first | omega | (simp only [ti_m1, ti_0, ti_1, ti_2, ti_3, ti_4, ti_5, ti_6, ti_60]; omega), by first | omega | (simp only [ti_m1, ti_0, ti_1, ti_2, ti_3, ti_4, ti_5, ti_6, ti_60]; omega)⟩), ht⟩) (fun q h => by cases h) dX12_in_15
def vsX12_least : List Cond := .code yX12_least cX12_least 2 (some .int) :: ([] ++ [])
set_option maxRecDepth 100000 in
theorem gl_X12_least : GoodIn lw_tbl vsX12_least := gi_t 1419 rfl rfl (goodIn_app gi_nil gi_nil)
set_option maxHeartbeats 4000000 in
set_option maxRecDepth 100000 in
theorem c_X12_least (l : Launch) (dC : Nat → ClassId) (dI : Nat → Nat → Nat) (x : Int32) (y : Int32) : Met l yX12_least vsX12_least ({ frames := 0, cells := 0, slots := 0, locals := 0 }) (va_Pc [.int x, .int y] (fun _ => True)) (vp_Si (fun r => r = if x < y then x else y)) 0 0 (fun _ => False) := by
  refine Met.ofW (cc := cX12_least) (maxL := 2) (ret := (some .int)) (by decide) rfl ?_
  intro p e s m args below meth c s₁ B hml hv
  obtain ⟨rfl, -⟩ := hv
  have hx := B.exec
  have hb := B.bytes
  have hr := B.returns
  have hts := atoms_spec (ws := vsX12_least) B.pre
  have hown : s.vm.findClass RX12 = some m.cls := findClass_of_methodNamed B.named
  have hlocks := B.notSynchronized
  have hl := lv_entry ([.int x, .int y]) (n := 2) (Nat.le_of_ble_eq_true rfl)
  rw [lg_entry_eq]
  generalize (lg_sl ([.int x, .int y]) ++ List.replicate (2 - (lg_sl ([.int x, .int y])).length) Slot.unset).toArray = ls at hl ⊢
  have hl : lv_has ls 2 [(0, .int x), (1, .int y)] := hl
  refine lv_iload_n hx hb dX12_least_0 rfl (lv_at hl 0 rfl) ?_
  refine lv_iload_n hx hb dX12_least_1 rfl (lv_at hl 1 rfl) ?_
  refine lv_icmp_ge (tgt := 9) hx hb dX12_least_2 (by decide) (fun c_1 => ?_) (fun c_1 => ?_)
  · skip
    refine lv_iload_n hx hb dX12_least_9 rfl (lv_at hl 1 rfl) ?_
    exact W.iret (v := y) hx hb hr (fun t ht hW => ⟨y, rfl, (by simp only [fa_le, fa_lt] at c_1 ⊢; first | exact (if_pos (by omega)).symm | exact (if_neg (by omega)).symm), ht⟩) (fun q h => by cases h) dX12_least_10
  · skip
    refine lv_iload_n hx hb dX12_least_5 rfl (lv_at hl 0 rfl) ?_
    refine lv_goto (tgt := 10) hx hb dX12_least_6 (by decide) ?_
    exact W.iret (v := x) hx hb hr (fun t ht hW => ⟨x, rfl, (by simp only [fa_le, fa_lt] at c_1 ⊢; first | exact (if_pos (by omega)).symm | exact (if_neg (by omega)).symm), ht⟩) (fun q h => by cases h) dX12_least_10
def vsX6_bodyAt : List Cond := .code yX6_bodyAt cX6_bodyAt 2 (some .int) :: ([.fieldLink RX6 22 "CardTables$Notes" "bodyCount" "I", .methodLink RX6 32 Lib.Math.min.name, .static Lib.Math.min.name, .initialized "java/lang/Math", .code Lib.Math.min.name Lib.Math.min.code 2 (some .int)] ++ (wsX60 ++ []))
set_option maxRecDepth 100000 in
theorem gl_X6_bodyAt : GoodIn lw_tbl vsX6_bodyAt := gi_t 988 rfl rfl (goodIn_app (gi_t 222 (by decide +kernel) rfl (gi_t 979 (by decide +kernel) rfl (gi_t 405 (by decide +kernel) rfl (gi_t 4 (by decide +kernel) rfl (gi_t 406 rfl rfl gi_nil))))) (goodIn_app gc_X6 gi_nil))
set_option maxHeartbeats 4000000 in
set_option maxRecDepth 100000 in
theorem c_X6_bodyAt (l : Launch) (dC : Nat → ClassId) (dI : Nat → Nat → Nat) (h0 : Nat) (n1 n2 : Nat) (i : Int32) : Met l yX6_bodyAt vsX6_bodyAt ({ frames := 1, cells := 0, slots := 0, locals := 40 }) (va_Pc [.ref h0, .int i] (fun U => va_P (dC, dI) vwCl ([(h0, .inr (5, [.int 0, .ref n1, .ref n2, .int 0, .int 0, .int 0, .int 0]))]) U.heap ∧ va_K (dC, dI) vwCl ([]) U)) (vp_Si (fun r => r = -1)) 0 0 (fun _ => False) := by
  refine Met.ofW (cc := cX6_bodyAt) (maxL := 2) (ret := (some .int)) (by decide) rfl ?_
  intro p e s m args below meth c s₁ B hml hv
  obtain ⟨rfl, hP, hK⟩ := hv
  have hx := B.exec
  have hb := B.bytes
  have hr := B.returns
  have hts := atoms_spec (ws := vsX6_bodyAt) B.pre
  have hown : s.vm.findClass RX6 = some m.cls := findClass_of_methodNamed B.named
  have hlocks := B.notSynchronized
  have hl := lv_entry ([.ref h0, .int i]) (n := 2) (Nat.le_of_ble_eq_true rfl)
  rw [lg_entry_eq]
  generalize (lg_sl ([.ref h0, .int i]) ++ List.replicate (2 - (lg_sl ([.ref h0, .int i])).length) Slot.unset).toArray = ls at hl ⊢
  have hl : lv_has ls 2 [(0, .ref h0), (1, .int i)] := hl
  refine lv_iload_n hx hb dX6_bodyAt_0 rfl (lv_at hl 1 rfl) ?_
  refine lv_if_lt (tgt := 17) hx hb dX6_bodyAt_1 (by decide) (fun c_1 => ?_) (fun c_1 => ?_)
  · skip
    refine lv_iconst (v := (-1)) hx hb dX6_bodyAt_17 (by decide) ?_
    exact W.iret (v := (-1)) hx hb hr (fun t ht hW => ⟨(-1), rfl, rfl, ht⟩) (fun q h => by cases h) dX6_bodyAt_18
  · skip
    refine lv_iload_n hx hb dX6_bodyAt_4 rfl (lv_at hl 1 rfl) ?_
    refine lv_aload_n hx hb dX6_bodyAt_5 rfl (lv_at hl 0 rfl) ?_
    refine va_get (D := (dC, dI)) (ci := 5) (v := .int 0) (C := RX6) (T := TX6) (N := 7) hx hb hts (by decide +kernel) hown hK hP 0 rfl rfl 3 (by decide) (hts (.fieldLink RX6 22 "CardTables$Notes" "bodyCount" "I") (List.mem_of_getElem? (l := vsX6_bodyAt) (i := 1) rfl)) (fun _ h9 => h9) rfl dX6_bodyAt_6 ?_
    refine lv_bipush (v := 60) hx hb dX6_bodyAt_9 (by decide) ?_
    refine va_mmin hx hb (hml.trans hl.1.symm) hown (hts (.methodLink RX6 32 Lib.Math.min.name) (List.mem_of_getElem? (l := vsX6_bodyAt) (i := 2) rfl)) (hts (.static Lib.Math.min.name) (List.mem_of_getElem? (l := vsX6_bodyAt) (i := 3) rfl)) (hts (.initialized "java/lang/Math") (List.mem_of_getElem? (l := vsX6_bodyAt) (i := 4) rfl)) (hts (.code Lib.Math.min.name Lib.Math.min.code 2 (some .int)) (List.mem_of_getElem? (l := vsX6_bodyAt) (i := 5) rfl)) (Nat.le_of_ble_eq_true rfl) (Nat.le_of_ble_eq_true rfl) (Nat.zero_le _) (Nat.zero_le _) dX6_bodyAt_11 ?_
    refine lv_topi (fun x_2 ex_2 => ?_)
    obtain rfl : x_2 = 0 := ex_2.trans (by decide +kernel)
    refine lv_icmp_lt (tgt := 19) hx hb dX6_bodyAt_14 (by decide) (fun c_3 => ?_) (fun c_3 => ?_)
    · skip
      exact (by simp only [fa_lt, fa_le, ti_m1, ti_0, ti_1, ti_2, ti_3, ti_4, ti_5, ti_6, ti_60] at c_1 c_3; omega : False).elim
    · skip
      refine lv_iconst (v := (-1)) hx hb dX6_bodyAt_17 (by decide) ?_
      exact W.iret (v := (-1)) hx hb hr (fun t ht hW => ⟨(-1), rfl, rfl, ht⟩) (fun q h => by cases h) dX6_bodyAt_18
def vsX6_findingAt : List Cond := .code yX6_findingAt cX6_findingAt 4 (some .int) :: ([.fieldLink RX6 26 "CardTables$Notes" "findingCount" "I", .methodLink RX6 32 Lib.Math.min.name, .static Lib.Math.min.name, .initialized "java/lang/Math", .code Lib.Math.min.name Lib.Math.min.code 2 (some .int)] ++ (wsX60 ++ []))
set_option maxRecDepth 100000 in
theorem gl_X6_findingAt : GoodIn lw_tbl vsX6_findingAt := gi_t 978 rfl rfl (goodIn_app (gi_t 224 (by decide +kernel) rfl (gi_t 979 (by decide +kernel) rfl (gi_t 405 (by decide +kernel) rfl (gi_t 4 (by decide +kernel) rfl (gi_t 406 rfl rfl gi_nil))))) (goodIn_app gc_X6 gi_nil))
set_option maxHeartbeats 4000000 in
set_option maxRecDepth 100000 in
theorem c_X6_findingAt (l : Launch) (dC : Nat → ClassId) (dI : Nat → Nat → Nat) (h0 : Nat) (n1 n2 : Nat) (i : Int32) (k : Int32) : Met l yX6_findingAt vsX6_findingAt ({ frames := 1, cells := 0, slots := 0, locals := 40 }) (va_Pc [.ref h0, .int i, .int k] (fun U => va_P (dC, dI) vwCl ([(h0, .inr (5, [.int 0, .ref n1, .ref n2, .int 0, .int 0, .int 0, .int 0]))]) U.heap ∧ va_K (dC, dI) vwCl ([]) U)) (vp_Si (fun r => r = -1)) 0 0 (fun _ => False) := by
  refine Met.ofW (cc := cX6_findingAt) (maxL := 4) (ret := (some .int)) (by decide) rfl ?_
  intro p e s m args below meth c s₁ B hml hv
  obtain ⟨rfl, hP, hK⟩ := hv
  have hx := B.exec
  have hb := B.bytes
  have hr := B.returns
  have hts := atoms_spec (ws := vsX6_findingAt) B.pre
  have hown : s.vm.findClass RX6 = some m.cls := findClass_of_methodNamed B.named
  have hlocks := B.notSynchronized
  have hl := lv_entry ([.ref h0, .int i, .int k]) (n := 4) (Nat.le_of_ble_eq_true rfl)
  rw [lg_entry_eq]
  generalize (lg_sl ([.ref h0, .int i, .int k]) ++ List.replicate (4 - (lg_sl ([.ref h0, .int i, .int k])).length) Slot.unset).toArray = ls at hl ⊢
  have hl : lv_has ls 4 [(0, .ref h0), (1, .int i), (2, .int k)] := hl
  refine lv_iload_n hx hb dX6_findingAt_0 rfl (lv_at hl 1 rfl) ?_
  refine lv_if_lt (tgt := 26) hx hb dX6_findingAt_1 (by decide) (fun c_1 => ?_) (fun c_1 => ?_)
  · skip
    refine lv_iconst (v := (-1)) hx hb dX6_findingAt_26 (by decide) ?_
    exact W.iret (v := (-1)) hx hb hr (fun t ht hW => ⟨(-1), rfl, rfl, ht⟩) (fun q h => by cases h) dX6_findingAt_27
  · skip
    refine lv_iload_n hx hb dX6_findingAt_4 rfl (lv_at hl 1 rfl) ?_
    refine lv_aload_n hx hb dX6_findingAt_5 rfl (lv_at hl 0 rfl) ?_
    refine va_get (D := (dC, dI)) (ci := 5) (v := .int 0) (C := RX6) (T := TX6) (N := 7) hx hb hts (by decide +kernel) hown hK hP 0 rfl rfl 4 (by decide) (hts (.fieldLink RX6 26 "CardTables$Notes" "findingCount" "I") (List.mem_of_getElem? (l := vsX6_findingAt) (i := 1) rfl)) (fun _ h9 => h9) rfl dX6_findingAt_6 ?_
    refine lv_bipush (v := 60) hx hb dX6_findingAt_9 (by decide) ?_
    refine va_mmin hx hb (hml.trans hl.1.symm) hown (hts (.methodLink RX6 32 Lib.Math.min.name) (List.mem_of_getElem? (l := vsX6_findingAt) (i := 2) rfl)) (hts (.static Lib.Math.min.name) (List.mem_of_getElem? (l := vsX6_findingAt) (i := 3) rfl)) (hts (.initialized "java/lang/Math") (List.mem_of_getElem? (l := vsX6_findingAt) (i := 4) rfl)) (hts (.code Lib.Math.min.name Lib.Math.min.code 2 (some .int)) (List.mem_of_getElem? (l := vsX6_findingAt) (i := 5) rfl)) (Nat.le_of_ble_eq_true rfl) (Nat.le_of_ble_eq_true rfl) (Nat.zero_le _) (Nat.zero_le _) dX6_findingAt_11 ?_
    refine lv_topi (fun x_2 ex_2 => ?_)
    obtain rfl : x_2 = 0 := ex_2.trans (by decide +kernel)
    refine lv_icmp_ge (tgt := 26) hx hb dX6_findingAt_14 (by decide) (fun c_3 => ?_) (fun c_3 => ?_)
    · skip
      refine lv_iconst (v := (-1)) hx hb dX6_findingAt_26 (by decide) ?_
      exact W.iret (v := (-1)) hx hb hr (fun t ht hW => ⟨(-1), rfl, rfl, ht⟩) (fun q h => by cases h) dX6_findingAt_27
    · skip
      exact (by simp only [fa_lt, fa_le, ti_m1, ti_0, ti_1, ti_2, ti_3, ti_4, ti_5, ti_6, ti_60] at c_1 c_3; omega : False).elim
set_option maxRecDepth 100000 in
theorem gv_RX11_57 : GoodIn lw_tbl (va_wsS RX11 57 yX11_isGame vsX11_isGame) := (gi_t 329 (by decide +kernel) rfl (gi_t 330 (by decide +kernel) rfl (gi_t 1 (by decide +kernel) rfl gl_X11_isGame)))
def vsX11_gameAt : List Cond := .code yX11_gameAt cX11_gameAt 2 (some (.object "CardTables$Game")) :: ([.fieldLink RX11 11 "CardTables" "games" "[LCardTables$Game;"] ++ (wsX110 ++ (va_wsS RX11 57 yX11_isGame vsX11_isGame ++ [])))
set_option maxRecDepth 100000 in
theorem gl_X11_gameAt : GoodIn lw_tbl vsX11_gameAt := gi_t 335 rfl rfl (goodIn_app (gi_t 297 (by decide +kernel) rfl gi_nil) (goodIn_app gc_X11 (goodIn_app gv_RX11_57 gi_nil)))
theorem g_X11_gameAt_X11_isGame : GoodIn vsX11_gameAt (va_wsS RX11 57 yX11_isGame vsX11_isGame) := fun w h => ⟨List.mem_cons_of_mem _ (List.mem_append_right _ (List.mem_append_right _ (List.mem_append_left _ h))), (gv_RX11_57 w h).2⟩
set_option maxHeartbeats 4000000 in
set_option maxRecDepth 100000 in
theorem c_X11_gameAt (l : Launch) (dC : Nat → ClassId) (dI : Nat → Nat → Nat) (a : Nat → Nat) (cG cT : ClassId) (ft : Nat → Option Nat) (TL : va_W) (hT : fr_T ft TL) (g : Int32) : Met l yX11_gameAt vsX11_gameAt ({ frames := 1, cells := 0, slots := 0, locals := 20 }) (va_Pc [.ref (a 0), .int g] (fun U => va_P (dC, dI) vwCl (wX a cG cT ft TL) U.heap ∧ va_K (dC, dI) vwCl (tX cG cT) U)) (va_Sq (fun r => r = none)) 0 0 (fun _ => False) := by
  refine Met.ofW (cc := cX11_gameAt) (maxL := 2) (ret := (some (.object "CardTables$Game"))) (by decide) rfl ?_
  intro p e s m args below meth c s₁ B hml hv
  obtain ⟨rfl, hP, hK⟩ := hv
  have hx := B.exec
  have hb := B.bytes
  have hr := B.returns
  have hts := atoms_spec (ws := vsX11_gameAt) B.pre
  have hown : s.vm.findClass RX11 = some m.cls := findClass_of_methodNamed B.named
  have hlocks := B.notSynchronized
  have hl := lv_entry ([.ref (a 0), .int g]) (n := 2) (Nat.le_of_ble_eq_true rfl)
  rw [lg_entry_eq]
  generalize (lg_sl ([.ref (a 0), .int g]) ++ List.replicate (2 - (lg_sl ([.ref (a 0), .int g])).length) Slot.unset).toArray = ls at hl ⊢
  have hl : lv_has ls 2 [(0, .ref (a 0)), (1, .int g)] := hl
  refine lv_iload_n hx hb dX11_gameAt_0 rfl (lv_at hl 1 rfl) ?_
  refine vp_callSi (va_Run.run (va_runS (As := [.int g]) (rest := []) ⟨hx, hb, hml, hown, hts⟩ (c_X11_isGame l dC dI  g) (va_cwS 1 hts g_X11_gameAt_X11_isGame rfl rfl rfl (by decide +kernel) ⟨Nat.le_of_ble_eq_true rfl, Nat.le_of_ble_eq_true rfl⟩) ⟨fun a U g mk q => q, fun U hU hW => ⟨rfl, trivial⟩⟩ rfl rfl hl.1 rfl (lv_room (Nat.le_of_ble_eq_true rfl)) dX11_gameAt_1 ⟨Nat.zero_le _, Nat.zero_le _⟩)) (fun r_1 e_1 => ?_)
  rcases e_1 with ⟨rfl, hy_2⟩ | ⟨rfl, hn_2⟩
  · skip
    refine lv_if_eq (tgt := 16) hx hb dX11_gameAt_4 (by decide) (fun c_3 => ?_) (fun c_3 => ?_)
    · exact absurd c_3 (by decide +kernel)
    · skip
      refine lv_aload_n hx hb dX11_gameAt_7 rfl (lv_at hl 0 rfl) ?_
      refine va_get (D := (dC, dI)) (ci := 10) (v := .ref (a 1)) (C := RX11) (T := TX11) (N := 9) hx hb hts (by decide +kernel) hown hK hP 0 rfl rfl 0 (by decide) (hts (.fieldLink RX11 11 "CardTables" "games" "[LCardTables$Game;") (List.mem_of_getElem? (l := vsX11_gameAt) (i := 1) rfl)) (fun _ h9 => h9) rfl dX11_gameAt_8 ?_
      refine lv_iload_n hx hb dX11_gameAt_11 rfl (lv_at hl 1 rfl) ?_
      refine va_aldq hx hb hK hP 1 0 rfl rfl (vp_in_iff.mpr (by simp only [ti_m1, ti_0, ti_1, ti_2, ti_3, ti_4, ti_5, ti_6, ti_60] at *; omega)) dX11_gameAt_12 ?_
      refine W.eq (g2 := F0 m 13 ls [.null]) rfl ?_
      refine lv_goto (tgt := 17) hx hb dX11_gameAt_13 (by decide) ?_
      exact W.aret (v := .null) hx hb hr (Or.inl ⟨_, rfl⟩) (Or.inl rfl) (fun t ht hW => ⟨none, rfl, rfl, ht⟩) (fun q h => by cases h) dX11_gameAt_17
  · skip
    refine lv_if_eq (tgt := 16) hx hb dX11_gameAt_4 (by decide) (fun c_4 => ?_) (fun c_4 => ?_)
    · skip
      refine lv_null hx hb dX11_gameAt_16 ?_
      exact W.aret (v := .null) hx hb hr (Or.inl ⟨_, rfl⟩) (Or.inl rfl) (fun t ht hW => ⟨none, rfl, rfl, ht⟩) (fun q h => by cases h) dX11_gameAt_17
    · exact absurd c_4 (by decide +kernel)
def vsX11_tableAt : List Cond := .code yX11_tableAt cX11_tableAt 3 (some (.object "CardTables$Table")) :: ([.fieldLink RX11 17 "CardTables" "tables" "[LCardTables$Table;", .fieldLink RX11 334 "CardTables$Table" "game" "LCardTables$Game;"] ++ (wsX110 ++ (wsX90 ++ [])))
set_option maxRecDepth 100000 in
theorem gl_X11_tableAt : GoodIn lw_tbl vsX11_tableAt := gi_t 434 rfl rfl (goodIn_app (gi_t 298 (by decide +kernel) rfl (gi_t 160 (by decide +kernel) rfl gi_nil)) (goodIn_app gc_X11 (goodIn_app gc_X9 gi_nil)))
set_option maxHeartbeats 4000000 in
set_option maxRecDepth 100000 in
theorem c_X11_tableAt (l : Launch) (dC : Nat → ClassId) (dI : Nat → Nat → Nat) (a : Nat → Nat) (cG cT : ClassId) (ft : Nat → Option Nat) (TL : va_W) (hT : fr_T ft TL) (pt : Int32) : Met l yX11_tableAt vsX11_tableAt ({ frames := 0, cells := 0, slots := 0, locals := 0 }) (va_Pc [.ref (a 0), .int pt] (fun U => va_P (dC, dI) vwCl (wX a cG cT ft TL) U.heap ∧ va_K (dC, dI) vwCl (tX cG cT) U)) (va_Sq (fun r => r = none)) 0 0 (fun _ => False) := by
  refine Met.ofW (cc := cX11_tableAt) (maxL := 3) (ret := (some (.object "CardTables$Table"))) (by decide) rfl ?_
  intro p e s m args below meth c s₁ B hml hv
  obtain ⟨rfl, hP, hK⟩ := hv
  have hx := B.exec
  have hb := B.bytes
  have hr := B.returns
  have hts := atoms_spec (ws := vsX11_tableAt) B.pre
  have hown : s.vm.findClass RX11 = some m.cls := findClass_of_methodNamed B.named
  have hlocks := B.notSynchronized
  have hl := lv_entry ([.ref (a 0), .int pt]) (n := 3) (Nat.le_of_ble_eq_true rfl)
  rw [lg_entry_eq]
  generalize (lg_sl ([.ref (a 0), .int pt]) ++ List.replicate (3 - (lg_sl ([.ref (a 0), .int pt])).length) Slot.unset).toArray = ls at hl ⊢
  have hl : lv_has ls 3 [(0, .ref (a 0)), (1, .int pt)] := hl
  refine lv_iload_n hx hb dX11_tableAt_0 rfl (lv_at hl 1 rfl) ?_
  refine lv_if_lt (tgt := 9) hx hb dX11_tableAt_1 (by decide) (fun c_1 => ?_) (fun c_1 => ?_)
  · skip
    refine lv_null hx hb dX11_tableAt_9 ?_
    exact W.aret (v := .null) hx hb hr (Or.inl ⟨_, rfl⟩) (Or.inl rfl) (fun t ht hW => ⟨none, rfl, rfl, ht⟩) (fun q h => by cases h) dX11_tableAt_10
  · skip
    refine lv_iload_n hx hb dX11_tableAt_4 rfl (lv_at hl 1 rfl) ?_
    refine lv_iconst (v := 4) hx hb dX11_tableAt_5 (by decide) ?_
    refine lv_icmp_lt (tgt := 11) hx hb dX11_tableAt_6 (by decide) (fun c_2 => ?_) (fun c_2 => ?_)
    · skip
      refine lv_aload_n hx hb dX11_tableAt_11 rfl (lv_at hl 0 rfl) ?_
      refine va_get (D := (dC, dI)) (ci := 10) (v := .ref (a 2)) (C := RX11) (T := TX11) (N := 9) hx hb hts (by decide +kernel) hown hK hP 0 rfl rfl 1 (by decide) (hts (.fieldLink RX11 17 "CardTables" "tables" "[LCardTables$Table;") (List.mem_of_getElem? (l := vsX11_tableAt) (i := 1) rfl)) (fun _ h9 => h9) rfl dX11_tableAt_12 ?_
      refine lv_iload_n hx hb dX11_tableAt_15 rfl (lv_at hl 1 rfl) ?_
      obtain ⟨j, hj, rfl⟩ : ∃ j : Nat, j < 4 ∧ pt = nI j := vp_in_of (vp_in_iff.mpr (by simp only [fa_lt, ti_m1, ti_0, ti_1, ti_2, ti_3, ti_4, ti_5, ti_6, ti_60] at c_1 c_2 ⊢; omega)) (by decide)
      refine va_aldq hx hb hK hP 2 1 rfl rfl (vp_in_nI hj (by decide)) dX11_tableAt_16 ?_
      rw [nI_clamp (by omega)]
      obtain ⟨ta, tk, fs, e1, e2, e3⟩ := hT j hj
      rw [e1]
      refine W.eq (g2 := F0 m 17 ls [.ref ta]) rfl ?_
      refine lv_astore_n (lv' := [(2, .ref ta), (0, .ref (a 0)), (1, .int (nI j))]) hx hb dX11_tableAt_17 rfl hl (by decide) rfl (fun ls hl => ?_)
      refine lv_aload_n hx hb dX11_tableAt_18 rfl (lv_at hl 0 rfl) ?_
      refine lv_ifnull hx hb dX11_tableAt_19 ?_
      refine lv_aload_n hx hb dX11_tableAt_22 rfl (lv_at hl 0 rfl) ?_
      refine va_get (D := (dC, dI)) (ci := 8) (v := .null) (C := RX9) (T := TX9) (N := 14) hx hb hts (by decide +kernel) hown hK hP (tk + 4) e2 rfl 1 (by decide) (hts (.fieldLink RX11 334 "CardTables$Table" "game" "LCardTables$Game;") (List.mem_of_getElem? (l := vsX11_tableAt) (i := 2) rfl)) (fun _ h9 => h9) e3 dX11_tableAt_23 ?_
      refine lv_ifnonnullN hx hb dX11_tableAt_26 ?_
      refine lv_null hx hb dX11_tableAt_29 ?_
      refine lv_goto (tgt := 34) hx hb dX11_tableAt_30 (by decide) ?_
      exact W.aret (v := .null) hx hb hr (Or.inl ⟨_, rfl⟩) (Or.inl rfl) (fun t ht hW => ⟨none, rfl, rfl, ht⟩) (fun q h => by cases h) dX11_tableAt_34
    · skip
      refine lv_null hx hb dX11_tableAt_9 ?_
      exact W.aret (v := .null) hx hb hr (Or.inl ⟨_, rfl⟩) (Or.inl rfl) (fun t ht hW => ⟨none, rfl, rfl, ht⟩) (fun q h => by cases h) dX11_tableAt_10
set_option maxRecDepth 100000 in
theorem gv_RX11_83 : GoodIn lw_tbl (wsV RX11 83 RX11 yX11_tableAt vsX11_tableAt) := (gi_t 431 (by decide +kernel) rfl (gi_t 433 (by decide +kernel) rfl (gi_s 2 (by decide +kernel) rfl (gi_t 1 (by decide +kernel) rfl gl_X11_tableAt))))
def vsX11_tablesThere : List Cond := .code yX11_tablesThere cX11_tablesThere 3 (some .int) :: ([] ++ (wsV RX11 83 RX11 yX11_tableAt vsX11_tableAt ++ []))
set_option maxRecDepth 100000 in
theorem gl_X11_tablesThere : GoodIn lw_tbl vsX11_tablesThere := gi_t 1000 rfl rfl (goodIn_app gi_nil (goodIn_app gv_RX11_83 gi_nil))
theorem g_X11_tablesThere_X11_tableAt : GoodIn vsX11_tablesThere (wsV RX11 83 RX11 yX11_tableAt vsX11_tableAt) := fun w h => ⟨List.mem_cons_of_mem _ (List.mem_append_right _ (List.mem_append_left _ h)), (gv_RX11_83 w h).2⟩
set_option maxHeartbeats 4000000 in
set_option maxRecDepth 100000 in
theorem c_X11_tablesThere (l : Launch) (dC : Nat → ClassId) (dI : Nat → Nat → Nat) (a : Nat → Nat) (cG cT : ClassId) (ft : Nat → Option Nat) (TL : va_W) (hT : fr_T ft TL) : Met l yX11_tablesThere vsX11_tablesThere ({ frames := 1, cells := 0, slots := 0, locals := 22 }) (va_Pc [.ref (a 0)] (fun U => va_P (dC, dI) vwCl (wX a cG cT ft TL) U.heap ∧ va_K (dC, dI) vwCl (tX cG cT) U)) (vp_Si (fun r => r = 0)) 0 0 (fun _ => False) := by
  refine Met.ofW (cc := cX11_tablesThere) (maxL := 3) (ret := (some .int)) (by decide) rfl ?_
  intro p e s m args below meth c s₁ B hml hv
  obtain ⟨rfl, hP, hK⟩ := hv
  have hx := B.exec
  have hb := B.bytes
  have hr := B.returns
  have hts := atoms_spec (ws := vsX11_tablesThere) B.pre
  have hown : s.vm.findClass RX11 = some m.cls := findClass_of_methodNamed B.named
  have hlocks := B.notSynchronized
  have hl := lv_entry ([.ref (a 0)]) (n := 3) (Nat.le_of_ble_eq_true rfl)
  rw [lg_entry_eq]
  generalize (lg_sl ([.ref (a 0)]) ++ List.replicate (3 - (lg_sl ([.ref (a 0)])).length) Slot.unset).toArray = ls at hl ⊢
  have hl : lv_has ls 3 [(0, .ref (a 0))] := hl
  refine lv_iconst (v := 0) hx hb dX11_tablesThere_0 (by decide) ?_
  refine lv_istore_n (lv' := [(1, .int 0), (0, .ref (a 0))]) hx hb dX11_tablesThere_1 rfl hl (by decide) rfl (fun ls hl => ?_)
  refine lv_iconst (v := 0) hx hb dX11_tablesThere_2 (by decide) ?_
  refine lv_istore_n (lv' := [(2, .int 0), (1, .int 0), (0, .ref (a 0))]) hx hb dX11_tablesThere_3 rfl hl (by decide) rfl (fun ls hl => ?_)
  refine lv_iload_n hx hb dX11_tablesThere_4 rfl (lv_at hl 0 rfl) ?_
  refine lv_iconst (v := 4) hx hb dX11_tablesThere_5 (by decide) ?_
  refine lv_icmp_ge (tgt := 31) hx hb dX11_tablesThere_6 (by decide) (fun c_1 => ?_) (fun c_1 => ?_)
  · exact absurd c_1 (by decide +kernel)
  · skip
    refine lv_iload_n hx hb dX11_tablesThere_9 rfl (lv_at hl 1 rfl) ?_
    refine lv_aload_n hx hb dX11_tablesThere_10 rfl (lv_at hl 2 rfl) ?_
    refine lv_iload_n hx hb dX11_tablesThere_11 rfl (lv_at hl 0 rfl) ?_
    refine va_csq (va_Run.run (va_runV (As := [.int 0]) (rest := [.int 0]) ⟨hx, hb, hml, hown, hts⟩ (c_X11_tableAt l dC dI a cG cT ft TL hT 0) (cwV 1 hts g_X11_tablesThere_X11_tableAt rfl rfl rfl (by decide +kernel) ⟨Nat.le_of_ble_eq_true rfl, Nat.le_of_ble_eq_true rfl⟩) ⟨fun a U g mk q => by obtain ⟨q0, qP, qK⟩ := q; exact ⟨q0, qP, va_K.moved (u := U) (U := U.calling g mk a) (Vm.Alike.refl U.vm) qK⟩, va_recv hK hP (ci := 10) (q0 := 0) rfl rfl, fun U hU hW => ⟨rfl, by rw [hU]; exact hP, va_K.moved hW.alike hK⟩⟩ rfl rfl hl.1 rfl (lv_room (Nat.le_of_ble_eq_true rfl)) dX11_tablesThere_12 ⟨Nat.zero_le _, Nat.zero_le _⟩)) (fun r_2 e_2 => ?_)
    subst e_2
    refine W.eq (g2 := F0 m 15 ls [.null, .int 0]) rfl ?_
    refine lv_ifnonnullN hx hb dX11_tablesThere_15 ?_
    refine lv_iconst (v := 0) hx hb dX11_tablesThere_18 (by decide) ?_
    refine lv_goto (tgt := 23) hx hb dX11_tablesThere_19 (by decide) ?_
    refine lv_iadd hx hb dX11_tablesThere_23 ?_
    refine lv_topi (fun x_3 ex_3 => ?_)
    obtain rfl : x_3 = 0 := ex_3.trans (by decide +kernel)
    refine lv_istore_n (lv' := [(1, .int 0), (2, .int 0), (0, .ref (a 0))]) hx hb dX11_tablesThere_24 rfl hl (by decide) rfl (fun ls hl => ?_)
    refine lv_iinc (v := 1) (lv' := [(2, .int 1), (1, .int 0), (0, .ref (a 0))]) hx hb dX11_tablesThere_25 hl (k := 1) rfl (by decide) (by decide) rfl (fun ls hl => ?_)
    refine lv_goto (tgt := 4) hx hb dX11_tablesThere_28 (by decide) ?_
    refine lv_iload_n hx hb dX11_tablesThere_4 rfl (lv_at hl 0 rfl) ?_
    refine lv_iconst (v := 4) hx hb dX11_tablesThere_5 (by decide) ?_
    refine lv_icmp_ge (tgt := 31) hx hb dX11_tablesThere_6 (by decide) (fun c_5 => ?_) (fun c_5 => ?_)
    · exact absurd c_5 (by decide +kernel)
    · skip
      refine lv_iload_n hx hb dX11_tablesThere_9 rfl (lv_at hl 1 rfl) ?_
      refine lv_aload_n hx hb dX11_tablesThere_10 rfl (lv_at hl 2 rfl) ?_
      refine lv_iload_n hx hb dX11_tablesThere_11 rfl (lv_at hl 0 rfl) ?_
      refine va_csq (va_Run.run (va_runV (As := [.int 1]) (rest := [.int 0]) ⟨hx, hb, hml, hown, hts⟩ (c_X11_tableAt l dC dI a cG cT ft TL hT 1) (cwV 1 hts g_X11_tablesThere_X11_tableAt rfl rfl rfl (by decide +kernel) ⟨Nat.le_of_ble_eq_true rfl, Nat.le_of_ble_eq_true rfl⟩) ⟨fun a U g mk q => by obtain ⟨q0, qP, qK⟩ := q; exact ⟨q0, qP, va_K.moved (u := U) (U := U.calling g mk a) (Vm.Alike.refl U.vm) qK⟩, va_recv hK hP (ci := 10) (q0 := 0) rfl rfl, fun U hU hW => ⟨rfl, by rw [hU]; exact hP, va_K.moved hW.alike hK⟩⟩ rfl rfl hl.1 rfl (lv_room (Nat.le_of_ble_eq_true rfl)) dX11_tablesThere_12 ⟨Nat.zero_le _, Nat.zero_le _⟩)) (fun r_6 e_6 => ?_)
      subst e_6
      refine W.eq (g2 := F0 m 15 ls [.null, .int 0]) rfl ?_
      refine lv_ifnonnullN hx hb dX11_tablesThere_15 ?_
      refine lv_iconst (v := 0) hx hb dX11_tablesThere_18 (by decide) ?_
      refine lv_goto (tgt := 23) hx hb dX11_tablesThere_19 (by decide) ?_
      refine lv_iadd hx hb dX11_tablesThere_23 ?_
      refine lv_topi (fun x_7 ex_7 => ?_)
      obtain rfl : x_7 = 0 := ex_7.trans (by decide +kernel)
      refine lv_istore_n (lv' := [(1, .int 0), (2, .int 1), (0, .ref (a 0))]) hx hb dX11_tablesThere_24 rfl hl (by decide) rfl (fun ls hl => ?_)
      refine lv_iinc (v := 2) (lv' := [(2, .int 2), (1, .int 0), (0, .ref (a 0))]) hx hb dX11_tablesThere_25 hl (k := 1) rfl (by decide) (by decide) rfl (fun ls hl => ?_)
      refine lv_goto (tgt := 4) hx hb dX11_tablesThere_28 (by decide) ?_
      refine lv_iload_n hx hb dX11_tablesThere_4 rfl (lv_at hl 0 rfl) ?_
      refine lv_iconst (v := 4) hx hb dX11_tablesThere_5 (by decide) ?_
      refine lv_icmp_ge (tgt := 31) hx hb dX11_tablesThere_6 (by decide) (fun c_9 => ?_) (fun c_9 => ?_)
      · exact absurd c_9 (by decide +kernel)
      · skip
        refine lv_iload_n hx hb dX11_tablesThere_9 rfl (lv_at hl 1 rfl) ?_
        refine lv_aload_n hx hb dX11_tablesThere_10 rfl (lv_at hl 2 rfl) ?_
        refine lv_iload_n hx hb dX11_tablesThere_11 rfl (lv_at hl 0 rfl) ?_
        refine va_csq (va_Run.run (va_runV (As := [.int 2]) (rest := [.int 0]) ⟨hx, hb, hml, hown, hts⟩ (c_X11_tableAt l dC dI a cG cT ft TL hT 2) (cwV 1 hts g_X11_tablesThere_X11_tableAt rfl rfl rfl (by decide +kernel) ⟨Nat.le_of_ble_eq_true rfl, Nat.le_of_ble_eq_true rfl⟩) ⟨fun a U g mk q => by obtain ⟨q0, qP, qK⟩ := q; exact ⟨q0, qP, va_K.moved (u := U) (U := U.calling g mk a) (Vm.Alike.refl U.vm) qK⟩, va_recv hK hP (ci := 10) (q0 := 0) rfl rfl, fun U hU hW => ⟨rfl, by rw [hU]; exact hP, va_K.moved hW.alike hK⟩⟩ rfl rfl hl.1 rfl (lv_room (Nat.le_of_ble_eq_true rfl)) dX11_tablesThere_12 ⟨Nat.zero_le _, Nat.zero_le _⟩)) (fun r_10 e_10 => ?_)
        subst e_10
        refine W.eq (g2 := F0 m 15 ls [.null, .int 0]) rfl ?_
        refine lv_ifnonnullN hx hb dX11_tablesThere_15 ?_
        refine lv_iconst (v := 0) hx hb dX11_tablesThere_18 (by decide) ?_
        refine lv_goto (tgt := 23) hx hb dX11_tablesThere_19 (by decide) ?_
        refine lv_iadd hx hb dX11_tablesThere_23 ?_
        refine lv_topi (fun x_11 ex_11 => ?_)
        obtain rfl : x_11 = 0 := ex_11.trans (by decide +kernel)
        refine lv_istore_n (lv' := [(1, .int 0), (2, .int 2), (0, .ref (a 0))]) hx hb dX11_tablesThere_24 rfl hl (by decide) rfl (fun ls hl => ?_)
        refine lv_iinc (v := 3) (lv' := [(2, .int 3), (1, .int 0), (0, .ref (a 0))]) hx hb dX11_tablesThere_25 hl (k := 1) rfl (by decide) (by decide) rfl (fun ls hl => ?_)
        refine lv_goto (tgt := 4) hx hb dX11_tablesThere_28 (by decide) ?_
        refine lv_iload_n hx hb dX11_tablesThere_4 rfl (lv_at hl 0 rfl) ?_
        refine lv_iconst (v := 4) hx hb dX11_tablesThere_5 (by decide) ?_
        refine lv_icmp_ge (tgt := 31) hx hb dX11_tablesThere_6 (by decide) (fun c_13 => ?_) (fun c_13 => ?_)
        · exact absurd c_13 (by decide +kernel)
        · skip
          refine lv_iload_n hx hb dX11_tablesThere_9 rfl (lv_at hl 1 rfl) ?_
          refine lv_aload_n hx hb dX11_tablesThere_10 rfl (lv_at hl 2 rfl) ?_
          refine lv_iload_n hx hb dX11_tablesThere_11 rfl (lv_at hl 0 rfl) ?_
          refine va_csq (va_Run.run (va_runV (As := [.int 3]) (rest := [.int 0]) ⟨hx, hb, hml, hown, hts⟩ (c_X11_tableAt l dC dI a cG cT ft TL hT 3) (cwV 1 hts g_X11_tablesThere_X11_tableAt rfl rfl rfl (by decide +kernel) ⟨Nat.le_of_ble_eq_true rfl, Nat.le_of_ble_eq_true rfl⟩) ⟨fun a U g mk q => by obtain ⟨q0, qP, qK⟩ := q; exact ⟨q0, qP, va_K.moved (u := U) (U := U.calling g mk a) (Vm.Alike.refl U.vm) qK⟩, va_recv hK hP (ci := 10) (q0 := 0) rfl rfl, fun U hU hW => ⟨rfl, by rw [hU]; exact hP, va_K.moved hW.alike hK⟩⟩ rfl rfl hl.1 rfl (lv_room (Nat.le_of_ble_eq_true rfl)) dX11_tablesThere_12 ⟨Nat.zero_le _, Nat.zero_le _⟩)) (fun r_14 e_14 => ?_)
          subst e_14
          refine W.eq (g2 := F0 m 15 ls [.null, .int 0]) rfl ?_
          refine lv_ifnonnullN hx hb dX11_tablesThere_15 ?_
          refine lv_iconst (v := 0) hx hb dX11_tablesThere_18 (by decide) ?_
          refine lv_goto (tgt := 23) hx hb dX11_tablesThere_19 (by decide) ?_
          refine lv_iadd hx hb dX11_tablesThere_23 ?_
          refine lv_topi (fun x_15 ex_15 => ?_)
          obtain rfl : x_15 = 0 := ex_15.trans (by decide +kernel)
          refine lv_istore_n (lv' := [(1, .int 0), (2, .int 3), (0, .ref (a 0))]) hx hb dX11_tablesThere_24 rfl hl (by decide) rfl (fun ls hl => ?_)
          refine lv_iinc (v := 4) (lv' := [(2, .int 4), (1, .int 0), (0, .ref (a 0))]) hx hb dX11_tablesThere_25 hl (k := 1) rfl (by decide) (by decide) rfl (fun ls hl => ?_)
          refine lv_goto (tgt := 4) hx hb dX11_tablesThere_28 (by decide) ?_
          refine lv_iload_n hx hb dX11_tablesThere_4 rfl (lv_at hl 0 rfl) ?_
          refine lv_iconst (v := 4) hx hb dX11_tablesThere_5 (by decide) ?_
          refine lv_icmp_ge (tgt := 31) hx hb dX11_tablesThere_6 (by decide) (fun c_17 => ?_) (fun c_17 => ?_)
          · skip
            refine lv_iload_n hx hb dX11_tablesThere_31 rfl (lv_at hl 1 rfl) ?_
            exact W.iret (v := 0) hx hb hr (fun t ht hW => ⟨0, rfl, rfl, ht⟩) (fun q h => by cases h) dX11_tablesThere_32
          · exact absurd c_17 (by decide +kernel)
def vsX11_gamesThere : List Cond := .code yX11_gamesThere cX11_gamesThere 3 (some .int) :: ([.fieldLink RX11 11 "CardTables" "games" "[LCardTables$Game;"] ++ (wsX110 ++ []))
set_option maxRecDepth 100000 in
theorem gl_X11_gamesThere : GoodIn lw_tbl vsX11_gamesThere := gi_t 1004 rfl rfl (goodIn_app (gi_t 297 (by decide +kernel) rfl gi_nil) (goodIn_app gc_X11 gi_nil))
set_option maxHeartbeats 4000000 in
set_option maxRecDepth 100000 in
theorem c_X11_gamesThere (l : Launch) (dC : Nat → ClassId) (dI : Nat → Nat → Nat) (a : Nat → Nat) (cG cT : ClassId) (ft : Nat → Option Nat) (TL : va_W) (hT : fr_T ft TL) : Met l yX11_gamesThere vsX11_gamesThere ({ frames := 0, cells := 0, slots := 0, locals := 0 }) (va_Pc [.ref (a 0)] (fun U => va_P (dC, dI) vwCl (wX a cG cT ft TL) U.heap ∧ va_K (dC, dI) vwCl (tX cG cT) U)) (vp_Si (fun r => r = 0)) 0 0 (fun _ => False) := by
  refine Met.ofW (cc := cX11_gamesThere) (maxL := 3) (ret := (some .int)) (by decide) rfl ?_
  intro p e s m args below meth c s₁ B hml hv
  obtain ⟨rfl, hP, hK⟩ := hv
  have hx := B.exec
  have hb := B.bytes
  have hr := B.returns
  have hts := atoms_spec (ws := vsX11_gamesThere) B.pre
  have hown : s.vm.findClass RX11 = some m.cls := findClass_of_methodNamed B.named
  have hlocks := B.notSynchronized
  have hl := lv_entry ([.ref (a 0)]) (n := 3) (Nat.le_of_ble_eq_true rfl)
  rw [lg_entry_eq]
  generalize (lg_sl ([.ref (a 0)]) ++ List.replicate (3 - (lg_sl ([.ref (a 0)])).length) Slot.unset).toArray = ls at hl ⊢
  have hl : lv_has ls 3 [(0, .ref (a 0))] := hl
  refine lv_iconst (v := 0) hx hb dX11_gamesThere_0 (by decide) ?_
  refine lv_istore_n (lv' := [(1, .int 0), (0, .ref (a 0))]) hx hb dX11_gamesThere_1 rfl hl (by decide) rfl (fun ls hl => ?_)
  refine lv_iconst (v := 0) hx hb dX11_gamesThere_2 (by decide) ?_
  refine lv_istore_n (lv' := [(2, .int 0), (1, .int 0), (0, .ref (a 0))]) hx hb dX11_gamesThere_3 rfl hl (by decide) rfl (fun ls hl => ?_)
  refine lv_iload_n hx hb dX11_gamesThere_4 rfl (lv_at hl 0 rfl) ?_
  refine lv_bipush (v := 6) hx hb dX11_gamesThere_5 (by decide) ?_
  refine lv_icmp_ge (tgt := 33) hx hb dX11_gamesThere_7 (by decide) (fun c_1 => ?_) (fun c_1 => ?_)
  · exact absurd c_1 (by decide +kernel)
  · skip
    refine lv_iload_n hx hb dX11_gamesThere_10 rfl (lv_at hl 1 rfl) ?_
    refine lv_aload_n hx hb dX11_gamesThere_11 rfl (lv_at hl 2 rfl) ?_
    refine va_get (D := (dC, dI)) (ci := 10) (v := .ref (a 1)) (C := RX11) (T := TX11) (N := 9) hx hb hts (by decide +kernel) hown hK hP 0 rfl rfl 0 (by decide) (hts (.fieldLink RX11 11 "CardTables" "games" "[LCardTables$Game;") (List.mem_of_getElem? (l := vsX11_gamesThere) (i := 1) rfl)) (fun _ h9 => h9) rfl dX11_gamesThere_12 ?_
    refine lv_iload_n hx hb dX11_gamesThere_15 rfl (lv_at hl 0 rfl) ?_
    refine va_aldq hx hb hK hP 1 0 rfl rfl (by unfold vp_in; decide +kernel) dX11_gamesThere_16 ?_
    refine W.eq (g2 := F0 m 17 ls [.null, .int 0]) rfl ?_
    refine lv_ifnonnullN hx hb dX11_gamesThere_17 ?_
    refine lv_iconst (v := 0) hx hb dX11_gamesThere_20 (by decide) ?_
    refine lv_goto (tgt := 25) hx hb dX11_gamesThere_21 (by decide) ?_
    refine lv_iadd hx hb dX11_gamesThere_25 ?_
    refine lv_topi (fun x_2 ex_2 => ?_)
    obtain rfl : x_2 = 0 := ex_2.trans (by decide +kernel)
    refine lv_istore_n (lv' := [(1, .int 0), (2, .int 0), (0, .ref (a 0))]) hx hb dX11_gamesThere_26 rfl hl (by decide) rfl (fun ls hl => ?_)
    refine lv_iinc (v := 1) (lv' := [(2, .int 1), (1, .int 0), (0, .ref (a 0))]) hx hb dX11_gamesThere_27 hl (k := 1) rfl (by decide) (by decide) rfl (fun ls hl => ?_)
    refine lv_goto (tgt := 4) hx hb dX11_gamesThere_30 (by decide) ?_
    refine lv_iload_n hx hb dX11_gamesThere_4 rfl (lv_at hl 0 rfl) ?_
    refine lv_bipush (v := 6) hx hb dX11_gamesThere_5 (by decide) ?_
    refine lv_icmp_ge (tgt := 33) hx hb dX11_gamesThere_7 (by decide) (fun c_4 => ?_) (fun c_4 => ?_)
    · exact absurd c_4 (by decide +kernel)
    · skip
      refine lv_iload_n hx hb dX11_gamesThere_10 rfl (lv_at hl 1 rfl) ?_
      refine lv_aload_n hx hb dX11_gamesThere_11 rfl (lv_at hl 2 rfl) ?_
      refine va_get (D := (dC, dI)) (ci := 10) (v := .ref (a 1)) (C := RX11) (T := TX11) (N := 9) hx hb hts (by decide +kernel) hown hK hP 0 rfl rfl 0 (by decide) (hts (.fieldLink RX11 11 "CardTables" "games" "[LCardTables$Game;") (List.mem_of_getElem? (l := vsX11_gamesThere) (i := 1) rfl)) (fun _ h9 => h9) rfl dX11_gamesThere_12 ?_
      refine lv_iload_n hx hb dX11_gamesThere_15 rfl (lv_at hl 0 rfl) ?_
      refine va_aldq hx hb hK hP 1 0 rfl rfl (by unfold vp_in; decide +kernel) dX11_gamesThere_16 ?_
      refine W.eq (g2 := F0 m 17 ls [.null, .int 0]) rfl ?_
      refine lv_ifnonnullN hx hb dX11_gamesThere_17 ?_
      refine lv_iconst (v := 0) hx hb dX11_gamesThere_20 (by decide) ?_
      refine lv_goto (tgt := 25) hx hb dX11_gamesThere_21 (by decide) ?_
      refine lv_iadd hx hb dX11_gamesThere_25 ?_
      refine lv_topi (fun x_5 ex_5 => ?_)
      obtain rfl : x_5 = 0 := ex_5.trans (by decide +kernel)
      refine lv_istore_n (lv' := [(1, .int 0), (2, .int 1), (0, .ref (a 0))]) hx hb dX11_gamesThere_26 rfl hl (by decide) rfl (fun ls hl => ?_)
      refine lv_iinc (v := 2) (lv' := [(2, .int 2), (1, .int 0), (0, .ref (a 0))]) hx hb dX11_gamesThere_27 hl (k := 1) rfl (by decide) (by decide) rfl (fun ls hl => ?_)
      refine lv_goto (tgt := 4) hx hb dX11_gamesThere_30 (by decide) ?_
      refine lv_iload_n hx hb dX11_gamesThere_4 rfl (lv_at hl 0 rfl) ?_
      refine lv_bipush (v := 6) hx hb dX11_gamesThere_5 (by decide) ?_
      refine lv_icmp_ge (tgt := 33) hx hb dX11_gamesThere_7 (by decide) (fun c_7 => ?_) (fun c_7 => ?_)
      · exact absurd c_7 (by decide +kernel)
      · skip
        refine lv_iload_n hx hb dX11_gamesThere_10 rfl (lv_at hl 1 rfl) ?_
        refine lv_aload_n hx hb dX11_gamesThere_11 rfl (lv_at hl 2 rfl) ?_
        refine va_get (D := (dC, dI)) (ci := 10) (v := .ref (a 1)) (C := RX11) (T := TX11) (N := 9) hx hb hts (by decide +kernel) hown hK hP 0 rfl rfl 0 (by decide) (hts (.fieldLink RX11 11 "CardTables" "games" "[LCardTables$Game;") (List.mem_of_getElem? (l := vsX11_gamesThere) (i := 1) rfl)) (fun _ h9 => h9) rfl dX11_gamesThere_12 ?_
        refine lv_iload_n hx hb dX11_gamesThere_15 rfl (lv_at hl 0 rfl) ?_
        refine va_aldq hx hb hK hP 1 0 rfl rfl (by unfold vp_in; decide +kernel) dX11_gamesThere_16 ?_
        refine W.eq (g2 := F0 m 17 ls [.null, .int 0]) rfl ?_
        refine lv_ifnonnullN hx hb dX11_gamesThere_17 ?_
        refine lv_iconst (v := 0) hx hb dX11_gamesThere_20 (by decide) ?_
        refine lv_goto (tgt := 25) hx hb dX11_gamesThere_21 (by decide) ?_
        refine lv_iadd hx hb dX11_gamesThere_25 ?_
        refine lv_topi (fun x_8 ex_8 => ?_)
        obtain rfl : x_8 = 0 := ex_8.trans (by decide +kernel)
        refine lv_istore_n (lv' := [(1, .int 0), (2, .int 2), (0, .ref (a 0))]) hx hb dX11_gamesThere_26 rfl hl (by decide) rfl (fun ls hl => ?_)
        refine lv_iinc (v := 3) (lv' := [(2, .int 3), (1, .int 0), (0, .ref (a 0))]) hx hb dX11_gamesThere_27 hl (k := 1) rfl (by decide) (by decide) rfl (fun ls hl => ?_)
        refine lv_goto (tgt := 4) hx hb dX11_gamesThere_30 (by decide) ?_
        refine lv_iload_n hx hb dX11_gamesThere_4 rfl (lv_at hl 0 rfl) ?_
        refine lv_bipush (v := 6) hx hb dX11_gamesThere_5 (by decide) ?_
        refine lv_icmp_ge (tgt := 33) hx hb dX11_gamesThere_7 (by decide) (fun c_10 => ?_) (fun c_10 => ?_)
        · exact absurd c_10 (by decide +kernel)
        · skip
          refine lv_iload_n hx hb dX11_gamesThere_10 rfl (lv_at hl 1 rfl) ?_
          refine lv_aload_n hx hb dX11_gamesThere_11 rfl (lv_at hl 2 rfl) ?_
          refine va_get (D := (dC, dI)) (ci := 10) (v := .ref (a 1)) (C := RX11) (T := TX11) (N := 9) hx hb hts (by decide +kernel) hown hK hP 0 rfl rfl 0 (by decide) (hts (.fieldLink RX11 11 "CardTables" "games" "[LCardTables$Game;") (List.mem_of_getElem? (l := vsX11_gamesThere) (i := 1) rfl)) (fun _ h9 => h9) rfl dX11_gamesThere_12 ?_
          refine lv_iload_n hx hb dX11_gamesThere_15 rfl (lv_at hl 0 rfl) ?_
          refine va_aldq hx hb hK hP 1 0 rfl rfl (by unfold vp_in; decide +kernel) dX11_gamesThere_16 ?_
          refine W.eq (g2 := F0 m 17 ls [.null, .int 0]) rfl ?_
          refine lv_ifnonnullN hx hb dX11_gamesThere_17 ?_
          refine lv_iconst (v := 0) hx hb dX11_gamesThere_20 (by decide) ?_
          refine lv_goto (tgt := 25) hx hb dX11_gamesThere_21 (by decide) ?_
          refine lv_iadd hx hb dX11_gamesThere_25 ?_
          refine lv_topi (fun x_11 ex_11 => ?_)
          obtain rfl : x_11 = 0 := ex_11.trans (by decide +kernel)
          refine lv_istore_n (lv' := [(1, .int 0), (2, .int 3), (0, .ref (a 0))]) hx hb dX11_gamesThere_26 rfl hl (by decide) rfl (fun ls hl => ?_)
          refine lv_iinc (v := 4) (lv' := [(2, .int 4), (1, .int 0), (0, .ref (a 0))]) hx hb dX11_gamesThere_27 hl (k := 1) rfl (by decide) (by decide) rfl (fun ls hl => ?_)
          refine lv_goto (tgt := 4) hx hb dX11_gamesThere_30 (by decide) ?_
          refine lv_iload_n hx hb dX11_gamesThere_4 rfl (lv_at hl 0 rfl) ?_
          refine lv_bipush (v := 6) hx hb dX11_gamesThere_5 (by decide) ?_
          refine lv_icmp_ge (tgt := 33) hx hb dX11_gamesThere_7 (by decide) (fun c_13 => ?_) (fun c_13 => ?_)
          · exact absurd c_13 (by decide +kernel)
          · skip
            refine lv_iload_n hx hb dX11_gamesThere_10 rfl (lv_at hl 1 rfl) ?_
            refine lv_aload_n hx hb dX11_gamesThere_11 rfl (lv_at hl 2 rfl) ?_
            refine va_get (D := (dC, dI)) (ci := 10) (v := .ref (a 1)) (C := RX11) (T := TX11) (N := 9) hx hb hts (by decide +kernel) hown hK hP 0 rfl rfl 0 (by decide) (hts (.fieldLink RX11 11 "CardTables" "games" "[LCardTables$Game;") (List.mem_of_getElem? (l := vsX11_gamesThere) (i := 1) rfl)) (fun _ h9 => h9) rfl dX11_gamesThere_12 ?_
            refine lv_iload_n hx hb dX11_gamesThere_15 rfl (lv_at hl 0 rfl) ?_
            refine va_aldq hx hb hK hP 1 0 rfl rfl (by unfold vp_in; decide +kernel) dX11_gamesThere_16 ?_
            refine W.eq (g2 := F0 m 17 ls [.null, .int 0]) rfl ?_
            refine lv_ifnonnullN hx hb dX11_gamesThere_17 ?_
            refine lv_iconst (v := 0) hx hb dX11_gamesThere_20 (by decide) ?_
            refine lv_goto (tgt := 25) hx hb dX11_gamesThere_21 (by decide) ?_
            refine lv_iadd hx hb dX11_gamesThere_25 ?_
            refine lv_topi (fun x_14 ex_14 => ?_)
            obtain rfl : x_14 = 0 := ex_14.trans (by decide +kernel)
            refine lv_istore_n (lv' := [(1, .int 0), (2, .int 4), (0, .ref (a 0))]) hx hb dX11_gamesThere_26 rfl hl (by decide) rfl (fun ls hl => ?_)
            refine lv_iinc (v := 5) (lv' := [(2, .int 5), (1, .int 0), (0, .ref (a 0))]) hx hb dX11_gamesThere_27 hl (k := 1) rfl (by decide) (by decide) rfl (fun ls hl => ?_)
            refine lv_goto (tgt := 4) hx hb dX11_gamesThere_30 (by decide) ?_
            refine lv_iload_n hx hb dX11_gamesThere_4 rfl (lv_at hl 0 rfl) ?_
            refine lv_bipush (v := 6) hx hb dX11_gamesThere_5 (by decide) ?_
            refine lv_icmp_ge (tgt := 33) hx hb dX11_gamesThere_7 (by decide) (fun c_16 => ?_) (fun c_16 => ?_)
            · exact absurd c_16 (by decide +kernel)
            · skip
              refine lv_iload_n hx hb dX11_gamesThere_10 rfl (lv_at hl 1 rfl) ?_
              refine lv_aload_n hx hb dX11_gamesThere_11 rfl (lv_at hl 2 rfl) ?_
              refine va_get (D := (dC, dI)) (ci := 10) (v := .ref (a 1)) (C := RX11) (T := TX11) (N := 9) hx hb hts (by decide +kernel) hown hK hP 0 rfl rfl 0 (by decide) (hts (.fieldLink RX11 11 "CardTables" "games" "[LCardTables$Game;") (List.mem_of_getElem? (l := vsX11_gamesThere) (i := 1) rfl)) (fun _ h9 => h9) rfl dX11_gamesThere_12 ?_
              refine lv_iload_n hx hb dX11_gamesThere_15 rfl (lv_at hl 0 rfl) ?_
              refine va_aldq hx hb hK hP 1 0 rfl rfl (by unfold vp_in; decide +kernel) dX11_gamesThere_16 ?_
              refine W.eq (g2 := F0 m 17 ls [.null, .int 0]) rfl ?_
              refine lv_ifnonnullN hx hb dX11_gamesThere_17 ?_
              refine lv_iconst (v := 0) hx hb dX11_gamesThere_20 (by decide) ?_
              refine lv_goto (tgt := 25) hx hb dX11_gamesThere_21 (by decide) ?_
              refine lv_iadd hx hb dX11_gamesThere_25 ?_
              refine lv_topi (fun x_17 ex_17 => ?_)
              obtain rfl : x_17 = 0 := ex_17.trans (by decide +kernel)
              refine lv_istore_n (lv' := [(1, .int 0), (2, .int 5), (0, .ref (a 0))]) hx hb dX11_gamesThere_26 rfl hl (by decide) rfl (fun ls hl => ?_)
              refine lv_iinc (v := 6) (lv' := [(2, .int 6), (1, .int 0), (0, .ref (a 0))]) hx hb dX11_gamesThere_27 hl (k := 1) rfl (by decide) (by decide) rfl (fun ls hl => ?_)
              refine lv_goto (tgt := 4) hx hb dX11_gamesThere_30 (by decide) ?_
              refine lv_iload_n hx hb dX11_gamesThere_4 rfl (lv_at hl 0 rfl) ?_
              refine lv_bipush (v := 6) hx hb dX11_gamesThere_5 (by decide) ?_
              refine lv_icmp_ge (tgt := 33) hx hb dX11_gamesThere_7 (by decide) (fun c_19 => ?_) (fun c_19 => ?_)
              · skip
                refine lv_iload_n hx hb dX11_gamesThere_33 rfl (lv_at hl 1 rfl) ?_
                exact W.iret (v := 0) hx hb hr (fun t ht hW => ⟨0, rfl, rfl, ht⟩) (fun q h => by cases h) dX11_gamesThere_34
              · exact absurd c_19 (by decide +kernel)
