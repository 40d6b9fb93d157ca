theorem mc_X4_init : zmC yX4_init cX4_init 2 1 := ⟨⟨zt_t1 9 rfl rfl, zt_t2 109 rfl rfl, by decide, by decide, by decide +kernel⟩, zt_t2 108 rfl rfl, rfl⟩
set_option maxHeartbeats 4000000 in
set_option maxRecDepth 100000 in
theorem c_X4_init_3 (l : Launch) (D : va_G) (h0 : Nat) (k : Int32) : Met l yX4_init (zc yX4_init cX4_init 2 none) (rmd 1) (va_Pc [.ref h0, .int k] (gP D h0 (.inr (3, [.int 0])))) (gQ D h0 (.inr (3, [.int k]))) 0 0 (fun q => q = h0) := by
  refine gin (by decide) (Nat.le_of_ble_eq_true rfl) ?_
  intro p e s m args below meth c ls C hr hlocks hnm hK hP hD hS hl
  have C : CallFix p m c cX4_init 2 s args zw RX4 := C
  obtain ⟨hx, hb, hml, hown, hts⟩ := id C
  have hin : meth.name = "<init>" := hnm
  have hl : lv_has ls 2 [(0, .ref h0), (1, .int k)] := hl
  refine lv_aload_n hx hb dX4_init_0 rfl (lv_at hl 0 rfl) ?_
  refine W.objInit hx hb hown (hts (.methodLink RX4 1 objectInit) (zt_t2 110 rfl rfl)) (hts (.instanceMethod objectInit) (zt_t1 23 rfl rfl)) (hts (.code objectInit ⟨#[0xb1]⟩ 1 none) (zt_t1 24 rfl rfl)) rfl (by rw [hml]; exact hl.1) rfl dX4_init_1 (Nat.le_of_ble_eq_true rfl) (Nat.le_of_ble_eq_true rfl) ?_
  refine W.eq (g2 := F0 m 4 ls []) rfl ?_
  refine lv_aload_n hx hb dX4_init_4 rfl (lv_at hl 0 rfl) ?_
  refine lv_iload_n hx hb dX4_init_5 rfl (lv_at hl 1 rfl) ?_
  refine va_putF (D := D) (ci := 3) (v := .int k) (ty := .int) (C := RX3) (T := TX3) (N := 1) hx hb hts in_3 tyX3 tyX3_ok nmX3 hown hK hP hD hS 0 rfl rfl 0 (by decide) (hts (.fieldLink RX4 7 "CardTables$Game" "type" "I") (zt_t2 111 rfl rfl)) (fun _ h9 => h9) rfl hin rfl (by decide +kernel) rfl rfl (Nat.le_of_ble_eq_true rfl) dX4_init_6 (fun H locs hP hD hS => ?_)
  have hP : va_P D vwCl [(h0, .inr (3, [.int k]))] H := hP
  have hD : va_D (fun q => q = h0) [(h0, .inr (3, [.int k]))] := hD
  exact W.vret hx hb hr (fun t ht hW => ⟨⟨(), rfl, trivial, by rw [← ht] at hP; exact hP⟩, hS.F ht⟩) hS.2.2 dX4_init_9
set_option maxHeartbeats 4000000 in
set_option maxRecDepth 100000 in
theorem c_X4_init_4 (l : Launch) (D : va_G) (h0 : Nat) (k : Int32) : Met l yX4_init (zc yX4_init cX4_init 2 none) (rmd 1) (va_Pc [.ref h0, .int k] (gP D h0 (.inr (4, [.int 0])))) (gQ D h0 (.inr (4, [.int k]))) 0 0 (fun q => q = h0) := by
  refine gin (by decide) (Nat.le_of_ble_eq_true rfl) ?_
  intro p e s m args below meth c ls C hr hlocks hnm hK hP hD hS hl
  have C : CallFix p m c cX4_init 2 s args zw RX4 := C
  obtain ⟨hx, hb, hml, hown, hts⟩ := id C
  have hin : meth.name = "<init>" := hnm
  have hl : lv_has ls 2 [(0, .ref h0), (1, .int k)] := hl
  refine lv_aload_n hx hb dX4_init_0 rfl (lv_at hl 0 rfl) ?_
  refine W.objInit hx hb hown (hts (.methodLink RX4 1 objectInit) (zt_t2 110 rfl rfl)) (hts (.instanceMethod objectInit) (zt_t1 23 rfl rfl)) (hts (.code objectInit ⟨#[0xb1]⟩ 1 none) (zt_t1 24 rfl rfl)) rfl (by rw [hml]; exact hl.1) rfl dX4_init_1 (Nat.le_of_ble_eq_true rfl) (Nat.le_of_ble_eq_true rfl) ?_
  refine W.eq (g2 := F0 m 4 ls []) rfl ?_
  refine lv_aload_n hx hb dX4_init_4 rfl (lv_at hl 0 rfl) ?_
  refine lv_iload_n hx hb dX4_init_5 rfl (lv_at hl 1 rfl) ?_
  refine va_putF (D := D) (ci := 4) (v := .int k) (ty := .int) (C := RX5) (T := TX5) (N := 1) hx hb hts in_4 tyX5 tyX5_ok nmX5 hown hK hP hD hS 0 rfl rfl 0 (by decide) (hts (.fieldLink RX4 7 "CardTables$Game" "type" "I") (zt_t2 111 rfl rfl)) (fun _ h9 => h9) rfl hin rfl (by decide +kernel) rfl rfl (Nat.le_of_ble_eq_true rfl) dX4_init_6 (fun H locs hP hD hS => ?_)
  have hP : va_P D vwCl [(h0, .inr (4, [.int k]))] H := hP
  have hD : va_D (fun q => q = h0) [(h0, .inr (4, [.int k]))] := hD
  exact W.vret hx hb hr (fun t ht hW => ⟨⟨(), rfl, trivial, by rw [← ht] at hP; exact hP⟩, hS.F ht⟩) hS.2.2 dX4_init_9
set_option maxHeartbeats 4000000 in
set_option maxRecDepth 100000 in
theorem c_X4_init_9 (l : Launch) (D : va_G) (h0 : Nat) (k : Int32) : Met l yX4_init (zc yX4_init cX4_init 2 none) (rmd 1) (va_Pc [.ref h0, .int k] (gP D h0 (.inr (9, [.int 0])))) (gQ D h0 (.inr (9, [.int k]))) 0 0 (fun q => q = h0) := by
  refine gin (by decide) (Nat.le_of_ble_eq_true rfl) ?_
  intro p e s m args below meth c ls C hr hlocks hnm hK hP hD hS hl
  have C : CallFix p m c cX4_init 2 s args zw RX4 := C
  obtain ⟨hx, hb, hml, hown, hts⟩ := id C
  have hin : meth.name = "<init>" := hnm
  have hl : lv_has ls 2 [(0, .ref h0), (1, .int k)] := hl
  refine lv_aload_n hx hb dX4_init_0 rfl (lv_at hl 0 rfl) ?_
  refine W.objInit hx hb hown (hts (.methodLink RX4 1 objectInit) (zt_t2 110 rfl rfl)) (hts (.instanceMethod objectInit) (zt_t1 23 rfl rfl)) (hts (.code objectInit ⟨#[0xb1]⟩ 1 none) (zt_t1 24 rfl rfl)) rfl (by rw [hml]; exact hl.1) rfl dX4_init_1 (Nat.le_of_ble_eq_true rfl) (Nat.le_of_ble_eq_true rfl) ?_
  refine W.eq (g2 := F0 m 4 ls []) rfl ?_
  refine lv_aload_n hx hb dX4_init_4 rfl (lv_at hl 0 rfl) ?_
  refine lv_iload_n hx hb dX4_init_5 rfl (lv_at hl 1 rfl) ?_
  refine va_putF (D := D) (ci := 9) (v := .int k) (ty := .int) (C := RX10) (T := TX10) (N := 1) hx hb hts in_9 tyX10 tyX10_ok nmX10 hown hK hP hD hS 0 rfl rfl 0 (by decide) (hts (.fieldLink RX4 7 "CardTables$Game" "type" "I") (zt_t2 111 rfl rfl)) (fun _ h9 => h9) rfl hin rfl (by decide +kernel) rfl rfl (Nat.le_of_ble_eq_true rfl) dX4_init_6 (fun H locs hP hD hS => ?_)
  have hP : va_P D vwCl [(h0, .inr (9, [.int k]))] H := hP
  have hD : va_D (fun q => q = h0) [(h0, .inr (9, [.int k]))] := hD
  exact W.vret hx hb hr (fun t ht hW => ⟨⟨(), rfl, trivial, by rw [← ht] at hP; exact hP⟩, hS.F ht⟩) hS.2.2 dX4_init_9
set_option maxHeartbeats 4000000 in
set_option maxRecDepth 100000 in
theorem c_X4_init_0 (l : Launch) (D : va_G) (h0 : Nat) (k : Int32) : Met l yX4_init (zc yX4_init cX4_init 2 none) (rmd 1) (va_Pc [.ref h0, .int k] (gP D h0 (.inr (0, [.int 0])))) (gQ D h0 (.inr (0, [.int k]))) 0 0 (fun q => q = h0) := by
  refine gin (by decide) (Nat.le_of_ble_eq_true rfl) ?_
  intro p e s m args below meth c ls C hr hlocks hnm hK hP hD hS hl
  have C : CallFix p m c cX4_init 2 s args zw RX4 := C
  obtain ⟨hx, hb, hml, hown, hts⟩ := id C
  have hin : meth.name = "<init>" := hnm
  have hl : lv_has ls 2 [(0, .ref h0), (1, .int k)] := hl
  refine lv_aload_n hx hb dX4_init_0 rfl (lv_at hl 0 rfl) ?_
  refine W.objInit hx hb hown (hts (.methodLink RX4 1 objectInit) (zt_t2 110 rfl rfl)) (hts (.instanceMethod objectInit) (zt_t1 23 rfl rfl)) (hts (.code objectInit ⟨#[0xb1]⟩ 1 none) (zt_t1 24 rfl rfl)) rfl (by rw [hml]; exact hl.1) rfl dX4_init_1 (Nat.le_of_ble_eq_true rfl) (Nat.le_of_ble_eq_true rfl) ?_
  refine W.eq (g2 := F0 m 4 ls []) rfl ?_
  refine lv_aload_n hx hb dX4_init_4 rfl (lv_at hl 0 rfl) ?_
  refine lv_iload_n hx hb dX4_init_5 rfl (lv_at hl 1 rfl) ?_
  refine va_putF (D := D) (ci := 0) (v := .int k) (ty := .int) (C := RX0) (T := TX0) (N := 1) hx hb hts in_0 tyX0 tyX0_ok nmX0 hown hK hP hD hS 0 rfl rfl 0 (by decide) (hts (.fieldLink RX4 7 "CardTables$Game" "type" "I") (zt_t2 111 rfl rfl)) (fun _ h9 => h9) rfl hin rfl (by decide +kernel) rfl rfl (Nat.le_of_ble_eq_true rfl) dX4_init_6 (fun H locs hP hD hS => ?_)
  have hP : va_P D vwCl [(h0, .inr (0, [.int k]))] H := hP
  have hD : va_D (fun q => q = h0) [(h0, .inr (0, [.int k]))] := hD
  exact W.vret hx hb hr (fun t ht hW => ⟨⟨(), rfl, trivial, by rw [← ht] at hP; exact hP⟩, hS.F ht⟩) hS.2.2 dX4_init_9
set_option maxHeartbeats 4000000 in
set_option maxRecDepth 100000 in
theorem c_X4_init_6 (l : Launch) (D : va_G) (h0 : Nat) (k : Int32) : Met l yX4_init (zc yX4_init cX4_init 2 none) (rmd 1) (va_Pc [.ref h0, .int k] (gP D h0 (.inr (6, [.int 0, .null, .null])))) (gQ D h0 (.inr (6, [.int k, .null, .null]))) 0 0 (fun q => q = h0) := by
  refine gin (by decide) (Nat.le_of_ble_eq_true rfl) ?_
  intro p e s m args below meth c ls C hr hlocks hnm hK hP hD hS hl
  have C : CallFix p m c cX4_init 2 s args zw RX4 := C
  obtain ⟨hx, hb, hml, hown, hts⟩ := id C
  have hin : meth.name = "<init>" := hnm
  have hl : lv_has ls 2 [(0, .ref h0), (1, .int k)] := hl
  refine lv_aload_n hx hb dX4_init_0 rfl (lv_at hl 0 rfl) ?_
  refine W.objInit hx hb hown (hts (.methodLink RX4 1 objectInit) (zt_t2 110 rfl rfl)) (hts (.instanceMethod objectInit) (zt_t1 23 rfl rfl)) (hts (.code objectInit ⟨#[0xb1]⟩ 1 none) (zt_t1 24 rfl rfl)) rfl (by rw [hml]; exact hl.1) rfl dX4_init_1 (Nat.le_of_ble_eq_true rfl) (Nat.le_of_ble_eq_true rfl) ?_
  refine W.eq (g2 := F0 m 4 ls []) rfl ?_
  refine lv_aload_n hx hb dX4_init_4 rfl (lv_at hl 0 rfl) ?_
  refine lv_iload_n hx hb dX4_init_5 rfl (lv_at hl 1 rfl) ?_
  refine va_putF (D := D) (ci := 6) (v := .int k) (ty := .int) (C := RX7) (T := TX7) (N := 3) hx hb hts in_6 tyX7 tyX7_ok nmX7 hown hK hP hD hS 0 rfl rfl 0 (by decide) (hts (.fieldLink RX4 7 "CardTables$Game" "type" "I") (zt_t2 111 rfl rfl)) (fun _ h9 => h9) rfl hin rfl (by decide +kernel) rfl rfl (Nat.le_of_ble_eq_true rfl) dX4_init_6 (fun H locs hP hD hS => ?_)
  have hP : va_P D vwCl [(h0, .inr (6, [.int k, .null, .null]))] H := hP
  have hD : va_D (fun q => q = h0) [(h0, .inr (6, [.int k, .null, .null]))] := hD
  exact W.vret hx hb hr (fun t ht hW => ⟨⟨(), rfl, trivial, by rw [← ht] at hP; exact hP⟩, hS.F ht⟩) hS.2.2 dX4_init_9
theorem mc_X3_init : zmC yX3_init cX3_init 2 1 := ⟨⟨zt_t1 10 rfl rfl, zt_t2 106 rfl rfl, by decide, by decide, by decide +kernel⟩, zt_t2 105 rfl rfl, rfl⟩
set_option maxHeartbeats 4000000 in
set_option maxRecDepth 100000 in
theorem c_X3_init_3 (l : Launch) (D : va_G) (h0 : Nat) (k : Int32) : Met l yX3_init (zc yX3_init cX3_init 2 none) (rmd 2) (va_Pc [.ref h0, .int k] (gP D h0 (.inr (3, [.int 0])))) (gQ D h0 (.inr (3, [.int k]))) 0 0 (fun q => q = h0) := by
  refine gin (by decide) (Nat.le_of_ble_eq_true rfl) ?_
  intro p e s m args below meth c ls C hr hlocks hnm hK hP hD hS hl
  have C : CallFix p m c cX3_init 2 s args zw RX3 := C
  obtain ⟨hx, hb, hml, hown, hts⟩ := id C
  have hin : meth.name = "<init>" := hnm
  have hl : lv_has ls 2 [(0, .ref h0), (1, .int k)] := hl
  refine lv_aload_n hx hb dX3_init_0 rfl (lv_at hl 0 rfl) ?_
  refine lv_iload_n hx hb dX3_init_1 rfl (lv_at hl 1 rfl) ?_
  refine gcall (As := [.int k]) (rest := []) C (c_X4_init_3 l D h0 k) mc_X4_init (zt_t2 107 rfl rfl) ⟨Nat.le_of_ble_eq_true rfl, Nat.le_of_ble_eq_true rfl⟩ ⟨Nat.le_of_ble_eq_true rfl, Nat.le_of_ble_eq_true rfl⟩ hl.1 (Nat.le_of_ble_eq_true rfl) dX3_init_2 hP hS rfl hK (fun H locs hP hS _ => ?_)
  have hD : va_D (fun q => q = h0) [(h0, .inr (3, [.int k]))] := one_D rfl
  exact W.vret hx hb hr (fun t ht hW => ⟨⟨(), rfl, trivial, by rw [← ht] at hP; exact hP⟩, hS.F ht⟩) hS.2.2 dX3_init_5
set_option maxHeartbeats 4000000 in
set_option maxRecDepth 100000 in
theorem c_X3_init_4 (l : Launch) (D : va_G) (h0 : Nat) (k : Int32) : Met l yX3_init (zc yX3_init cX3_init 2 none) (rmd 2) (va_Pc [.ref h0, .int k] (gP D h0 (.inr (4, [.int 0])))) (gQ D h0 (.inr (4, [.int k]))) 0 0 (fun q => q = h0) := by
  refine gin (by decide) (Nat.le_of_ble_eq_true rfl) ?_
  intro p e s m args below meth c ls C hr hlocks hnm hK hP hD hS hl
  have C : CallFix p m c cX3_init 2 s args zw RX3 := C
  obtain ⟨hx, hb, hml, hown, hts⟩ := id C
  have hin : meth.name = "<init>" := hnm
  have hl : lv_has ls 2 [(0, .ref h0), (1, .int k)] := hl
  refine lv_aload_n hx hb dX3_init_0 rfl (lv_at hl 0 rfl) ?_
  refine lv_iload_n hx hb dX3_init_1 rfl (lv_at hl 1 rfl) ?_
  refine gcall (As := [.int k]) (rest := []) C (c_X4_init_4 l D h0 k) mc_X4_init (zt_t2 107 rfl rfl) ⟨Nat.le_of_ble_eq_true rfl, Nat.le_of_ble_eq_true rfl⟩ ⟨Nat.le_of_ble_eq_true rfl, Nat.le_of_ble_eq_true rfl⟩ hl.1 (Nat.le_of_ble_eq_true rfl) dX3_init_2 hP hS rfl hK (fun H locs hP hS _ => ?_)
  have hD : va_D (fun q => q = h0) [(h0, .inr (4, [.int k]))] := one_D rfl
  exact W.vret hx hb hr (fun t ht hW => ⟨⟨(), rfl, trivial, by rw [← ht] at hP; exact hP⟩, hS.F ht⟩) hS.2.2 dX3_init_5
set_option maxHeartbeats 4000000 in
set_option maxRecDepth 100000 in
theorem c_X3_init_9 (l : Launch) (D : va_G) (h0 : Nat) (k : Int32) : Met l yX3_init (zc yX3_init cX3_init 2 none) (rmd 2) (va_Pc [.ref h0, .int k] (gP D h0 (.inr (9, [.int 0])))) (gQ D h0 (.inr (9, [.int k]))) 0 0 (fun q => q = h0) := by
  refine gin (by decide) (Nat.le_of_ble_eq_true rfl) ?_
  intro p e s m args below meth c ls C hr hlocks hnm hK hP hD hS hl
  have C : CallFix p m c cX3_init 2 s args zw RX3 := C
  obtain ⟨hx, hb, hml, hown, hts⟩ := id C
  have hin : meth.name = "<init>" := hnm
  have hl : lv_has ls 2 [(0, .ref h0), (1, .int k)] := hl
  refine lv_aload_n hx hb dX3_init_0 rfl (lv_at hl 0 rfl) ?_
  refine lv_iload_n hx hb dX3_init_1 rfl (lv_at hl 1 rfl) ?_
  refine gcall (As := [.int k]) (rest := []) C (c_X4_init_9 l D h0 k) mc_X4_init (zt_t2 107 rfl rfl) ⟨Nat.le_of_ble_eq_true rfl, Nat.le_of_ble_eq_true rfl⟩ ⟨Nat.le_of_ble_eq_true rfl, Nat.le_of_ble_eq_true rfl⟩ hl.1 (Nat.le_of_ble_eq_true rfl) dX3_init_2 hP hS rfl hK (fun H locs hP hS _ => ?_)
  have hD : va_D (fun q => q = h0) [(h0, .inr (9, [.int k]))] := one_D rfl
  exact W.vret hx hb hr (fun t ht hW => ⟨⟨(), rfl, trivial, by rw [← ht] at hP; exact hP⟩, hS.F ht⟩) hS.2.2 dX3_init_5
set_option maxHeartbeats 4000000 in
set_option maxRecDepth 100000 in
theorem c_X3_init_0 (l : Launch) (D : va_G) (h0 : Nat) (k : Int32) : Met l yX3_init (zc yX3_init cX3_init 2 none) (rmd 2) (va_Pc [.ref h0, .int k] (gP D h0 (.inr (0, [.int 0])))) (gQ D h0 (.inr (0, [.int k]))) 0 0 (fun q => q = h0) := by
  refine gin (by decide) (Nat.le_of_ble_eq_true rfl) ?_
  intro p e s m args below meth c ls C hr hlocks hnm hK hP hD hS hl
  have C : CallFix p m c cX3_init 2 s args zw RX3 := C
  obtain ⟨hx, hb, hml, hown, hts⟩ := id C
  have hin : meth.name = "<init>" := hnm
  have hl : lv_has ls 2 [(0, .ref h0), (1, .int k)] := hl
  refine lv_aload_n hx hb dX3_init_0 rfl (lv_at hl 0 rfl) ?_
  refine lv_iload_n hx hb dX3_init_1 rfl (lv_at hl 1 rfl) ?_
  refine gcall (As := [.int k]) (rest := []) C (c_X4_init_0 l D h0 k) mc_X4_init (zt_t2 107 rfl rfl) ⟨Nat.le_of_ble_eq_true rfl, Nat.le_of_ble_eq_true rfl⟩ ⟨Nat.le_of_ble_eq_true rfl, Nat.le_of_ble_eq_true rfl⟩ hl.1 (Nat.le_of_ble_eq_true rfl) dX3_init_2 hP hS rfl hK (fun H locs hP hS _ => ?_)
  have hD : va_D (fun q => q = h0) [(h0, .inr (0, [.int k]))] := one_D rfl
  exact W.vret hx hb hr (fun t ht hW => ⟨⟨(), rfl, trivial, by rw [← ht] at hP; exact hP⟩, hS.F ht⟩) hS.2.2 dX3_init_5
theorem mc_X5_init : zmC yX5_init cX5_init 2 1 := ⟨⟨zt_t1 11 rfl rfl, zt_t2 103 rfl rfl, by decide, by decide, by decide +kernel⟩, zt_t2 102 rfl rfl, rfl⟩
set_option maxHeartbeats 4000000 in
set_option maxRecDepth 100000 in
theorem c_X5_init_4 (l : Launch) (D : va_G) (h0 : Nat) (k : Int32) : Met l yX5_init (zc yX5_init cX5_init 2 none) (rmd 3) (va_Pc [.ref h0, .int k] (gP D h0 (.inr (4, [.int 0])))) (gQ D h0 (.inr (4, [.int k]))) 0 0 (fun q => q = h0) := by
  refine gin (by decide) (Nat.le_of_ble_eq_true rfl) ?_
  intro p e s m args below meth c ls C hr hlocks hnm hK hP hD hS hl
  have C : CallFix p m c cX5_init 2 s args zw RX5 := C
  obtain ⟨hx, hb, hml, hown, hts⟩ := id C
  have hin : meth.name = "<init>" := hnm
  have hl : lv_has ls 2 [(0, .ref h0), (1, .int k)] := hl
  refine lv_aload_n hx hb dX5_init_0 rfl (lv_at hl 0 rfl) ?_
  refine lv_iload_n hx hb dX5_init_1 rfl (lv_at hl 1 rfl) ?_
  refine gcall (As := [.int k]) (rest := []) C (c_X3_init_4 l D h0 k) mc_X3_init (zt_t2 104 rfl rfl) ⟨Nat.le_of_ble_eq_true rfl, Nat.le_of_ble_eq_true rfl⟩ ⟨Nat.le_of_ble_eq_true rfl, Nat.le_of_ble_eq_true rfl⟩ hl.1 (Nat.le_of_ble_eq_true rfl) dX5_init_2 hP hS rfl hK (fun H locs hP hS _ => ?_)
  have hD : va_D (fun q => q = h0) [(h0, .inr (4, [.int k]))] := one_D rfl
  exact W.vret hx hb hr (fun t ht hW => ⟨⟨(), rfl, trivial, by rw [← ht] at hP; exact hP⟩, hS.F ht⟩) hS.2.2 dX5_init_5
set_option maxHeartbeats 4000000 in
set_option maxRecDepth 100000 in
theorem c_X5_init_0 (l : Launch) (D : va_G) (h0 : Nat) (k : Int32) : Met l yX5_init (zc yX5_init cX5_init 2 none) (rmd 3) (va_Pc [.ref h0, .int k] (gP D h0 (.inr (0, [.int 0])))) (gQ D h0 (.inr (0, [.int k]))) 0 0 (fun q => q = h0) := by
  refine gin (by decide) (Nat.le_of_ble_eq_true rfl) ?_
  intro p e s m args below meth c ls C hr hlocks hnm hK hP hD hS hl
  have C : CallFix p m c cX5_init 2 s args zw RX5 := C
  obtain ⟨hx, hb, hml, hown, hts⟩ := id C
  have hin : meth.name = "<init>" := hnm
  have hl : lv_has ls 2 [(0, .ref h0), (1, .int k)] := hl
  refine lv_aload_n hx hb dX5_init_0 rfl (lv_at hl 0 rfl) ?_
  refine lv_iload_n hx hb dX5_init_1 rfl (lv_at hl 1 rfl) ?_
  refine gcall (As := [.int k]) (rest := []) C (c_X3_init_0 l D h0 k) mc_X3_init (zt_t2 104 rfl rfl) ⟨Nat.le_of_ble_eq_true rfl, Nat.le_of_ble_eq_true rfl⟩ ⟨Nat.le_of_ble_eq_true rfl, Nat.le_of_ble_eq_true rfl⟩ hl.1 (Nat.le_of_ble_eq_true rfl) dX5_init_2 hP hS rfl hK (fun H locs hP hS _ => ?_)
  have hD : va_D (fun q => q = h0) [(h0, .inr (0, [.int k]))] := one_D rfl
  exact W.vret hx hb hr (fun t ht hW => ⟨⟨(), rfl, trivial, by rw [← ht] at hP; exact hP⟩, hS.F ht⟩) hS.2.2 dX5_init_5
theorem mc_X10_init : zmC yX10_init cX10_init 1 0 := ⟨⟨zt_t1 12 rfl rfl, zt_t2 121 rfl rfl, by decide, by decide, by decide +kernel⟩, zt_t2 120 rfl rfl, rfl⟩
set_option maxHeartbeats 4000000 in
set_option maxRecDepth 100000 in
theorem c_X10_init_9 (l : Launch) (D : va_G) (h0 : Nat) : Met l yX10_init (zc yX10_init cX10_init 1 none) (rmd 3) (va_Pc [.ref h0] (gP D h0 (.inr (9, [.int 0])))) (gQ D h0 (.inr (9, [.int 2]))) 0 0 (fun q => q = h0) := by
  refine gin (by decide) (Nat.le_of_ble_eq_true rfl) ?_
  intro p e s m args below meth c ls C hr hlocks hnm hK hP hD hS hl
  have C : CallFix p m c cX10_init 1 s args zw RX10 := C
  obtain ⟨hx, hb, hml, hown, hts⟩ := id C
  have hin : meth.name = "<init>" := hnm
  have hl : lv_has ls 1 [(0, .ref h0)] := hl
  refine lv_aload_n hx hb dX10_init_0 rfl (lv_at hl 0 rfl) ?_
  refine lv_iconst (v := 2) hx hb dX10_init_1 (by decide) ?_
  refine gcall (As := [.int 2]) (rest := []) C (c_X3_init_9 l D h0 2) mc_X3_init (zt_t2 122 rfl rfl) ⟨Nat.le_of_ble_eq_true rfl, Nat.le_of_ble_eq_true rfl⟩ ⟨Nat.le_of_ble_eq_true rfl, Nat.le_of_ble_eq_true rfl⟩ hl.1 (Nat.le_of_ble_eq_true rfl) dX10_init_2 hP hS rfl hK (fun H locs hP hS _ => ?_)
  have hD : va_D (fun q => q = h0) [(h0, .inr (9, [.int 2]))] := one_D rfl
  exact W.vret hx hb hr (fun t ht hW => ⟨⟨(), rfl, trivial, by rw [← ht] at hP; exact hP⟩, hS.F ht⟩) hS.2.2 dX10_init_5
theorem mc_X0_init : zmC yX0_init cX0_init 1 0 := ⟨⟨zt_t1 13 rfl rfl, zt_t2 129 rfl rfl, by decide, by decide, by decide +kernel⟩, zt_t2 128 rfl rfl, rfl⟩
set_option maxHeartbeats 4000000 in
set_option maxRecDepth 100000 in
theorem c_X0_init_0 (l : Launch) (D : va_G) (h0 : Nat) : Met l yX0_init (zc yX0_init cX0_init 1 none) (rmd 4) (va_Pc [.ref h0] (gP D h0 (.inr (0, [.int 0])))) (gQ D h0 (.inr (0, [.int 3]))) 0 0 (fun q => q = h0) := by
  refine gin (by decide) (Nat.le_of_ble_eq_true rfl) ?_
  intro p e s m args below meth c ls C hr hlocks hnm hK hP hD hS hl
  have C : CallFix p m c cX0_init 1 s args zw RX0 := C
  obtain ⟨hx, hb, hml, hown, hts⟩ := id C
  have hin : meth.name = "<init>" := hnm
  have hl : lv_has ls 1 [(0, .ref h0)] := hl
  refine lv_aload_n hx hb dX0_init_0 rfl (lv_at hl 0 rfl) ?_
  refine lv_iconst (v := 3) hx hb dX0_init_1 (by decide) ?_
  refine gcall (As := [.int 3]) (rest := []) C (c_X5_init_0 l D h0 3) mc_X5_init (zt_t2 130 rfl rfl) ⟨Nat.le_of_ble_eq_true rfl, Nat.le_of_ble_eq_true rfl⟩ ⟨Nat.le_of_ble_eq_true rfl, Nat.le_of_ble_eq_true rfl⟩ hl.1 (Nat.le_of_ble_eq_true rfl) dX0_init_2 hP hS rfl hK (fun H locs hP hS _ => ?_)
  have hD : va_D (fun q => q = h0) [(h0, .inr (0, [.int 3]))] := one_D rfl
  exact W.vret hx hb hr (fun t ht hW => ⟨⟨(), rfl, trivial, by rw [← ht] at hP; exact hP⟩, hS.F ht⟩) hS.2.2 dX0_init_5
theorem mc_X7_init : zmC yX7_init cX7_init 3 2 := ⟨⟨zt_t1 14 rfl rfl, zt_t2 142 rfl rfl, by decide, by decide, by decide +kernel⟩, zt_t2 141 rfl rfl, rfl⟩
set_option maxHeartbeats 4000000 in
set_option maxRecDepth 100000 in
theorem c_X7_init_6 (l : Launch) (D : va_G) (h0 : Nat) (f1 f2 : Nat) : Met l yX7_init (zc yX7_init cX7_init 3 none) (rmd 2) (va_Pc [.ref h0, .ref f1, .ref f2] (gP D h0 (.inr (6, [.int 0, .null, .null])))) (gQ D h0 (.inr (6, [.int 4, .ref f1, .ref f2]))) 0 0 (fun q => q = h0) := by
  refine gin (by decide) (Nat.le_of_ble_eq_true rfl) ?_
  intro p e s m args below meth c ls C hr hlocks hnm hK hP hD hS hl
  have C : CallFix p m c cX7_init 3 s args zw RX7 := C
  obtain ⟨hx, hb, hml, hown, hts⟩ := id C
  have hin : meth.name = "<init>" := hnm
  have hl : lv_has ls 3 [(0, .ref h0), (1, .ref f1), (2, .ref f2)] := hl
  refine lv_aload_n hx hb dX7_init_0 rfl (lv_at hl 0 rfl) ?_
  refine lv_iconst (v := 4) hx hb dX7_init_1 (by decide) ?_
  refine gcall (As := [.int 4]) (rest := []) C (c_X4_init_6 l D h0 4) mc_X4_init (zt_t2 143 rfl rfl) ⟨Nat.le_of_ble_eq_true rfl, Nat.le_of_ble_eq_true rfl⟩ ⟨Nat.le_of_ble_eq_true rfl, Nat.le_of_ble_eq_true rfl⟩ hl.1 (Nat.le_of_ble_eq_true rfl) dX7_init_2 hP hS rfl hK (fun H locs hP hS _ => ?_)
  have hD : va_D (fun q => q = h0) [(h0, .inr (6, [.int 4, .null, .null]))] := one_D rfl
  refine lv_aload_n hx hb dX7_init_5 rfl (lv_at hl 0 rfl) ?_
  refine lv_aload_n hx hb dX7_init_6 rfl (lv_at hl 1 rfl) ?_
  refine va_putF (D := D) (ci := 6) (v := .ref f1) (ty := .object "CardTables$Follow") (C := RX7) (T := TX7) (N := 3) hx hb hts in_6 tyX7 tyX7_ok nmX7 hown hK hP hD hS 0 rfl rfl 1 (by decide) (hts (.fieldLink RX7 9 "CardTables$Pair" "first" "LCardTables$Follow;") (zt_t2 144 rfl rfl)) (fun _ h9 => h9) rfl hin rfl (by decide +kernel) rfl rfl (Nat.le_of_ble_eq_true rfl) dX7_init_7 (fun H locs hP hD hS => ?_)
  have hP : va_P D vwCl [(h0, .inr (6, [.int 4, .ref f1, .null]))] H := hP
  have hD : va_D (fun q => q = h0) [(h0, .inr (6, [.int 4, .ref f1, .null]))] := hD
  refine lv_aload_n hx hb dX7_init_10 rfl (lv_at hl 0 rfl) ?_
  refine lv_aload_n hx hb dX7_init_11 rfl (lv_at hl 2 rfl) ?_
  refine va_putF (D := D) (ci := 6) (v := .ref f2) (ty := .object "CardTables$Follow") (C := RX7) (T := TX7) (N := 3) hx hb hts in_6 tyX7 tyX7_ok nmX7 hown hK hP hD hS 0 rfl rfl 2 (by decide) (hts (.fieldLink RX7 15 "CardTables$Pair" "second" "LCardTables$Follow;") (zt_t2 145 rfl rfl)) (fun _ h9 => h9) rfl hin rfl (by decide +kernel) rfl rfl (Nat.le_of_ble_eq_true rfl) dX7_init_12 (fun H locs hP hD hS => ?_)
  have hP : va_P D vwCl [(h0, .inr (6, [.int 4, .ref f1, .ref f2]))] H := hP
  have hD : va_D (fun q => q = h0) [(h0, .inr (6, [.int 4, .ref f1, .ref f2]))] := hD
  exact W.vret hx hb hr (fun t ht hW => ⟨⟨(), rfl, trivial, by rw [← ht] at hP; exact hP⟩, hS.F ht⟩) hS.2.2 dX7_init_15
set_option maxHeartbeats 4000000 in
set_option maxRecDepth 100000 in
theorem c_X11_newGame (l : Launch) (D : va_G) (sz : Nat) (k : Int32) : Met l yX11_newGame (zc yX11_newGame cX11_newGame 1 (some (.object "CardTables$Game"))) (rmc 5 1 1) (va_Pc [.int k] (fun U => U.heap.size = sz ∧ va_K D vwCl [] U)) (va_Qr (fun _ : Unit => True) (fun _ ra t => ∃ (ci : Nat) (v : Int32), (ci = 0 ∨ ci = 3 ∨ ci = 4 ∨ ci = 9) ∧ (0 ≤ k.toInt → k.toInt ≤ 3 → v = k) ∧ va_P D vwCl [(ra, .inr (ci, [.int v]))] t.heap ∧ sz ≤ ra) (fun q => sz ≤ q)) 1 1 (fun q => sz ≤ q) := by
  refine Met.ofW (cc := cX11_newGame) (maxL := 1) (ret := (some (.object "CardTables$Game"))) (by decide) rfl ?_
  intro p e s m args below meth c s₁ B hml hv
  obtain ⟨rfl, hsz, hK⟩ := hv
  have hx := B.exec
  have hb := B.bytes
  have hr := B.returns
  have hts0 := atoms_spec (ws := zc yX11_newGame cX11_newGame 1 (some (.object "CardTables$Game"))) B.pre
  have hts : ∀ w ∈ zw, w.before _ s = true := fun w hw => hts0 w (List.mem_cons_of_mem _ hw)
  have hown : s.vm.findClass RX11 = some m.cls := findClass_of_methodNamed B.named
  have hlocks := B.notSynchronized
  have C : CallFix p m c cX11_newGame 1 s _ zw RX11 := ⟨hx, hb, hml, hown, hts⟩
  subst hsz
  have hA : ∀ q : Nat, s.heap.size ≤ q → (fun q : Nat => s.heap.size ≤ q) q := fun q h => h
  have hP : va_P D vwCl [] s.heap := fun k q h => by simp at h
  have hD : va_D (fun q : Nat => s.heap.size ≤ q) [] := ⟨fun i j p q h => by simp at h, fun k q h => by simp at h⟩
  have hS : va_S (fun q : Nat => s.heap.size ≤ q) s.heap s.heap [] := va_S.rf
  have hl := lv_entry ([.int k]) (n := 1) (Nat.le_of_ble_eq_true rfl)
  rw [lg_entry_eq]
  generalize (lg_sl ([.int k]) ++ List.replicate (1 - (lg_sl ([.int k])).length) Slot.unset).toArray = ls at hl ⊢
  have hl : lv_has ls 1 [(0, .int k)] := hl
  refine lv_iload_n hx hb dX11_newGame_0 rfl (lv_at hl 0 rfl) ?_
  by_cases hs_1 : k = 1
  · subst hs_1
    refine lv_tableIn (off := 27) (tgt := 28) hx hb dX11_newGame_1 (by decide +kernel) (by decide +kernel) (by decide +kernel) (by decide) ?_
    refine va_new (ci := 4) (fs := [.int 0]) (C := RX5) (T := TX5) (N := 1) hx hb hts in_4 tyX5 tyX5_ok hown (hts _ (zt_t2 99 rfl rfl)) (hts _ (zt_t2 100 rfl rfl)) (hts _ (zt_t1 11 rfl rfl)) hK hP hD hS hA rfl (fun j hj => by rcases (show j = 0 by omega) with rfl <;> rfl) (Nat.le_of_ble_eq_true rfl) (Nat.le_of_ble_eq_true rfl) dX11_newGame_28 (fun q H hP hD hS => ?_)
    refine W.widen (k := 1) (n := 1) (by omega) (by omega) ?_
    refine lv_dup hx hb dX11_newGame_31 rfl ?_
    refine lv_iconst (v := 1) hx hb dX11_newGame_32 (by decide) ?_
    refine gcall (As := [.int 1]) (rest := [.ref q]) C (c_X5_init_4 l D q 1) mc_X5_init (zt_t2 101 rfl rfl) ⟨Nat.le_of_ble_eq_true rfl, Nat.le_of_ble_eq_true rfl⟩ ⟨Nat.le_of_ble_eq_true rfl, Nat.le_of_ble_eq_true rfl⟩ hl.1 (Nat.le_of_ble_eq_true rfl) dX11_newGame_33 hP hS (hD.2 0 _ rfl) hK (fun H locs hP hS _ => ?_)
    exact W.aret (v := .ref q) hx hb hr (Or.inl ⟨_, rfl⟩) (Or.inr ⟨_, rfl⟩) (fun t ht hW => ⟨⟨(), q, rfl, trivial, 4, 1, by decide, fun _ _ => rfl, by rw [ht]; exact hP, hD.2 0 _ rfl⟩, hS.F ht⟩) hS.2.2 dX11_newGame_36
  by_cases hs_2 : k = 2
  · subst hs_2
    refine lv_tableIn (off := 36) (tgt := 37) hx hb dX11_newGame_1 (by decide +kernel) (by decide +kernel) (by decide +kernel) (by decide) ?_
    refine va_new (ci := 9) (fs := [.int 0]) (C := RX10) (T := TX10) (N := 1) hx hb hts in_9 tyX10 tyX10_ok hown (hts _ (zt_t2 117 rfl rfl)) (hts _ (zt_t2 118 rfl rfl)) (hts _ (zt_t1 12 rfl rfl)) hK hP hD hS hA rfl (fun j hj => by rcases (show j = 0 by omega) with rfl <;> rfl) (Nat.le_of_ble_eq_true rfl) (Nat.le_of_ble_eq_true rfl) dX11_newGame_37 (fun q H hP hD hS => ?_)
    refine W.widen (k := 1) (n := 1) (by omega) (by omega) ?_
    refine lv_dup hx hb dX11_newGame_40 rfl ?_
    refine gcall (As := []) (rest := [.ref q]) C (c_X10_init_9 l D q) mc_X10_init (zt_t2 119 rfl rfl) ⟨Nat.le_of_ble_eq_true rfl, Nat.le_of_ble_eq_true rfl⟩ ⟨Nat.le_of_ble_eq_true rfl, Nat.le_of_ble_eq_true rfl⟩ hl.1 (Nat.le_of_ble_eq_true rfl) dX11_newGame_41 hP hS (hD.2 0 _ rfl) hK (fun H locs hP hS _ => ?_)
    exact W.aret (v := .ref q) hx hb hr (Or.inl ⟨_, rfl⟩) (Or.inr ⟨_, rfl⟩) (fun t ht hW => ⟨⟨(), q, rfl, trivial, 9, 2, by decide, fun _ _ => rfl, by rw [ht]; exact hP, hD.2 0 _ rfl⟩, hS.F ht⟩) hS.2.2 dX11_newGame_44
  by_cases hs_3 : k = 3
  · subst hs_3
    refine lv_tableIn (off := 44) (tgt := 45) hx hb dX11_newGame_1 (by decide +kernel) (by decide +kernel) (by decide +kernel) (by decide) ?_
    refine va_new (ci := 0) (fs := [.int 0]) (C := RX0) (T := TX0) (N := 1) hx hb hts in_0 tyX0 tyX0_ok hown (hts _ (zt_t2 125 rfl rfl)) (hts _ (zt_t2 126 rfl rfl)) (hts _ (zt_t1 13 rfl rfl)) hK hP hD hS hA rfl (fun j hj => by rcases (show j = 0 by omega) with rfl <;> rfl) (Nat.le_of_ble_eq_true rfl) (Nat.le_of_ble_eq_true rfl) dX11_newGame_45 (fun q H hP hD hS => ?_)
    refine W.widen (k := 1) (n := 1) (by omega) (by omega) ?_
    refine lv_dup hx hb dX11_newGame_48 rfl ?_
    refine gcall (As := []) (rest := [.ref q]) C (c_X0_init_0 l D q) mc_X0_init (zt_t2 127 rfl rfl) ⟨Nat.le_of_ble_eq_true rfl, Nat.le_of_ble_eq_true rfl⟩ ⟨Nat.le_of_ble_eq_true rfl, Nat.le_of_ble_eq_true rfl⟩ hl.1 (Nat.le_of_ble_eq_true rfl) dX11_newGame_49 hP hS (hD.2 0 _ rfl) hK (fun H locs hP hS _ => ?_)
    exact W.aret (v := .ref q) hx hb hr (Or.inl ⟨_, rfl⟩) (Or.inr ⟨_, rfl⟩) (fun t ht hW => ⟨⟨(), q, rfl, trivial, 0, 3, by decide, fun _ _ => rfl, by rw [ht]; exact hP, hD.2 0 _ rfl⟩, hS.F ht⟩) hS.2.2 dX11_newGame_52
  have ht_1 : ¬ k.toInt = 1 := fun h => hs_1 ((fa_eq _ _).mpr (h.trans (by decide +kernel)))
  have ht_2 : ¬ k.toInt = 2 := fun h => hs_2 ((fa_eq _ _).mpr (h.trans (by decide +kernel)))
  have ht_3 : ¬ k.toInt = 3 := fun h => hs_3 ((fa_eq _ _).mpr (h.trans (by decide +kernel)))
  refine lv_tableOut (tgt := 53) hx hb dX11_newGame_1 (by omega) (by decide) ?_
  refine va_new (ci := 3) (fs := [.int 0]) (C := RX3) (T := TX3) (N := 1) hx hb hts in_3 tyX3 tyX3_ok hown (hts _ (zt_t2 133 rfl rfl)) (hts _ (zt_t2 134 rfl rfl)) (hts _ (zt_t1 10 rfl rfl)) hK hP hD hS hA rfl (fun j hj => by rcases (show j = 0 by omega) with rfl <;> rfl) (Nat.le_of_ble_eq_true rfl) (Nat.le_of_ble_eq_true rfl) dX11_newGame_53 (fun q H hP hD hS => ?_)
  refine W.widen (k := 1) (n := 1) (by omega) (by omega) ?_
  refine lv_dup hx hb dX11_newGame_56 rfl ?_
  refine lv_iconst (v := 0) hx hb dX11_newGame_57 (by decide) ?_
  refine gcall (As := [.int 0]) (rest := [.ref q]) C (c_X3_init_3 l D q 0) mc_X3_init (zt_t2 135 rfl rfl) ⟨Nat.le_of_ble_eq_true rfl, Nat.le_of_ble_eq_true rfl⟩ ⟨Nat.le_of_ble_eq_true rfl, Nat.le_of_ble_eq_true rfl⟩ hl.1 (Nat.le_of_ble_eq_true rfl) dX11_newGame_58 hP hS (hD.2 0 _ rfl) hK (fun H locs hP hS _ => ?_)
  exact W.aret (v := .ref q) hx hb hr (Or.inl ⟨_, rfl⟩) (Or.inr ⟨_, rfl⟩) (fun t ht hW => ⟨⟨(), q, rfl, trivial, 3, 0, by decide, (fun h0 h3 => (fa_eq _ _).mpr (by rw [ti_0]; omega)), by rw [ht]; exact hP, hD.2 0 _ rfl⟩, hS.F ht⟩) hS.2.2 dX11_newGame_61
