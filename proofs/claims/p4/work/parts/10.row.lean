set_option maxHeartbeats 4000000 in
set_option maxRecDepth 100000 in
theorem c_X11_isSeat (l : Launch) (D : va_G) (K : zK) (hO : zOk K) (vi va : Nat → Nat → Int32) (vg : Nat → Nat → Option Nat) (hI : zI K (vi, va, vg)) (x0 : Int32) : Met l yX11_isSeat (zc yX11_isSeat cX11_isSeat 1 (some .boolean)) (rmd 0) (va_Pc [.int x0] (zB D K (vi, va, vg))) (vp_Si (fun r => (r = 0 ∨ r = 1) ∧ (r.toInt ≠ 0 → 0 ≤ x0.toInt ∧ x0.toInt ≤ 3))) 0 0 (fun _ => False) := by
  refine zin (by decide) (Nat.le_of_ble_eq_true rfl) ?_
  intro p e s m args below meth c ls Q hQ C hr hlk hP hs hl
  have C : CallFix p m c cX11_isSeat 1 s args zw RX11 := C
  obtain ⟨hx, hb, hml, hown, hts⟩ := id C
  have hS : va_S (zA K) s.heap s.heap [] := va_S.rf
  have hl : lv_has ls 1 [(0, .int x0)] := hl
  refine lv_iload_n hx hb dX11_isSeat_0 rfl (lv_at hl 0 rfl) ?_
  refine bz_lt (tgt := 13) hx hb rfl dX11_isSeat_1 (by decide) (fun c_1 => ?_) (fun c_1 => ?_)
  · skip
    refine lv_iconst (v := 0) hx hb dX11_isSeat_13 (by decide) ?_
    exact zaSz hQ hx hb hr hlk (Or.inl rfl) ⟨(Or.inl rfl), (by (try simp only [ti_0]); first | omega | (intro h9; omega) | (simp; done) | (refine ⟨?_, ?_⟩ <;> intro h9 <;> omega))⟩ dX11_isSeat_14
  · skip
    refine lv_iload_n hx hb dX11_isSeat_4 rfl (lv_at hl 0 rfl) ?_
    refine lv_iconst (v := 4) hx hb dX11_isSeat_5 (by decide) ?_
    refine bi_ge (tgt := 13) hx hb rfl ti_4 dX11_isSeat_6 (by decide) (fun c_2 => ?_) (fun c_2 => ?_)
    · skip
      refine lv_iconst (v := 0) hx hb dX11_isSeat_13 (by decide) ?_
      exact zaSz hQ hx hb hr hlk (Or.inl rfl) ⟨(Or.inl rfl), (by (try simp only [ti_0]); first | omega | (intro h9; omega) | (simp; done) | (refine ⟨?_, ?_⟩ <;> intro h9 <;> omega))⟩ dX11_isSeat_14
    · skip
      refine lv_iconst (v := 1) hx hb dX11_isSeat_9 (by decide) ?_
      refine lv_goto (tgt := 14) hx hb dX11_isSeat_10 (by decide) ?_
      exact zaSz hQ hx hb hr hlk (Or.inr rfl) ⟨(Or.inr rfl), (by (try simp only [ti_1]); first | omega | (intro h9; omega) | (simp; done) | (refine ⟨?_, ?_⟩ <;> intro h9 <;> omega))⟩ dX11_isSeat_14
set_option maxHeartbeats 4000000 in
set_option maxRecDepth 100000 in
theorem c_X11_isSide (l : Launch) (D : va_G) (K : zK) (hO : zOk K) (vi va : Nat → Nat → Int32) (vg : Nat → Nat → Option Nat) (hI : zI K (vi, va, vg)) (x0 : Int32) : Met l yX11_isSide (zc yX11_isSide cX11_isSide 1 (some .boolean)) (rmd 0) (va_Pc [.int x0] (zB D K (vi, va, vg))) (vp_Si (fun r => (r = 0 ∨ r = 1) ∧ (r.toInt ≠ 0 → 0 ≤ x0.toInt ∧ x0.toInt ≤ 1))) 0 0 (fun _ => False) := by
  refine zin (by decide) (Nat.le_of_ble_eq_true rfl) ?_
  intro p e s m args below meth c ls Q hQ C hr hlk hP hs hl
  have C : CallFix p m c cX11_isSide 1 s args zw RX11 := C
  obtain ⟨hx, hb, hml, hown, hts⟩ := id C
  have hS : va_S (zA K) s.heap s.heap [] := va_S.rf
  have hl : lv_has ls 1 [(0, .int x0)] := hl
  refine lv_iload_n hx hb dX11_isSide_0 rfl (lv_at hl 0 rfl) ?_
  refine bz_eq (tgt := 9) hx hb rfl dX11_isSide_1 (by decide) (fun c_1 => ?_) (fun c_1 => ?_)
  · skip
    refine lv_iconst (v := 1) hx hb dX11_isSide_9 (by decide) ?_
    refine lv_goto (tgt := 14) hx hb dX11_isSide_10 (by decide) ?_
    exact zaSz hQ hx hb hr hlk (Or.inr rfl) ⟨(Or.inr rfl), (by (try simp only [ti_1]); first | omega | (intro h9; omega) | (simp; done) | (refine ⟨?_, ?_⟩ <;> intro h9 <;> omega))⟩ dX11_isSide_14
  · skip
    refine lv_iload_n hx hb dX11_isSide_4 rfl (lv_at hl 0 rfl) ?_
    refine lv_iconst (v := 1) hx hb dX11_isSide_5 (by decide) ?_
    refine bi_ne (tgt := 13) hx hb rfl ti_1 dX11_isSide_6 (by decide) (fun c_2 => ?_) (fun c_2 => ?_)
    · skip
      refine lv_iconst (v := 0) hx hb dX11_isSide_13 (by decide) ?_
      exact zaSz hQ hx hb hr hlk (Or.inl rfl) ⟨(Or.inl rfl), (by (try simp only [ti_0]); first | omega | (intro h9; omega) | (simp; done) | (refine ⟨?_, ?_⟩ <;> intro h9 <;> omega))⟩ dX11_isSide_14
    · skip
      refine lv_iconst (v := 1) hx hb dX11_isSide_9 (by decide) ?_
      refine lv_goto (tgt := 14) hx hb dX11_isSide_10 (by decide) ?_
      exact zaSz hQ hx hb hr hlk (Or.inr rfl) ⟨(Or.inr rfl), (by (try simp only [ti_1]); first | omega | (intro h9; omega) | (simp; done) | (refine ⟨?_, ?_⟩ <;> intro h9 <;> omega))⟩ dX11_isSide_14
set_option maxHeartbeats 4000000 in
set_option maxRecDepth 100000 in
theorem c_X11_isGame (l : Launch) (D : va_G) (K : zK) (hO : zOk K) (vi va : Nat → Nat → Int32) (vg : Nat → Nat → Option Nat) (hI : zI K (vi, va, vg)) (x0 : Int32) : Met l yX11_isGame (zc yX11_isGame cX11_isGame 1 (some .boolean)) (rmd 0) (va_Pc [.int x0] (zB D K (vi, va, vg))) (vp_Si (fun r => (r = 0 ∨ r = 1) ∧ (r.toInt ≠ 0 → 0 ≤ x0.toInt ∧ x0.toInt ≤ 5) ∧ (r.toInt = 0 → x0.toInt < 0 ∨ 5 < x0.toInt))) 0 0 (fun _ => False) := by
  refine zin (by decide) (Nat.le_of_ble_eq_true rfl) ?_
  intro p e s m args below meth c ls Q hQ C hr hlk hP hs hl
  have C : CallFix p m c cX11_isGame 1 s args zw RX11 := C
  obtain ⟨hx, hb, hml, hown, hts⟩ := id C
  have hS : va_S (zA K) s.heap s.heap [] := va_S.rf
  have hl : lv_has ls 1 [(0, .int x0)] := hl
  refine lv_iload_n hx hb dX11_isGame_0 rfl (lv_at hl 0 rfl) ?_
  refine bz_lt (tgt := 14) hx hb rfl dX11_isGame_1 (by decide) (fun c_1 => ?_) (fun c_1 => ?_)
  · skip
    refine lv_iconst (v := 0) hx hb dX11_isGame_14 (by decide) ?_
    exact zaSz hQ hx hb hr hlk (Or.inl rfl) ⟨(Or.inl rfl), (by (try simp only [ti_0]); first | omega | (intro h9; omega) | (simp; done) | (refine ⟨?_, ?_⟩ <;> intro h9 <;> omega))⟩ dX11_isGame_15
  · skip
    refine lv_iload_n hx hb dX11_isGame_4 rfl (lv_at hl 0 rfl) ?_
    refine lv_bipush (v := 6) hx hb dX11_isGame_5 (by decide) ?_
    refine bi_ge (tgt := 14) hx hb rfl ti_6 dX11_isGame_7 (by decide) (fun c_2 => ?_) (fun c_2 => ?_)
    · skip
      refine lv_iconst (v := 0) hx hb dX11_isGame_14 (by decide) ?_
      exact zaSz hQ hx hb hr hlk (Or.inl rfl) ⟨(Or.inl rfl), (by (try simp only [ti_0]); first | omega | (intro h9; omega) | (simp; done) | (refine ⟨?_, ?_⟩ <;> intro h9 <;> omega))⟩ dX11_isGame_15
    · skip
      refine lv_iconst (v := 1) hx hb dX11_isGame_10 (by decide) ?_
      refine lv_goto (tgt := 15) hx hb dX11_isGame_11 (by decide) ?_
      exact zaSz hQ hx hb hr hlk (Or.inr rfl) ⟨(Or.inr rfl), (by (try simp only [ti_1]); first | omega | (intro h9; omega) | (simp; done) | (refine ⟨?_, ?_⟩ <;> intro h9 <;> omega))⟩ dX11_isGame_15
set_option maxHeartbeats 4000000 in
set_option maxRecDepth 100000 in
theorem c_X11_packed (l : Launch) (D : va_G) (K : zK) (hO : zOk K) (vi va : Nat → Nat → Int32) (vg : Nat → Nat → Option Nat) (hI : zI K (vi, va, vg)) (x0 : Int32) (x1 : Int32) (x2 : Int32) (x3 : Int32) : Met l yX11_packed (zc yX11_packed cX11_packed 4 (some .int)) (rmd 0) (va_Pc [.int x0, .int x1, .int x2, .int x3] (zB D K (vi, va, vg))) (vp_Si (fun r => True)) 0 0 (fun _ => False) := by
  refine zin (by decide) (Nat.le_of_ble_eq_true rfl) ?_
  intro p e s m args below meth c ls Q hQ C hr hlk hP hs hl
  have C : CallFix p m c cX11_packed 4 s args zw RX11 := C
  obtain ⟨hx, hb, hml, hown, hts⟩ := id C
  have hS : va_S (zA K) s.heap s.heap [] := va_S.rf
  have hl : lv_has ls 4 [(0, .int x0), (1, .int x1), (2, .int x2), (3, .int x3)] := hl
  refine lv_iload_n hx hb dX11_packed_0 rfl (lv_at hl 0 rfl) ?_
  refine lv_bipush (v := 10) hx hb dX11_packed_1 (by decide) ?_
  refine lv_ishl hx hb dX11_packed_3 ?_
  refine lv_topi (fun x_1 ex_1 => ?_)
  refine lv_iload_n hx hb dX11_packed_4 rfl (lv_at hl 1 rfl) ?_
  refine lv_bipush (v := 8) hx hb dX11_packed_5 (by decide) ?_
  refine lv_ishl hx hb dX11_packed_7 ?_
  refine lv_topi (fun x_2 ex_2 => ?_)
  refine lv_ior hx hb dX11_packed_8 ?_
  refine lv_topi (fun x_3 ex_3 => ?_)
  refine lv_iload_n hx hb dX11_packed_9 rfl (lv_at hl 2 rfl) ?_
  refine lv_iconst (v := 2) hx hb dX11_packed_10 (by decide) ?_
  refine lv_ishl hx hb dX11_packed_11 ?_
  refine lv_topi (fun x_4 ex_4 => ?_)
  refine lv_ior hx hb dX11_packed_12 ?_
  refine lv_topi (fun x_5 ex_5 => ?_)
  refine lv_iload_n hx hb dX11_packed_13 rfl (lv_at hl 3 rfl) ?_
  refine lv_ior hx hb dX11_packed_14 ?_
  refine lv_topi (fun x_6 ex_6 => ?_)
  exact zaS hQ hx hb hr hlk trivial dX11_packed_15
set_option maxHeartbeats 4000000 in
set_option maxRecDepth 100000 in
theorem c_X11_copy (l : Launch) (D : va_G) (K : zK) (hO : zOk K) (vi va : Nat → Nat → Int32) (vg : Nat → Nat → Option Nat) (hI : zI K (vi, va, vg)) (a0 : Nat) (ha0 : a0 ∈ zl K) (hk0 : zk K a0 = 20) (a1 : Nat) (ha1 : a1 ∈ zl K) (hk1 : zk K a1 = 20) : Met l yX11_copy (zc yX11_copy cX11_copy 2 none) (rmd 1) (va_Pc [.ref a0, .ref a1] (zB D K (vi, va, vg))) (zQv D K (fun V' => zI K V' ∧ V'.2.2 = vg)) 0 0 (zA K) := by
  refine zin (by decide) (Nat.le_of_ble_eq_true rfl) ?_
  intro p e s m args below meth c ls Q hQ C hr hlk hP hs hl
  have C : CallFix p m c cX11_copy 2 s args zw RX11 := C
  obtain ⟨hx, hb, hml, hown, hts⟩ := id C
  have hS : va_S (zA K) s.heap s.heap [] := va_S.rf
  have hl : lv_has ls 2 [(0, .ref a0), (1, .ref a1)] := hl
  refine lv_aload_n hx hb dX11_copy_0 rfl (lv_at hl 0 rfl) ?_
  refine lv_iconst (v := 0) hx hb dX11_copy_1 (by decide) ?_
  refine lv_aload_n hx hb dX11_copy_2 rfl (lv_at hl 1 rfl) ?_
  refine lv_iconst (v := 0) hx hb dX11_copy_3 (by decide) ?_
  refine lv_aload_n hx hb dX11_copy_4 rfl (lv_at hl 0 rfl) ?_
  refine zlen C hs hP ha0 hO hk0 (zF_20 hk0) rfl rfl dX11_copy_5 (fun x_1 ex_1 => ?_)
  have g_2 := z_rng x_1
  refine lv_aload_n hx hb dX11_copy_6 rfl (lv_at hl 1 rfl) ?_
  refine zlen C hs hP ha1 hO hk1 (zF_20 hk1) rfl rfl dX11_copy_7 (fun x_3 ex_3 => ?_)
  have g_4 := z_rng x_3
  refine va_mmin hx hb (hml.trans hl.1.symm) hown (hts _ wm_X11_315) (hts _ wt_Lib_Math_min_name) (hts _ wn_J9) (hts _ wo_min) (by decide) (Nat.le_of_ble_eq_true rfl) (Nat.zero_le _) (Nat.zero_le _) dX11_copy_8 ?_
  refine lv_topi (fun x_5 ex_5 => ?_)
  have f_5 := z_min ex_5 rfl rfl
  refine z_copy C hO hs hP hS ha1 hI (hml.trans hl.1.symm) wm_X11_318 ha0 hk1 hk0 (by rw [ti_0]; decide) (by rw [ti_0]; decide) (by omega) (by simp only [ti_0]; omega) (by simp only [ti_0]; omega) ⟨by decide, Nat.le_of_ble_eq_true rfl⟩ dX11_copy_11 (fun va_6 H locs hI hP hS => ?_)
  exact zaV hQ hx hb hr hlk hP hS ⟨hI, rfl⟩ dX11_copy_14
set_option maxHeartbeats 4000000 in
set_option maxRecDepth 100000 in
theorem c_J7_fill_53178 (l : Launch) (D : va_G) (K : zK) (hO : zOk K) (vi va : Nat → Nat → Int32) (vg : Nat → Nat → Option Nat) (hI : zI K (vi, va, vg)) (a0 : Nat) (ha0 : a0 ∈ zl K) (hk0 : zk K a0 = 20) (x1 : Int32) : Met l yJ7_fill_53178 (zc yJ7_fill_53178 cJ7_fill_53178 4 none) (rmd 0) (va_Pc [.ref a0, .int x1] (zB D K (vi, va, vg))) (zQv D K (fun V' => zI K V' ∧ V'.2.2 = vg)) 0 0 (zA K) := by
  refine zin (by decide) (Nat.le_of_ble_eq_true rfl) ?_
  intro p e s m args below meth c ls Q hQ C hr hlk hP hs hl
  have C : CallFix p m c cJ7_fill_53178 4 s args zw RJ7 := C
  obtain ⟨hx, hb, hml, hown, hts⟩ := id C
  have hS : va_S (zA K) s.heap s.heap [] := va_S.rf
  have hl : lv_has ls 4 [(0, .ref a0), (1, .int x1)] := hl
  refine lv_iconst (v := 0) hx hb dJ7_fill_53178_0 (by decide) ?_
  refine lv_istore_n (lv' := [(2, .int 0), (0, .ref a0), (1, .int x1)]) hx hb dJ7_fill_53178_1 rfl hl (by decide) rfl (fun ls hl => ?_)
  refine lv_aload_n hx hb dJ7_fill_53178_2 rfl (lv_at hl 1 rfl) ?_
  refine zlen C hs hP ha0 hO hk0 (zF_20 hk0) rfl rfl dJ7_fill_53178_3 (fun x_1 ex_1 => ?_)
  have g_2 := z_rng x_1
  refine lv_istore_n (lv' := [(3, .int x_1), (2, .int 0), (0, .ref a0), (1, .int x1)]) hx hb dJ7_fill_53178_4 rfl hl (by decide) rfl (fun ls hl => ?_)
  have L_5_4 : ∀ (n_4 : Nat) (va_5 : Nat → Nat → Int32) (H : Heap) (locs : List Loc) (y_3 : Int32) (ls : Array Slot), (2147483648 - y_3.toInt).toNat < n_4 → 0 ≤ y_3.toInt → zI K (vi, va_5, vg) → va_P D vwCl (zW K (vi, va_5, vg)) H → va_S (zA K) s.heap H locs → lv_has ls 4 [(3, .int x_1), (2, .int y_3), (0, .ref a0), (1, .int x1)] → W p l e (rmd 0) s m args below meth c H locs 0 0 Q (F0 m 5 ls []) := by
    intro n_4
    induction n_4 with
    | zero => intro va_5 H locs y_3 ls hm_4; exact absurd hm_4 (Nat.not_lt_zero _)
    | succ n_4 ih_4 =>
      intro va_5 H locs y_3 ls hm_4 iv_5_0 hI hP hS hl
      refine lv_iload_n hx hb dJ7_fill_53178_5 rfl (lv_at hl 1 rfl) ?_
      refine lv_iload_n hx hb dJ7_fill_53178_6 rfl (lv_at hl 0 rfl) ?_
      refine bi_ge (tgt := 20) hx hb rfl rfl dJ7_fill_53178_7 (by decide) (fun c_7 => ?_) (fun c_7 => ?_)
      · skip
        exact zaV hQ hx hb hr hlk hP hS ⟨hI, rfl⟩ dJ7_fill_53178_20
      · skip
        refine lv_aload_n hx hb dJ7_fill_53178_10 rfl (lv_at hl 2 rfl) ?_
        refine lv_iload_n hx hb dJ7_fill_53178_11 rfl (lv_at hl 1 rfl) ?_
        refine lv_iload_n hx hb dJ7_fill_53178_12 rfl (lv_at hl 3 rfl) ?_
        have g_9 := z_rng y_3
        have hin_8 : vp_in y_3 (zn K a0) := vp_in_iff.mpr (by refine ⟨?_, ?_⟩ <;> omega)
        refine ks_20 C hO hs hP hS ha0 hk0 hI hin_8 dJ7_fill_53178_13 (fun va_10 H locs hI hP hS => ?_)
        obtain ⟨x_11, ex_11⟩ : ∃ y : Int32, y = y_3 + 1 := ⟨_, rfl⟩
        refine lv_iinc (v := x_11) (lv' := [(2, .int x_11), (3, .int x_1), (0, .ref a0), (1, .int x1)]) hx hb dJ7_fill_53178_14 hl (k := 1) rfl (by rw [ex_11]; rfl) (by decide) rfl (fun ls hl => ?_)
        refine lv_goto (tgt := 5) hx hb dJ7_fill_53178_17 (by decide) ?_
        obtain ⟨f_11, l_11, u_11⟩ := z_add ex_11 rfl ti_1
        exact ih_4 va_10 _ _ x_11 _ (by omega) (by omega) hI hP hS (lv_sub hl [1, 0, 2, 3] rfl)
  exact L_5_4 _ va _ _ 0 _ (Nat.lt_succ_self _) (by simp only [ti_0]; omega) hI hP hS (lv_sub hl [0, 1, 2, 3] rfl)
set_option maxHeartbeats 4000000 in
set_option maxRecDepth 100000 in
theorem c_X8_at (l : Launch) (D : va_G) (K : zK) (hO : zOk K) (vi va : Nat → Nat → Int32) (vg : Nat → Nat → Option Nat) (hI : zI K (vi, va, vg)) (a0 : Nat) (ha0 : a0 ∈ zl K) (hk0 : zk K a0 = 7) (x1 : Int32) : Met l yX8_at (zc yX8_at cX8_at 2 (some .int)) (rmd 0) (va_Pc [.ref a0, .int x1] (zB D K (vi, va, vg))) (vp_Si (fun r => True)) 0 0 (fun _ => False) := by
  refine zin (by decide) (Nat.le_of_ble_eq_true rfl) ?_
  intro p e s m args below meth c ls Q hQ C hr hlk hP hs hl
  have C : CallFix p m c cX8_at 2 s args zw RX8 := C
  obtain ⟨hx, hb, hml, hown, hts⟩ := id C
  have hS : va_S (zA K) s.heap s.heap [] := va_S.rf
  have hl : lv_has ls 2 [(0, .ref a0), (1, .int x1)] := hl
  refine lv_iload_n hx hb dX8_at_0 rfl (lv_at hl 1 rfl) ?_
  refine bz_lt (tgt := 30) hx hb rfl dX8_at_1 (by decide) (fun c_1 => ?_) (fun c_1 => ?_)
  · skip
    refine lv_iconst (v := (-1)) hx hb dX8_at_30 (by decide) ?_
    exact zaS hQ hx hb hr hlk trivial dX8_at_31
  · skip
    refine lv_iload_n hx hb dX8_at_4 rfl (lv_at hl 1 rfl) ?_
    refine lv_aload_n hx hb dX8_at_5 rfl (lv_at hl 0 rfl) ?_
    refine zg_7_1 C hs hP ha0 hk0 wf_X8_21 dX8_at_6 ?_
    refine bi_ge (tgt := 30) hx hb rfl rfl dX8_at_9 (by decide) (fun c_2 => ?_) (fun c_2 => ?_)
    · skip
      refine lv_iconst (v := (-1)) hx hb dX8_at_30 (by decide) ?_
      exact zaS hQ hx hb hr hlk trivial dX8_at_31
    · skip
      refine lv_iload_n hx hb dX8_at_12 rfl (lv_at hl 1 rfl) ?_
      refine lv_aload_n hx hb dX8_at_13 rfl (lv_at hl 0 rfl) ?_
      refine zg_7_0 C hs hP ha0 hk0 wf_X8_15 dX8_at_14 ?_
      have hf_3 := hO.r (j := 0) ha0 hk0 (rfl : zX 7 0 = some (20, 0))
      refine zlen C hs hP hf_3.1 hO hf_3.2.1 (zF_20 hf_3.2.1) rfl rfl dX8_at_17 (fun x_4 ex_4 => ?_)
      have g_5 := z_rng x_4
      refine bi_ge (tgt := 30) hx hb rfl rfl dX8_at_18 (by decide) (fun c_6 => ?_) (fun c_6 => ?_)
      · skip
        refine lv_iconst (v := (-1)) hx hb dX8_at_30 (by decide) ?_
        exact zaS hQ hx hb hr hlk trivial dX8_at_31
      · skip
        refine lv_aload_n hx hb dX8_at_21 rfl (lv_at hl 0 rfl) ?_
        refine zg_7_0 C hs hP ha0 hk0 wf_X8_15 dX8_at_22 ?_
        refine lv_iload_n hx hb dX8_at_25 rfl (lv_at hl 1 rfl) ?_
        have g_8 := z_rng x1
        have hin_7 : vp_in x1 (zn K (zr K a0 0)) := vp_in_iff.mpr (by refine ⟨?_, ?_⟩ <;> omega)
        refine zld_20 C hs hP hf_3.1 hf_3.2.1 hin_7 dX8_at_26 ?_
        refine lv_goto (tgt := 31) hx hb dX8_at_27 (by decide) ?_
        exact zaS hQ hx hb hr hlk trivial dX8_at_31
set_option maxHeartbeats 4000000 in
set_option maxRecDepth 100000 in
theorem c_X8_add (l : Launch) (D : va_G) (K : zK) (hO : zOk K) (vi va : Nat → Nat → Int32) (vg : Nat → Nat → Option Nat) (hI : zI K (vi, va, vg)) (a0 : Nat) (ha0 : a0 ∈ zl K) (hk0 : zk K a0 = 7) (x1 : Int32) : Met l yX8_add (zc yX8_add cX8_add 3 none) (rmd 1) (va_Pc [.ref a0, .int x1] (zB D K (vi, va, vg))) (zQv D K (fun V' => zI K V' ∧ V'.2.2 = vg)) 0 0 (zA K) := by
  refine zin (by decide) (Nat.le_of_ble_eq_true rfl) ?_
  intro p e s m args below meth c ls Q hQ C hr hlk hP hs hl
  have C : CallFix p m c cX8_add 3 s args zw RX8 := C
  obtain ⟨hx, hb, hml, hown, hts⟩ := id C
  have hS : va_S (zA K) s.heap s.heap [] := va_S.rf
  have hl : lv_has ls 3 [(0, .ref a0), (1, .int x1)] := hl
  refine lv_iconst (v := 0) hx hb dX8_add_0 (by decide) ?_
  refine lv_aload_n hx hb dX8_add_1 rfl (lv_at hl 0 rfl) ?_
  refine zg_7_1 C hs hP ha0 hk0 wf_X8_21 dX8_add_2 ?_
  refine va_mmax hx hb (hml.trans hl.1.symm) hown (hts _ wm_X8_9) (hts _ wt_Lib_Math_max_name) (hts _ wn_J9) (hts _ wo_max) (by decide) (Nat.le_of_ble_eq_true rfl) (Nat.zero_le _) (Nat.zero_le _) dX8_add_5 ?_
  refine lv_topi (fun x_1 ex_1 => ?_)
  refine lv_istore_n (lv' := [(2, .int x_1), (0, .ref a0), (1, .int x1)]) hx hb dX8_add_8 rfl hl (by decide) rfl (fun ls hl => ?_)
  refine lv_iload_n hx hb dX8_add_9 rfl (lv_at hl 0 rfl) ?_
  refine lv_aload_n hx hb dX8_add_10 rfl (lv_at hl 1 rfl) ?_
  refine zg_7_0 C hs hP ha0 hk0 wf_X8_15 dX8_add_11 ?_
  have hf_2 := hO.r (j := 0) ha0 hk0 (rfl : zX 7 0 = some (20, 0))
  refine zlen C hs hP hf_2.1 hO hf_2.2.1 (zF_20 hf_2.2.1) rfl rfl dX8_add_14 (fun x_3 ex_3 => ?_)
  have g_4 := z_rng x_3
  refine bi_ge (tgt := 32) hx hb rfl rfl dX8_add_15 (by decide) (fun c_5 => ?_) (fun c_5 => ?_)
  · skip
    exact zaV hQ hx hb hr hlk hP hS ⟨hI, rfl⟩ dX8_add_32
  · skip
    refine lv_aload_n hx hb dX8_add_18 rfl (lv_at hl 1 rfl) ?_
    refine zg_7_0 C hs hP ha0 hk0 wf_X8_15 dX8_add_19 ?_
    refine lv_iload_n hx hb dX8_add_22 rfl (lv_at hl 0 rfl) ?_
    refine lv_iload_n hx hb dX8_add_23 rfl (lv_at hl 2 rfl) ?_
    have g_7 := z_rng (vi a0 1)
    have f_1 := z_max ex_1 ti_0 rfl
    have hin_6 : vp_in x_1 (zn K (zr K a0 0)) := vp_in_iff.mpr (by refine ⟨?_, ?_⟩ <;> omega)
    refine ks_20 C hO hs hP hS hf_2.1 hf_2.2.1 hI hin_6 dX8_add_24 (fun va_8 H locs hI hP hS => ?_)
    refine lv_aload_n hx hb dX8_add_25 rfl (lv_at hl 1 rfl) ?_
    refine lv_iload_n hx hb dX8_add_26 rfl (lv_at hl 0 rfl) ?_
    refine lv_iconst (v := 1) hx hb dX8_add_27 (by decide) ?_
    refine lv_iadd hx hb dX8_add_28 ?_
    refine lv_topi (fun x_9 ex_9 => ?_)
    refine kp_7_1 C hO hs hP hS ha0 hk0 wf_X8_21 hI dX8_add_29 (fun vi_10 H locs hI hP hS => ?_)
    exact zaV hQ hx hb hr hlk hP hS ⟨hI, rfl⟩ dX8_add_32
set_option maxHeartbeats 4000000 in
set_option maxRecDepth 100000 in
theorem c_X8_takeAt (l : Launch) (D : va_G) (K : zK) (hO : zOk K) (vi va : Nat → Nat → Int32) (vg : Nat → Nat → Option Nat) (hI : zI K (vi, va, vg)) (a0 : Nat) (ha0 : a0 ∈ zl K) (hk0 : zk K a0 = 7) (x1 : Int32) : Met l yX8_takeAt (zc yX8_takeAt cX8_takeAt 3 (some .int)) (rmd 1) (va_Pc [.ref a0, .int x1] (zB D K (vi, va, vg))) (zQi D K (fun r V' => zI K V' ∧ V'.2.2 = vg)) 0 0 (zA K) := by
  refine zin (by decide) (Nat.le_of_ble_eq_true rfl) ?_
  intro p e s m args below meth c ls Q hQ C hr hlk hP hs hl
  have C : CallFix p m c cX8_takeAt 3 s args zw RX8 := C
  obtain ⟨hx, hb, hml, hown, hts⟩ := id C
  have hS : va_S (zA K) s.heap s.heap [] := va_S.rf
  have hl : lv_has ls 3 [(0, .ref a0), (1, .int x1)] := hl
  refine lv_iload_n hx hb dX8_takeAt_0 rfl (lv_at hl 1 rfl) ?_
  refine bz_lt (tgt := 24) hx hb rfl dX8_takeAt_1 (by decide) (fun c_1 => ?_) (fun c_1 => ?_)
  · skip
    refine lv_iconst (v := (-1)) hx hb dX8_takeAt_24 (by decide) ?_
    exact zaI hQ hx hb hr hlk hP hS ⟨hI, rfl⟩ dX8_takeAt_25
  · skip
    refine lv_iload_n hx hb dX8_takeAt_4 rfl (lv_at hl 1 rfl) ?_
    refine lv_aload_n hx hb dX8_takeAt_5 rfl (lv_at hl 0 rfl) ?_
    refine zg_7_1 C hs hP ha0 hk0 wf_X8_21 dX8_takeAt_6 ?_
    refine bi_ge (tgt := 24) hx hb rfl rfl dX8_takeAt_9 (by decide) (fun c_2 => ?_) (fun c_2 => ?_)
    · skip
      refine lv_iconst (v := (-1)) hx hb dX8_takeAt_24 (by decide) ?_
      exact zaI hQ hx hb hr hlk hP hS ⟨hI, rfl⟩ dX8_takeAt_25
    · skip
      refine lv_aload_n hx hb dX8_takeAt_12 rfl (lv_at hl 0 rfl) ?_
      refine zg_7_1 C hs hP ha0 hk0 wf_X8_21 dX8_takeAt_13 ?_
      refine lv_aload_n hx hb dX8_takeAt_16 rfl (lv_at hl 0 rfl) ?_
      refine zg_7_0 C hs hP ha0 hk0 wf_X8_15 dX8_takeAt_17 ?_
      have hf_3 := hO.r (j := 0) ha0 hk0 (rfl : zX 7 0 = some (20, 0))
      refine zlen C hs hP hf_3.1 hO hf_3.2.1 (zF_20 hf_3.2.1) rfl rfl dX8_takeAt_20 (fun x_4 ex_4 => ?_)
      have g_5 := z_rng x_4
      refine bi_le (tgt := 26) hx hb rfl rfl dX8_takeAt_21 (by decide) (fun c_6 => ?_) (fun c_6 => ?_)
      · skip
        refine lv_aload_n hx hb dX8_takeAt_26 rfl (lv_at hl 0 rfl) ?_
        refine zg_7_0 C hs hP ha0 hk0 wf_X8_15 dX8_takeAt_27 ?_
        refine lv_iload_n hx hb dX8_takeAt_30 rfl (lv_at hl 1 rfl) ?_
        have g_8 := z_rng x1
        have hin_7 : vp_in x1 (zn K (zr K a0 0)) := vp_in_iff.mpr (by refine ⟨?_, ?_⟩ <;> omega)
        refine zld_20 C hs hP hf_3.1 hf_3.2.1 hin_7 dX8_takeAt_31 ?_
        refine lv_istore_n (lv' := [(2, .int (va (zr K a0 0) x1.toNatClampNeg)), (0, .ref a0), (1, .int x1)]) hx hb dX8_takeAt_32 rfl hl (by decide) rfl (fun ls hl => ?_)
        refine lv_aload_n hx hb dX8_takeAt_33 rfl (lv_at hl 1 rfl) ?_
        refine zg_7_0 C hs hP ha0 hk0 wf_X8_15 dX8_takeAt_34 ?_
        refine lv_iload_n hx hb dX8_takeAt_37 rfl (lv_at hl 2 rfl) ?_
        refine lv_iconst (v := 1) hx hb dX8_takeAt_38 (by decide) ?_
        refine lv_iadd hx hb dX8_takeAt_39 ?_
        refine lv_topi (fun x_9 ex_9 => ?_)
        refine lv_aload_n hx hb dX8_takeAt_40 rfl (lv_at hl 1 rfl) ?_
        refine zg_7_0 C hs hP ha0 hk0 wf_X8_15 dX8_takeAt_41 ?_
        refine lv_iload_n hx hb dX8_takeAt_44 rfl (lv_at hl 2 rfl) ?_
        refine lv_aload_n hx hb dX8_takeAt_45 rfl (lv_at hl 1 rfl) ?_
        refine zg_7_1 C hs hP ha0 hk0 wf_X8_21 dX8_takeAt_46 ?_
        refine lv_iconst (v := 1) hx hb dX8_takeAt_49 (by decide) ?_
        refine lv_isub hx hb dX8_takeAt_50 ?_
        refine lv_topi (fun x_10 ex_10 => ?_)
        refine lv_iload_n hx hb dX8_takeAt_51 rfl (lv_at hl 2 rfl) ?_
        refine lv_isub hx hb dX8_takeAt_52 ?_
        refine lv_topi (fun x_11 ex_11 => ?_)
        have g_13 := z_rng (vi a0 1)
        obtain ⟨f_10, l_10, u_10⟩ := z_sub ex_10 rfl ti_1
        obtain ⟨f_11, l_11, u_11⟩ := z_sub ex_11 rfl rfl
        obtain ⟨f_9, l_9, u_9⟩ := z_add ex_9 rfl ti_1
        refine z_copy C hO hs hP hS hf_3.1 hI (hml.trans hl.1.symm) wm_X8_25 hf_3.1 hf_3.2.1 hf_3.2.1 (by omega) (by omega) (by omega) (by omega) (by omega) ⟨by decide, Nat.le_of_ble_eq_true rfl⟩ dX8_takeAt_53 (fun va_12 H locs hI hP hS => ?_)
        refine lv_aload_n hx hb dX8_takeAt_56 rfl (lv_at hl 1 rfl) ?_
        refine lv_dup hx hb dX8_takeAt_57 rfl ?_
        refine zg_7_1 C hs hP ha0 hk0 wf_X8_21 dX8_takeAt_58 ?_
        refine lv_iconst (v := 1) hx hb dX8_takeAt_61 (by decide) ?_
        refine lv_isub hx hb dX8_takeAt_62 ?_
        refine lv_topi (fun x_14 ex_14 => ?_)
        refine kp_7_1 C hO hs hP hS ha0 hk0 wf_X8_21 hI dX8_takeAt_63 (fun vi_15 H locs hI hP hS => ?_)
        refine lv_iload_n hx hb dX8_takeAt_66 rfl (lv_at hl 0 rfl) ?_
        exact zaI hQ hx hb hr hlk hP hS ⟨hI, rfl⟩ dX8_takeAt_67
      · skip
        refine lv_iconst (v := (-1)) hx hb dX8_takeAt_24 (by decide) ?_
        exact zaI hQ hx hb hr hlk hP hS ⟨hI, rfl⟩ dX8_takeAt_25
set_option maxHeartbeats 4000000 in
set_option maxRecDepth 100000 in
theorem c_X8_putAt (l : Launch) (D : va_G) (K : zK) (hO : zOk K) (vi va : Nat → Nat → Int32) (vg : Nat → Nat → Option Nat) (hI : zI K (vi, va, vg)) (a0 : Nat) (ha0 : a0 ∈ zl K) (hk0 : zk K a0 = 7) (x1 : Int32) (x2 : Int32) : Met l yX8_putAt (zc yX8_putAt cX8_putAt 3 none) (rmd 1) (va_Pc [.ref a0, .int x1, .int x2] (zB D K (vi, va, vg))) (zQv D K (fun V' => zI K V' ∧ V'.2.2 = vg)) 0 0 (zA K) := by
  refine zin (by decide) (Nat.le_of_ble_eq_true rfl) ?_
  intro p e s m args below meth c ls Q hQ C hr hlk hP hs hl
  have C : CallFix p m c cX8_putAt 3 s args zw RX8 := C
  obtain ⟨hx, hb, hml, hown, hts⟩ := id C
  have hS : va_S (zA K) s.heap s.heap [] := va_S.rf
  have hl : lv_has ls 3 [(0, .ref a0), (1, .int x1), (2, .int x2)] := hl
  refine lv_iload_n hx hb dX8_putAt_0 rfl (lv_at hl 1 rfl) ?_
  refine bz_lt (tgt := 62) hx hb rfl dX8_putAt_1 (by decide) (fun c_1 => ?_) (fun c_1 => ?_)
  · skip
    exact zaV hQ hx hb hr hlk hP hS ⟨hI, rfl⟩ dX8_putAt_62
  · skip
    refine lv_iload_n hx hb dX8_putAt_4 rfl (lv_at hl 1 rfl) ?_
    refine lv_aload_n hx hb dX8_putAt_5 rfl (lv_at hl 0 rfl) ?_
    refine zg_7_1 C hs hP ha0 hk0 wf_X8_21 dX8_putAt_6 ?_
    refine bi_gt (tgt := 62) hx hb rfl rfl dX8_putAt_9 (by decide) (fun c_2 => ?_) (fun c_2 => ?_)
    · skip
      exact zaV hQ hx hb hr hlk hP hS ⟨hI, rfl⟩ dX8_putAt_62
    · skip
      refine lv_aload_n hx hb dX8_putAt_12 rfl (lv_at hl 0 rfl) ?_
      refine zg_7_1 C hs hP ha0 hk0 wf_X8_21 dX8_putAt_13 ?_
      refine lv_aload_n hx hb dX8_putAt_16 rfl (lv_at hl 0 rfl) ?_
      refine zg_7_0 C hs hP ha0 hk0 wf_X8_15 dX8_putAt_17 ?_
      have hf_3 := hO.r (j := 0) ha0 hk0 (rfl : zX 7 0 = some (20, 0))
      refine zlen C hs hP hf_3.1 hO hf_3.2.1 (zF_20 hf_3.2.1) rfl rfl dX8_putAt_20 (fun x_4 ex_4 => ?_)
      have g_5 := z_rng x_4
      refine bi_ge (tgt := 62) hx hb rfl rfl dX8_putAt_21 (by decide) (fun c_6 => ?_) (fun c_6 => ?_)
      · skip
        exact zaV hQ hx hb hr hlk hP hS ⟨hI, rfl⟩ dX8_putAt_62
      · skip
        refine lv_aload_n hx hb dX8_putAt_24 rfl (lv_at hl 0 rfl) ?_
        refine zg_7_0 C hs hP ha0 hk0 wf_X8_15 dX8_putAt_25 ?_
        refine lv_iload_n hx hb dX8_putAt_28 rfl (lv_at hl 1 rfl) ?_
        refine lv_aload_n hx hb dX8_putAt_29 rfl (lv_at hl 0 rfl) ?_
        refine zg_7_0 C hs hP ha0 hk0 wf_X8_15 dX8_putAt_30 ?_
        refine lv_iload_n hx hb dX8_putAt_33 rfl (lv_at hl 1 rfl) ?_
        refine lv_iconst (v := 1) hx hb dX8_putAt_34 (by decide) ?_
        refine lv_iadd hx hb dX8_putAt_35 ?_
        refine lv_topi (fun x_7 ex_7 => ?_)
        refine lv_aload_n hx hb dX8_putAt_36 rfl (lv_at hl 0 rfl) ?_
        refine zg_7_1 C hs hP ha0 hk0 wf_X8_21 dX8_putAt_37 ?_
        refine lv_iload_n hx hb dX8_putAt_40 rfl (lv_at hl 1 rfl) ?_
        refine lv_isub hx hb dX8_putAt_41 ?_
        refine lv_topi (fun x_8 ex_8 => ?_)
        have g_10 := z_rng (vi a0 1)
        have g_11 := z_rng x1
        obtain ⟨f_8, l_8, u_8⟩ := z_sub ex_8 rfl rfl
        obtain ⟨f_7, l_7, u_7⟩ := z_add ex_7 rfl ti_1
        refine z_copy C hO hs hP hS hf_3.1 hI (hml.trans hl.1.symm) wm_X8_25 hf_3.1 hf_3.2.1 hf_3.2.1 (by omega) (by omega) (by omega) (by omega) (by omega) ⟨by decide, Nat.le_of_ble_eq_true rfl⟩ dX8_putAt_42 (fun va_9 H locs hI hP hS => ?_)
        refine lv_aload_n hx hb dX8_putAt_45 rfl (lv_at hl 0 rfl) ?_
        refine zg_7_0 C hs hP ha0 hk0 wf_X8_15 dX8_putAt_46 ?_
        refine lv_iload_n hx hb dX8_putAt_49 rfl (lv_at hl 1 rfl) ?_
        refine lv_iload_n hx hb dX8_putAt_50 rfl (lv_at hl 2 rfl) ?_
        have hin_12 : vp_in x1 (zn K (zr K a0 0)) := vp_in_iff.mpr (by refine ⟨?_, ?_⟩ <;> omega)
        refine ks_20 C hO hs hP hS hf_3.1 hf_3.2.1 hI hin_12 dX8_putAt_51 (fun va_13 H locs hI hP hS => ?_)
        refine lv_aload_n hx hb dX8_putAt_52 rfl (lv_at hl 0 rfl) ?_
        refine lv_dup hx hb dX8_putAt_53 rfl ?_
        refine zg_7_1 C hs hP ha0 hk0 wf_X8_21 dX8_putAt_54 ?_
        refine lv_iconst (v := 1) hx hb dX8_putAt_57 (by decide) ?_
        refine lv_iadd hx hb dX8_putAt_58 ?_
        refine lv_topi (fun x_14 ex_14 => ?_)
        refine kp_7_1 C hO hs hP hS ha0 hk0 wf_X8_21 hI dX8_putAt_59 (fun vi_15 H locs hI hP hS => ?_)
        exact zaV hQ hx hb hr hlk hP hS ⟨hI, rfl⟩ dX8_putAt_62
set_option maxHeartbeats 4000000 in
set_option maxRecDepth 100000 in
theorem c_X8_placeOf (l : Launch) (D : va_G) (K : zK) (hO : zOk K) (vi va : Nat → Nat → Int32) (vg : Nat → Nat → Option Nat) (hI : zI K (vi, va, vg)) (a0 : Nat) (ha0 : a0 ∈ zl K) (hk0 : zk K a0 = 7) (x1 : Int32) : Met l yX8_placeOf (zc yX8_placeOf cX8_placeOf 3 (some .int)) (rmd 0) (va_Pc [.ref a0, .int x1] (zB D K (vi, va, vg))) (vp_Si (fun r => True)) 0 0 (fun _ => False) := by
  refine zin (by decide) (Nat.le_of_ble_eq_true rfl) ?_
  intro p e s m args below meth c ls Q hQ C hr hlk hP hs hl
  have C : CallFix p m c cX8_placeOf 3 s args zw RX8 := C
  obtain ⟨hx, hb, hml, hown, hts⟩ := id C
  have hS : va_S (zA K) s.heap s.heap [] := va_S.rf
  have hl : lv_has ls 3 [(0, .ref a0), (1, .int x1)] := hl
  refine lv_iconst (v := 0) hx hb dX8_placeOf_0 (by decide) ?_
  refine lv_istore_n (lv' := [(2, .int 0), (0, .ref a0), (1, .int x1)]) hx hb dX8_placeOf_1 rfl hl (by decide) rfl (fun ls hl => ?_)
  have L_2_2 : ∀ (n_2 : Nat) (y_1 : Int32) (ls : Array Slot), (2147483648 - y_1.toInt).toNat < n_2 → 0 ≤ y_1.toInt → lv_has ls 3 [(2, .int y_1), (0, .ref a0), (1, .int x1)] → W p l e (rmd 0) s m args below meth c s.heap [] 0 0 Q (F0 m 2 ls []) := by
    intro n_2
    induction n_2 with
    | zero => intro y_1 ls hm_2; exact absurd hm_2 (Nat.not_lt_zero _)
    | succ n_2 ih_2 =>
      intro y_1 ls hm_2 iv_3_0 hl
      refine lv_iload_n hx hb dX8_placeOf_2 rfl (lv_at hl 0 rfl) ?_
      refine lv_aload_n hx hb dX8_placeOf_3 rfl (lv_at hl 1 rfl) ?_
      refine zg_7_1 C hs hP ha0 hk0 wf_X8_21 dX8_placeOf_4 ?_
      refine bi_ge (tgt := 37) hx hb rfl rfl dX8_placeOf_7 (by decide) (fun c_4 => ?_) (fun c_4 => ?_)
      · skip
        refine lv_iconst (v := (-1)) hx hb dX8_placeOf_37 (by decide) ?_
        exact zaS hQ hx hb hr hlk trivial dX8_placeOf_38
      · skip
        refine lv_iload_n hx hb dX8_placeOf_10 rfl (lv_at hl 0 rfl) ?_
        refine lv_aload_n hx hb dX8_placeOf_11 rfl (lv_at hl 1 rfl) ?_
        refine zg_7_0 C hs hP ha0 hk0 wf_X8_15 dX8_placeOf_12 ?_
        have hf_5 := hO.r (j := 0) ha0 hk0 (rfl : zX 7 0 = some (20, 0))
        refine zlen C hs hP hf_5.1 hO hf_5.2.1 (zF_20 hf_5.2.1) rfl rfl dX8_placeOf_15 (fun x_6 ex_6 => ?_)
        have g_7 := z_rng x_6
        refine bi_ge (tgt := 37) hx hb rfl rfl dX8_placeOf_16 (by decide) (fun c_8 => ?_) (fun c_8 => ?_)
        · skip
          refine lv_iconst (v := (-1)) hx hb dX8_placeOf_37 (by decide) ?_
          exact zaS hQ hx hb hr hlk trivial dX8_placeOf_38
        · skip
          refine lv_aload_n hx hb dX8_placeOf_19 rfl (lv_at hl 1 rfl) ?_
          refine zg_7_0 C hs hP ha0 hk0 wf_X8_15 dX8_placeOf_20 ?_
          refine lv_iload_n hx hb dX8_placeOf_23 rfl (lv_at hl 0 rfl) ?_
          have g_10 := z_rng y_1
          have hin_9 : vp_in y_1 (zn K (zr K a0 0)) := vp_in_iff.mpr (by refine ⟨?_, ?_⟩ <;> omega)
          refine zld_20 C hs hP hf_5.1 hf_5.2.1 hin_9 dX8_placeOf_24 ?_
          refine lv_iload_n hx hb dX8_placeOf_25 rfl (lv_at hl 2 rfl) ?_
          refine bi_ne (tgt := 31) hx hb rfl rfl dX8_placeOf_26 (by decide) (fun c_11 => ?_) (fun c_11 => ?_)
          · skip
            obtain ⟨x_12, ex_12⟩ : ∃ y : Int32, y = y_1 + 1 := ⟨_, rfl⟩
            refine lv_iinc (v := x_12) (lv' := [(2, .int x_12), (0, .ref a0), (1, .int x1)]) hx hb dX8_placeOf_31 hl (k := 0) rfl (by rw [ex_12]; rfl) (by decide) rfl (fun ls hl => ?_)
            refine lv_goto (tgt := 2) hx hb dX8_placeOf_34 (by decide) ?_
            obtain ⟨f_12, l_12, u_12⟩ := z_add ex_12 rfl ti_1
            have g_13 := z_rng (va (zr K a0 0) y_1.toNatClampNeg)
            have g_14 := z_rng (vi a0 1)
            have g_15 := z_rng x1
            exact ih_2 x_12 _ (by omega) (by omega) (lv_sub hl [0, 1, 2] rfl)
          · skip
            refine lv_iload_n hx hb dX8_placeOf_29 rfl (lv_at hl 0 rfl) ?_
            exact zaS hQ hx hb hr hlk trivial dX8_placeOf_30
  exact L_2_2 _ 0 _ (Nat.lt_succ_self _) (by simp only [ti_0]; omega) (lv_sub hl [0, 1, 2] rfl)
set_option maxHeartbeats 4000000 in
set_option maxRecDepth 100000 in
theorem c_X8_swap (l : Launch) (D : va_G) (K : zK) (hO : zOk K) (vi va : Nat → Nat → Int32) (vg : Nat → Nat → Option Nat) (hI : zI K (vi, va, vg)) (a0 : Nat) (ha0 : a0 ∈ zl K) (hk0 : zk K a0 = 7) (x1 : Int32) (x2 : Int32) : Met l yX8_swap (zc yX8_swap cX8_swap 4 none) (rmd 0) (va_Pc [.ref a0, .int x1, .int x2] (zB D K (vi, va, vg))) (zQv D K (fun V' => zI K V' ∧ V'.2.2 = vg)) 0 0 (zA K) := by
  refine zin (by decide) (Nat.le_of_ble_eq_true rfl) ?_
  intro p e s m args below meth c ls Q hQ C hr hlk hP hs hl
  have C : CallFix p m c cX8_swap 4 s args zw RX8 := C
  obtain ⟨hx, hb, hml, hown, hts⟩ := id C
  have hS : va_S (zA K) s.heap s.heap [] := va_S.rf
  have hl : lv_has ls 4 [(0, .ref a0), (1, .int x1), (2, .int x2)] := hl
  refine lv_iload_n hx hb dX8_swap_0 rfl (lv_at hl 1 rfl) ?_
  refine bz_lt (tgt := 52) hx hb rfl dX8_swap_1 (by decide) (fun c_1 => ?_) (fun c_1 => ?_)
  · skip
    exact zaV hQ hx hb hr hlk hP hS ⟨hI, rfl⟩ dX8_swap_52
  · skip
    refine lv_iload_n hx hb dX8_swap_4 rfl (lv_at hl 1 rfl) ?_
    refine lv_aload_n hx hb dX8_swap_5 rfl (lv_at hl 0 rfl) ?_
    refine zg_7_0 C hs hP ha0 hk0 wf_X8_15 dX8_swap_6 ?_
    have hf_2 := hO.r (j := 0) ha0 hk0 (rfl : zX 7 0 = some (20, 0))
    refine zlen C hs hP hf_2.1 hO hf_2.2.1 (zF_20 hf_2.2.1) rfl rfl dX8_swap_9 (fun x_3 ex_3 => ?_)
    have g_4 := z_rng x_3
    refine bi_ge (tgt := 52) hx hb rfl rfl dX8_swap_10 (by decide) (fun c_5 => ?_) (fun c_5 => ?_)
    · skip
      exact zaV hQ hx hb hr hlk hP hS ⟨hI, rfl⟩ dX8_swap_52
    · skip
      refine lv_iload_n hx hb dX8_swap_13 rfl (lv_at hl 2 rfl) ?_
      refine bz_lt (tgt := 52) hx hb rfl dX8_swap_14 (by decide) (fun c_6 => ?_) (fun c_6 => ?_)
      · skip
        exact zaV hQ hx hb hr hlk hP hS ⟨hI, rfl⟩ dX8_swap_52
      · skip
        refine lv_iload_n hx hb dX8_swap_17 rfl (lv_at hl 2 rfl) ?_
        refine lv_aload_n hx hb dX8_swap_18 rfl (lv_at hl 0 rfl) ?_
        refine zg_7_0 C hs hP ha0 hk0 wf_X8_15 dX8_swap_19 ?_
        refine zlen C hs hP hf_2.1 hO hf_2.2.1 (zF_20 hf_2.2.1) rfl rfl dX8_swap_22 (fun x_7 ex_7 => ?_)
        have g_8 := z_rng x_7
        refine bi_ge (tgt := 52) hx hb rfl rfl dX8_swap_23 (by decide) (fun c_9 => ?_) (fun c_9 => ?_)
        · skip
          exact zaV hQ hx hb hr hlk hP hS ⟨hI, rfl⟩ dX8_swap_52
        · skip
          refine lv_aload_n hx hb dX8_swap_26 rfl (lv_at hl 0 rfl) ?_
          refine zg_7_0 C hs hP ha0 hk0 wf_X8_15 dX8_swap_27 ?_
          refine lv_iload_n hx hb dX8_swap_30 rfl (lv_at hl 1 rfl) ?_
          have g_11 := z_rng x1
          have hin_10 : vp_in x1 (zn K (zr K a0 0)) := vp_in_iff.mpr (by refine ⟨?_, ?_⟩ <;> omega)
          refine zld_20 C hs hP hf_2.1 hf_2.2.1 hin_10 dX8_swap_31 ?_
          refine lv_istore_n (lv' := [(3, .int (va (zr K a0 0) x1.toNatClampNeg)), (0, .ref a0), (1, .int x1), (2, .int x2)]) hx hb dX8_swap_32 rfl hl (by decide) rfl (fun ls hl => ?_)
          refine lv_aload_n hx hb dX8_swap_33 rfl (lv_at hl 1 rfl) ?_
          refine zg_7_0 C hs hP ha0 hk0 wf_X8_15 dX8_swap_34 ?_
          refine lv_iload_n hx hb dX8_swap_37 rfl (lv_at hl 2 rfl) ?_
          refine lv_aload_n hx hb dX8_swap_38 rfl (lv_at hl 1 rfl) ?_
          refine zg_7_0 C hs hP ha0 hk0 wf_X8_15 dX8_swap_39 ?_
          refine lv_iload_n hx hb dX8_swap_42 rfl (lv_at hl 3 rfl) ?_
          have g_13 := z_rng x2
          have hin_12 : vp_in x2 (zn K (zr K a0 0)) := vp_in_iff.mpr (by refine ⟨?_, ?_⟩ <;> omega)
          refine zld_20 C hs hP hf_2.1 hf_2.2.1 hin_12 dX8_swap_43 ?_
          have hin_14 : vp_in x1 (zn K (zr K a0 0)) := vp_in_iff.mpr (by refine ⟨?_, ?_⟩ <;> omega)
          refine ks_20 C hO hs hP hS hf_2.1 hf_2.2.1 hI hin_14 dX8_swap_44 (fun va_15 H locs hI hP hS => ?_)
          refine lv_aload_n hx hb dX8_swap_45 rfl (lv_at hl 1 rfl) ?_
          refine zg_7_0 C hs hP ha0 hk0 wf_X8_15 dX8_swap_46 ?_
          refine lv_iload_n hx hb dX8_swap_49 rfl (lv_at hl 3 rfl) ?_
          refine lv_iload_n hx hb dX8_swap_50 rfl (lv_at hl 0 rfl) ?_
          have hin_16 : vp_in x2 (zn K (zr K a0 0)) := vp_in_iff.mpr (by refine ⟨?_, ?_⟩ <;> omega)
          refine ks_20 C hO hs hP hS hf_2.1 hf_2.2.1 hI hin_16 dX8_swap_51 (fun va_17 H locs hI hP hS => ?_)
          exact zaV hQ hx hb hr hlk hP hS ⟨hI, rfl⟩ dX8_swap_52
set_option maxHeartbeats 4000000 in
set_option maxRecDepth 100000 in
theorem c_X8_setTo (l : Launch) (D : va_G) (K : zK) (hO : zOk K) (vi va : Nat → Nat → Int32) (vg : Nat → Nat → Option Nat) (hI : zI K (vi, va, vg)) (a0 : Nat) (ha0 : a0 ∈ zl K) (hk0 : zk K a0 = 7) (a1 : Nat) (ha1 : a1 ∈ zl K) (hk1 : zk K a1 = 7) : Met l yX8_setTo (zc yX8_setTo cX8_setTo 2 none) (rmd 2) (va_Pc [.ref a0, .ref a1] (zB D K (vi, va, vg))) (zQv D K (fun V' => zI K V' ∧ V'.2.2 = vg)) 0 0 (zA K) := by
  refine zin (by decide) (Nat.le_of_ble_eq_true rfl) ?_
  intro p e s m args below meth c ls Q hQ C hr hlk hP hs hl
  have C : CallFix p m c cX8_setTo 2 s args zw RX8 := C
  obtain ⟨hx, hb, hml, hown, hts⟩ := id C
  have hS : va_S (zA K) s.heap s.heap [] := va_S.rf
  have hl : lv_has ls 2 [(0, .ref a0), (1, .ref a1)] := hl
  refine lv_aload_n hx hb dX8_setTo_0 rfl (lv_at hl 1 rfl) ?_
  refine zg_7_0 C hs hP ha1 hk1 wf_X8_15 dX8_setTo_1 ?_
  have hf_1 := hO.r (j := 0) ha1 hk1 (rfl : zX 7 0 = some (20, 0))
  refine lv_aload_n hx hb dX8_setTo_4 rfl (lv_at hl 0 rfl) ?_
  refine zg_7_0 C hs hP ha0 hk0 wf_X8_15 dX8_setTo_5 ?_
  have hf_2 := hO.r (j := 0) ha0 hk0 (rfl : zX 7 0 = some (20, 0))
  refine zcV (zrSN (As := [.ref (zr K a1 0), .ref (zr K a0 0)]) (rest := []) C hs hP hS (c_X11_copy l D K hO vi va vg hI (zr K a1 0) hf_1.1 hf_1.2.1 (zr K a0 0) hf_2.1 hf_2.2.1) m_X11_copy (List.mem_of_getElem? (l := nw_M) (i := 2) rfl) ⟨by decide, by decide⟩ hl.1 (Nat.le_of_ble_eq_true rfl) dX8_setTo_8) hS (fun V_3 H locs p_3 hP hS => ?_)
  obtain ⟨vi_3, va_3, vg_3⟩ := V_3
  obtain ⟨hI, hg_3⟩ := p_3
  try dsimp only at hI hg_3
  replace hg_3 := hg_3.symm
  subst hg_3
  refine lv_aload_n hx hb dX8_setTo_11 rfl (lv_at hl 0 rfl) ?_
  refine lv_aload_n hx hb dX8_setTo_12 rfl (lv_at hl 1 rfl) ?_
  refine zg_7_1 C hs hP ha1 hk1 wf_X8_21 dX8_setTo_13 ?_
  refine lv_aload_n hx hb dX8_setTo_16 rfl (lv_at hl 0 rfl) ?_
  refine zg_7_0 C hs hP ha0 hk0 wf_X8_15 dX8_setTo_17 ?_
  refine zlen C hs hP hf_2.1 hO hf_2.2.1 (zF_20 hf_2.2.1) rfl rfl dX8_setTo_20 (fun x_4 ex_4 => ?_)
  have g_5 := z_rng x_4
  refine va_mmin hx hb (hml.trans hl.1.symm) hown (hts _ wm_X8_35) (hts _ wt_Lib_Math_min_name) (hts _ wn_J9) (hts _ wo_min) (by decide) (Nat.le_of_ble_eq_true rfl) (Nat.zero_le _) (Nat.zero_le _) dX8_setTo_21 ?_
  refine lv_topi (fun x_6 ex_6 => ?_)
  refine kp_7_1 C hO hs hP hS ha0 hk0 wf_X8_21 hI dX8_setTo_24 (fun vi_7 H locs hI hP hS => ?_)
  exact zaV hQ hx hb hr hlk hP hS ⟨hI, rfl⟩ dX8_setTo_27
set_option maxHeartbeats 4000000 in
set_option maxRecDepth 100000 in
theorem c_X8_isLike (l : Launch) (D : va_G) (K : zK) (hO : zOk K) (vi va : Nat → Nat → Int32) (vg : Nat → Nat → Option Nat) (hI : zI K (vi, va, vg)) (a0 : Nat) (ha0 : a0 ∈ zl K) (hk0 : zk K a0 = 7) (a1 : Nat) (ha1 : a1 ∈ zl K) (hk1 : zk K a1 = 7) : Met l yX8_isLike (zc yX8_isLike cX8_isLike 3 (some .boolean)) (rmd 1) (va_Pc [.ref a0, .ref a1] (zB D K (vi, va, vg))) (vp_Si (fun r => (r = 0 ∨ r = 1))) 0 0 (fun _ => False) := by
  refine zin (by decide) (Nat.le_of_ble_eq_true rfl) ?_
  intro p e s m args below meth c ls Q hQ C hr hlk hP hs hl
  have C : CallFix p m c cX8_isLike 3 s args zw RX8 := C
  obtain ⟨hx, hb, hml, hown, hts⟩ := id C
  have hS : va_S (zA K) s.heap s.heap [] := va_S.rf
  have hl : lv_has ls 3 [(0, .ref a0), (1, .ref a1)] := hl
  refine lv_aload_n hx hb dX8_isLike_0 rfl (lv_at hl 0 rfl) ?_
  refine zg_7_1 C hs hP ha0 hk0 wf_X8_21 dX8_isLike_1 ?_
  refine lv_aload_n hx hb dX8_isLike_4 rfl (lv_at hl 1 rfl) ?_
  refine zg_7_1 C hs hP ha1 hk1 wf_X8_21 dX8_isLike_5 ?_
  refine bi_eq (tgt := 13) hx hb rfl rfl dX8_isLike_8 (by decide) (fun c_1 => ?_) (fun c_1 => ?_)
  · skip
    refine lv_iconst (v := 0) hx hb dX8_isLike_13 (by decide) ?_
    refine lv_istore_n (lv' := [(2, .int 0), (0, .ref a0), (1, .ref a1)]) hx hb dX8_isLike_14 rfl hl (by decide) rfl (fun ls hl => ?_)
    have L_15_3 : ∀ (n_3 : Nat) (y_2 : Int32) (ls : Array Slot), (2147483648 - y_2.toInt).toNat < n_3 → 0 ≤ y_2.toInt → lv_has ls 3 [(2, .int y_2), (0, .ref a0), (1, .ref a1)] → W p l e (rmd 1) s m args below meth c s.heap [] 0 0 Q (F0 m 15 ls []) := by
      intro n_3
      induction n_3 with
      | zero => intro y_2 ls hm_3; exact absurd hm_3 (Nat.not_lt_zero _)
      | succ n_3 ih_3 =>
        intro y_2 ls hm_3 iv_4_0 hl
        refine lv_iload_n hx hb dX8_isLike_15 rfl (lv_at hl 0 rfl) ?_
        refine lv_aload_n hx hb dX8_isLike_16 rfl (lv_at hl 1 rfl) ?_
        refine zg_7_1 C hs hP ha0 hk0 wf_X8_21 dX8_isLike_17 ?_
        refine bi_ge (tgt := 44) hx hb rfl rfl dX8_isLike_20 (by decide) (fun c_5 => ?_) (fun c_5 => ?_)
        · skip
          refine lv_iconst (v := 1) hx hb dX8_isLike_44 (by decide) ?_
          exact zaSz hQ hx hb hr hlk (Or.inr rfl) (Or.inr rfl) dX8_isLike_45
        · skip
          refine lv_aload_n hx hb dX8_isLike_23 rfl (lv_at hl 1 rfl) ?_
          refine lv_iload_n hx hb dX8_isLike_24 rfl (lv_at hl 0 rfl) ?_
          refine zcS (zrV (As := [.int y_2]) (b := a0) (rest := []) C hs hP hS (c_X8_at l D K hO vi va vg hI a0 ha0 hk0 y_2) m_X8_at wm_X8_38 (zrecv hs hP ha0 (zF_7 hk0) rfl) ⟨by decide, by decide⟩ hl.1 (Nat.le_of_ble_eq_true rfl) dX8_isLike_25) (fun x_6 p_6 => ?_)
          refine lv_aload_n hx hb dX8_isLike_28 rfl (lv_at hl 2 rfl) ?_
          refine lv_iload_n hx hb dX8_isLike_29 rfl (lv_at hl 0 rfl) ?_
          refine zcS (zrV (As := [.int y_2]) (b := a1) (rest := [.int x_6]) C hs hP hS (c_X8_at l D K hO vi va vg hI a1 ha1 hk1 y_2) m_X8_at wm_X8_38 (zrecv hs hP ha1 (zF_7 hk1) rfl) ⟨by decide, by decide⟩ hl.1 (Nat.le_of_ble_eq_true rfl) dX8_isLike_30) (fun x_7 p_7 => ?_)
          refine bi_eq (tgt := 38) hx hb rfl rfl dX8_isLike_33 (by decide) (fun c_8 => ?_) (fun c_8 => ?_)
          · skip
            obtain ⟨x_9, ex_9⟩ : ∃ y : Int32, y = y_2 + 1 := ⟨_, rfl⟩
            refine lv_iinc (v := x_9) (lv' := [(2, .int x_9), (0, .ref a0), (1, .ref a1)]) hx hb dX8_isLike_38 hl (k := 0) rfl (by rw [ex_9]; rfl) (by decide) rfl (fun ls hl => ?_)
            refine lv_goto (tgt := 15) hx hb dX8_isLike_41 (by decide) ?_
            have g_10 := z_rng y_2
            obtain ⟨f_9, l_9, u_9⟩ := z_add ex_9 rfl ti_1
            have g_11 := z_rng x_7
            have g_12 := z_rng (vi a0 1)
            have g_13 := z_rng x_6
            exact ih_3 x_9 _ (by omega) (by omega) (lv_sub hl [0, 1, 2] rfl)
          · skip
            refine lv_iconst (v := 0) hx hb dX8_isLike_36 (by decide) ?_
            exact zaSz hQ hx hb hr hlk (Or.inl rfl) (Or.inl rfl) dX8_isLike_37
    have g_14 := z_rng (vi a1 1)
    have g_15 := z_rng (vi a0 1)
    exact L_15_3 _ 0 _ (Nat.lt_succ_self _) (by simp only [ti_0]; omega) (lv_sub hl [0, 1, 2] rfl)
  · skip
    refine lv_iconst (v := 0) hx hb dX8_isLike_11 (by decide) ?_
    exact zaSz hQ hx hb hr hlk (Or.inl rfl) (Or.inl rfl) dX8_isLike_12
set_option maxHeartbeats 4000000 in
set_option maxRecDepth 100000 in
theorem c_X8_digestFrom (l : Launch) (D : va_G) (K : zK) (hO : zOk K) (vi va : Nat → Nat → Int32) (vg : Nat → Nat → Option Nat) (hI : zI K (vi, va, vg)) (a0 : Nat) (ha0 : a0 ∈ zl K) (hk0 : zk K a0 = 7) (x1 : Int32) : Met l yX8_digestFrom (zc yX8_digestFrom cX8_digestFrom 4 (some .int)) (rmd 0) (va_Pc [.ref a0, .int x1] (zB D K (vi, va, vg))) (vp_Si (fun r => True)) 0 0 (fun _ => False) := by
  refine zin (by decide) (Nat.le_of_ble_eq_true rfl) ?_
  intro p e s m args below meth c ls Q hQ C hr hlk hP hs hl
  have C : CallFix p m c cX8_digestFrom 4 s args zw RX8 := C
  obtain ⟨hx, hb, hml, hown, hts⟩ := id C
  have hS : va_S (zA K) s.heap s.heap [] := va_S.rf
  have hl : lv_has ls 4 [(0, .ref a0), (1, .int x1)] := hl
  refine lv_bipush (v := 31) hx hb dX8_digestFrom_0 (by decide) ?_
  refine lv_iload_n hx hb dX8_digestFrom_2 rfl (lv_at hl 1 rfl) ?_
  refine lv_imul hx hb dX8_digestFrom_3 ?_
  refine lv_topi (fun x_1 ex_1 => ?_)
  refine lv_aload_n hx hb dX8_digestFrom_4 rfl (lv_at hl 0 rfl) ?_
  refine zg_7_1 C hs hP ha0 hk0 wf_X8_21 dX8_digestFrom_5 ?_
  refine lv_iadd hx hb dX8_digestFrom_8 ?_
  refine lv_topi (fun x_2 ex_2 => ?_)
  refine lv_istore_n (lv' := [(2, .int x_2), (0, .ref a0), (1, .int x1)]) hx hb dX8_digestFrom_9 rfl hl (by decide) rfl (fun ls hl => ?_)
  refine lv_iconst (v := 0) hx hb dX8_digestFrom_10 (by decide) ?_
  refine lv_istore_n (lv' := [(3, .int 0), (2, .int x_2), (0, .ref a0), (1, .int x1)]) hx hb dX8_digestFrom_11 rfl hl (by decide) rfl (fun ls hl => ?_)
  have L_12_5 : ∀ (n_5 : Nat) (y_3 : Int32) (y_4 : Int32) (ls : Array Slot), (2147483648 - y_3.toInt).toNat < n_5 → 0 ≤ y_3.toInt → lv_has ls 4 [(3, .int y_3), (2, .int y_4), (0, .ref a0), (1, .int x1)] → W p l e (rmd 0) s m args below meth c s.heap [] 0 0 Q (F0 m 12 ls []) := by
    intro n_5
    induction n_5 with
    | zero => intro y_3 y_4 ls hm_5; exact absurd hm_5 (Nat.not_lt_zero _)
    | succ n_5 ih_5 =>
      intro y_3 y_4 ls hm_5 iv_6_0 hl
      refine lv_iload_n hx hb dX8_digestFrom_12 rfl (lv_at hl 0 rfl) ?_
      refine lv_aload_n hx hb dX8_digestFrom_13 rfl (lv_at hl 2 rfl) ?_
      refine zg_7_1 C hs hP ha0 hk0 wf_X8_21 dX8_digestFrom_14 ?_
      refine bi_ge (tgt := 47) hx hb rfl rfl dX8_digestFrom_17 (by decide) (fun c_7 => ?_) (fun c_7 => ?_)
      · skip
        refine lv_iload_n hx hb dX8_digestFrom_47 rfl (lv_at hl 1 rfl) ?_
        exact zaS hQ hx hb hr hlk trivial dX8_digestFrom_48
      · skip
        refine lv_iload_n hx hb dX8_digestFrom_20 rfl (lv_at hl 0 rfl) ?_
        refine lv_aload_n hx hb dX8_digestFrom_21 rfl (lv_at hl 2 rfl) ?_
        refine zg_7_0 C hs hP ha0 hk0 wf_X8_15 dX8_digestFrom_22 ?_
        have hf_8 := hO.r (j := 0) ha0 hk0 (rfl : zX 7 0 = some (20, 0))
        refine zlen C hs hP hf_8.1 hO hf_8.2.1 (zF_20 hf_8.2.1) rfl rfl dX8_digestFrom_25 (fun x_9 ex_9 => ?_)
        have g_10 := z_rng x_9
        refine bi_ge (tgt := 47) hx hb rfl rfl dX8_digestFrom_26 (by decide) (fun c_11 => ?_) (fun c_11 => ?_)
        · skip
          refine lv_iload_n hx hb dX8_digestFrom_47 rfl (lv_at hl 1 rfl) ?_
          exact zaS hQ hx hb hr hlk trivial dX8_digestFrom_48
        · skip
          refine lv_bipush (v := 31) hx hb dX8_digestFrom_29 (by decide) ?_
          refine lv_iload_n hx hb dX8_digestFrom_31 rfl (lv_at hl 1 rfl) ?_
          refine lv_imul hx hb dX8_digestFrom_32 ?_
          refine lv_topi (fun x_12 ex_12 => ?_)
          refine lv_aload_n hx hb dX8_digestFrom_33 rfl (lv_at hl 2 rfl) ?_
          refine zg_7_0 C hs hP ha0 hk0 wf_X8_15 dX8_digestFrom_34 ?_
          refine lv_iload_n hx hb dX8_digestFrom_37 rfl (lv_at hl 0 rfl) ?_
          have g_14 := z_rng y_3
          have hin_13 : vp_in y_3 (zn K (zr K a0 0)) := vp_in_iff.mpr (by refine ⟨?_, ?_⟩ <;> omega)
          refine zld_20 C hs hP hf_8.1 hf_8.2.1 hin_13 dX8_digestFrom_38 ?_
          refine lv_iadd hx hb dX8_digestFrom_39 ?_
          refine lv_topi (fun x_15 ex_15 => ?_)
          refine lv_istore_n (lv' := [(2, .int x_15), (3, .int y_3), (0, .ref a0), (1, .int x1)]) hx hb dX8_digestFrom_40 rfl hl (by decide) rfl (fun ls hl => ?_)
          obtain ⟨x_16, ex_16⟩ : ∃ y : Int32, y = y_3 + 1 := ⟨_, rfl⟩
          refine lv_iinc (v := x_16) (lv' := [(3, .int x_16), (2, .int x_15), (0, .ref a0), (1, .int x1)]) hx hb dX8_digestFrom_41 hl (k := 1) rfl (by rw [ex_16]; rfl) (by decide) rfl (fun ls hl => ?_)
          refine lv_goto (tgt := 12) hx hb dX8_digestFrom_44 (by decide) ?_
          obtain ⟨f_16, l_16, u_16⟩ := z_add ex_16 rfl ti_1
          have g_17 := z_rng y_4
          obtain ⟨f_12, l_12, u_12⟩ := z_mul ex_12 ti_31 rfl
          have g_18 := z_rng (va (zr K a0 0) y_3.toNatClampNeg)
          obtain ⟨f_15, l_15, u_15⟩ := z_add ex_15 rfl rfl
          have g_19 := z_rng (vi a0 1)
          exact ih_5 x_16 x_15 _ (by omega) (by omega) (lv_sub hl [0, 1, 2, 3] rfl)
  have g_20 := z_rng x1
  obtain ⟨f_1, l_1, u_1⟩ := z_mul ex_1 ti_31 rfl
  have g_21 := z_rng (vi a0 1)
  obtain ⟨f_2, l_2, u_2⟩ := z_add ex_2 rfl rfl
  exact L_12_5 _ 0 x_2 _ (Nat.lt_succ_self _) (by simp only [ti_0]; omega) (lv_sub hl [0, 1, 2, 3] rfl)
