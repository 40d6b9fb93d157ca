set_option maxHeartbeats 4000000 in
set_option maxRecDepth 100000 in
theorem c_X11_tableAt (l : Launch) (D : va_G) (K : zK) (hO : zOk K) (vi va : Nat → Nat → Int32) (vg : Nat → Nat → Option Nat) (hI : zI K (vi, va, vg)) (a0 : Nat) (ha0 : a0 ∈ zl K) (hk0 : zk K a0 = 10) (x1 : Int32) : Met l yX11_tableAt (zc yX11_tableAt cX11_tableAt 3 (some (.object "CardTables$Table"))) (rmd 0) (va_Pc [.ref a0, .int x1] (zB D K (vi, va, vg))) (va_Sq (fun r => ∀ q, r = some q → q ∈ zl K ∧ zk K q = 8 ∧ 0 ≤ x1.toInt ∧ x1.toInt ≤ 3)) 0 0 (fun _ => False) := by
  refine zin (by decide) (Nat.le_of_ble_eq_true rfl) ?_
  intro p e s m args below meth c ls Q hQ C hr hlk hP hs hl
  have C : CallFix p m c cX11_tableAt 3 s args zw RX11 := C
  obtain ⟨hx, hb, hml, hown, hts⟩ := id C
  have hS : va_S (zA K) s.heap s.heap [] := va_S.rf
  have hl : lv_has ls 3 [(0, .ref a0), (1, .int x1)] := hl
  refine lv_iload_n hx hb dX11_tableAt_0 rfl (lv_at hl 1 rfl) ?_
  refine bz_lt (tgt := 9) hx hb rfl dX11_tableAt_1 (by decide) (fun c_1 => ?_) (fun c_1 => ?_)
  · skip
    refine lv_null hx hb dX11_tableAt_9 ?_
    exact zaSn hQ hx hb hr hlk (fun q h => by cases h) dX11_tableAt_10
  · skip
    refine lv_iload_n hx hb dX11_tableAt_4 rfl (lv_at hl 1 rfl) ?_
    refine lv_iconst (v := 4) hx hb dX11_tableAt_5 (by decide) ?_
    refine bi_lt (tgt := 11) hx hb rfl ti_4 dX11_tableAt_6 (by decide) (fun c_2 => ?_) (fun c_2 => ?_)
    · skip
      refine lv_aload_n hx hb dX11_tableAt_11 rfl (lv_at hl 0 rfl) ?_
      refine zg_10_1 C hs hP ha0 hk0 wf_X11_17 dX11_tableAt_12 ?_
      have hf_3 := hO.r (j := 1) ha0 hk0 (rfl : zX 10 1 = some (24, 4))
      refine lv_iload_n hx hb dX11_tableAt_15 rfl (lv_at hl 1 rfl) ?_
      have g_5 := z_rng x1
      have hin_4 : vp_in x1 (zn K (zr K a0 1)) := vp_in_iff.mpr (by rw [(hf_3.2.2 (by decide))]; refine ⟨?_, ?_⟩ <;> omega)
      refine zld_24 C hs hP hf_3.1 hf_3.2.1 hin_4 dX11_tableAt_16 ?_
      have hf_6 := zel_24 hO hf_3.1 hf_3.2.1 hin_4
      refine lv_astore_n (lv' := [(2, .ref (zr K (zr K a0 1) x1.toNatClampNeg)), (0, .ref a0), (1, .int x1)]) hx hb dX11_tableAt_17 rfl hl (by decide) rfl (fun ls hl => ?_)
      refine lv_aload_n hx hb dX11_tableAt_18 rfl (lv_at hl 0 rfl) ?_
      refine lv_ifnull hx hb dX11_tableAt_19 ?_
      refine lv_aload_n hx hb dX11_tableAt_22 rfl (lv_at hl 0 rfl) ?_
      rcases hg_7 : vg (zr K (zr K a0 1) x1.toNatClampNeg) 1 with _ | q_7
      · refine zgn_8_1 C hs hP hf_6.1 hf_6.2 wf_X11_334 hg_7 dX11_tableAt_23 ?_
        refine lv_ifnonnullN hx hb dX11_tableAt_26 ?_
        refine lv_null hx hb dX11_tableAt_29 ?_
        refine lv_goto (tgt := 34) hx hb dX11_tableAt_30 (by decide) ?_
        exact zaSn hQ hx hb hr hlk (fun q h => by cases h) dX11_tableAt_34
      · have hq_7 := hI.2.2.2.1 _ hf_6.1 hf_6.2 _ hg_7
        refine zgs_8_1 C hs hP hf_6.1 hf_6.2 wf_X11_334 hg_7 dX11_tableAt_23 ?_
        refine lv_ifnonnull (tgt := 33) hx hb dX11_tableAt_26 (by decide) ?_
        refine lv_aload_n hx hb dX11_tableAt_33 rfl (lv_at hl 0 rfl) ?_
        exact zaSr hQ hx hb hr hlk (fun q h => by cases h; exact ⟨hf_6.1, hf_6.2, by omega, by omega⟩) dX11_tableAt_34
    · skip
      refine lv_null hx hb dX11_tableAt_9 ?_
      exact zaSn hQ hx hb hr hlk (fun q h => by cases h) dX11_tableAt_10
set_option maxHeartbeats 4000000 in
set_option maxRecDepth 100000 in
theorem c_X11_gameAt (l : Launch) (D : va_G) (K : zK) (hO : zOk K) (vi va : Nat → Nat → Int32) (vg : Nat → Nat → Option Nat) (hI : zI K (vi, va, vg)) (a0 : Nat) (ha0 : a0 ∈ zl K) (hk0 : zk K a0 = 10) (x1 : Int32) : Met l yX11_gameAt (zc yX11_gameAt cX11_gameAt 2 (some (.object "CardTables$Game"))) (rmd 1) (va_Pc [.ref a0, .int x1] (zB D K (vi, va, vg))) (va_Sq (fun r => (∀ q, r = some q → q ∈ zl K ∧ gam K q) ∧ (0 ≤ x1.toInt → x1.toInt ≤ 5 → r = zg K x1.toNatClampNeg) ∧ (x1.toInt < 0 ∨ 5 < x1.toInt → r = none))) 0 0 (fun _ => False) := by
  refine zin (by decide) (Nat.le_of_ble_eq_true rfl) ?_
  intro p e s m args below meth c ls Q hQ C hr hlk hP hs hl
  have C : CallFix p m c cX11_gameAt 2 s args zw RX11 := C
  obtain ⟨hx, hb, hml, hown, hts⟩ := id C
  have hS : va_S (zA K) s.heap s.heap [] := va_S.rf
  have hl : lv_has ls 2 [(0, .ref a0), (1, .int x1)] := hl
  refine lv_iload_n hx hb dX11_gameAt_0 rfl (lv_at hl 1 rfl) ?_
  refine zcS (zrS (As := [.int x1]) (rest := []) C hs hP hS (c_X11_isGame l D K hO vi va vg hI x1) m_X11_isGame wm_X11_57 ⟨by decide, by decide⟩ hl.1 (Nat.le_of_ble_eq_true rfl) dX11_gameAt_1) (fun x_1 p_1 => ?_)
  have pp_1 : (x_1.toInt ≠ 0 → 0 ≤ x1.toInt ∧ x1.toInt ≤ 5) ∧ (x_1.toInt = 0 → x1.toInt < 0 ∨ 5 < x1.toInt) := p_1.2
  refine bz_eq (tgt := 16) hx hb rfl dX11_gameAt_4 (by decide) (fun c_2 => ?_) (fun c_2 => ?_)
  · skip
    refine lv_null hx hb dX11_gameAt_16 ?_
    exact zaSn hQ hx hb hr hlk ⟨(fun q h => by cases h), (fun _ _ => by omega), (fun h => rfl)⟩ dX11_gameAt_17
  · skip
    refine lv_aload_n hx hb dX11_gameAt_7 rfl (lv_at hl 0 rfl) ?_
    refine zg_10_0 C hs hP ha0 hk0 wf_X11_11 dX11_gameAt_8 ?_
    have hf_3 := hO.r (j := 0) ha0 hk0 (rfl : zX 10 0 = some (22, 6))
    refine lv_iload_n hx hb dX11_gameAt_11 rfl (lv_at hl 1 rfl) ?_
    have g_5 := z_rng x1
    have hin_4 : vp_in x1 (zn K (zr K a0 0)) := vp_in_iff.mpr (by rw [(hf_3.2.2 (by decide))]; refine ⟨?_, ?_⟩ <;> omega)
    rcases hg_6 : zg K x1.toNatClampNeg with _ | q_6
    · refine zld_22n C hs hP hf_3.1 hf_3.2.1 hin_4 hg_6 dX11_gameAt_12 ?_
      refine lv_goto (tgt := 17) hx hb dX11_gameAt_13 (by decide) ?_
      exact zaSn hQ hx hb hr hlk ⟨(fun q h => by cases h), (fun _ _ => hg_6.symm), (fun h => by omega)⟩ dX11_gameAt_17
    · have hq_6 := hO.2.2.2.2.2.2 _ (by have h7 := vp_in_iff.mp hin_4; rw [(hf_3.2.2 (by decide))] at h7; show (x1.toInt).toNat < 6; omega) _ hg_6
      refine zld_22s C hs hP hf_3.1 hf_3.2.1 hin_4 hg_6 dX11_gameAt_12 ?_
      refine lv_goto (tgt := 17) hx hb dX11_gameAt_13 (by decide) ?_
      exact zaSr hQ hx hb hr hlk ⟨(fun q h => by cases h; exact ⟨hq_6.1, hq_6.2⟩), (fun _ _ => hg_6.symm), (fun h => by omega)⟩ dX11_gameAt_17
set_option maxHeartbeats 4000000 in
set_option maxRecDepth 100000 in
theorem c_X11_tablesThere (l : Launch) (D : va_G) (K : zK) (hO : zOk K) (vi va : Nat → Nat → Int32) (vg : Nat → Nat → Option Nat) (hI : zI K (vi, va, vg)) (a0 : Nat) (ha0 : a0 ∈ zl K) (hk0 : zk K a0 = 10) : Met l yX11_tablesThere (zc yX11_tablesThere cX11_tablesThere 3 (some .int)) (rmd 1) (va_Pc [.ref a0] (zB D K (vi, va, vg))) (vp_Si (fun r => True)) 0 0 (fun _ => False) := by
  refine zin (by decide) (Nat.le_of_ble_eq_true rfl) ?_
  intro p e s m args below meth c ls Q hQ C hr hlk hP hs hl
  have C : CallFix p m c cX11_tablesThere 3 s args zw RX11 := C
  obtain ⟨hx, hb, hml, hown, hts⟩ := id C
  have hS : va_S (zA K) s.heap s.heap [] := va_S.rf
  have hl : lv_has ls 3 [(0, .ref a0)] := hl
  refine lv_iconst (v := 0) hx hb dX11_tablesThere_0 (by decide) ?_
  refine lv_istore_n (lv' := [(1, .int 0), (0, .ref a0)]) hx hb dX11_tablesThere_1 rfl hl (by decide) rfl (fun ls hl => ?_)
  refine lv_iconst (v := 0) hx hb dX11_tablesThere_2 (by decide) ?_
  refine lv_istore_n (lv' := [(2, .int 0), (1, .int 0), (0, .ref a0)]) hx hb dX11_tablesThere_3 rfl hl (by decide) rfl (fun ls hl => ?_)
  have L_4_3 : ∀ (n_3 : Nat) (y_1 : Int32) (y_2 : Int32) (ls : Array Slot), (2147483648 - y_1.toInt).toNat < n_3 → 0 ≤ y_1.toInt → lv_has ls 3 [(2, .int y_1), (1, .int y_2), (0, .ref a0)] → W p l e (rmd 1) s m args below meth c s.heap [] 0 0 Q (F0 m 4 ls []) := by
    intro n_3
    induction n_3 with
    | zero => intro y_1 y_2 ls hm_3; exact absurd hm_3 (Nat.not_lt_zero _)
    | succ n_3 ih_3 =>
      intro y_1 y_2 ls hm_3 iv_4_0 hl
      refine lv_iload_n hx hb dX11_tablesThere_4 rfl (lv_at hl 0 rfl) ?_
      refine lv_iconst (v := 4) hx hb dX11_tablesThere_5 (by decide) ?_
      refine bi_ge (tgt := 31) hx hb rfl ti_4 dX11_tablesThere_6 (by decide) (fun c_5 => ?_) (fun c_5 => ?_)
      · skip
        refine lv_iload_n hx hb dX11_tablesThere_31 rfl (lv_at hl 1 rfl) ?_
        exact zaS hQ hx hb hr hlk trivial dX11_tablesThere_32
      · skip
        refine lv_iload_n hx hb dX11_tablesThere_9 rfl (lv_at hl 1 rfl) ?_
        refine lv_aload_n hx hb dX11_tablesThere_10 rfl (lv_at hl 2 rfl) ?_
        refine lv_iload_n hx hb dX11_tablesThere_11 rfl (lv_at hl 0 rfl) ?_
        refine zcSq (zrV (As := [.int y_1]) (b := a0) (rest := [.int y_2]) C hs hP hS (c_X11_tableAt l D K hO vi va vg hI a0 ha0 hk0 y_1) m_X11_tableAt wm_X11_83 (zrecv hs hP ha0 (zF_10 hk0) rfl) ⟨by decide, by decide⟩ hl.1 (Nat.le_of_ble_eq_true rfl) dX11_tablesThere_12) (fun p_6 => ?_) (fun q_6 p_6 => ?_)
        · skip
          refine lv_ifnonnullN hx hb dX11_tablesThere_15 ?_
          refine lv_iconst (v := 0) hx hb dX11_tablesThere_18 (by decide) ?_
          refine lv_goto (tgt := 23) hx hb dX11_tablesThere_19 (by decide) ?_
          refine lv_iadd hx hb dX11_tablesThere_23 ?_
          refine lv_topi (fun x_7 ex_7 => ?_)
          refine lv_istore_n (lv' := [(1, .int x_7), (2, .int y_1), (0, .ref a0)]) hx hb dX11_tablesThere_24 rfl hl (by decide) rfl (fun ls hl => ?_)
          obtain ⟨x_8, ex_8⟩ : ∃ y : Int32, y = y_1 + 1 := ⟨_, rfl⟩
          refine lv_iinc (v := x_8) (lv' := [(2, .int x_8), (1, .int x_7), (0, .ref a0)]) hx hb dX11_tablesThere_25 hl (k := 1) rfl (by rw [ex_8]; rfl) (by decide) rfl (fun ls hl => ?_)
          refine lv_goto (tgt := 4) hx hb dX11_tablesThere_28 (by decide) ?_
          have g_9 := z_rng y_1
          obtain ⟨f_8, l_8, u_8⟩ := z_add ex_8 rfl ti_1
          have g_10 := z_rng y_2
          obtain ⟨f_7, l_7, u_7⟩ := z_add ex_7 rfl ti_0
          exact ih_3 x_8 x_7 _ (by omega) (by omega) (lv_sub hl [0, 1, 2] rfl)
        · skip
          obtain ⟨ha_q_6, hk_q_6, hr_q_6⟩ := p_6 _ rfl
          refine lv_ifnonnull (tgt := 22) hx hb dX11_tablesThere_15 (by decide) ?_
          refine lv_iconst (v := 1) hx hb dX11_tablesThere_22 (by decide) ?_
          refine lv_iadd hx hb dX11_tablesThere_23 ?_
          refine lv_topi (fun x_11 ex_11 => ?_)
          refine lv_istore_n (lv' := [(1, .int x_11), (2, .int y_1), (0, .ref a0)]) hx hb dX11_tablesThere_24 rfl hl (by decide) rfl (fun ls hl => ?_)
          obtain ⟨x_12, ex_12⟩ : ∃ y : Int32, y = y_1 + 1 := ⟨_, rfl⟩
          refine lv_iinc (v := x_12) (lv' := [(2, .int x_12), (1, .int x_11), (0, .ref a0)]) hx hb dX11_tablesThere_25 hl (k := 1) rfl (by rw [ex_12]; rfl) (by decide) rfl (fun ls hl => ?_)
          refine lv_goto (tgt := 4) hx hb dX11_tablesThere_28 (by decide) ?_
          have g_13 := z_rng y_1
          obtain ⟨f_12, l_12, u_12⟩ := z_add ex_12 rfl ti_1
          have g_14 := z_rng y_2
          obtain ⟨f_11, l_11, u_11⟩ := z_add ex_11 rfl ti_1
          exact ih_3 x_12 x_11 _ (by omega) (by omega) (lv_sub hl [0, 1, 2] rfl)
  exact L_4_3 _ 0 0 _ (Nat.lt_succ_self _) (by simp only [ti_0, ti_0]; omega) (lv_sub hl [0, 1, 2] rfl)
set_option maxHeartbeats 4000000 in
set_option maxRecDepth 100000 in
theorem c_X11_gamesThere (l : Launch) (D : va_G) (K : zK) (hO : zOk K) (vi va : Nat → Nat → Int32) (vg : Nat → Nat → Option Nat) (hI : zI K (vi, va, vg)) (a0 : Nat) (ha0 : a0 ∈ zl K) (hk0 : zk K a0 = 10) : Met l yX11_gamesThere (zc yX11_gamesThere cX11_gamesThere 3 (some .int)) (rmd 0) (va_Pc [.ref a0] (zB D K (vi, va, vg))) (vp_Si (fun r => True)) 0 0 (fun _ => False) := by
  refine zin (by decide) (Nat.le_of_ble_eq_true rfl) ?_
  intro p e s m args below meth c ls Q hQ C hr hlk hP hs hl
  have C : CallFix p m c cX11_gamesThere 3 s args zw RX11 := C
  obtain ⟨hx, hb, hml, hown, hts⟩ := id C
  have hS : va_S (zA K) s.heap s.heap [] := va_S.rf
  have hl : lv_has ls 3 [(0, .ref a0)] := hl
  refine lv_iconst (v := 0) hx hb dX11_gamesThere_0 (by decide) ?_
  refine lv_istore_n (lv' := [(1, .int 0), (0, .ref a0)]) hx hb dX11_gamesThere_1 rfl hl (by decide) rfl (fun ls hl => ?_)
  refine lv_iconst (v := 0) hx hb dX11_gamesThere_2 (by decide) ?_
  refine lv_istore_n (lv' := [(2, .int 0), (1, .int 0), (0, .ref a0)]) hx hb dX11_gamesThere_3 rfl hl (by decide) rfl (fun ls hl => ?_)
  have L_4_3 : ∀ (n_3 : Nat) (y_1 : Int32) (y_2 : Int32) (ls : Array Slot), (2147483648 - y_1.toInt).toNat < n_3 → 0 ≤ y_1.toInt → lv_has ls 3 [(2, .int y_1), (1, .int y_2), (0, .ref a0)] → W p l e (rmd 0) s m args below meth c s.heap [] 0 0 Q (F0 m 4 ls []) := by
    intro n_3
    induction n_3 with
    | zero => intro y_1 y_2 ls hm_3; exact absurd hm_3 (Nat.not_lt_zero _)
    | succ n_3 ih_3 =>
      intro y_1 y_2 ls hm_3 iv_4_0 hl
      refine lv_iload_n hx hb dX11_gamesThere_4 rfl (lv_at hl 0 rfl) ?_
      refine lv_bipush (v := 6) hx hb dX11_gamesThere_5 (by decide) ?_
      refine bi_ge (tgt := 33) hx hb rfl ti_6 dX11_gamesThere_7 (by decide) (fun c_5 => ?_) (fun c_5 => ?_)
      · skip
        refine lv_iload_n hx hb dX11_gamesThere_33 rfl (lv_at hl 1 rfl) ?_
        exact zaS hQ hx hb hr hlk trivial dX11_gamesThere_34
      · skip
        refine lv_iload_n hx hb dX11_gamesThere_10 rfl (lv_at hl 1 rfl) ?_
        refine lv_aload_n hx hb dX11_gamesThere_11 rfl (lv_at hl 2 rfl) ?_
        refine zg_10_0 C hs hP ha0 hk0 wf_X11_11 dX11_gamesThere_12 ?_
        have hf_6 := hO.r (j := 0) ha0 hk0 (rfl : zX 10 0 = some (22, 6))
        refine lv_iload_n hx hb dX11_gamesThere_15 rfl (lv_at hl 0 rfl) ?_
        have g_8 := z_rng y_1
        have hin_7 : vp_in y_1 (zn K (zr K a0 0)) := vp_in_iff.mpr (by rw [(hf_6.2.2 (by decide))]; refine ⟨?_, ?_⟩ <;> omega)
        rcases hg_9 : zg K y_1.toNatClampNeg with _ | q_9
        · refine zld_22n C hs hP hf_6.1 hf_6.2.1 hin_7 hg_9 dX11_gamesThere_16 ?_
          refine lv_ifnonnullN hx hb dX11_gamesThere_17 ?_
          refine lv_iconst (v := 0) hx hb dX11_gamesThere_20 (by decide) ?_
          refine lv_goto (tgt := 25) hx hb dX11_gamesThere_21 (by decide) ?_
          refine lv_iadd hx hb dX11_gamesThere_25 ?_
          refine lv_topi (fun x_10 ex_10 => ?_)
          refine lv_istore_n (lv' := [(1, .int x_10), (2, .int y_1), (0, .ref a0)]) hx hb dX11_gamesThere_26 rfl hl (by decide) rfl (fun ls hl => ?_)
          obtain ⟨x_11, ex_11⟩ : ∃ y : Int32, y = y_1 + 1 := ⟨_, rfl⟩
          refine lv_iinc (v := x_11) (lv' := [(2, .int x_11), (1, .int x_10), (0, .ref a0)]) hx hb dX11_gamesThere_27 hl (k := 1) rfl (by rw [ex_11]; rfl) (by decide) rfl (fun ls hl => ?_)
          refine lv_goto (tgt := 4) hx hb dX11_gamesThere_30 (by decide) ?_
          obtain ⟨f_11, l_11, u_11⟩ := z_add ex_11 rfl ti_1
          have g_12 := z_rng y_2
          obtain ⟨f_10, l_10, u_10⟩ := z_add ex_10 rfl ti_0
          exact ih_3 x_11 x_10 _ (by omega) (by omega) (lv_sub hl [0, 1, 2] rfl)
        · have hq_9 := hO.2.2.2.2.2.2 _ (by have h7 := vp_in_iff.mp hin_7; rw [(hf_6.2.2 (by decide))] at h7; show (y_1.toInt).toNat < 6; omega) _ hg_9
          refine zld_22s C hs hP hf_6.1 hf_6.2.1 hin_7 hg_9 dX11_gamesThere_16 ?_
          refine lv_ifnonnull (tgt := 24) hx hb dX11_gamesThere_17 (by decide) ?_
          refine lv_iconst (v := 1) hx hb dX11_gamesThere_24 (by decide) ?_
          refine lv_iadd hx hb dX11_gamesThere_25 ?_
          refine lv_topi (fun x_13 ex_13 => ?_)
          refine lv_istore_n (lv' := [(1, .int x_13), (2, .int y_1), (0, .ref a0)]) hx hb dX11_gamesThere_26 rfl hl (by decide) rfl (fun ls hl => ?_)
          obtain ⟨x_14, ex_14⟩ : ∃ y : Int32, y = y_1 + 1 := ⟨_, rfl⟩
          refine lv_iinc (v := x_14) (lv' := [(2, .int x_14), (1, .int x_13), (0, .ref a0)]) hx hb dX11_gamesThere_27 hl (k := 1) rfl (by rw [ex_14]; rfl) (by decide) rfl (fun ls hl => ?_)
          refine lv_goto (tgt := 4) hx hb dX11_gamesThere_30 (by decide) ?_
          obtain ⟨f_14, l_14, u_14⟩ := z_add ex_14 rfl ti_1
          have g_15 := z_rng y_2
          obtain ⟨f_13, l_13, u_13⟩ := z_add ex_13 rfl ti_1
          exact ih_3 x_14 x_13 _ (by omega) (by omega) (lv_sub hl [0, 1, 2] rfl)
  exact L_4_3 _ 0 0 _ (Nat.lt_succ_self _) (by simp only [ti_0, ti_0]; omega) (lv_sub hl [0, 1, 2] rfl)
set_option maxHeartbeats 4000000 in
set_option maxRecDepth 100000 in
theorem c_X11_keep (l : Launch) (D : va_G) (K : zK) (hO : zOk K) (vi va : Nat → Nat → Int32) (vg : Nat → Nat → Option Nat) (hI : zI K (vi, va, vg)) (a0 : Nat) (ha0 : a0 ∈ zl K) (hk0 : zk K a0 = 10) (a1 : Nat) (ha1 : a1 ∈ zl K) (hk1 : zk K a1 = 8) : Met l yX11_keep (zc yX11_keep cX11_keep 3 none) (rmd 5) (va_Pc [.ref a0, .ref a1] (zB D K (vi, va, vg))) (zQv D K (fun V' => zI K V')) 0 0 (zA K) := by
  refine zin (by decide) (Nat.le_of_ble_eq_true rfl) ?_
  intro p e s m args below meth c ls Q hQ C hr hlk hP hs hl
  have C : CallFix p m c cX11_keep 3 s args zw RX11 := C
  obtain ⟨hx, hb, hml, hown, hts⟩ := id C
  have hS : va_S (zA K) s.heap s.heap [] := va_S.rf
  have hl : lv_has ls 3 [(0, .ref a0), (1, .ref a1)] := hl
  refine lv_aload_n hx hb dX11_keep_0 rfl (lv_at hl 1 rfl) ?_
  refine zg_8_0 C hs hP ha1 hk1 wf_X11_338 dX11_keep_1 ?_
  refine lv_istore_n (lv' := [(2, .int (vi a1 0)), (0, .ref a0), (1, .ref a1)]) hx hb dX11_keep_4 rfl hl (by decide) rfl (fun ls hl => ?_)
  refine lv_iload_n hx hb dX11_keep_5 rfl (lv_at hl 0 rfl) ?_
  refine bz_lt (tgt := 14) hx hb rfl dX11_keep_6 (by decide) (fun c_1 => ?_) (fun c_1 => ?_)
  · skip
    exact zaV hQ hx hb hr hlk hP hS hI dX11_keep_14
  · skip
    refine lv_iload_n hx hb dX11_keep_9 rfl (lv_at hl 0 rfl) ?_
    refine lv_iconst (v := 4) hx hb dX11_keep_10 (by decide) ?_
    refine bi_lt (tgt := 15) hx hb rfl ti_4 dX11_keep_11 (by decide) (fun c_2 => ?_) (fun c_2 => ?_)
    · skip
      refine lv_aload_n hx hb dX11_keep_15 rfl (lv_at hl 1 rfl) ?_
      refine zg_10_2 C hs hP ha0 hk0 wf_X11_21 dX11_keep_16 ?_
      have hf_3 := hO.r (j := 2) ha0 hk0 (rfl : zX 10 2 = some (24, 32))
      refine lv_iload_n hx hb dX11_keep_19 rfl (lv_at hl 0 rfl) ?_
      refine lv_bipush (v := 8) hx hb dX11_keep_20 (by decide) ?_
      refine lv_imul hx hb dX11_keep_22 ?_
      refine lv_topi (fun x_4 ex_4 => ?_)
      refine lv_aload_n hx hb dX11_keep_23 rfl (lv_at hl 1 rfl) ?_
      refine zg_10_3 C hs hP ha0 hk0 wf_X11_27 dX11_keep_24 ?_
      have hf_5 := hO.r (j := 3) ha0 hk0 (rfl : zX 10 3 = some (25, 4))
      refine lv_iload_n hx hb dX11_keep_27 rfl (lv_at hl 0 rfl) ?_
      have g_7 := z_rng (vi a1 0)
      have hin_6 : vp_in (vi a1 0) (zn K (zr K a0 3)) := vp_in_iff.mpr (by rw [(hf_5.2.2 (by decide))]; refine ⟨?_, ?_⟩ <;> omega)
      refine zld_25 C hs hP hf_5.1 hf_5.2.1 hin_6 dX11_keep_28 ?_
      have hv_8 : 0 ≤ (va (zr K a0 3) (vi a1 0).toNatClampNeg).toInt ∧ (va (zr K a0 3) (vi a1 0).toNatClampNeg).toInt ≤ 7 := hI.2.2.1 _ hf_5.1 hf_5.2.1 _ (Nat.not_le.mp fun q => hin_6 (Or.inr q))
      refine lv_iadd hx hb dX11_keep_29 ?_
      refine lv_topi (fun x_9 ex_9 => ?_)
      obtain ⟨f_4, l_4, u_4⟩ := z_mul ex_4 rfl ti_8
      have g_11 := z_rng (va (zr K a0 3) (vi a1 0).toNatClampNeg)
      obtain ⟨f_9, l_9, u_9⟩ := z_add ex_9 rfl rfl
      have hin_10 : vp_in x_9 (zn K (zr K a0 2)) := vp_in_iff.mpr (by rw [(hf_3.2.2 (by decide))]; refine ⟨?_, ?_⟩ <;> omega)
      refine zld_24 C hs hP hf_3.1 hf_3.2.1 hin_10 dX11_keep_30 ?_
      have hf_12 := zel_24 hO hf_3.1 hf_3.2.1 hin_10
      refine lv_aload_n hx hb dX11_keep_31 rfl (lv_at hl 2 rfl) ?_
      refine zcV (zrV (As := [.ref a1]) (b := zr K (zr K a0 2) x_9.toNatClampNeg) (rest := []) C hs hP hS (c_X9_setTo l D K hO vi va vg hI (zr K (zr K a0 2) x_9.toNatClampNeg) hf_12.1 hf_12.2 a1 ha1 hk1) m_X9_setTo wm_X11_261 (zrecv hs hP hf_12.1 (zF_8 hf_12.2) rfl) ⟨by decide, by decide⟩ hl.1 (Nat.le_of_ble_eq_true rfl) dX11_keep_32) hS (fun V_13 H locs p_13 hP hS => ?_)
      obtain ⟨vi_13, va_13, vg_13⟩ := V_13
      have hI := p_13
      try dsimp only at hI
      refine lv_aload_n hx hb dX11_keep_35 rfl (lv_at hl 1 rfl) ?_
      refine zg_10_3 C hs hP ha0 hk0 wf_X11_27 dX11_keep_36 ?_
      refine lv_iload_n hx hb dX11_keep_39 rfl (lv_at hl 0 rfl) ?_
      refine lv_aload_n hx hb dX11_keep_40 rfl (lv_at hl 1 rfl) ?_
      refine zg_10_3 C hs hP ha0 hk0 wf_X11_27 dX11_keep_41 ?_
      refine lv_iload_n hx hb dX11_keep_44 rfl (lv_at hl 0 rfl) ?_
      have hin_14 : vp_in (vi a1 0) (zn K (zr K a0 3)) := vp_in_iff.mpr (by rw [(hf_5.2.2 (by decide))]; refine ⟨?_, ?_⟩ <;> omega)
      refine zld_25 C hs hP hf_5.1 hf_5.2.1 hin_14 dX11_keep_45 ?_
      have hv_15 : 0 ≤ (va_13 (zr K a0 3) (vi a1 0).toNatClampNeg).toInt ∧ (va_13 (zr K a0 3) (vi a1 0).toNatClampNeg).toInt ≤ 7 := hI.2.2.1 _ hf_5.1 hf_5.2.1 _ (Nat.not_le.mp fun q => hin_14 (Or.inr q))
      refine lv_iconst (v := 1) hx hb dX11_keep_46 (by decide) ?_
      refine lv_iadd hx hb dX11_keep_47 ?_
      refine lv_topi (fun x_16 ex_16 => ?_)
      refine lv_bipush (v := 7) hx hb dX11_keep_48 (by decide) ?_
      refine lv_iand hx hb dX11_keep_50 ?_
      refine lv_topi (fun x_17 ex_17 => ?_)
      have hin_18 : vp_in (vi a1 0) (zn K (zr K a0 3)) := vp_in_iff.mpr (by rw [(hf_5.2.2 (by decide))]; refine ⟨?_, ?_⟩ <;> omega)
      have f_17 := z_and ex_17 ti_7 (by decide)
      refine ks_25 C hO hs hP hS hf_5.1 hf_5.2.1 hI hin_18 (by omega) dX11_keep_51 (fun va_19 H locs hI hP hS => ?_)
      refine lv_aload_n hx hb dX11_keep_52 rfl (lv_at hl 1 rfl) ?_
      refine zg_10_4 C hs hP ha0 hk0 wf_X11_31 dX11_keep_53 ?_
      have hf_20 := hO.r (j := 4) ha0 hk0 (rfl : zX 10 4 = some (20, 4))
      refine lv_iload_n hx hb dX11_keep_56 rfl (lv_at hl 0 rfl) ?_
      refine lv_bipush (v := 8) hx hb dX11_keep_57 (by decide) ?_
      refine lv_aload_n hx hb dX11_keep_59 rfl (lv_at hl 1 rfl) ?_
      refine zg_10_4 C hs hP ha0 hk0 wf_X11_31 dX11_keep_60 ?_
      refine lv_iload_n hx hb dX11_keep_63 rfl (lv_at hl 0 rfl) ?_
      have hin_21 : vp_in (vi a1 0) (zn K (zr K a0 4)) := vp_in_iff.mpr (by rw [(hf_20.2.2 (by decide))]; refine ⟨?_, ?_⟩ <;> omega)
      refine zld_20 C hs hP hf_20.1 hf_20.2.1 hin_21 dX11_keep_64 ?_
      refine lv_iconst (v := 1) hx hb dX11_keep_65 (by decide) ?_
      refine lv_iadd hx hb dX11_keep_66 ?_
      refine lv_topi (fun x_22 ex_22 => ?_)
      refine va_mmin hx hb (hml.trans hl.1.symm) hown (hts _ wm_X11_315) (hts _ wt_Lib_Math_min_name) (hts _ wn_J9) (hts _ wo_min) (by decide) (Nat.le_of_ble_eq_true rfl) (Nat.zero_le _) (Nat.zero_le _) dX11_keep_67 ?_
      refine lv_topi (fun x_23 ex_23 => ?_)
      have hin_24 : vp_in (vi a1 0) (zn K (zr K a0 4)) := vp_in_iff.mpr (by rw [(hf_20.2.2 (by decide))]; refine ⟨?_, ?_⟩ <;> omega)
      refine ks_20 C hO hs hP hS hf_20.1 hf_20.2.1 hI hin_24 dX11_keep_70 (fun va_25 H locs hI hP hS => ?_)
      exact zaV hQ hx hb hr hlk hP hS hI dX11_keep_71
    · skip
      exact zaV hQ hx hb hr hlk hP hS hI dX11_keep_14
set_option maxHeartbeats 4000000 in
set_option maxRecDepth 100000 in
theorem c_X11_play (l : Launch) (D : va_G) (K : zK) (hO : zOk K) (vi va : Nat → Nat → Int32) (vg : Nat → Nat → Option Nat) (hI : zI K (vi, va, vg)) (a0 : Nat) (ha0 : a0 ∈ zl K) (hk0 : zk K a0 = 10) (a1 : Nat) (ha1 : a1 ∈ zl K) (hk1 : zk K a1 = 8) (a2 : Nat) (ha2 : a2 ∈ zl K) (hk2 : zk K a2 = 5) (x3 : Int32) (x4 : Int32) (x5 : Int32) : Met l yX11_play (zc yX11_play cX11_play 9 (some .int)) (rmd 6) (va_Pc [.ref a0, .ref a1, .ref a2, .int x3, .int x4, .int x5] (zB D K (vi, va, vg))) (zQi D K (fun r V' => zI K V')) 0 0 (zA K) := by
  refine zin (by decide) (Nat.le_of_ble_eq_true rfl) ?_
  intro p e s m args below meth c ls Q hQ C hr hlk hP hs hl
  have C : CallFix p m c cX11_play 9 s args zw RX11 := C
  obtain ⟨hx, hb, hml, hown, hts⟩ := id C
  have hS : va_S (zA K) s.heap s.heap [] := va_S.rf
  have hl : lv_has ls 9 [(0, .ref a0), (1, .ref a1), (2, .ref a2), (3, .int x3), (4, .int x4), (5, .int x5)] := hl
  refine lv_aload_n hx hb dX11_play_0 rfl (lv_at hl 2 rfl) ?_
  refine lv_dup hx hb dX11_play_1 rfl ?_
  refine zg_5_5 C hs hP ha2 hk2 wf_X11_293 dX11_play_2 ?_
  refine lv_iconst (v := 1) hx hb dX11_play_5 (by decide) ?_
  refine lv_iadd hx hb dX11_play_6 ?_
  refine lv_topi (fun x_1 ex_1 => ?_)
  refine kp_5_5 C hO hs hP hS ha2 hk2 wf_X11_293 hI dX11_play_7 (fun vi_2 H locs hI hP hS => ?_)
  refine lv_aload_n hx hb dX11_play_10 rfl (lv_at hl 1 rfl) ?_
  refine lv_iload hx hb dX11_play_11 (lv_at hl 4 rfl) ?_
  refine lv_iload hx hb dX11_play_13 (lv_at hl 5 rfl) ?_
  refine lv_iconst (v := 1) hx hb dX11_play_15 (by decide) ?_
  refine zcS (zrV (As := [.int x4, .int x5, .int 1]) (b := a1) (rest := []) C hs hP hS (c_X9_findingOf l D K hO vi_2 va vg hI a1 ha1 hk1 x4 x5 1) m_X9_findingOf wm_X11_194 (zrecv hs hP ha1 (zF_8 hk1) rfl) ⟨by decide, by decide⟩ hl.1 (Nat.le_of_ble_eq_true rfl) dX11_play_16) (fun x_3 p_3 => ?_)
  refine lv_istore (lv' := [(6, .int x_3), (0, .ref a0), (1, .ref a1), (2, .ref a2), (3, .int x3), (4, .int x4), (5, .int x5)]) hx hb dX11_play_19 hl (by decide) rfl (fun ls hl => ?_)
  refine lv_iload hx hb dX11_play_21 (lv_at hl 0 rfl) ?_
  have J_39_7 : ∀ (vi_8 : Nat → Nat → Int32) (va_8 : Nat → Nat → Int32) (H : Heap) (locs : List Loc) (y_6 : Int32) (ls : Array Slot), zI K (vi_8, va_8, vg) → va_P D vwCl (zW K (vi_8, va_8, vg)) H → va_S (zA K) s.heap H locs → lv_has ls 9 [(0, .ref a0), (1, .ref a1), (2, .ref a2), (3, .int x3), (4, .int x4), (5, .int x5), (6, .int x_3)] → W p l e (rmd 6) s m args below meth c H locs 0 0 Q (F0 m 39 ls [.int y_6]) := by
    intro vi_8 va_8 H locs y_6 ls hI hP hS hl
    refine lv_istore (lv' := [(7, .int y_6), (0, .ref a0), (1, .ref a1), (2, .ref a2), (3, .int x3), (4, .int x4), (5, .int x5), (6, .int x_3)]) hx hb dX11_play_39 hl (by decide) rfl (fun ls hl => ?_)
    refine lv_iload hx hb dX11_play_41 (lv_at hl 0 rfl) ?_
    have J_55_13 : ∀ (y_12 : Int32) (ls : Array Slot), lv_has ls 9 [(0, .ref a0), (1, .ref a1), (2, .ref a2), (3, .int x3), (4, .int x4), (5, .int x5), (6, .int y_12), (7, .int y_6)] → W p l e (rmd 6) s m args below meth c H locs 0 0 Q (F0 m 55 ls []) := by
      intro y_12 ls hl
      refine lv_iload hx hb dX11_play_55 (lv_at hl 6 rfl) ?_
      refine bz_eq (tgt := 80) hx hb rfl dX11_play_57 (by decide) (fun c_15 => ?_) (fun c_15 => ?_)
      · skip
        refine lv_aload_n hx hb dX11_play_80 rfl (lv_at hl 0 rfl) ?_
        refine lv_aload_n hx hb dX11_play_81 rfl (lv_at hl 1 rfl) ?_
        refine zcV (zrV (As := [.ref a1]) (b := a0) (rest := []) C hs hP hS (c_X11_keep l D K hO vi_8 va_8 vg hI a0 ha0 hk0 a1 ha1 hk1) m_X11_keep wm_X11_144 (zrecv hs hP ha0 (zF_10 hk0) rfl) ⟨by decide, by decide⟩ hl.1 (Nat.le_of_ble_eq_true rfl) dX11_play_82) hS (fun V_16 H locs p_16 hP hS => ?_)
        obtain ⟨vi_16, va_16, vg_16⟩ := V_16
        have hI := p_16
        try dsimp only at hI
        refine lv_aload_n hx hb dX11_play_85 rfl (lv_at hl 1 rfl) ?_
        refine zg_8_13 C hs hP ha1 hk1 wf_X11_135 dX11_play_86 ?_
        have hf_17 := hO.r (j := 13) ha1 hk1 (rfl : zX 8 13 = some (1, 0))
        refine zg_1_17 C hs hP hf_17.1 hf_17.2.1 wf_X11_160 dX11_play_89 ?_
        have hf_18 := hO.r (j := 17) hf_17.1 hf_17.2.1 (rfl : zX 1 17 = some (7, 0))
        refine lv_iload_n hx hb dX11_play_92 rfl (lv_at hl 3 rfl) ?_
        refine lv_iload hx hb dX11_play_93 (lv_at hl 4 rfl) ?_
        refine lv_iload hx hb dX11_play_95 (lv_at hl 5 rfl) ?_
        refine lv_iconst (v := 0) hx hb dX11_play_97 (by decide) ?_
        refine zcS (zrS (As := [.int x3, .int x4, .int x5, .int 0]) (rest := [.ref (zr K (zr K a1 13) 17)]) C hs hP hS (c_X11_packed l D K hO vi_16 va_16 vg_16 hI x3 x4 x5 0) m_X11_packed wm_X11_164 ⟨by decide, by decide⟩ hl.1 (Nat.le_of_ble_eq_true rfl) dX11_play_98) (fun x_19 p_19 => ?_)
        refine zcV (zrV (As := [.int x_19]) (b := zr K (zr K a1 13) 17) (rest := []) C hs hP hS (c_X8_add l D K hO vi_16 va_16 vg_16 hI (zr K (zr K a1 13) 17) hf_18.1 hf_18.2.1 x_19) m_X8_add wm_X11_168 (zrecv hs hP hf_18.1 (zF_7 hf_18.2.1) rfl) ⟨by decide, by decide⟩ hl.1 (Nat.le_of_ble_eq_true rfl) dX11_play_101) hS (fun V_20 H locs p_20 hP hS => ?_)
        obtain ⟨vi_20, va_20, vg_20⟩ := V_20
        obtain ⟨hI, hg_20⟩ := p_20
        try dsimp only at hI hg_20
        replace hg_20 := hg_20.symm
        subst hg_20
        refine lv_aload_n hx hb dX11_play_104 rfl (lv_at hl 1 rfl) ?_
        refine lv_iload hx hb dX11_play_105 (lv_at hl 4 rfl) ?_
        refine lv_iload hx hb dX11_play_107 (lv_at hl 5 rfl) ?_
        refine lv_iload hx hb dX11_play_109 (lv_at hl 7 rfl) ?_
        refine lv_iconst (v := 1) hx hb dX11_play_111 (by decide) ?_
        have J_120_23 : ∀ (y_22 : Int32) (ls : Array Slot), (y_22 = 0 ∨ y_22 = 1) → lv_has ls 9 [(0, .ref a0), (1, .ref a1), (2, .ref a2), (3, .int x3), (4, .int x4), (5, .int x5), (6, .int y_12), (7, .int y_6)] → W p l e (rmd 6) s m args below meth c H locs 0 0 Q (F0 m 120 ls [.int y_22, .int x5, .int x4, .ref a1]) := by
          intro y_22 ls hb_y_22 hl
          refine zcI (zrV (As := [.int x4, .int x5, .int y_22]) (b := a1) (rest := []) C hs hP hS (c_X9_layCard l D K hO vi_20 va_20 vg_16 hI a1 ha1 hk1 x4 x5 y_22) m_X9_layCard wm_X11_344 (zrecv hs hP ha1 (zF_8 hk1) rfl) ⟨by decide, by decide⟩ hl.1 (Nat.le_of_ble_eq_true rfl) dX11_play_120) hS (fun x_25 V_25 H locs p_25 hP hS => ?_)
          obtain ⟨vi_25, va_25, vg_25⟩ := V_25
          obtain ⟨hI, hg_25⟩ := p_25
          try dsimp only at hI hg_25
          replace hg_25 := hg_25.symm
          subst hg_25
          refine lv_istore (lv' := [(8, .int x_25), (0, .ref a0), (1, .ref a1), (2, .ref a2), (3, .int x3), (4, .int x4), (5, .int x5), (6, .int y_12), (7, .int y_6)]) hx hb dX11_play_123 hl (by decide) rfl (fun ls hl => ?_)
          refine lv_aload_n hx hb dX11_play_125 rfl (lv_at hl 2 rfl) ?_
          refine zg_8_13 C hs hP ha1 hk1 wf_X11_135 dX11_play_126 ?_
          refine zg_1_2 C hs hP hf_17.1 hf_17.2.1 wf_X11_139 dX11_play_129 ?_
          refine lv_iconst (v := (-1)) hx hb dX11_play_132 (by decide) ?_
          refine bi_ne (tgt := 141) hx hb rfl ti_m1 dX11_play_133 (by decide) (fun c_26 => ?_) (fun c_26 => ?_)
          · skip
            refine lv_iload hx hb dX11_play_141 (lv_at hl 0 rfl) ?_
            exact zaI hQ hx hb hr hlk hP hS hI dX11_play_143
          · skip
            refine lv_aload_n hx hb dX11_play_136 rfl (lv_at hl 2 rfl) ?_
            refine lv_aload_n hx hb dX11_play_137 rfl (lv_at hl 3 rfl) ?_
            refine zcV (zrV (As := [.ref a2]) (b := a1) (rest := []) C hs hP hS (c_X9_endTrick l D K hO vi_25 va_25 vg_16 hI a1 ha1 hk1 a2 ha2 hk2) m_X9_endTrick wm_X11_347 (zrecv hs hP ha1 (zF_8 hk1) rfl) ⟨by decide, by decide⟩ hl.1 (Nat.le_of_ble_eq_true rfl) dX11_play_138) hS (fun V_27 H locs p_27 hP hS => ?_)
            obtain ⟨vi_27, va_27, vg_27⟩ := V_27
            obtain ⟨hI, hg_27⟩ := p_27
            try dsimp only at hI hg_27
            replace hg_27 := hg_27.symm
            subst hg_27
            refine lv_iload hx hb dX11_play_141 (lv_at hl 0 rfl) ?_
            exact zaI hQ hx hb hr hlk hP hS hI dX11_play_143
        refine bi_ne (tgt := 119) hx hb rfl ti_1 dX11_play_112 (by decide) (fun c_21 => ?_) (fun c_21 => ?_)
        · skip
          refine lv_iconst (v := 0) hx hb dX11_play_119 (by decide) ?_
          exact J_120_23 0 _ (Or.inl rfl) (lv_sub hl [0, 1, 2, 3, 4, 5, 6, 7] rfl)
        · skip
          refine lv_iconst (v := 1) hx hb dX11_play_115 (by decide) ?_
          refine lv_goto (tgt := 120) hx hb dX11_play_116 (by decide) ?_
          exact J_120_23 1 _ (Or.inr rfl) (lv_sub hl [0, 1, 2, 3, 4, 5, 6, 7] rfl)
      · skip
        refine lv_aload_n hx hb dX11_play_60 rfl (lv_at hl 2 rfl) ?_
        refine lv_iload hx hb dX11_play_61 (lv_at hl 6 rfl) ?_
        refine lv_aload_n hx hb dX11_play_63 rfl (lv_at hl 1 rfl) ?_
        refine zg_8_0 C hs hP ha1 hk1 wf_X11_338 dX11_play_64 ?_
        refine lv_iload hx hb dX11_play_67 (lv_at hl 4 rfl) ?_
        refine lv_iload hx hb dX11_play_69 (lv_at hl 7 rfl) ?_
        refine zcV (zrV (As := [.int y_12, .int (vi_8 a1 0), .int x4, .int y_6]) (b := a2) (rest := []) C hs hP hS (c_X6_find l D K hO vi_8 va_8 vg hI a2 ha2 hk2 y_12 (vi_8 a1 0) x4 y_6) m_X6_find wm_X11_341 (zrecv hs hP ha2 (zF_5 hk2) rfl) ⟨by decide, by decide⟩ hl.1 (Nat.le_of_ble_eq_true rfl) dX11_play_71) hS (fun V_28 H locs p_28 hP hS => ?_)
        obtain ⟨vi_28, va_28, vg_28⟩ := V_28
        obtain ⟨hI, hg_28⟩ := p_28
        try dsimp only at hI hg_28
        replace hg_28 := hg_28.symm
        subst hg_28
        refine lv_bipush (v := (-10)) hx hb dX11_play_74 (by decide) ?_
        refine lv_iload hx hb dX11_play_76 (lv_at hl 6 rfl) ?_
        refine lv_isub hx hb dX11_play_78 ?_
        refine lv_topi (fun x_29 ex_29 => ?_)
        exact zaI hQ hx hb hr hlk hP hS hI dX11_play_79
    refine bz_eq (tgt := 55) hx hb rfl dX11_play_43 (by decide) (fun c_10 => ?_) (fun c_10 => ?_)
    · skip
      exact J_55_13 x_3 _ (lv_sub hl [1, 2, 3, 4, 5, 6, 7, 0] rfl)
    · skip
      refine lv_iload_n hx hb dX11_play_46 rfl (lv_at hl 4 rfl) ?_
      refine lv_iconst (v := 3) hx hb dX11_play_47 (by decide) ?_
      refine bi_ne (tgt := 55) hx hb rfl ti_3 dX11_play_48 (by decide) (fun c_30 => ?_) (fun c_30 => ?_)
      · skip
        exact J_55_13 x_3 _ (lv_sub hl [1, 2, 3, 4, 5, 6, 7, 0] rfl)
      · skip
        refine lv_bipush (v := 6) hx hb dX11_play_51 (by decide) ?_
        refine lv_istore (lv' := [(6, .int 6), (7, .int y_6), (0, .ref a0), (1, .ref a1), (2, .ref a2), (3, .int x3), (4, .int x4), (5, .int x5)]) hx hb dX11_play_53 hl (by decide) rfl (fun ls hl => ?_)
        exact J_55_13 6 _ (lv_sub hl [2, 3, 4, 5, 6, 7, 0, 1] rfl)
  refine bz_ne (tgt := 38) hx hb rfl dX11_play_23 (by decide) (fun c_4 => ?_) (fun c_4 => ?_)
  · skip
    refine lv_iconst (v := 0) hx hb dX11_play_38 (by decide) ?_
    exact J_39_7 vi_2 va _ _ 0 _ hI hP hS (lv_sub hl [1, 2, 3, 4, 5, 6, 0] rfl)
  · skip
    refine lv_aload_n hx hb dX11_play_26 rfl (lv_at hl 2 rfl) ?_
    refine lv_aload_n hx hb dX11_play_27 rfl (lv_at hl 3 rfl) ?_
    refine lv_iload hx hb dX11_play_28 (lv_at hl 5 rfl) ?_
    refine lv_iload hx hb dX11_play_30 (lv_at hl 6 rfl) ?_
    refine zcI (zrV (As := [.ref a2, .int x4, .int x5]) (b := a1) (rest := []) C hs hP hS (c_X9_ruleAgainst l D K hO vi_2 va vg hI a1 ha1 hk1 a2 ha2 hk2 x4 x5) m_X9_ruleAgainst wm_X11_198 (zrecv hs hP ha1 (zF_8 hk1) rfl) ⟨by decide, by decide⟩ hl.1 (Nat.le_of_ble_eq_true rfl) dX11_play_32) hS (fun x_31 V_31 H locs p_31 hP hS => ?_)
    obtain ⟨vi_31, va_31, vg_31⟩ := V_31
    obtain ⟨hI, hg_31⟩ := p_31
    try dsimp only at hI hg_31
    replace hg_31 := hg_31.symm
    subst hg_31
    refine lv_goto (tgt := 39) hx hb dX11_play_35 (by decide) ?_
    exact J_39_7 vi_31 va_31 _ _ x_31 _ hI hP hS (lv_sub hl [1, 2, 3, 4, 5, 6, 0] rfl)
set_option maxHeartbeats 4000000 in
set_option maxRecDepth 100000 in
theorem c_X11_repeatAside (l : Launch) (D : va_G) (K : zK) (hO : zOk K) (vi va : Nat → Nat → Int32) (vg : Nat → Nat → Option Nat) (hI : zI K (vi, va, vg)) (a0 : Nat) (ha0 : a0 ∈ zl K) (hk0 : zk K a0 = 10) (x1 : Int32) (x2 : Int32) (x3 : Int32) (x4 : Int32) : Met l yX11_repeatAside (zc yX11_repeatAside cX11_repeatAside 5 none) (rmd 4) (va_Pc [.ref a0, .int x1, .int x2, .int x3, .int x4] (zB D K (vi, va, vg))) (zQv D K (fun V' => zI K V' ∧ V'.2.2 = vg)) 0 0 (zA K) := by
  refine zin (by decide) (Nat.le_of_ble_eq_true rfl) ?_
  intro p e s m args below meth c ls Q hQ C hr hlk hP hs hl
  have C : CallFix p m c cX11_repeatAside 5 s args zw RX11 := C
  obtain ⟨hx, hb, hml, hown, hts⟩ := id C
  have hS : va_S (zA K) s.heap s.heap [] := va_S.rf
  have hl : lv_has ls 5 [(0, .ref a0), (1, .int x1), (2, .int x2), (3, .int x3), (4, .int x4)] := hl
  refine lv_iload_n hx hb dX11_repeatAside_0 rfl (lv_at hl 1 rfl) ?_
  refine bz_ne (tgt := 44) hx hb rfl dX11_repeatAside_1 (by decide) (fun c_1 => ?_) (fun c_1 => ?_)
  · skip
    refine lv_iload_n hx hb dX11_repeatAside_44 rfl (lv_at hl 1 rfl) ?_
    refine lv_iconst (v := 1) hx hb dX11_repeatAside_45 (by decide) ?_
    refine bi_ne (tgt := 84) hx hb rfl ti_1 dX11_repeatAside_46 (by decide) (fun c_2 => ?_) (fun c_2 => ?_)
    · skip
      refine lv_iload_n hx hb dX11_repeatAside_84 rfl (lv_at hl 1 rfl) ?_
      refine lv_iconst (v := 2) hx hb dX11_repeatAside_85 (by decide) ?_
      refine bi_ne (tgt := 116) hx hb rfl ti_2 dX11_repeatAside_86 (by decide) (fun c_3 => ?_) (fun c_3 => ?_)
      · skip
        exact zaV hQ hx hb hr hlk hP hS ⟨hI, rfl⟩ dX11_repeatAside_116
      · skip
        refine lv_aload_n hx hb dX11_repeatAside_89 rfl (lv_at hl 0 rfl) ?_
        refine zg_10_5 C hs hP ha0 hk0 wf_X11_34 dX11_repeatAside_90 ?_
        have hf_4 := hO.r (j := 5) ha0 hk0 (rfl : zX 10 5 = some (8, 0))
        refine lv_iload_n hx hb dX11_repeatAside_93 rfl (lv_at hl 2 rfl) ?_
        refine zcS (zrV (As := [.int x2]) (b := zr K a0 5) (rest := []) C hs hP hS (c_X9_canDouble l D K hO vi va vg hI (zr K a0 5) hf_4.1 hf_4.2.1 x2) m_X9_canDouble wm_X11_184 (zrecv hs hP hf_4.1 (zF_8 hf_4.2.1) rfl) ⟨by decide, by decide⟩ hl.1 (Nat.le_of_ble_eq_true rfl) dX11_repeatAside_94) (fun x_5 p_5 => ?_)
        refine bz_eq (tgt := 116) hx hb rfl dX11_repeatAside_97 (by decide) (fun c_6 => ?_) (fun c_6 => ?_)
        · skip
          exact zaV hQ hx hb hr hlk hP hS ⟨hI, rfl⟩ dX11_repeatAside_116
        · skip
          refine lv_aload_n hx hb dX11_repeatAside_100 rfl (lv_at hl 0 rfl) ?_
          refine zg_10_5 C hs hP ha0 hk0 wf_X11_34 dX11_repeatAside_101 ?_
          refine zg_8_13 C hs hP hf_4.1 hf_4.2.1 wf_X11_135 dX11_repeatAside_104 ?_
          have hf_7 := hO.r (j := 13) hf_4.1 hf_4.2.1 (rfl : zX 8 13 = some (1, 0))
          refine lv_dup hx hb dX11_repeatAside_107 rfl ?_
          refine zg_1_7 C hs hP hf_7.1 hf_7.2.1 wf_X11_187 dX11_repeatAside_108 ?_
          refine lv_iconst (v := 1) hx hb dX11_repeatAside_111 (by decide) ?_
          refine lv_iadd hx hb dX11_repeatAside_112 ?_
          refine lv_topi (fun x_8 ex_8 => ?_)
          refine kp_1_7 C hO hs hP hS hf_7.1 hf_7.2.1 wf_X11_187 hI dX11_repeatAside_113 (fun vi_9 H locs hI hP hS => ?_)
          exact zaV hQ hx hb hr hlk hP hS ⟨hI, rfl⟩ dX11_repeatAside_116
    · skip
      refine lv_aload_n hx hb dX11_repeatAside_49 rfl (lv_at hl 0 rfl) ?_
      refine zg_10_5 C hs hP ha0 hk0 wf_X11_34 dX11_repeatAside_50 ?_
      have hf_10 := hO.r (j := 5) ha0 hk0 (rfl : zX 10 5 = some (8, 0))
      refine lv_aload_n hx hb dX11_repeatAside_53 rfl (lv_at hl 0 rfl) ?_
      refine zg_10_7 C hs hP ha0 hk0 wf_X11_47 dX11_repeatAside_54 ?_
      have hf_11 := hO.r (j := 7) ha0 hk0 (rfl : zX 10 7 = some (5, 0))
      refine lv_iload_n hx hb dX11_repeatAside_57 rfl (lv_at hl 2 rfl) ?_
      refine lv_iload_n hx hb dX11_repeatAside_58 rfl (lv_at hl 3 rfl) ?_
      refine lv_iload hx hb dX11_repeatAside_59 (lv_at hl 4 rfl) ?_
      refine zcI (zrV (As := [.ref (zr K a0 7), .int x2, .int x3, .int x4]) (b := zr K a0 5) (rest := []) C hs hP hS (c_X9_refusalToBid l D K hO vi va vg hI (zr K a0 5) hf_10.1 hf_10.2.1 (zr K a0 7) hf_11.1 hf_11.2.1 x2 x3 x4) m_X9_refusalToBid wm_X11_176 (zrecv hs hP hf_10.1 (zF_8 hf_10.2.1) rfl) ⟨by decide, by decide⟩ hl.1 (Nat.le_of_ble_eq_true rfl) dX11_repeatAside_61) hS (fun x_12 V_12 H locs p_12 hP hS => ?_)
      obtain ⟨vi_12, va_12, vg_12⟩ := V_12
      obtain ⟨hI, hg_12⟩ := p_12
      try dsimp only at hI hg_12
      replace hg_12 := hg_12.symm
      subst hg_12
      refine bz_ne (tgt := 84) hx hb rfl dX11_repeatAside_64 (by decide) (fun c_13 => ?_) (fun c_13 => ?_)
      · skip
        refine lv_iload_n hx hb dX11_repeatAside_84 rfl (lv_at hl 1 rfl) ?_
        refine lv_iconst (v := 2) hx hb dX11_repeatAside_85 (by decide) ?_
        refine bi_ne (tgt := 116) hx hb rfl ti_2 dX11_repeatAside_86 (by decide) (fun c_14 => ?_) (fun c_14 => ?_)
        · skip
          exact zaV hQ hx hb hr hlk hP hS ⟨hI, rfl⟩ dX11_repeatAside_116
        · skip
          refine lv_aload_n hx hb dX11_repeatAside_89 rfl (lv_at hl 0 rfl) ?_
          refine zg_10_5 C hs hP ha0 hk0 wf_X11_34 dX11_repeatAside_90 ?_
          refine lv_iload_n hx hb dX11_repeatAside_93 rfl (lv_at hl 2 rfl) ?_
          refine zcS (zrV (As := [.int x2]) (b := zr K a0 5) (rest := []) C hs hP hS (c_X9_canDouble l D K hO vi_12 va_12 vg hI (zr K a0 5) hf_10.1 hf_10.2.1 x2) m_X9_canDouble wm_X11_184 (zrecv hs hP hf_10.1 (zF_8 hf_10.2.1) rfl) ⟨by decide, by decide⟩ hl.1 (Nat.le_of_ble_eq_true rfl) dX11_repeatAside_94) (fun x_15 p_15 => ?_)
          refine bz_eq (tgt := 116) hx hb rfl dX11_repeatAside_97 (by decide) (fun c_16 => ?_) (fun c_16 => ?_)
          · skip
            exact zaV hQ hx hb hr hlk hP hS ⟨hI, rfl⟩ dX11_repeatAside_116
          · skip
            refine lv_aload_n hx hb dX11_repeatAside_100 rfl (lv_at hl 0 rfl) ?_
            refine zg_10_5 C hs hP ha0 hk0 wf_X11_34 dX11_repeatAside_101 ?_
            refine zg_8_13 C hs hP hf_10.1 hf_10.2.1 wf_X11_135 dX11_repeatAside_104 ?_
            have hf_17 := hO.r (j := 13) hf_10.1 hf_10.2.1 (rfl : zX 8 13 = some (1, 0))
            refine lv_dup hx hb dX11_repeatAside_107 rfl ?_
            refine zg_1_7 C hs hP hf_17.1 hf_17.2.1 wf_X11_187 dX11_repeatAside_108 ?_
            refine lv_iconst (v := 1) hx hb dX11_repeatAside_111 (by decide) ?_
            refine lv_iadd hx hb dX11_repeatAside_112 ?_
            refine lv_topi (fun x_18 ex_18 => ?_)
            refine kp_1_7 C hO hs hP hS hf_17.1 hf_17.2.1 wf_X11_187 hI dX11_repeatAside_113 (fun vi_19 H locs hI hP hS => ?_)
            exact zaV hQ hx hb hr hlk hP hS ⟨hI, rfl⟩ dX11_repeatAside_116
      · skip
        refine lv_aload_n hx hb dX11_repeatAside_67 rfl (lv_at hl 0 rfl) ?_
        refine zg_10_5 C hs hP ha0 hk0 wf_X11_34 dX11_repeatAside_68 ?_
        refine zg_8_13 C hs hP hf_10.1 hf_10.2.1 wf_X11_135 dX11_repeatAside_71 ?_
        have hf_20 := hO.r (j := 13) hf_10.1 hf_10.2.1 (rfl : zX 8 13 = some (1, 0))
        refine lv_iload_n hx hb dX11_repeatAside_74 rfl (lv_at hl 3 rfl) ?_
        refine lv_iload hx hb dX11_repeatAside_75 (lv_at hl 4 rfl) ?_
        refine lv_iload_n hx hb dX11_repeatAside_77 rfl (lv_at hl 2 rfl) ?_
        refine zcV (zrV (As := [.int x3, .int x4, .int x2]) (b := zr K (zr K a0 5) 13) (rest := []) C hs hP hS (c_X1_setBid l D K hO vi_12 va_12 vg hI (zr K (zr K a0 5) 13) hf_20.1 hf_20.2.1 x3 x4 x2) m_X1_setBid wm_X11_180 (zrecv hs hP hf_20.1 (zF_1 hf_20.2.1) rfl) ⟨by decide, by decide⟩ hl.1 (Nat.le_of_ble_eq_true rfl) dX11_repeatAside_78) hS (fun V_21 H locs p_21 hP hS => ?_)
        obtain ⟨vi_21, va_21, vg_21⟩ := V_21
        obtain ⟨hI, hg_21⟩ := p_21
        try dsimp only at hI hg_21
        replace hg_21 := hg_21.symm
        subst hg_21
        refine lv_goto (tgt := 116) hx hb dX11_repeatAside_81 (by decide) ?_
        exact zaV hQ hx hb hr hlk hP hS ⟨hI, rfl⟩ dX11_repeatAside_116
  · skip
    refine lv_aload_n hx hb dX11_repeatAside_4 rfl (lv_at hl 0 rfl) ?_
    refine zg_10_5 C hs hP ha0 hk0 wf_X11_34 dX11_repeatAside_5 ?_
    have hf_22 := hO.r (j := 5) ha0 hk0 (rfl : zX 10 5 = some (8, 0))
    refine lv_iload_n hx hb dX11_repeatAside_8 rfl (lv_at hl 3 rfl) ?_
    refine zcS (zrV (As := [.int x3]) (b := zr K a0 5) (rest := []) C hs hP hS (c_X9_hasCard l D K hO vi va vg hI (zr K a0 5) hf_22.1 hf_22.2.1 x3) m_X9_hasCard wm_X11_101 (zrecv hs hP hf_22.1 (zF_8 hf_22.2.1) rfl) ⟨by decide, by decide⟩ hl.1 (Nat.le_of_ble_eq_true rfl) dX11_repeatAside_9) (fun x_23 p_23 => ?_)
    have pp_23 : (x_23.toInt ≠ 0 → 0 ≤ x3.toInt ∧ x3.toInt ≤ 59) := p_23.2
    refine bz_eq (tgt := 44) hx hb rfl dX11_repeatAside_12 (by decide) (fun c_24 => ?_) (fun c_24 => ?_)
    · skip
      refine lv_iload_n hx hb dX11_repeatAside_44 rfl (lv_at hl 1 rfl) ?_
      refine lv_iconst (v := 1) hx hb dX11_repeatAside_45 (by decide) ?_
      refine bi_ne (tgt := 84) hx hb rfl ti_1 dX11_repeatAside_46 (by decide) (fun c_25 => ?_) (fun c_25 => ?_)
      · skip
        refine lv_iload_n hx hb dX11_repeatAside_84 rfl (lv_at hl 1 rfl) ?_
        refine lv_iconst (v := 2) hx hb dX11_repeatAside_85 (by decide) ?_
        refine bi_ne (tgt := 116) hx hb rfl ti_2 dX11_repeatAside_86 (by decide) (fun c_26 => ?_) (fun c_26 => ?_)
        · skip
          exact zaV hQ hx hb hr hlk hP hS ⟨hI, rfl⟩ dX11_repeatAside_116
        · skip
          refine lv_aload_n hx hb dX11_repeatAside_89 rfl (lv_at hl 0 rfl) ?_
          refine zg_10_5 C hs hP ha0 hk0 wf_X11_34 dX11_repeatAside_90 ?_
          refine lv_iload_n hx hb dX11_repeatAside_93 rfl (lv_at hl 2 rfl) ?_
          refine zcS (zrV (As := [.int x2]) (b := zr K a0 5) (rest := []) C hs hP hS (c_X9_canDouble l D K hO vi va vg hI (zr K a0 5) hf_22.1 hf_22.2.1 x2) m_X9_canDouble wm_X11_184 (zrecv hs hP hf_22.1 (zF_8 hf_22.2.1) rfl) ⟨by decide, by decide⟩ hl.1 (Nat.le_of_ble_eq_true rfl) dX11_repeatAside_94) (fun x_27 p_27 => ?_)
          refine bz_eq (tgt := 116) hx hb rfl dX11_repeatAside_97 (by decide) (fun c_28 => ?_) (fun c_28 => ?_)
          · skip
            exact zaV hQ hx hb hr hlk hP hS ⟨hI, rfl⟩ dX11_repeatAside_116
          · skip
            refine lv_aload_n hx hb dX11_repeatAside_100 rfl (lv_at hl 0 rfl) ?_
            refine zg_10_5 C hs hP ha0 hk0 wf_X11_34 dX11_repeatAside_101 ?_
            refine zg_8_13 C hs hP hf_22.1 hf_22.2.1 wf_X11_135 dX11_repeatAside_104 ?_
            have hf_29 := hO.r (j := 13) hf_22.1 hf_22.2.1 (rfl : zX 8 13 = some (1, 0))
            refine lv_dup hx hb dX11_repeatAside_107 rfl ?_
            refine zg_1_7 C hs hP hf_29.1 hf_29.2.1 wf_X11_187 dX11_repeatAside_108 ?_
            refine lv_iconst (v := 1) hx hb dX11_repeatAside_111 (by decide) ?_
            refine lv_iadd hx hb dX11_repeatAside_112 ?_
            refine lv_topi (fun x_30 ex_30 => ?_)
            refine kp_1_7 C hO hs hP hS hf_29.1 hf_29.2.1 wf_X11_187 hI dX11_repeatAside_113 (fun vi_31 H locs hI hP hS => ?_)
            exact zaV hQ hx hb hr hlk hP hS ⟨hI, rfl⟩ dX11_repeatAside_116
      · skip
        refine lv_aload_n hx hb dX11_repeatAside_49 rfl (lv_at hl 0 rfl) ?_
        refine zg_10_5 C hs hP ha0 hk0 wf_X11_34 dX11_repeatAside_50 ?_
        refine lv_aload_n hx hb dX11_repeatAside_53 rfl (lv_at hl 0 rfl) ?_
        refine zg_10_7 C hs hP ha0 hk0 wf_X11_47 dX11_repeatAside_54 ?_
        have hf_32 := hO.r (j := 7) ha0 hk0 (rfl : zX 10 7 = some (5, 0))
        refine lv_iload_n hx hb dX11_repeatAside_57 rfl (lv_at hl 2 rfl) ?_
        refine lv_iload_n hx hb dX11_repeatAside_58 rfl (lv_at hl 3 rfl) ?_
        refine lv_iload hx hb dX11_repeatAside_59 (lv_at hl 4 rfl) ?_
        refine zcI (zrV (As := [.ref (zr K a0 7), .int x2, .int x3, .int x4]) (b := zr K a0 5) (rest := []) C hs hP hS (c_X9_refusalToBid l D K hO vi va vg hI (zr K a0 5) hf_22.1 hf_22.2.1 (zr K a0 7) hf_32.1 hf_32.2.1 x2 x3 x4) m_X9_refusalToBid wm_X11_176 (zrecv hs hP hf_22.1 (zF_8 hf_22.2.1) rfl) ⟨by decide, by decide⟩ hl.1 (Nat.le_of_ble_eq_true rfl) dX11_repeatAside_61) hS (fun x_33 V_33 H locs p_33 hP hS => ?_)
        obtain ⟨vi_33, va_33, vg_33⟩ := V_33
        obtain ⟨hI, hg_33⟩ := p_33
        try dsimp only at hI hg_33
        replace hg_33 := hg_33.symm
        subst hg_33
        refine bz_ne (tgt := 84) hx hb rfl dX11_repeatAside_64 (by decide) (fun c_34 => ?_) (fun c_34 => ?_)
        · skip
          refine lv_iload_n hx hb dX11_repeatAside_84 rfl (lv_at hl 1 rfl) ?_
          refine lv_iconst (v := 2) hx hb dX11_repeatAside_85 (by decide) ?_
          refine bi_ne (tgt := 116) hx hb rfl ti_2 dX11_repeatAside_86 (by decide) (fun c_35 => ?_) (fun c_35 => ?_)
          · skip
            exact zaV hQ hx hb hr hlk hP hS ⟨hI, rfl⟩ dX11_repeatAside_116
          · skip
            refine lv_aload_n hx hb dX11_repeatAside_89 rfl (lv_at hl 0 rfl) ?_
            refine zg_10_5 C hs hP ha0 hk0 wf_X11_34 dX11_repeatAside_90 ?_
            refine lv_iload_n hx hb dX11_repeatAside_93 rfl (lv_at hl 2 rfl) ?_
            refine zcS (zrV (As := [.int x2]) (b := zr K a0 5) (rest := []) C hs hP hS (c_X9_canDouble l D K hO vi_33 va_33 vg hI (zr K a0 5) hf_22.1 hf_22.2.1 x2) m_X9_canDouble wm_X11_184 (zrecv hs hP hf_22.1 (zF_8 hf_22.2.1) rfl) ⟨by decide, by decide⟩ hl.1 (Nat.le_of_ble_eq_true rfl) dX11_repeatAside_94) (fun x_36 p_36 => ?_)
            refine bz_eq (tgt := 116) hx hb rfl dX11_repeatAside_97 (by decide) (fun c_37 => ?_) (fun c_37 => ?_)
            · skip
              exact zaV hQ hx hb hr hlk hP hS ⟨hI, rfl⟩ dX11_repeatAside_116
            · skip
              refine lv_aload_n hx hb dX11_repeatAside_100 rfl (lv_at hl 0 rfl) ?_
              refine zg_10_5 C hs hP ha0 hk0 wf_X11_34 dX11_repeatAside_101 ?_
              refine zg_8_13 C hs hP hf_22.1 hf_22.2.1 wf_X11_135 dX11_repeatAside_104 ?_
              have hf_38 := hO.r (j := 13) hf_22.1 hf_22.2.1 (rfl : zX 8 13 = some (1, 0))
              refine lv_dup hx hb dX11_repeatAside_107 rfl ?_
              refine zg_1_7 C hs hP hf_38.1 hf_38.2.1 wf_X11_187 dX11_repeatAside_108 ?_
              refine lv_iconst (v := 1) hx hb dX11_repeatAside_111 (by decide) ?_
              refine lv_iadd hx hb dX11_repeatAside_112 ?_
              refine lv_topi (fun x_39 ex_39 => ?_)
              refine kp_1_7 C hO hs hP hS hf_38.1 hf_38.2.1 wf_X11_187 hI dX11_repeatAside_113 (fun vi_40 H locs hI hP hS => ?_)
              exact zaV hQ hx hb hr hlk hP hS ⟨hI, rfl⟩ dX11_repeatAside_116
        · skip
          refine lv_aload_n hx hb dX11_repeatAside_67 rfl (lv_at hl 0 rfl) ?_
          refine zg_10_5 C hs hP ha0 hk0 wf_X11_34 dX11_repeatAside_68 ?_
          refine zg_8_13 C hs hP hf_22.1 hf_22.2.1 wf_X11_135 dX11_repeatAside_71 ?_
          have hf_41 := hO.r (j := 13) hf_22.1 hf_22.2.1 (rfl : zX 8 13 = some (1, 0))
          refine lv_iload_n hx hb dX11_repeatAside_74 rfl (lv_at hl 3 rfl) ?_
          refine lv_iload hx hb dX11_repeatAside_75 (lv_at hl 4 rfl) ?_
          refine lv_iload_n hx hb dX11_repeatAside_77 rfl (lv_at hl 2 rfl) ?_
          refine zcV (zrV (As := [.int x3, .int x4, .int x2]) (b := zr K (zr K a0 5) 13) (rest := []) C hs hP hS (c_X1_setBid l D K hO vi_33 va_33 vg hI (zr K (zr K a0 5) 13) hf_41.1 hf_41.2.1 x3 x4 x2) m_X1_setBid wm_X11_180 (zrecv hs hP hf_41.1 (zF_1 hf_41.2.1) rfl) ⟨by decide, by decide⟩ hl.1 (Nat.le_of_ble_eq_true rfl) dX11_repeatAside_78) hS (fun V_42 H locs p_42 hP hS => ?_)
          obtain ⟨vi_42, va_42, vg_42⟩ := V_42
          obtain ⟨hI, hg_42⟩ := p_42
          try dsimp only at hI hg_42
          replace hg_42 := hg_42.symm
          subst hg_42
          refine lv_goto (tgt := 116) hx hb dX11_repeatAside_81 (by decide) ?_
          exact zaV hQ hx hb hr hlk hP hS ⟨hI, rfl⟩ dX11_repeatAside_116
    · skip
      refine lv_aload_n hx hb dX11_repeatAside_15 rfl (lv_at hl 0 rfl) ?_
      refine zg_10_5 C hs hP ha0 hk0 wf_X11_34 dX11_repeatAside_16 ?_
      refine lv_aload_n hx hb dX11_repeatAside_19 rfl (lv_at hl 0 rfl) ?_
      refine zg_10_7 C hs hP ha0 hk0 wf_X11_47 dX11_repeatAside_20 ?_
      have hf_43 := hO.r (j := 7) ha0 hk0 (rfl : zX 10 7 = some (5, 0))
      refine lv_iload_n hx hb dX11_repeatAside_23 rfl (lv_at hl 2 rfl) ?_
      refine lv_iload_n hx hb dX11_repeatAside_24 rfl (lv_at hl 3 rfl) ?_
      refine zcI (zrV (As := [.ref (zr K a0 7), .int x2, .int x3]) (b := zr K a0 5) (rest := []) C hs hP hS (c_X9_refusalToGive l D K hO vi va vg hI (zr K a0 5) hf_22.1 hf_22.2.1 (zr K a0 7) hf_43.1 hf_43.2.1 x2 x3) m_X9_refusalToGive wm_X11_156 (zrecv hs hP hf_22.1 (zF_8 hf_22.2.1) rfl) ⟨by decide, by decide⟩ hl.1 (Nat.le_of_ble_eq_true rfl) dX11_repeatAside_25) hS (fun x_44 V_44 H locs p_44 hP hS => ?_)
      obtain ⟨vi_44, va_44, vg_44⟩ := V_44
      obtain ⟨hI, hg_44⟩ := p_44
      try dsimp only at hI hg_44
      replace hg_44 := hg_44.symm
      subst hg_44
      refine bz_ne (tgt := 44) hx hb rfl dX11_repeatAside_28 (by decide) (fun c_45 => ?_) (fun c_45 => ?_)
      · skip
        refine lv_iload_n hx hb dX11_repeatAside_44 rfl (lv_at hl 1 rfl) ?_
        refine lv_iconst (v := 1) hx hb dX11_repeatAside_45 (by decide) ?_
        refine bi_ne (tgt := 84) hx hb rfl ti_1 dX11_repeatAside_46 (by decide) (fun c_46 => ?_) (fun c_46 => ?_)
        · skip
          refine lv_iload_n hx hb dX11_repeatAside_84 rfl (lv_at hl 1 rfl) ?_
          refine lv_iconst (v := 2) hx hb dX11_repeatAside_85 (by decide) ?_
          refine bi_ne (tgt := 116) hx hb rfl ti_2 dX11_repeatAside_86 (by decide) (fun c_47 => ?_) (fun c_47 => ?_)
          · skip
            exact zaV hQ hx hb hr hlk hP hS ⟨hI, rfl⟩ dX11_repeatAside_116
          · skip
            refine lv_aload_n hx hb dX11_repeatAside_89 rfl (lv_at hl 0 rfl) ?_
            refine zg_10_5 C hs hP ha0 hk0 wf_X11_34 dX11_repeatAside_90 ?_
            refine lv_iload_n hx hb dX11_repeatAside_93 rfl (lv_at hl 2 rfl) ?_
            refine zcS (zrV (As := [.int x2]) (b := zr K a0 5) (rest := []) C hs hP hS (c_X9_canDouble l D K hO vi_44 va_44 vg hI (zr K a0 5) hf_22.1 hf_22.2.1 x2) m_X9_canDouble wm_X11_184 (zrecv hs hP hf_22.1 (zF_8 hf_22.2.1) rfl) ⟨by decide, by decide⟩ hl.1 (Nat.le_of_ble_eq_true rfl) dX11_repeatAside_94) (fun x_48 p_48 => ?_)
            refine bz_eq (tgt := 116) hx hb rfl dX11_repeatAside_97 (by decide) (fun c_49 => ?_) (fun c_49 => ?_)
            · skip
              exact zaV hQ hx hb hr hlk hP hS ⟨hI, rfl⟩ dX11_repeatAside_116
            · skip
              refine lv_aload_n hx hb dX11_repeatAside_100 rfl (lv_at hl 0 rfl) ?_
              refine zg_10_5 C hs hP ha0 hk0 wf_X11_34 dX11_repeatAside_101 ?_
              refine zg_8_13 C hs hP hf_22.1 hf_22.2.1 wf_X11_135 dX11_repeatAside_104 ?_
              have hf_50 := hO.r (j := 13) hf_22.1 hf_22.2.1 (rfl : zX 8 13 = some (1, 0))
              refine lv_dup hx hb dX11_repeatAside_107 rfl ?_
              refine zg_1_7 C hs hP hf_50.1 hf_50.2.1 wf_X11_187 dX11_repeatAside_108 ?_
              refine lv_iconst (v := 1) hx hb dX11_repeatAside_111 (by decide) ?_
              refine lv_iadd hx hb dX11_repeatAside_112 ?_
              refine lv_topi (fun x_51 ex_51 => ?_)
              refine kp_1_7 C hO hs hP hS hf_50.1 hf_50.2.1 wf_X11_187 hI dX11_repeatAside_113 (fun vi_52 H locs hI hP hS => ?_)
              exact zaV hQ hx hb hr hlk hP hS ⟨hI, rfl⟩ dX11_repeatAside_116
        · skip
          refine lv_aload_n hx hb dX11_repeatAside_49 rfl (lv_at hl 0 rfl) ?_
          refine zg_10_5 C hs hP ha0 hk0 wf_X11_34 dX11_repeatAside_50 ?_
          refine lv_aload_n hx hb dX11_repeatAside_53 rfl (lv_at hl 0 rfl) ?_
          refine zg_10_7 C hs hP ha0 hk0 wf_X11_47 dX11_repeatAside_54 ?_
          refine lv_iload_n hx hb dX11_repeatAside_57 rfl (lv_at hl 2 rfl) ?_
          refine lv_iload_n hx hb dX11_repeatAside_58 rfl (lv_at hl 3 rfl) ?_
          refine lv_iload hx hb dX11_repeatAside_59 (lv_at hl 4 rfl) ?_
          refine zcI (zrV (As := [.ref (zr K a0 7), .int x2, .int x3, .int x4]) (b := zr K a0 5) (rest := []) C hs hP hS (c_X9_refusalToBid l D K hO vi_44 va_44 vg hI (zr K a0 5) hf_22.1 hf_22.2.1 (zr K a0 7) hf_43.1 hf_43.2.1 x2 x3 x4) m_X9_refusalToBid wm_X11_176 (zrecv hs hP hf_22.1 (zF_8 hf_22.2.1) rfl) ⟨by decide, by decide⟩ hl.1 (Nat.le_of_ble_eq_true rfl) dX11_repeatAside_61) hS (fun x_53 V_53 H locs p_53 hP hS => ?_)
          obtain ⟨vi_53, va_53, vg_53⟩ := V_53
          obtain ⟨hI, hg_53⟩ := p_53
          try dsimp only at hI hg_53
          replace hg_53 := hg_53.symm
          subst hg_53
          refine bz_ne (tgt := 84) hx hb rfl dX11_repeatAside_64 (by decide) (fun c_54 => ?_) (fun c_54 => ?_)
          · skip
            refine lv_iload_n hx hb dX11_repeatAside_84 rfl (lv_at hl 1 rfl) ?_
            refine lv_iconst (v := 2) hx hb dX11_repeatAside_85 (by decide) ?_
            refine bi_ne (tgt := 116) hx hb rfl ti_2 dX11_repeatAside_86 (by decide) (fun c_55 => ?_) (fun c_55 => ?_)
            · skip
              exact zaV hQ hx hb hr hlk hP hS ⟨hI, rfl⟩ dX11_repeatAside_116
            · skip
              refine lv_aload_n hx hb dX11_repeatAside_89 rfl (lv_at hl 0 rfl) ?_
              refine zg_10_5 C hs hP ha0 hk0 wf_X11_34 dX11_repeatAside_90 ?_
              refine lv_iload_n hx hb dX11_repeatAside_93 rfl (lv_at hl 2 rfl) ?_
              refine zcS (zrV (As := [.int x2]) (b := zr K a0 5) (rest := []) C hs hP hS (c_X9_canDouble l D K hO vi_53 va_53 vg hI (zr K a0 5) hf_22.1 hf_22.2.1 x2) m_X9_canDouble wm_X11_184 (zrecv hs hP hf_22.1 (zF_8 hf_22.2.1) rfl) ⟨by decide, by decide⟩ hl.1 (Nat.le_of_ble_eq_true rfl) dX11_repeatAside_94) (fun x_56 p_56 => ?_)
              refine bz_eq (tgt := 116) hx hb rfl dX11_repeatAside_97 (by decide) (fun c_57 => ?_) (fun c_57 => ?_)
              · skip
                exact zaV hQ hx hb hr hlk hP hS ⟨hI, rfl⟩ dX11_repeatAside_116
              · skip
                refine lv_aload_n hx hb dX11_repeatAside_100 rfl (lv_at hl 0 rfl) ?_
                refine zg_10_5 C hs hP ha0 hk0 wf_X11_34 dX11_repeatAside_101 ?_
                refine zg_8_13 C hs hP hf_22.1 hf_22.2.1 wf_X11_135 dX11_repeatAside_104 ?_
                have hf_58 := hO.r (j := 13) hf_22.1 hf_22.2.1 (rfl : zX 8 13 = some (1, 0))
                refine lv_dup hx hb dX11_repeatAside_107 rfl ?_
                refine zg_1_7 C hs hP hf_58.1 hf_58.2.1 wf_X11_187 dX11_repeatAside_108 ?_
                refine lv_iconst (v := 1) hx hb dX11_repeatAside_111 (by decide) ?_
                refine lv_iadd hx hb dX11_repeatAside_112 ?_
                refine lv_topi (fun x_59 ex_59 => ?_)
                refine kp_1_7 C hO hs hP hS hf_58.1 hf_58.2.1 wf_X11_187 hI dX11_repeatAside_113 (fun vi_60 H locs hI hP hS => ?_)
                exact zaV hQ hx hb hr hlk hP hS ⟨hI, rfl⟩ dX11_repeatAside_116
          · skip
            refine lv_aload_n hx hb dX11_repeatAside_67 rfl (lv_at hl 0 rfl) ?_
            refine zg_10_5 C hs hP ha0 hk0 wf_X11_34 dX11_repeatAside_68 ?_
            refine zg_8_13 C hs hP hf_22.1 hf_22.2.1 wf_X11_135 dX11_repeatAside_71 ?_
            have hf_61 := hO.r (j := 13) hf_22.1 hf_22.2.1 (rfl : zX 8 13 = some (1, 0))
            refine lv_iload_n hx hb dX11_repeatAside_74 rfl (lv_at hl 3 rfl) ?_
            refine lv_iload hx hb dX11_repeatAside_75 (lv_at hl 4 rfl) ?_
            refine lv_iload_n hx hb dX11_repeatAside_77 rfl (lv_at hl 2 rfl) ?_
            refine zcV (zrV (As := [.int x3, .int x4, .int x2]) (b := zr K (zr K a0 5) 13) (rest := []) C hs hP hS (c_X1_setBid l D K hO vi_53 va_53 vg hI (zr K (zr K a0 5) 13) hf_61.1 hf_61.2.1 x3 x4 x2) m_X1_setBid wm_X11_180 (zrecv hs hP hf_61.1 (zF_1 hf_61.2.1) rfl) ⟨by decide, by decide⟩ hl.1 (Nat.le_of_ble_eq_true rfl) dX11_repeatAside_78) hS (fun V_62 H locs p_62 hP hS => ?_)
            obtain ⟨vi_62, va_62, vg_62⟩ := V_62
            obtain ⟨hI, hg_62⟩ := p_62
            try dsimp only at hI hg_62
            replace hg_62 := hg_62.symm
            subst hg_62
            refine lv_goto (tgt := 116) hx hb dX11_repeatAside_81 (by decide) ?_
            exact zaV hQ hx hb hr hlk hP hS ⟨hI, rfl⟩ dX11_repeatAside_116
      · skip
        refine lv_aload_n hx hb dX11_repeatAside_31 rfl (lv_at hl 0 rfl) ?_
        refine zg_10_5 C hs hP ha0 hk0 wf_X11_34 dX11_repeatAside_32 ?_
        refine lv_iload_n hx hb dX11_repeatAside_35 rfl (lv_at hl 2 rfl) ?_
        refine lv_iload_n hx hb dX11_repeatAside_36 rfl (lv_at hl 3 rfl) ?_
        refine zcI (zrV (As := [.int x2, .int x3]) (b := zr K a0 5) (rest := []) C hs hP hS (c_X9_giveCard l D K hO vi_44 va_44 vg hI (zr K a0 5) hf_22.1 hf_22.2.1 x2 x3) m_X9_giveCard wm_X11_173 (zrecv hs hP hf_22.1 (zF_8 hf_22.2.1) rfl) ⟨by decide, by decide⟩ hl.1 (Nat.le_of_ble_eq_true rfl) dX11_repeatAside_37) hS (fun x_63 V_63 H locs p_63 hP hS => ?_)
        obtain ⟨vi_63, va_63, vg_63⟩ := V_63
        obtain ⟨hI, hg_63⟩ := p_63
        try dsimp only at hI hg_63
        replace hg_63 := hg_63.symm
        subst hg_63
        refine lv_pop hx hb dX11_repeatAside_40 rfl ?_
        refine lv_goto (tgt := 116) hx hb dX11_repeatAside_41 (by decide) ?_
        exact zaV hQ hx hb hr hlk hP hS ⟨hI, rfl⟩ dX11_repeatAside_116
