set_option maxHeartbeats 4000000 in
set_option maxRecDepth 100000 in
theorem c_X9_handOf (l : Launch) (D : va_G) (K : zK) (hO : zOk K) (vi va : Nat → Nat → Int32) (vg : Nat → Nat → Option Nat) (hI : zI K (vi, va, vg)) (a0 : Nat) (ha0 : a0 ∈ zl K) (hk0 : zk K a0 = 8) (x1 : Int32) : Met l yX9_handOf (zc yX9_handOf cX9_handOf 2 (some (.object "CardTables$Row"))) (rmd 0) (va_Pc [.ref a0, .int x1] (zB D K (vi, va, vg))) (va_Sq (fun r => ∃ q, r = some q ∧ q ∈ zl K ∧ zk K q = 7)) 0 0 (fun _ => False) := by
  refine zin (by decide) (Nat.le_of_ble_eq_true rfl) ?_
  intro p e s m args below meth c ls Q hQ C hr hlk hP hs hl
  have C : CallFix p m c cX9_handOf 2 s args zw RX9 := C
  obtain ⟨hx, hb, hml, hown, hts⟩ := id C
  have hS : va_S (zA K) s.heap s.heap [] := va_S.rf
  have hl : lv_has ls 2 [(0, .ref a0), (1, .int x1)] := hl
  refine lv_aload_n hx hb dX9_handOf_0 rfl (lv_at hl 0 rfl) ?_
  refine zg_8_12 C hs hP ha0 hk0 wf_X9_40 dX9_handOf_1 ?_
  have hf_1 := hO.r (j := 12) ha0 hk0 (rfl : zX 8 12 = some (23, 4))
  refine lv_iload_n hx hb dX9_handOf_4 rfl (lv_at hl 1 rfl) ?_
  refine lv_iconst (v := 3) hx hb dX9_handOf_5 (by decide) ?_
  refine lv_iand hx hb dX9_handOf_6 ?_
  refine lv_topi (fun x_2 ex_2 => ?_)
  have f_2 := z_and ex_2 ti_3 (by decide)
  have hin_3 : vp_in x_2 (zn K (zr K a0 12)) := vp_in_iff.mpr (by rw [(hf_1.2.2 (by decide))]; refine ⟨?_, ?_⟩ <;> omega)
  refine zld_23 C hs hP hf_1.1 hf_1.2.1 hin_3 dX9_handOf_7 ?_
  have hf_4 := zel_23 hO hf_1.1 hf_1.2.1 hin_3
  exact zaSr hQ hx hb hr hlk ⟨_, rfl, hf_4.1, hf_4.2⟩ dX9_handOf_8
set_option maxHeartbeats 4000000 in
set_option maxRecDepth 100000 in
theorem c_X9_isOn (l : Launch) (D : va_G) (K : zK) (hO : zOk K) (vi va : Nat → Nat → Int32) (vg : Nat → Nat → Option Nat) (hI : zI K (vi, va, vg)) (a0 : Nat) (ha0 : a0 ∈ zl K) (hk0 : zk K a0 = 8) : Met l yX9_isOn (zc yX9_isOn cX9_isOn 1 (some .boolean)) (rmd 0) (va_Pc [.ref a0] (zB D K (vi, va, vg))) (vp_Si (fun r => (r = 0 ∨ r = 1))) 0 0 (fun _ => False) := by
  refine zin (by decide) (Nat.le_of_ble_eq_true rfl) ?_
  intro p e s m args below meth c ls Q hQ C hr hlk hP hs hl
  have C : CallFix p m c cX9_isOn 1 s args zw RX9 := C
  obtain ⟨hx, hb, hml, hown, hts⟩ := id C
  have hS : va_S (zA K) s.heap s.heap [] := va_S.rf
  have hl : lv_has ls 1 [(0, .ref a0)] := hl
  refine lv_aload_n hx hb dX9_isOn_0 rfl (lv_at hl 0 rfl) ?_
  refine zg_8_13 C hs hP ha0 hk0 wf_X9_47 dX9_isOn_1 ?_
  have hf_1 := hO.r (j := 13) ha0 hk0 (rfl : zX 8 13 = some (1, 0))
  refine zg_1_0 C hs hP hf_1.1 hf_1.2.1 wf_X9_97 dX9_isOn_4 ?_
  refine lv_iconst (v := 1) hx hb dX9_isOn_7 (by decide) ?_
  refine bi_ne (tgt := 15) hx hb rfl ti_1 dX9_isOn_8 (by decide) (fun c_2 => ?_) (fun c_2 => ?_)
  · skip
    refine lv_iconst (v := 0) hx hb dX9_isOn_15 (by decide) ?_
    exact zaSz hQ hx hb hr hlk (Or.inl rfl) (Or.inl rfl) dX9_isOn_16
  · skip
    refine lv_iconst (v := 1) hx hb dX9_isOn_11 (by decide) ?_
    refine lv_goto (tgt := 16) hx hb dX9_isOn_12 (by decide) ?_
    exact zaSz hQ hx hb hr hlk (Or.inr rfl) (Or.inr rfl) dX9_isOn_16
set_option maxHeartbeats 4000000 in
set_option maxRecDepth 100000 in
theorem c_X9_hasCard (l : Launch) (D : va_G) (K : zK) (hO : zOk K) (vi va : Nat → Nat → Int32) (vg : Nat → Nat → Option Nat) (hI : zI K (vi, va, vg)) (a0 : Nat) (ha0 : a0 ∈ zl K) (hk0 : zk K a0 = 8) (x1 : Int32) : Met l yX9_hasCard (zc yX9_hasCard cX9_hasCard 2 (some .boolean)) (rmd 0) (va_Pc [.ref a0, .int x1] (zB D K (vi, va, vg))) (vp_Si (fun r => (r = 0 ∨ r = 1) ∧ (r.toInt ≠ 0 → 0 ≤ x1.toInt ∧ x1.toInt ≤ 59))) 0 0 (fun _ => False) := by
  refine zin (by decide) (Nat.le_of_ble_eq_true rfl) ?_
  intro p e s m args below meth c ls Q hQ C hr hlk hP hs hl
  have C : CallFix p m c cX9_hasCard 2 s args zw RX9 := C
  obtain ⟨hx, hb, hml, hown, hts⟩ := id C
  have hS : va_S (zA K) s.heap s.heap [] := va_S.rf
  have hl : lv_has ls 2 [(0, .ref a0), (1, .int x1)] := hl
  refine lv_iload_n hx hb dX9_hasCard_0 rfl (lv_at hl 1 rfl) ?_
  refine bz_lt (tgt := 22) hx hb rfl dX9_hasCard_1 (by decide) (fun c_1 => ?_) (fun c_1 => ?_)
  · skip
    refine lv_iconst (v := 0) hx hb dX9_hasCard_22 (by decide) ?_
    exact zaSz hQ hx hb hr hlk (Or.inl rfl) ⟨(Or.inl rfl), (by (try simp only [ti_0]); first | omega | (intro h9; omega) | (simp; done) | (refine ⟨?_, ?_⟩ <;> intro h9 <;> omega))⟩ dX9_hasCard_23
  · skip
    refine lv_iload_n hx hb dX9_hasCard_4 rfl (lv_at hl 1 rfl) ?_
    refine lv_aload_n hx hb dX9_hasCard_5 rfl (lv_at hl 0 rfl) ?_
    refine zg_8_2 C hs hP ha0 hk0 wf_X9_61 dX9_hasCard_6 ?_
    refine bi_ge (tgt := 22) hx hb rfl rfl dX9_hasCard_9 (by decide) (fun c_2 => ?_) (fun c_2 => ?_)
    · skip
      refine lv_iconst (v := 0) hx hb dX9_hasCard_22 (by decide) ?_
      exact zaSz hQ hx hb hr hlk (Or.inl rfl) ⟨(Or.inl rfl), (by (try simp only [ti_0]); first | omega | (intro h9; omega) | (simp; done) | (refine ⟨?_, ?_⟩ <;> intro h9 <;> omega))⟩ dX9_hasCard_23
    · skip
      refine lv_iload_n hx hb dX9_hasCard_12 rfl (lv_at hl 1 rfl) ?_
      refine lv_bipush (v := 60) hx hb dX9_hasCard_13 (by decide) ?_
      refine bi_ge (tgt := 22) hx hb rfl ti_60 dX9_hasCard_15 (by decide) (fun c_3 => ?_) (fun c_3 => ?_)
      · skip
        refine lv_iconst (v := 0) hx hb dX9_hasCard_22 (by decide) ?_
        exact zaSz hQ hx hb hr hlk (Or.inl rfl) ⟨(Or.inl rfl), (by (try simp only [ti_0]); first | omega | (intro h9; omega) | (simp; done) | (refine ⟨?_, ?_⟩ <;> intro h9 <;> omega))⟩ dX9_hasCard_23
      · skip
        refine lv_iconst (v := 1) hx hb dX9_hasCard_18 (by decide) ?_
        refine lv_goto (tgt := 23) hx hb dX9_hasCard_19 (by decide) ?_
        exact zaSz hQ hx hb hr hlk (Or.inr rfl) ⟨(Or.inr rfl), (by (try simp only [ti_1]); first | omega | (intro h9; omega) | (simp; done) | (refine ⟨?_, ?_⟩ <;> intro h9 <;> omega))⟩ dX9_hasCard_23
set_option maxHeartbeats 4000000 in
set_option maxRecDepth 100000 in
theorem c_X9_isTaken (l : Launch) (D : va_G) (K : zK) (hO : zOk K) (vi va : Nat → Nat → Int32) (vg : Nat → Nat → Option Nat) (hI : zI K (vi, va, vg)) (a0 : Nat) (ha0 : a0 ∈ zl K) (hk0 : zk K a0 = 8) (x1 : Int32) : Met l yX9_isTaken (zc yX9_isTaken cX9_isTaken 2 (some .boolean)) (rmd 1) (va_Pc [.ref a0, .int x1] (zB D K (vi, va, vg))) (vp_Si (fun r => (r = 0 ∨ r = 1))) 0 0 (fun _ => False) := by
  refine zin (by decide) (Nat.le_of_ble_eq_true rfl) ?_
  intro p e s m args below meth c ls Q hQ C hr hlk hP hs hl
  have C : CallFix p m c cX9_isTaken 2 s args zw RX9 := C
  obtain ⟨hx, hb, hml, hown, hts⟩ := id C
  have hS : va_S (zA K) s.heap s.heap [] := va_S.rf
  have hl : lv_has ls 2 [(0, .ref a0), (1, .int x1)] := hl
  refine lv_iload_n hx hb dX9_isTaken_0 rfl (lv_at hl 1 rfl) ?_
  refine zcS (zrSN (As := [.int x1]) (rest := []) C hs hP hS (c_X11_isSeat l D K hO vi va vg hI x1) m_X11_isSeat (List.mem_of_getElem? (l := nw_M) (i := 4) rfl) ⟨by decide, by decide⟩ hl.1 (Nat.le_of_ble_eq_true rfl) dX9_isTaken_1) (fun x_1 p_1 => ?_)
  have pp_1 : (x_1.toInt ≠ 0 → 0 ≤ x1.toInt ∧ x1.toInt ≤ 3) := p_1.2
  refine bz_eq (tgt := 20) hx hb rfl dX9_isTaken_4 (by decide) (fun c_2 => ?_) (fun c_2 => ?_)
  · skip
    refine lv_iconst (v := 0) hx hb dX9_isTaken_20 (by decide) ?_
    exact zaSz hQ hx hb hr hlk (Or.inl rfl) (Or.inl rfl) dX9_isTaken_21
  · skip
    refine lv_aload_n hx hb dX9_isTaken_7 rfl (lv_at hl 0 rfl) ?_
    refine zg_8_7 C hs hP ha0 hk0 wf_X9_18 dX9_isTaken_8 ?_
    have hf_3 := hO.r (j := 7) ha0 hk0 (rfl : zX 8 7 = some (21, 4))
    refine lv_iload_n hx hb dX9_isTaken_11 rfl (lv_at hl 1 rfl) ?_
    have g_5 := z_rng x1
    have hin_4 : vp_in x1 (zn K (zr K a0 7)) := vp_in_iff.mpr (by rw [(hf_3.2.2 (by decide))]; refine ⟨?_, ?_⟩ <;> omega)
    refine zld_21 C hs hP hf_3.1 hf_3.2.1 hin_4 dX9_isTaken_12 ?_
    refine bz_eq (tgt := 20) hx hb rfl dX9_isTaken_13 (by decide) (fun c_6 => ?_) (fun c_6 => ?_)
    · skip
      refine lv_iconst (v := 0) hx hb dX9_isTaken_20 (by decide) ?_
      exact zaSz hQ hx hb hr hlk (Or.inl rfl) (Or.inl rfl) dX9_isTaken_21
    · skip
      refine lv_iconst (v := 1) hx hb dX9_isTaken_16 (by decide) ?_
      refine lv_goto (tgt := 21) hx hb dX9_isTaken_17 (by decide) ?_
      exact zaSz hQ hx hb hr hlk (Or.inr rfl) (Or.inr rfl) dX9_isTaken_21
set_option maxHeartbeats 4000000 in
set_option maxRecDepth 100000 in
theorem c_X9_colourOf (l : Launch) (D : va_G) (K : zK) (hO : zOk K) (vi va : Nat → Nat → Int32) (vg : Nat → Nat → Option Nat) (hI : zI K (vi, va, vg)) (a0 : Nat) (ha0 : a0 ∈ zl K) (hk0 : zk K a0 = 8) (x1 : Int32) : Met l yX9_colourOf (zc yX9_colourOf cX9_colourOf 2 (some .int)) (rmd 0) (va_Pc [.ref a0, .int x1] (zB D K (vi, va, vg))) (vp_Si (fun r => True)) 0 0 (fun _ => False) := by
  refine zin (by decide) (Nat.le_of_ble_eq_true rfl) ?_
  intro p e s m args below meth c ls Q hQ C hr hlk hP hs hl
  have C : CallFix p m c cX9_colourOf 2 s args zw RX9 := C
  obtain ⟨hx, hb, hml, hown, hts⟩ := id C
  have hS : va_S (zA K) s.heap s.heap [] := va_S.rf
  have hl : lv_has ls 2 [(0, .ref a0), (1, .int x1)] := hl
  refine lv_iload_n hx hb dX9_colourOf_0 rfl (lv_at hl 1 rfl) ?_
  refine bz_lt (tgt := 19) hx hb rfl dX9_colourOf_1 (by decide) (fun c_1 => ?_) (fun c_1 => ?_)
  · skip
    refine lv_iconst (v := (-1)) hx hb dX9_colourOf_19 (by decide) ?_
    exact zaS hQ hx hb hr hlk trivial dX9_colourOf_20
  · skip
    refine lv_iload_n hx hb dX9_colourOf_4 rfl (lv_at hl 1 rfl) ?_
    refine lv_bipush (v := 60) hx hb dX9_colourOf_5 (by decide) ?_
    refine bi_ge (tgt := 19) hx hb rfl ti_60 dX9_colourOf_7 (by decide) (fun c_2 => ?_) (fun c_2 => ?_)
    · skip
      refine lv_iconst (v := (-1)) hx hb dX9_colourOf_19 (by decide) ?_
      exact zaS hQ hx hb hr hlk trivial dX9_colourOf_20
    · skip
      refine lv_aload_n hx hb dX9_colourOf_10 rfl (lv_at hl 0 rfl) ?_
      refine zg_8_5 C hs hP ha0 hk0 wf_X9_9 dX9_colourOf_11 ?_
      have hf_3 := hO.r (j := 5) ha0 hk0 (rfl : zX 8 5 = some (20, 60))
      refine lv_iload_n hx hb dX9_colourOf_14 rfl (lv_at hl 1 rfl) ?_
      have g_5 := z_rng x1
      have hin_4 : vp_in x1 (zn K (zr K a0 5)) := vp_in_iff.mpr (by rw [(hf_3.2.2 (by decide))]; refine ⟨?_, ?_⟩ <;> omega)
      refine zld_20 C hs hP hf_3.1 hf_3.2.1 hin_4 dX9_colourOf_15 ?_
      refine lv_goto (tgt := 20) hx hb dX9_colourOf_16 (by decide) ?_
      exact zaS hQ hx hb hr hlk trivial dX9_colourOf_20
set_option maxHeartbeats 4000000 in
set_option maxRecDepth 100000 in
theorem c_X9_firstOf (l : Launch) (D : va_G) (K : zK) (hO : zOk K) (vi va : Nat → Nat → Int32) (vg : Nat → Nat → Option Nat) (hI : zI K (vi, va, vg)) (a0 : Nat) (ha0 : a0 ∈ zl K) (hk0 : zk K a0 = 8) (a1 : Nat) (ha1 : a1 ∈ zl K) (hk1 : zk K a1 = 7) (x2 : Int32) : Met l yX9_firstOf (zc yX9_firstOf cX9_firstOf 5 (some .int)) (rmd 0) (va_Pc [.ref a0, .ref a1, .int x2] (zB D K (vi, va, vg))) (vp_Si (fun r => True)) 0 0 (fun _ => False) := by
  refine zin (by decide) (Nat.le_of_ble_eq_true rfl) ?_
  intro p e s m args below meth c ls Q hQ C hr hlk hP hs hl
  have C : CallFix p m c cX9_firstOf 5 s args zw RX9 := C
  obtain ⟨hx, hb, hml, hown, hts⟩ := id C
  have hS : va_S (zA K) s.heap s.heap [] := va_S.rf
  have hl : lv_has ls 5 [(0, .ref a0), (1, .ref a1), (2, .int x2)] := hl
  refine lv_iconst (v := 0) hx hb dX9_firstOf_0 (by decide) ?_
  refine lv_istore_n (lv' := [(3, .int 0), (0, .ref a0), (1, .ref a1), (2, .int x2)]) hx hb dX9_firstOf_1 rfl hl (by decide) rfl (fun ls hl => ?_)
  have L_2_2 : ∀ (n_2 : Nat) (y_1 : Int32) (ls : Array Slot), (2147483648 - y_1.toInt).toNat < n_2 → 0 ≤ y_1.toInt → lv_has ls 5 [(3, .int y_1), (0, .ref a0), (1, .ref a1), (2, .int x2)] → W p l e (rmd 0) s m args below meth c s.heap [] 0 0 Q (F0 m 2 ls []) := by
    intro n_2
    induction n_2 with
    | zero => intro y_1 ls hm_2; exact absurd hm_2 (Nat.not_lt_zero _)
    | succ n_2 ih_2 =>
      intro y_1 ls hm_2 iv_3_0 hl
      refine lv_iload_n hx hb dX9_firstOf_2 rfl (lv_at hl 0 rfl) ?_
      refine lv_aload_n hx hb dX9_firstOf_3 rfl (lv_at hl 2 rfl) ?_
      refine zg_7_1 C hs hP ha1 hk1 wf_X9_110 dX9_firstOf_4 ?_
      refine bi_ge (tgt := 58) hx hb rfl rfl dX9_firstOf_7 (by decide) (fun c_4 => ?_) (fun c_4 => ?_)
      · skip
        refine lv_iconst (v := (-1)) hx hb dX9_firstOf_58 (by decide) ?_
        exact zaS hQ hx hb hr hlk trivial dX9_firstOf_59
      · skip
        refine lv_iload_n hx hb dX9_firstOf_10 rfl (lv_at hl 0 rfl) ?_
        refine lv_aload_n hx hb dX9_firstOf_11 rfl (lv_at hl 2 rfl) ?_
        refine zg_7_0 C hs hP ha1 hk1 wf_X9_113 dX9_firstOf_12 ?_
        have hf_5 := hO.r (j := 0) ha1 hk1 (rfl : zX 7 0 = some (20, 0))
        refine zlen C hs hP hf_5.1 hO hf_5.2.1 (zF_20 hf_5.2.1) rfl rfl dX9_firstOf_15 (fun x_6 ex_6 => ?_)
        have g_7 := z_rng x_6
        refine bi_ge (tgt := 58) hx hb rfl rfl dX9_firstOf_16 (by decide) (fun c_8 => ?_) (fun c_8 => ?_)
        · skip
          refine lv_iconst (v := (-1)) hx hb dX9_firstOf_58 (by decide) ?_
          exact zaS hQ hx hb hr hlk trivial dX9_firstOf_59
        · skip
          refine lv_aload_n hx hb dX9_firstOf_19 rfl (lv_at hl 2 rfl) ?_
          refine zg_7_0 C hs hP ha1 hk1 wf_X9_113 dX9_firstOf_20 ?_
          refine lv_iload_n hx hb dX9_firstOf_23 rfl (lv_at hl 0 rfl) ?_
          have g_10 := z_rng y_1
          have hin_9 : vp_in y_1 (zn K (zr K a1 0)) := vp_in_iff.mpr (by refine ⟨?_, ?_⟩ <;> omega)
          refine zld_20 C hs hP hf_5.1 hf_5.2.1 hin_9 dX9_firstOf_24 ?_
          refine lv_istore (lv' := [(4, .int (va (zr K a1 0) y_1.toNatClampNeg)), (3, .int y_1), (0, .ref a0), (1, .ref a1), (2, .int x2)]) hx hb dX9_firstOf_25 hl (by decide) rfl (fun ls hl => ?_)
          refine lv_iload hx hb dX9_firstOf_27 (lv_at hl 0 rfl) ?_
          refine bz_lt (tgt := 52) hx hb rfl dX9_firstOf_29 (by decide) (fun c_11 => ?_) (fun c_11 => ?_)
          · skip
            obtain ⟨x_12, ex_12⟩ : ∃ y : Int32, y = y_1 + 1 := ⟨_, rfl⟩
            refine lv_iinc (v := x_12) (lv' := [(3, .int x_12), (4, .int (va (zr K a1 0) y_1.toNatClampNeg)), (0, .ref a0), (1, .ref a1), (2, .int x2)]) hx hb dX9_firstOf_52 hl (k := 1) rfl (by rw [ex_12]; rfl) (by decide) rfl (fun ls hl => ?_)
            refine lv_goto (tgt := 2) hx hb dX9_firstOf_55 (by decide) ?_
            obtain ⟨f_12, l_12, u_12⟩ := z_add ex_12 rfl ti_1
            have g_13 := z_rng (vi a1 1)
            have g_14 := z_rng (va (zr K a1 0) y_1.toNatClampNeg)
            exact ih_2 x_12 _ (by omega) (by omega) (lv_sub hl [0, 2, 3, 4] rfl)
          · skip
            refine lv_iload hx hb dX9_firstOf_32 (lv_at hl 0 rfl) ?_
            refine lv_bipush (v := 60) hx hb dX9_firstOf_34 (by decide) ?_
            refine bi_ge (tgt := 52) hx hb rfl ti_60 dX9_firstOf_36 (by decide) (fun c_15 => ?_) (fun c_15 => ?_)
            · skip
              obtain ⟨x_16, ex_16⟩ : ∃ y : Int32, y = y_1 + 1 := ⟨_, rfl⟩
              refine lv_iinc (v := x_16) (lv' := [(3, .int x_16), (4, .int (va (zr K a1 0) y_1.toNatClampNeg)), (0, .ref a0), (1, .ref a1), (2, .int x2)]) hx hb dX9_firstOf_52 hl (k := 1) rfl (by rw [ex_16]; rfl) (by decide) rfl (fun ls hl => ?_)
              refine lv_goto (tgt := 2) hx hb dX9_firstOf_55 (by decide) ?_
              obtain ⟨f_16, l_16, u_16⟩ := z_add ex_16 rfl ti_1
              have g_17 := z_rng (vi a1 1)
              have g_18 := z_rng (va (zr K a1 0) y_1.toNatClampNeg)
              exact ih_2 x_16 _ (by omega) (by omega) (lv_sub hl [0, 2, 3, 4] rfl)
            · skip
              refine lv_aload_n hx hb dX9_firstOf_39 rfl (lv_at hl 2 rfl) ?_
              refine zg_8_5 C hs hP ha0 hk0 wf_X9_9 dX9_firstOf_40 ?_
              have hf_19 := hO.r (j := 5) ha0 hk0 (rfl : zX 8 5 = some (20, 60))
              refine lv_iload hx hb dX9_firstOf_43 (lv_at hl 0 rfl) ?_
              have g_21 := z_rng (va (zr K a1 0) y_1.toNatClampNeg)
              have hin_20 : vp_in (va (zr K a1 0) y_1.toNatClampNeg) (zn K (zr K a0 5)) := vp_in_iff.mpr (by rw [(hf_19.2.2 (by decide))]; refine ⟨?_, ?_⟩ <;> omega)
              refine zld_20 C hs hP hf_19.1 hf_19.2.1 hin_20 dX9_firstOf_45 ?_
              refine lv_iload_n hx hb dX9_firstOf_46 rfl (lv_at hl 4 rfl) ?_
              refine bi_ne (tgt := 52) hx hb rfl rfl dX9_firstOf_47 (by decide) (fun c_22 => ?_) (fun c_22 => ?_)
              · skip
                obtain ⟨x_23, ex_23⟩ : ∃ y : Int32, y = y_1 + 1 := ⟨_, rfl⟩
                refine lv_iinc (v := x_23) (lv' := [(3, .int x_23), (4, .int (va (zr K a1 0) y_1.toNatClampNeg)), (0, .ref a0), (1, .ref a1), (2, .int x2)]) hx hb dX9_firstOf_52 hl (k := 1) rfl (by rw [ex_23]; rfl) (by decide) rfl (fun ls hl => ?_)
                refine lv_goto (tgt := 2) hx hb dX9_firstOf_55 (by decide) ?_
                obtain ⟨f_23, l_23, u_23⟩ := z_add ex_23 rfl ti_1
                have g_24 := z_rng (vi a1 1)
                have g_25 := z_rng x2
                have g_26 := z_rng (va (zr K a0 5) (va (zr K a1 0) y_1.toNatClampNeg).toNatClampNeg)
                exact ih_2 x_23 _ (by omega) (by omega) (lv_sub hl [0, 2, 3, 4] rfl)
              · skip
                refine lv_iload_n hx hb dX9_firstOf_50 rfl (lv_at hl 1 rfl) ?_
                exact zaS hQ hx hb hr hlk trivial dX9_firstOf_51
  exact L_2_2 _ 0 _ (Nat.lt_succ_self _) (by simp only [ti_0]; omega) (lv_sub hl [0, 1, 2, 3] rfl)
set_option maxHeartbeats 4000000 in
set_option maxRecDepth 100000 in
theorem c_X9_strongestOf (l : Launch) (D : va_G) (K : zK) (hO : zOk K) (vi va : Nat → Nat → Int32) (vg : Nat → Nat → Option Nat) (hI : zI K (vi, va, vg)) (a0 : Nat) (ha0 : a0 ∈ zl K) (hk0 : zk K a0 = 8) (a1 : Nat) (ha1 : a1 ∈ zl K) (hk1 : zk K a1 = 7) (x2 : Int32) (x3 : Int32) : Met l yX9_strongestOf (zc yX9_strongestOf cX9_strongestOf 9 (some .int)) (rmd 0) (va_Pc [.ref a0, .ref a1, .int x2, .int x3] (zB D K (vi, va, vg))) (vp_Si (fun r => True)) 0 0 (fun _ => False) := by
  refine zin (by decide) (Nat.le_of_ble_eq_true rfl) ?_
  intro p e s m args below meth c ls Q hQ C hr hlk hP hs hl
  have C : CallFix p m c cX9_strongestOf 9 s args zw RX9 := C
  obtain ⟨hx, hb, hml, hown, hts⟩ := id C
  have hS : va_S (zA K) s.heap s.heap [] := va_S.rf
  have hl : lv_has ls 9 [(0, .ref a0), (1, .ref a1), (2, .int x2), (3, .int x3)] := hl
  refine lv_iconst (v := (-1)) hx hb dX9_strongestOf_0 (by decide) ?_
  refine lv_istore (lv' := [(4, .int (-1)), (0, .ref a0), (1, .ref a1), (2, .int x2), (3, .int x3)]) hx hb dX9_strongestOf_1 hl (by decide) rfl (fun ls hl => ?_)
  refine lv_iconst (v := (-1)) hx hb dX9_strongestOf_3 (by decide) ?_
  refine lv_istore (lv' := [(5, .int (-1)), (4, .int (-1)), (0, .ref a0), (1, .ref a1), (2, .int x2), (3, .int x3)]) hx hb dX9_strongestOf_4 hl (by decide) rfl (fun ls hl => ?_)
  refine lv_iconst (v := 0) hx hb dX9_strongestOf_6 (by decide) ?_
  refine lv_istore (lv' := [(6, .int 0), (5, .int (-1)), (4, .int (-1)), (0, .ref a0), (1, .ref a1), (2, .int x2), (3, .int x3)]) hx hb dX9_strongestOf_7 hl (by decide) rfl (fun ls hl => ?_)
  have L_9_4 : ∀ (n_4 : Nat) (y_1 : Int32) (y_2 : Int32) (y_3 : Int32) (ls : Array Slot), (2147483648 - y_1.toInt).toNat < n_4 → 0 ≤ y_1.toInt → lv_has ls 9 [(6, .int y_1), (5, .int y_2), (4, .int y_3), (0, .ref a0), (1, .ref a1), (2, .int x2), (3, .int x3)] → W p l e (rmd 0) s m args below meth c s.heap [] 0 0 Q (F0 m 9 ls []) := by
    intro n_4
    induction n_4 with
    | zero => intro y_1 y_2 y_3 ls hm_4; exact absurd hm_4 (Nat.not_lt_zero _)
    | succ n_4 ih_4 =>
      intro y_1 y_2 y_3 ls hm_4 iv_5_0 hl
      refine lv_iload hx hb dX9_strongestOf_9 (lv_at hl 0 rfl) ?_
      refine lv_aload_n hx hb dX9_strongestOf_11 rfl (lv_at hl 4 rfl) ?_
      refine zg_7_1 C hs hP ha1 hk1 wf_X9_110 dX9_strongestOf_12 ?_
      refine bi_ge (tgt := 108) hx hb rfl rfl dX9_strongestOf_15 (by decide) (fun c_6 => ?_) (fun c_6 => ?_)
      · skip
        refine lv_iload hx hb dX9_strongestOf_108 (lv_at hl 2 rfl) ?_
        exact zaS hQ hx hb hr hlk trivial dX9_strongestOf_110
      · skip
        refine lv_iload hx hb dX9_strongestOf_18 (lv_at hl 0 rfl) ?_
        refine lv_aload_n hx hb dX9_strongestOf_20 rfl (lv_at hl 4 rfl) ?_
        refine zg_7_0 C hs hP ha1 hk1 wf_X9_113 dX9_strongestOf_21 ?_
        have hf_7 := hO.r (j := 0) ha1 hk1 (rfl : zX 7 0 = some (20, 0))
        refine zlen C hs hP hf_7.1 hO hf_7.2.1 (zF_20 hf_7.2.1) rfl rfl dX9_strongestOf_24 (fun x_8 ex_8 => ?_)
        have g_9 := z_rng x_8
        refine bi_ge (tgt := 108) hx hb rfl rfl dX9_strongestOf_25 (by decide) (fun c_10 => ?_) (fun c_10 => ?_)
        · skip
          refine lv_iload hx hb dX9_strongestOf_108 (lv_at hl 2 rfl) ?_
          exact zaS hQ hx hb hr hlk trivial dX9_strongestOf_110
        · skip
          refine lv_aload_n hx hb dX9_strongestOf_28 rfl (lv_at hl 4 rfl) ?_
          refine zg_7_0 C hs hP ha1 hk1 wf_X9_113 dX9_strongestOf_29 ?_
          refine lv_iload hx hb dX9_strongestOf_32 (lv_at hl 0 rfl) ?_
          have g_12 := z_rng y_1
          have hin_11 : vp_in y_1 (zn K (zr K a1 0)) := vp_in_iff.mpr (by refine ⟨?_, ?_⟩ <;> omega)
          refine zld_20 C hs hP hf_7.1 hf_7.2.1 hin_11 dX9_strongestOf_34 ?_
          refine lv_istore (lv' := [(7, .int (va (zr K a1 0) y_1.toNatClampNeg)), (6, .int y_1), (5, .int y_2), (4, .int y_3), (0, .ref a0), (1, .ref a1), (2, .int x2), (3, .int x3)]) hx hb dX9_strongestOf_35 hl (by decide) rfl (fun ls hl => ?_)
          refine lv_iload hx hb dX9_strongestOf_37 (lv_at hl 0 rfl) ?_
          have J_76_22 : ∀ (y_21 : Int32) (ls : Array Slot), (y_21 = 0 ∨ y_21 = 1) → lv_has ls 9 [(0, .ref a0), (1, .ref a1), (2, .int x2), (3, .int x3), (4, .int y_3), (5, .int y_2), (6, .int y_1), (7, .int (va (zr K a1 0) y_1.toNatClampNeg))] → W p l e (rmd 0) s m args below meth c s.heap [] 0 0 Q (F0 m 76 ls [.int y_21]) := by
            intro y_21 ls hb_y_21 hl
            refine lv_istore (lv' := [(8, .int y_21), (0, .ref a0), (1, .ref a1), (2, .int x2), (3, .int x3), (4, .int y_3), (5, .int y_2), (6, .int y_1), (7, .int (va (zr K a1 0) y_1.toNatClampNeg))]) hx hb dX9_strongestOf_76 hl (by decide) rfl (fun ls hl => ?_)
            refine lv_iload hx hb dX9_strongestOf_78 (lv_at hl 0 rfl) ?_
            have J_102_30 : ∀ (y_28 : Int32) (y_29 : Int32) (ls : Array Slot), lv_has ls 9 [(0, .ref a0), (1, .ref a1), (2, .int x2), (3, .int x3), (4, .int y_28), (5, .int y_29), (6, .int y_1), (7, .int (va (zr K a1 0) y_1.toNatClampNeg)), (8, .int y_21)] → W p l e (rmd 0) s m args below meth c s.heap [] 0 0 Q (F0 m 102 ls []) := by
              intro y_28 y_29 ls hl
              obtain ⟨x_32, ex_32⟩ : ∃ y : Int32, y = y_1 + 1 := ⟨_, rfl⟩
              refine lv_iinc (v := x_32) (lv' := [(6, .int x_32), (0, .ref a0), (1, .ref a1), (2, .int x2), (3, .int x3), (4, .int y_28), (5, .int y_29), (7, .int (va (zr K a1 0) y_1.toNatClampNeg)), (8, .int y_21)]) hx hb dX9_strongestOf_102 hl (k := 6) rfl (by rw [ex_32]; rfl) (by decide) rfl (fun ls hl => ?_)
              refine lv_goto (tgt := 9) hx hb dX9_strongestOf_105 (by decide) ?_
              obtain ⟨f_32, l_32, u_32⟩ := z_add ex_32 rfl ti_1
              have g_33 := z_rng y_29
              have g_34 := z_rng y_28
              have g_35 := z_rng (vi a1 1)
              exact ih_4 x_32 y_29 y_28 _ (by omega) (by omega) (lv_sub hl [0, 6, 5, 1, 2, 3, 4] rfl)
            refine bz_eq (tgt := 102) hx hb rfl dX9_strongestOf_80 (by decide) (fun c_24 => ?_) (fun c_24 => ?_)
            · skip
              exact J_102_30 y_3 y_2 _ (lv_sub hl [1, 2, 3, 4, 5, 6, 7, 8, 0] rfl)
            · skip
              refine lv_iload hx hb dX9_strongestOf_83 (lv_at hl 8 rfl) ?_
              refine lv_iconst (v := 4) hx hb dX9_strongestOf_85 (by decide) ?_
              refine lv_idiv hx hb dX9_strongestOf_86 (by decide) ?_
              refine lv_topi (fun x_36 ex_36 => ?_)
              refine lv_iload hx hb dX9_strongestOf_87 (lv_at hl 6 rfl) ?_
              refine bi_le (tgt := 102) hx hb rfl rfl dX9_strongestOf_89 (by decide) (fun c_37 => ?_) (fun c_37 => ?_)
              · skip
                exact J_102_30 y_3 y_2 _ (lv_sub hl [1, 2, 3, 4, 5, 6, 7, 8, 0] rfl)
              · skip
                refine lv_iload hx hb dX9_strongestOf_92 (lv_at hl 7 rfl) ?_
                refine lv_istore (lv' := [(4, .int y_1), (8, .int y_21), (0, .ref a0), (1, .ref a1), (2, .int x2), (3, .int x3), (5, .int y_2), (6, .int y_1), (7, .int (va (zr K a1 0) y_1.toNatClampNeg))]) hx hb dX9_strongestOf_94 hl (by decide) rfl (fun ls hl => ?_)
                refine lv_iload hx hb dX9_strongestOf_96 (lv_at hl 8 rfl) ?_
                refine lv_iconst (v := 4) hx hb dX9_strongestOf_98 (by decide) ?_
                refine lv_idiv hx hb dX9_strongestOf_99 (by decide) ?_
                refine lv_topi (fun x_38 ex_38 => ?_)
                refine lv_istore (lv' := [(5, .int x_38), (4, .int y_1), (8, .int y_21), (0, .ref a0), (1, .ref a1), (2, .int x2), (3, .int x3), (6, .int y_1), (7, .int (va (zr K a1 0) y_1.toNatClampNeg))]) hx hb dX9_strongestOf_100 hl (by decide) rfl (fun ls hl => ?_)
                exact J_102_30 y_1 x_38 _ (lv_sub hl [3, 4, 5, 6, 1, 0, 7, 8, 2] rfl)
          refine bz_lt (tgt := 75) hx hb rfl dX9_strongestOf_39 (by decide) (fun c_13 => ?_) (fun c_13 => ?_)
          · skip
            refine lv_iconst (v := 0) hx hb dX9_strongestOf_75 (by decide) ?_
            exact J_76_22 0 _ (Or.inl rfl) (lv_sub hl [4, 5, 6, 7, 3, 2, 1, 0] rfl)
          · skip
            refine lv_iload hx hb dX9_strongestOf_42 (lv_at hl 0 rfl) ?_
            refine lv_bipush (v := 60) hx hb dX9_strongestOf_44 (by decide) ?_
            refine bi_ge (tgt := 75) hx hb rfl ti_60 dX9_strongestOf_46 (by decide) (fun c_39 => ?_) (fun c_39 => ?_)
            · skip
              refine lv_iconst (v := 0) hx hb dX9_strongestOf_75 (by decide) ?_
              exact J_76_22 0 _ (Or.inl rfl) (lv_sub hl [4, 5, 6, 7, 3, 2, 1, 0] rfl)
            · skip
              refine lv_aload_n hx hb dX9_strongestOf_49 rfl (lv_at hl 4 rfl) ?_
              refine zg_8_5 C hs hP ha0 hk0 wf_X9_9 dX9_strongestOf_50 ?_
              have hf_40 := hO.r (j := 5) ha0 hk0 (rfl : zX 8 5 = some (20, 60))
              refine lv_iload hx hb dX9_strongestOf_53 (lv_at hl 0 rfl) ?_
              have g_42 := z_rng (va (zr K a1 0) y_1.toNatClampNeg)
              have hin_41 : vp_in (va (zr K a1 0) y_1.toNatClampNeg) (zn K (zr K a0 5)) := vp_in_iff.mpr (by rw [(hf_40.2.2 (by decide))]; refine ⟨?_, ?_⟩ <;> omega)
              refine zld_20 C hs hP hf_40.1 hf_40.2.1 hin_41 dX9_strongestOf_55 ?_
              refine lv_iload_n hx hb dX9_strongestOf_56 rfl (lv_at hl 6 rfl) ?_
              refine bi_eq (tgt := 71) hx hb rfl rfl dX9_strongestOf_57 (by decide) (fun c_43 => ?_) (fun c_43 => ?_)
              · skip
                refine lv_iconst (v := 1) hx hb dX9_strongestOf_71 (by decide) ?_
                refine lv_goto (tgt := 76) hx hb dX9_strongestOf_72 (by decide) ?_
                exact J_76_22 1 _ (Or.inr rfl) (lv_sub hl [4, 5, 6, 7, 3, 2, 1, 0] rfl)
              · skip
                refine lv_aload_n hx hb dX9_strongestOf_60 rfl (lv_at hl 4 rfl) ?_
                refine zg_8_5 C hs hP ha0 hk0 wf_X9_9 dX9_strongestOf_61 ?_
                refine lv_iload hx hb dX9_strongestOf_64 (lv_at hl 0 rfl) ?_
                have hin_44 : vp_in (va (zr K a1 0) y_1.toNatClampNeg) (zn K (zr K a0 5)) := vp_in_iff.mpr (by rw [(hf_40.2.2 (by decide))]; refine ⟨?_, ?_⟩ <;> omega)
                refine zld_20 C hs hP hf_40.1 hf_40.2.1 hin_44 dX9_strongestOf_66 ?_
                refine lv_iload_n hx hb dX9_strongestOf_67 rfl (lv_at hl 7 rfl) ?_
                refine bi_ne (tgt := 75) hx hb rfl rfl dX9_strongestOf_68 (by decide) (fun c_45 => ?_) (fun c_45 => ?_)
                · skip
                  refine lv_iconst (v := 0) hx hb dX9_strongestOf_75 (by decide) ?_
                  exact J_76_22 0 _ (Or.inl rfl) (lv_sub hl [4, 5, 6, 7, 3, 2, 1, 0] rfl)
                · skip
                  refine lv_iconst (v := 1) hx hb dX9_strongestOf_71 (by decide) ?_
                  refine lv_goto (tgt := 76) hx hb dX9_strongestOf_72 (by decide) ?_
                  exact J_76_22 1 _ (Or.inr rfl) (lv_sub hl [4, 5, 6, 7, 3, 2, 1, 0] rfl)
  exact L_9_4 _ 0 (-1) (-1) _ (Nat.lt_succ_self _) (by simp only [ti_0, ti_m1, ti_m1]; omega) (lv_sub hl [0, 1, 2, 3, 4, 5, 6] rfl)
set_option maxHeartbeats 4000000 in
set_option maxRecDepth 100000 in
theorem c_X9_cardsWon (l : Launch) (D : va_G) (K : zK) (hO : zOk K) (vi va : Nat → Nat → Int32) (vg : Nat → Nat → Option Nat) (hI : zI K (vi, va, vg)) (a0 : Nat) (ha0 : a0 ∈ zl K) (hk0 : zk K a0 = 8) (x1 : Int32) : Met l yX9_cardsWon (zc yX9_cardsWon cX9_cardsWon 4 (some .int)) (rmd 0) (va_Pc [.ref a0, .int x1] (zB D K (vi, va, vg))) (vp_Si (fun r => True)) 0 0 (fun _ => False) := by
  refine zin (by decide) (Nat.le_of_ble_eq_true rfl) ?_
  intro p e s m args below meth c ls Q hQ C hr hlk hP hs hl
  have C : CallFix p m c cX9_cardsWon 4 s args zw RX9 := C
  obtain ⟨hx, hb, hml, hown, hts⟩ := id C
  have hS : va_S (zA K) s.heap s.heap [] := va_S.rf
  have hl : lv_has ls 4 [(0, .ref a0), (1, .int x1)] := hl
  refine lv_iconst (v := 0) hx hb dX9_cardsWon_0 (by decide) ?_
  refine lv_istore_n (lv' := [(2, .int 0), (0, .ref a0), (1, .int x1)]) hx hb dX9_cardsWon_1 rfl hl (by decide) rfl (fun ls hl => ?_)
  refine lv_iconst (v := 0) hx hb dX9_cardsWon_2 (by decide) ?_
  refine lv_istore_n (lv' := [(3, .int 0), (2, .int 0), (0, .ref a0), (1, .int x1)]) hx hb dX9_cardsWon_3 rfl hl (by decide) rfl (fun ls hl => ?_)
  have L_4_3 : ∀ (n_3 : Nat) (y_1 : Int32) (y_2 : Int32) (ls : Array Slot), (2147483648 - y_1.toInt).toNat < n_3 → 0 ≤ y_1.toInt → lv_has ls 4 [(3, .int y_1), (2, .int y_2), (0, .ref a0), (1, .int x1)] → W p l e (rmd 0) s m args below meth c s.heap [] 0 0 Q (F0 m 4 ls []) := by
    intro n_3
    induction n_3 with
    | zero => intro y_1 y_2 ls hm_3; exact absurd hm_3 (Nat.not_lt_zero _)
    | succ n_3 ih_3 =>
      intro y_1 y_2 ls hm_3 iv_4_0 hl
      refine lv_iload_n hx hb dX9_cardsWon_4 rfl (lv_at hl 0 rfl) ?_
      refine lv_bipush (v := 60) hx hb dX9_cardsWon_5 (by decide) ?_
      refine bi_ge (tgt := 37) hx hb rfl ti_60 dX9_cardsWon_7 (by decide) (fun c_5 => ?_) (fun c_5 => ?_)
      · skip
        refine lv_iload_n hx hb dX9_cardsWon_37 rfl (lv_at hl 1 rfl) ?_
        exact zaS hQ hx hb hr hlk trivial dX9_cardsWon_38
      · skip
        refine lv_iload_n hx hb dX9_cardsWon_10 rfl (lv_at hl 1 rfl) ?_
        refine lv_aload_n hx hb dX9_cardsWon_11 rfl (lv_at hl 2 rfl) ?_
        refine zg_8_6 C hs hP ha0 hk0 wf_X9_15 dX9_cardsWon_12 ?_
        have hf_6 := hO.r (j := 6) ha0 hk0 (rfl : zX 8 6 = some (20, 60))
        refine lv_iload_n hx hb dX9_cardsWon_15 rfl (lv_at hl 0 rfl) ?_
        have g_8 := z_rng y_1
        have hin_7 : vp_in y_1 (zn K (zr K a0 6)) := vp_in_iff.mpr (by rw [(hf_6.2.2 (by decide))]; refine ⟨?_, ?_⟩ <;> omega)
        refine zld_20 C hs hP hf_6.1 hf_6.2.1 hin_7 dX9_cardsWon_16 ?_
        refine lv_bipush (v := 6) hx hb dX9_cardsWon_17 (by decide) ?_
        refine lv_iload_n hx hb dX9_cardsWon_19 rfl (lv_at hl 3 rfl) ?_
        refine lv_iadd hx hb dX9_cardsWon_20 ?_
        refine lv_topi (fun x_9 ex_9 => ?_)
        have J_29_12 : ∀ (y_11 : Int32) (ls : Array Slot), (y_11 = 0 ∨ y_11 = 1) → lv_has ls 4 [(0, .ref a0), (1, .int x1), (2, .int y_2), (3, .int y_1)] → W p l e (rmd 0) s m args below meth c s.heap [] 0 0 Q (F0 m 29 ls [.int y_11, .int y_2]) := by
          intro y_11 ls hb_y_11 hl
          refine lv_iadd hx hb dX9_cardsWon_29 ?_
          refine lv_topi (fun x_14 ex_14 => ?_)
          refine lv_istore_n (lv' := [(2, .int x_14), (0, .ref a0), (1, .int x1), (3, .int y_1)]) hx hb dX9_cardsWon_30 rfl hl (by decide) rfl (fun ls hl => ?_)
          obtain ⟨x_15, ex_15⟩ : ∃ y : Int32, y = y_1 + 1 := ⟨_, rfl⟩
          refine lv_iinc (v := x_15) (lv' := [(3, .int x_15), (2, .int x_14), (0, .ref a0), (1, .int x1)]) hx hb dX9_cardsWon_31 hl (k := 3) rfl (by rw [ex_15]; rfl) (by decide) rfl (fun ls hl => ?_)
          refine lv_goto (tgt := 4) hx hb dX9_cardsWon_34 (by decide) ?_
          obtain ⟨f_15, l_15, u_15⟩ := z_add ex_15 rfl ti_1
          have g_16 := z_rng y_2
          have g_17 := z_rng y_11
          obtain ⟨f_14, l_14, u_14⟩ := z_add ex_14 rfl rfl
          exact ih_3 x_15 x_14 _ (by omega) (by omega) (lv_sub hl [0, 1, 2, 3] rfl)
        refine bi_ne (tgt := 28) hx hb rfl rfl dX9_cardsWon_21 (by decide) (fun c_10 => ?_) (fun c_10 => ?_)
        · skip
          refine lv_iconst (v := 0) hx hb dX9_cardsWon_28 (by decide) ?_
          exact J_29_12 0 _ (Or.inl rfl) (lv_sub hl [2, 3, 1, 0] rfl)
        · skip
          refine lv_iconst (v := 1) hx hb dX9_cardsWon_24 (by decide) ?_
          refine lv_goto (tgt := 29) hx hb dX9_cardsWon_25 (by decide) ?_
          exact J_29_12 1 _ (Or.inr rfl) (lv_sub hl [2, 3, 1, 0] rfl)
  exact L_4_3 _ 0 0 _ (Nat.lt_succ_self _) (by simp only [ti_0, ti_0]; omega) (lv_sub hl [0, 1, 2, 3] rfl)
set_option maxHeartbeats 4000000 in
set_option maxRecDepth 100000 in
theorem c_X9_moveTo (l : Launch) (D : va_G) (K : zK) (hO : zOk K) (vi va : Nat → Nat → Int32) (vg : Nat → Nat → Option Nat) (hI : zI K (vi, va, vg)) (a0 : Nat) (ha0 : a0 ∈ zl K) (hk0 : zk K a0 = 8) (x1 : Int32) (x2 : Int32) : Met l yX9_moveTo (zc yX9_moveTo cX9_moveTo 3 none) (rmd 0) (va_Pc [.ref a0, .int x1, .int x2] (zB D K (vi, va, vg))) (zQv D K (fun V' => zI K V' ∧ V'.2.2 = vg)) 0 0 (zA K) := by
  refine zin (by decide) (Nat.le_of_ble_eq_true rfl) ?_
  intro p e s m args below meth c ls Q hQ C hr hlk hP hs hl
  have C : CallFix p m c cX9_moveTo 3 s args zw RX9 := C
  obtain ⟨hx, hb, hml, hown, hts⟩ := id C
  have hS : va_S (zA K) s.heap s.heap [] := va_S.rf
  have hl : lv_has ls 3 [(0, .ref a0), (1, .int x1), (2, .int x2)] := hl
  refine lv_iload_n hx hb dX9_moveTo_0 rfl (lv_at hl 1 rfl) ?_
  refine bz_lt (tgt := 17) hx hb rfl dX9_moveTo_1 (by decide) (fun c_1 => ?_) (fun c_1 => ?_)
  · skip
    exact zaV hQ hx hb hr hlk hP hS ⟨hI, rfl⟩ dX9_moveTo_17
  · skip
    refine lv_iload_n hx hb dX9_moveTo_4 rfl (lv_at hl 1 rfl) ?_
    refine lv_bipush (v := 60) hx hb dX9_moveTo_5 (by decide) ?_
    refine bi_ge (tgt := 17) hx hb rfl ti_60 dX9_moveTo_7 (by decide) (fun c_2 => ?_) (fun c_2 => ?_)
    · skip
      exact zaV hQ hx hb hr hlk hP hS ⟨hI, rfl⟩ dX9_moveTo_17
    · skip
      refine lv_aload_n hx hb dX9_moveTo_10 rfl (lv_at hl 0 rfl) ?_
      refine zg_8_6 C hs hP ha0 hk0 wf_X9_15 dX9_moveTo_11 ?_
      have hf_3 := hO.r (j := 6) ha0 hk0 (rfl : zX 8 6 = some (20, 60))
      refine lv_iload_n hx hb dX9_moveTo_14 rfl (lv_at hl 1 rfl) ?_
      refine lv_iload_n hx hb dX9_moveTo_15 rfl (lv_at hl 2 rfl) ?_
      have g_5 := z_rng x1
      have hin_4 : vp_in x1 (zn K (zr K a0 6)) := vp_in_iff.mpr (by rw [(hf_3.2.2 (by decide))]; refine ⟨?_, ?_⟩ <;> omega)
      refine ks_20 C hO hs hP hS hf_3.1 hf_3.2.1 hI hin_4 dX9_moveTo_16 (fun va_6 H locs hI hP hS => ?_)
      exact zaV hQ hx hb hr hlk hP hS ⟨hI, rfl⟩ dX9_moveTo_17
set_option maxHeartbeats 4000000 in
set_option maxRecDepth 100000 in
theorem c_X9_gatherCards (l : Launch) (D : va_G) (K : zK) (hO : zOk K) (vi va : Nat → Nat → Int32) (vg : Nat → Nat → Option Nat) (hI : zI K (vi, va, vg)) (a0 : Nat) (ha0 : a0 ∈ zl K) (hk0 : zk K a0 = 8) : Met l yX9_gatherCards (zc yX9_gatherCards cX9_gatherCards 2 none) (rmd 2) (va_Pc [.ref a0] (zB D K (vi, va, vg))) (zQv D K (fun V' => zI K V' ∧ V'.2.2 = vg)) 0 0 (zA K) := by
  refine zin (by decide) (Nat.le_of_ble_eq_true rfl) ?_
  intro p e s m args below meth c ls Q hQ C hr hlk hP hs hl
  have C : CallFix p m c cX9_gatherCards 2 s args zw RX9 := C
  obtain ⟨hx, hb, hml, hown, hts⟩ := id C
  have hS : va_S (zA K) s.heap s.heap [] := va_S.rf
  have hl : lv_has ls 2 [(0, .ref a0)] := hl
  refine lv_aload_n hx hb dX9_gatherCards_0 rfl (lv_at hl 0 rfl) ?_
  refine zg_8_9 C hs hP ha0 hk0 wf_X9_30 dX9_gatherCards_1 ?_
  have hf_1 := hO.r (j := 9) ha0 hk0 (rfl : zX 8 9 = some (7, 0))
  refine lv_iconst (v := 0) hx hb dX9_gatherCards_4 (by decide) ?_
  refine kp_7_1 C hO hs hP hS hf_1.1 hf_1.2.1 wf_X9_110 hI dX9_gatherCards_5 (fun vi_2 H locs hI hP hS => ?_)
  refine lv_aload_n hx hb dX9_gatherCards_8 rfl (lv_at hl 0 rfl) ?_
  refine zg_8_10 C hs hP ha0 hk0 wf_X9_34 dX9_gatherCards_9 ?_
  have hf_3 := hO.r (j := 10) ha0 hk0 (rfl : zX 8 10 = some (7, 0))
  refine lv_iconst (v := 0) hx hb dX9_gatherCards_12 (by decide) ?_
  refine kp_7_1 C hO hs hP hS hf_3.1 hf_3.2.1 wf_X9_110 hI dX9_gatherCards_13 (fun vi_4 H locs hI hP hS => ?_)
  refine lv_aload_n hx hb dX9_gatherCards_16 rfl (lv_at hl 0 rfl) ?_
  refine zg_8_11 C hs hP ha0 hk0 wf_X9_37 dX9_gatherCards_17 ?_
  have hf_5 := hO.r (j := 11) ha0 hk0 (rfl : zX 8 11 = some (7, 0))
  refine lv_iconst (v := 0) hx hb dX9_gatherCards_20 (by decide) ?_
  refine kp_7_1 C hO hs hP hS hf_5.1 hf_5.2.1 wf_X9_110 hI dX9_gatherCards_21 (fun vi_6 H locs hI hP hS => ?_)
  refine lv_iconst (v := 0) hx hb dX9_gatherCards_24 (by decide) ?_
  refine lv_istore_n (lv' := [(1, .int 0), (0, .ref a0)]) hx hb dX9_gatherCards_25 rfl hl (by decide) rfl (fun ls hl => ?_)
  have L_26_8 : ∀ (n_8 : Nat) (vi_9 : Nat → Nat → Int32) (va_9 : Nat → Nat → Int32) (H : Heap) (locs : List Loc) (y_7 : Int32) (ls : Array Slot), (2147483648 - y_7.toInt).toNat < n_8 → 0 ≤ y_7.toInt → zI K (vi_9, va_9, vg) → va_P D vwCl (zW K (vi_9, va_9, vg)) H → va_S (zA K) s.heap H locs → lv_has ls 2 [(1, .int y_7), (0, .ref a0)] → W p l e (rmd 2) s m args below meth c H locs 0 0 Q (F0 m 26 ls []) := by
    intro n_8
    induction n_8 with
    | zero => intro vi_9 va_9 H locs y_7 ls hm_8; exact absurd hm_8 (Nat.not_lt_zero _)
    | succ n_8 ih_8 =>
      intro vi_9 va_9 H locs y_7 ls hm_8 iv_9_0 hI hP hS hl
      refine lv_iload_n hx hb dX9_gatherCards_26 rfl (lv_at hl 0 rfl) ?_
      refine lv_aload_n hx hb dX9_gatherCards_27 rfl (lv_at hl 1 rfl) ?_
      refine zg_8_2 C hs hP ha0 hk0 wf_X9_61 dX9_gatherCards_28 ?_
      refine bi_ge (tgt := 48) hx hb rfl rfl dX9_gatherCards_31 (by decide) (fun c_11 => ?_) (fun c_11 => ?_)
      · skip
        refine lv_aload_n hx hb dX9_gatherCards_48 rfl (lv_at hl 1 rfl) ?_
        refine zg_8_6 C hs hP ha0 hk0 wf_X9_15 dX9_gatherCards_49 ?_
        have hf_15 := hO.r (j := 6) ha0 hk0 (rfl : zX 8 6 = some (20, 60))
        refine lv_iconst (v := 0) hx hb dX9_gatherCards_52 (by decide) ?_
        refine zcV (zrS (As := [.ref (zr K a0 6), .int 0]) (rest := []) C hs hP hS (c_J7_fill_53178 l D K hO vi_9 va_9 vg hI (zr K a0 6) hf_15.1 hf_15.2.1 0) m_J7_fill_53178 wm_X9_74 ⟨by decide, by decide⟩ hl.1 (Nat.le_of_ble_eq_true rfl) dX9_gatherCards_53) hS (fun V_16 H locs p_16 hP hS => ?_)
        obtain ⟨vi_16, va_16, vg_16⟩ := V_16
        obtain ⟨hI, hg_16⟩ := p_16
        try dsimp only at hI hg_16
        replace hg_16 := hg_16.symm
        subst hg_16
        refine lv_iconst (v := 0) hx hb dX9_gatherCards_56 (by decide) ?_
        refine lv_istore_n (lv' := [(1, .int 0), (0, .ref a0)]) hx hb dX9_gatherCards_57 rfl hl (by decide) rfl (fun ls hl => ?_)
        have L_58_18 : ∀ (n_18 : Nat) (vi_19 : Nat → Nat → Int32) (H : Heap) (locs : List Loc) (y_17 : Int32) (ls : Array Slot), (2147483648 - y_17.toInt).toNat < n_18 → 0 ≤ y_17.toInt → zI K (vi_19, va_16, vg) → va_P D vwCl (zW K (vi_19, va_16, vg)) H → va_S (zA K) s.heap H locs → lv_has ls 2 [(1, .int y_17), (0, .ref a0)] → W p l e (rmd 2) s m args below meth c H locs 0 0 Q (F0 m 58 ls []) := by
          intro n_18
          induction n_18 with
          | zero => intro vi_19 H locs y_17 ls hm_18; exact absurd hm_18 (Nat.not_lt_zero _)
          | succ n_18 ih_18 =>
            intro vi_19 H locs y_17 ls hm_18 iv_19_0 hI hP hS hl
            refine lv_iload_n hx hb dX9_gatherCards_58 rfl (lv_at hl 0 rfl) ?_
            refine lv_iconst (v := 4) hx hb dX9_gatherCards_59 (by decide) ?_
            refine bi_ge (tgt := 79) hx hb rfl ti_4 dX9_gatherCards_60 (by decide) (fun c_21 => ?_) (fun c_21 => ?_)
            · skip
              exact zaV hQ hx hb hr hlk hP hS ⟨hI, rfl⟩ dX9_gatherCards_79
            · skip
              refine lv_aload_n hx hb dX9_gatherCards_63 rfl (lv_at hl 1 rfl) ?_
              refine zg_8_12 C hs hP ha0 hk0 wf_X9_40 dX9_gatherCards_64 ?_
              have hf_22 := hO.r (j := 12) ha0 hk0 (rfl : zX 8 12 = some (23, 4))
              refine lv_iload_n hx hb dX9_gatherCards_67 rfl (lv_at hl 0 rfl) ?_
              have g_24 := z_rng y_17
              have hin_23 : vp_in y_17 (zn K (zr K a0 12)) := vp_in_iff.mpr (by rw [(hf_22.2.2 (by decide))]; refine ⟨?_, ?_⟩ <;> omega)
              refine zld_23 C hs hP hf_22.1 hf_22.2.1 hin_23 dX9_gatherCards_68 ?_
              have hf_25 := zel_23 hO hf_22.1 hf_22.2.1 hin_23
              refine lv_iconst (v := (-1)) hx hb dX9_gatherCards_69 (by decide) ?_
              refine kp_7_1 C hO hs hP hS hf_25.1 hf_25.2 wf_X9_110 hI dX9_gatherCards_70 (fun vi_26 H locs hI hP hS => ?_)
              obtain ⟨x_27, ex_27⟩ : ∃ y : Int32, y = y_17 + 1 := ⟨_, rfl⟩
              refine lv_iinc (v := x_27) (lv' := [(1, .int x_27), (0, .ref a0)]) hx hb dX9_gatherCards_73 hl (k := 0) rfl (by rw [ex_27]; rfl) (by decide) rfl (fun ls hl => ?_)
              refine lv_goto (tgt := 58) hx hb dX9_gatherCards_76 (by decide) ?_
              obtain ⟨f_27, l_27, u_27⟩ := z_add ex_27 rfl ti_1
              exact ih_18 vi_26 _ _ x_27 _ (by omega) (by omega) hI hP hS (lv_sub hl [0, 1] rfl)
        have g_28 := z_rng (vi_9 a0 2)
        have g_29 := z_rng y_7
        exact L_58_18 _ vi_16 _ _ 0 _ (Nat.lt_succ_self _) (by simp only [ti_0]; omega) hI hP hS (lv_sub hl [0, 1] rfl)
      · skip
        refine lv_aload_n hx hb dX9_gatherCards_34 rfl (lv_at hl 1 rfl) ?_
        refine zg_8_9 C hs hP ha0 hk0 wf_X9_30 dX9_gatherCards_35 ?_
        refine lv_iload_n hx hb dX9_gatherCards_38 rfl (lv_at hl 0 rfl) ?_
        refine zcV (zrV (As := [.int y_7]) (b := zr K a0 9) (rest := []) C hs hP hS (c_X8_add l D K hO vi_9 va_9 vg hI (zr K a0 9) hf_1.1 hf_1.2.1 y_7) m_X8_add wm_X9_116 (zrecv hs hP hf_1.1 (zF_7 hf_1.2.1) rfl) ⟨by decide, by decide⟩ hl.1 (Nat.le_of_ble_eq_true rfl) dX9_gatherCards_39) hS (fun V_30 H locs p_30 hP hS => ?_)
        obtain ⟨vi_30, va_30, vg_30⟩ := V_30
        obtain ⟨hI, hg_30⟩ := p_30
        try dsimp only at hI hg_30
        replace hg_30 := hg_30.symm
        subst hg_30
        obtain ⟨x_31, ex_31⟩ : ∃ y : Int32, y = y_7 + 1 := ⟨_, rfl⟩
        refine lv_iinc (v := x_31) (lv' := [(1, .int x_31), (0, .ref a0)]) hx hb dX9_gatherCards_42 hl (k := 0) rfl (by rw [ex_31]; rfl) (by decide) rfl (fun ls hl => ?_)
        refine lv_goto (tgt := 26) hx hb dX9_gatherCards_45 (by decide) ?_
        have g_32 := z_rng y_7
        obtain ⟨f_31, l_31, u_31⟩ := z_add ex_31 rfl ti_1
        have g_33 := z_rng (vi_9 a0 2)
        exact ih_8 vi_30 va_30 _ _ x_31 _ (by omega) (by omega) hI hP hS (lv_sub hl [0, 1] rfl)
  exact L_26_8 _ vi_6 va _ _ 0 _ (Nat.lt_succ_self _) (by simp only [ti_0]; omega) hI hP hS (lv_sub hl [0, 1] rfl)
set_option maxHeartbeats 4000000 in
set_option maxRecDepth 100000 in
theorem c_X9_takeHandAway (l : Launch) (D : va_G) (K : zK) (hO : zOk K) (vi va : Nat → Nat → Int32) (vg : Nat → Nat → Option Nat) (hI : zI K (vi, va, vg)) (a0 : Nat) (ha0 : a0 ∈ zl K) (hk0 : zk K a0 = 8) (x1 : Int32) : Met l yX9_takeHandAway (zc yX9_takeHandAway cX9_takeHandAway 4 none) (rmd 2) (va_Pc [.ref a0, .int x1] (zB D K (vi, va, vg))) (zQv D K (fun V' => zI K V' ∧ V'.2.2 = vg)) 0 0 (zA K) := by
  refine zin (by decide) (Nat.le_of_ble_eq_true rfl) ?_
  intro p e s m args below meth c ls Q hQ C hr hlk hP hs hl
  have C : CallFix p m c cX9_takeHandAway 4 s args zw RX9 := C
  obtain ⟨hx, hb, hml, hown, hts⟩ := id C
  have hS : va_S (zA K) s.heap s.heap [] := va_S.rf
  have hl : lv_has ls 4 [(0, .ref a0), (1, .int x1)] := hl
  refine lv_aload_n hx hb dX9_takeHandAway_0 rfl (lv_at hl 0 rfl) ?_
  refine lv_iload_n hx hb dX9_takeHandAway_1 rfl (lv_at hl 1 rfl) ?_
  refine zcSq (zrV (As := [.int x1]) (b := a0) (rest := []) C hs hP hS (c_X9_handOf l D K hO vi va vg hI a0 ha0 hk0 x1) m_X9_handOf wm_X9_119 (zrecv hs hP ha0 (zF_8 hk0) rfl) ⟨by decide, by decide⟩ hl.1 (Nat.le_of_ble_eq_true rfl) dX9_takeHandAway_2) (fun p_1 => ?_) (fun q_1 p_1 => ?_)
  · skip
    obtain ⟨q9, h9, -⟩ := p_1; cases h9
  · skip
    obtain ⟨q9, h9, h8, h7⟩ := p_1
    cases h9
    have h8_q_1 := h8; have h7_q_1 := h7; clear h8 h7
    refine lv_astore_n (lv' := [(2, .ref q_1), (0, .ref a0), (1, .int x1)]) hx hb dX9_takeHandAway_5 rfl hl (by decide) rfl (fun ls hl => ?_)
    refine lv_iconst (v := 0) hx hb dX9_takeHandAway_6 (by decide) ?_
    refine lv_istore_n (lv' := [(3, .int 0), (2, .ref q_1), (0, .ref a0), (1, .int x1)]) hx hb dX9_takeHandAway_7 rfl hl (by decide) rfl (fun ls hl => ?_)
    have L_8_3 : ∀ (n_3 : Nat) (vi_4 : Nat → Nat → Int32) (va_4 : Nat → Nat → Int32) (H : Heap) (locs : List Loc) (y_2 : Int32) (ls : Array Slot), (2147483648 - y_2.toInt).toNat < n_3 → 0 ≤ y_2.toInt → zI K (vi_4, va_4, vg) → va_P D vwCl (zW K (vi_4, va_4, vg)) H → va_S (zA K) s.heap H locs → lv_has ls 4 [(3, .int y_2), (2, .ref q_1), (0, .ref a0), (1, .int x1)] → W p l e (rmd 2) s m args below meth c H locs 0 0 Q (F0 m 8 ls []) := by
      intro n_3
      induction n_3 with
      | zero => intro vi_4 va_4 H locs y_2 ls hm_3; exact absurd hm_3 (Nat.not_lt_zero _)
      | succ n_3 ih_3 =>
        intro vi_4 va_4 H locs y_2 ls hm_3 iv_4_0 hI hP hS hl
        refine lv_iload_n hx hb dX9_takeHandAway_8 rfl (lv_at hl 0 rfl) ?_
        refine lv_aload_n hx hb dX9_takeHandAway_9 rfl (lv_at hl 1 rfl) ?_
        refine zg_7_1 C hs hP h8_q_1 h7_q_1 wf_X9_110 dX9_takeHandAway_10 ?_
        refine bi_ge (tgt := 44) hx hb rfl rfl dX9_takeHandAway_13 (by decide) (fun c_6 => ?_) (fun c_6 => ?_)
        · skip
          refine lv_aload_n hx hb dX9_takeHandAway_44 rfl (lv_at hl 1 rfl) ?_
          refine lv_iconst (v := (-1)) hx hb dX9_takeHandAway_45 (by decide) ?_
          refine kp_7_1 C hO hs hP hS h8_q_1 h7_q_1 wf_X9_110 hI dX9_takeHandAway_46 (fun vi_7 H locs hI hP hS => ?_)
          exact zaV hQ hx hb hr hlk hP hS ⟨hI, rfl⟩ dX9_takeHandAway_49
        · skip
          refine lv_aload_n hx hb dX9_takeHandAway_16 rfl (lv_at hl 2 rfl) ?_
          refine lv_aload_n hx hb dX9_takeHandAway_17 rfl (lv_at hl 1 rfl) ?_
          refine lv_iload_n hx hb dX9_takeHandAway_18 rfl (lv_at hl 0 rfl) ?_
          refine zcS (zrV (As := [.int y_2]) (b := q_1) (rest := [.ref a0]) C hs hP hS (c_X8_at l D K hO vi_4 va_4 vg hI q_1 h8_q_1 h7_q_1 y_2) m_X8_at wm_X9_123 (zrecv hs hP h8_q_1 (zF_7 h7_q_1) rfl) ⟨by decide, by decide⟩ hl.1 (Nat.le_of_ble_eq_true rfl) dX9_takeHandAway_19) (fun x_8 p_8 => ?_)
          refine lv_iconst (v := 0) hx hb dX9_takeHandAway_22 (by decide) ?_
          refine zcV (zrV (As := [.int x_8, .int 0]) (b := a0) (rest := []) C hs hP hS (c_X9_moveTo l D K hO vi_4 va_4 vg hI a0 ha0 hk0 x_8 0) m_X9_moveTo wm_X9_127 (zrecv hs hP ha0 (zF_8 hk0) rfl) ⟨by decide, by decide⟩ hl.1 (Nat.le_of_ble_eq_true rfl) dX9_takeHandAway_23) hS (fun V_9 H locs p_9 hP hS => ?_)
          obtain ⟨vi_9, va_9, vg_9⟩ := V_9
          obtain ⟨hI, hg_9⟩ := p_9
          try dsimp only at hI hg_9
          replace hg_9 := hg_9.symm
          subst hg_9
          refine lv_aload_n hx hb dX9_takeHandAway_26 rfl (lv_at hl 2 rfl) ?_
          refine zg_8_9 C hs hP ha0 hk0 wf_X9_30 dX9_takeHandAway_27 ?_
          have hf_10 := hO.r (j := 9) ha0 hk0 (rfl : zX 8 9 = some (7, 0))
          refine lv_aload_n hx hb dX9_takeHandAway_30 rfl (lv_at hl 1 rfl) ?_
          refine lv_iload_n hx hb dX9_takeHandAway_31 rfl (lv_at hl 0 rfl) ?_
          refine zcS (zrV (As := [.int y_2]) (b := q_1) (rest := [.ref (zr K a0 9)]) C hs hP hS (c_X8_at l D K hO vi_9 va_9 vg hI q_1 h8_q_1 h7_q_1 y_2) m_X8_at wm_X9_123 (zrecv hs hP h8_q_1 (zF_7 h7_q_1) rfl) ⟨by decide, by decide⟩ hl.1 (Nat.le_of_ble_eq_true rfl) dX9_takeHandAway_32) (fun x_11 p_11 => ?_)
          refine zcV (zrV (As := [.int x_11]) (b := zr K a0 9) (rest := []) C hs hP hS (c_X8_add l D K hO vi_9 va_9 vg hI (zr K a0 9) hf_10.1 hf_10.2.1 x_11) m_X8_add wm_X9_116 (zrecv hs hP hf_10.1 (zF_7 hf_10.2.1) rfl) ⟨by decide, by decide⟩ hl.1 (Nat.le_of_ble_eq_true rfl) dX9_takeHandAway_35) hS (fun V_12 H locs p_12 hP hS => ?_)
          obtain ⟨vi_12, va_12, vg_12⟩ := V_12
          obtain ⟨hI, hg_12⟩ := p_12
          try dsimp only at hI hg_12
          replace hg_12 := hg_12.symm
          subst hg_12
          obtain ⟨x_13, ex_13⟩ : ∃ y : Int32, y = y_2 + 1 := ⟨_, rfl⟩
          refine lv_iinc (v := x_13) (lv' := [(3, .int x_13), (2, .ref q_1), (0, .ref a0), (1, .int x1)]) hx hb dX9_takeHandAway_38 hl (k := 0) rfl (by rw [ex_13]; rfl) (by decide) rfl (fun ls hl => ?_)
          refine lv_goto (tgt := 8) hx hb dX9_takeHandAway_41 (by decide) ?_
          have g_14 := z_rng y_2
          obtain ⟨f_13, l_13, u_13⟩ := z_add ex_13 rfl ti_1
          have g_15 := z_rng (vi_4 q_1 1)
          exact ih_3 vi_12 va_12 _ _ x_13 _ (by omega) (by omega) hI hP hS (lv_sub hl [0, 1, 2, 3] rfl)
    exact L_8_3 _ vi va _ _ 0 _ (Nat.lt_succ_self _) (by simp only [ti_0]; omega) hI hP hS (lv_sub hl [0, 1, 2, 3] rfl)
set_option maxHeartbeats 4000000 in
set_option maxRecDepth 100000 in
theorem c_X9_canLay (l : Launch) (D : va_G) (K : zK) (hO : zOk K) (vi va : Nat → Nat → Int32) (vg : Nat → Nat → Option Nat) (hI : zI K (vi, va, vg)) (a0 : Nat) (ha0 : a0 ∈ zl K) (hk0 : zk K a0 = 8) (x1 : Int32) : Met l yX9_canLay (zc yX9_canLay cX9_canLay 4 (some .boolean)) (rmd 1) (va_Pc [.ref a0, .int x1] (zB D K (vi, va, vg))) (vp_Si (fun r => (r = 0 ∨ r = 1))) 0 0 (fun _ => False) := by
  refine zin (by decide) (Nat.le_of_ble_eq_true rfl) ?_
  intro p e s m args below meth c ls Q hQ C hr hlk hP hs hl
  have C : CallFix p m c cX9_canLay 4 s args zw RX9 := C
  obtain ⟨hx, hb, hml, hown, hts⟩ := id C
  have hS : va_S (zA K) s.heap s.heap [] := va_S.rf
  have hl : lv_has ls 4 [(0, .ref a0), (1, .int x1)] := hl
  refine lv_aload_n hx hb dX9_canLay_0 rfl (lv_at hl 0 rfl) ?_
  refine lv_iload_n hx hb dX9_canLay_1 rfl (lv_at hl 1 rfl) ?_
  refine zcSq (zrV (As := [.int x1]) (b := a0) (rest := []) C hs hP hS (c_X9_handOf l D K hO vi va vg hI a0 ha0 hk0 x1) m_X9_handOf wm_X9_119 (zrecv hs hP ha0 (zF_8 hk0) rfl) ⟨by decide, by decide⟩ hl.1 (Nat.le_of_ble_eq_true rfl) dX9_canLay_2) (fun p_1 => ?_) (fun q_1 p_1 => ?_)
  · skip
    obtain ⟨q9, h9, -⟩ := p_1; cases h9
  · skip
    obtain ⟨q9, h9, h8, h7⟩ := p_1
    cases h9
    have h8_q_1 := h8; have h7_q_1 := h7; clear h8 h7
    refine lv_astore_n (lv' := [(2, .ref q_1), (0, .ref a0), (1, .int x1)]) hx hb dX9_canLay_5 rfl hl (by decide) rfl (fun ls hl => ?_)
    refine lv_iconst (v := 0) hx hb dX9_canLay_6 (by decide) ?_
    refine lv_istore_n (lv' := [(3, .int 0), (2, .ref q_1), (0, .ref a0), (1, .int x1)]) hx hb dX9_canLay_7 rfl hl (by decide) rfl (fun ls hl => ?_)
    have L_8_3 : ∀ (n_3 : Nat) (y_2 : Int32) (ls : Array Slot), (2147483648 - y_2.toInt).toNat < n_3 → 0 ≤ y_2.toInt → lv_has ls 4 [(3, .int y_2), (2, .ref q_1), (0, .ref a0), (1, .int x1)] → W p l e (rmd 1) s m args below meth c s.heap [] 0 0 Q (F0 m 8 ls []) := by
      intro n_3
      induction n_3 with
      | zero => intro y_2 ls hm_3; exact absurd hm_3 (Nat.not_lt_zero _)
      | succ n_3 ih_3 =>
        intro y_2 ls hm_3 iv_4_0 hl
        refine lv_iload_n hx hb dX9_canLay_8 rfl (lv_at hl 0 rfl) ?_
        refine lv_aload_n hx hb dX9_canLay_9 rfl (lv_at hl 1 rfl) ?_
        refine zg_7_1 C hs hP h8_q_1 h7_q_1 wf_X9_110 dX9_canLay_10 ?_
        refine bi_ge (tgt := 38) hx hb rfl rfl dX9_canLay_13 (by decide) (fun c_5 => ?_) (fun c_5 => ?_)
        · skip
          refine lv_iconst (v := 0) hx hb dX9_canLay_38 (by decide) ?_
          exact zaSz hQ hx hb hr hlk (Or.inl rfl) (Or.inl rfl) dX9_canLay_39
        · skip
          refine lv_aload_n hx hb dX9_canLay_16 rfl (lv_at hl 2 rfl) ?_
          refine lv_aload_n hx hb dX9_canLay_17 rfl (lv_at hl 1 rfl) ?_
          refine lv_iload_n hx hb dX9_canLay_18 rfl (lv_at hl 0 rfl) ?_
          refine zcS (zrV (As := [.int y_2]) (b := q_1) (rest := [.ref a0]) C hs hP hS (c_X8_at l D K hO vi va vg hI q_1 h8_q_1 h7_q_1 y_2) m_X8_at wm_X9_123 (zrecv hs hP h8_q_1 (zF_7 h7_q_1) rfl) ⟨by decide, by decide⟩ hl.1 (Nat.le_of_ble_eq_true rfl) dX9_canLay_19) (fun x_6 p_6 => ?_)
          refine zcS (zrV (As := [.int x_6]) (b := a0) (rest := []) C hs hP hS (c_X9_colourOf l D K hO vi va vg hI a0 ha0 hk0 x_6) m_X9_colourOf wm_X9_153 (zrecv hs hP ha0 (zF_8 hk0) rfl) ⟨by decide, by decide⟩ hl.1 (Nat.le_of_ble_eq_true rfl) dX9_canLay_22) (fun x_7 p_7 => ?_)
          refine lv_bipush (v := 6) hx hb dX9_canLay_25 (by decide) ?_
          refine bi_eq (tgt := 32) hx hb rfl ti_6 dX9_canLay_27 (by decide) (fun c_8 => ?_) (fun c_8 => ?_)
          · skip
            obtain ⟨x_9, ex_9⟩ : ∃ y : Int32, y = y_2 + 1 := ⟨_, rfl⟩
            refine lv_iinc (v := x_9) (lv' := [(3, .int x_9), (2, .ref q_1), (0, .ref a0), (1, .int x1)]) hx hb dX9_canLay_32 hl (k := 0) rfl (by rw [ex_9]; rfl) (by decide) rfl (fun ls hl => ?_)
            refine lv_goto (tgt := 8) hx hb dX9_canLay_35 (by decide) ?_
            have g_10 := z_rng y_2
            obtain ⟨f_9, l_9, u_9⟩ := z_add ex_9 rfl ti_1
            have g_11 := z_rng x_7
            have g_12 := z_rng (vi q_1 1)
            exact ih_3 x_9 _ (by omega) (by omega) (lv_sub hl [0, 1, 2, 3] rfl)
          · skip
            refine lv_iconst (v := 1) hx hb dX9_canLay_30 (by decide) ?_
            exact zaSz hQ hx hb hr hlk (Or.inr rfl) (Or.inr rfl) dX9_canLay_31
    exact L_8_3 _ 0 _ (Nat.lt_succ_self _) (by simp only [ti_0]; omega) (lv_sub hl [0, 1, 2, 3] rfl)
set_option maxHeartbeats 4000000 in
set_option maxRecDepth 100000 in
theorem c_X9_nextAble (l : Launch) (D : va_G) (K : zK) (hO : zOk K) (vi va : Nat → Nat → Int32) (vg : Nat → Nat → Option Nat) (hI : zI K (vi, va, vg)) (a0 : Nat) (ha0 : a0 ∈ zl K) (hk0 : zk K a0 = 8) (x1 : Int32) : Met l yX9_nextAble (zc yX9_nextAble cX9_nextAble 4 (some .int)) (rmd 2) (va_Pc [.ref a0, .int x1] (zB D K (vi, va, vg))) (vp_Si (fun r => True)) 0 0 (fun _ => False) := by
  refine zin (by decide) (Nat.le_of_ble_eq_true rfl) ?_
  intro p e s m args below meth c ls Q hQ C hr hlk hP hs hl
  have C : CallFix p m c cX9_nextAble 4 s args zw RX9 := C
  obtain ⟨hx, hb, hml, hown, hts⟩ := id C
  have hS : va_S (zA K) s.heap s.heap [] := va_S.rf
  have hl : lv_has ls 4 [(0, .ref a0), (1, .int x1)] := hl
  refine lv_iconst (v := 0) hx hb dX9_nextAble_0 (by decide) ?_
  refine lv_istore_n (lv' := [(2, .int 0), (0, .ref a0), (1, .int x1)]) hx hb dX9_nextAble_1 rfl hl (by decide) rfl (fun ls hl => ?_)
  have L_2_2 : ∀ (n_2 : Nat) (y_1 : Int32) (ls : Array Slot), (2147483648 - y_1.toInt).toNat < n_2 → 0 ≤ y_1.toInt → lv_has ls 4 [(2, .int y_1), (0, .ref a0), (1, .int x1)] → W p l e (rmd 2) s m args below meth c s.heap [] 0 0 Q (F0 m 2 ls []) := by
    intro n_2
    induction n_2 with
    | zero => intro y_1 ls hm_2; exact absurd hm_2 (Nat.not_lt_zero _)
    | succ n_2 ih_2 =>
      intro y_1 ls hm_2 iv_3_0 hl
      refine lv_iload_n hx hb dX9_nextAble_2 rfl (lv_at hl 0 rfl) ?_
      refine lv_iconst (v := 4) hx hb dX9_nextAble_3 (by decide) ?_
      refine bi_ge (tgt := 41) hx hb rfl ti_4 dX9_nextAble_4 (by decide) (fun c_4 => ?_) (fun c_4 => ?_)
      · skip
        refine lv_iconst (v := (-1)) hx hb dX9_nextAble_41 (by decide) ?_
        exact zaS hQ hx hb hr hlk trivial dX9_nextAble_42
      · skip
        refine lv_iload_n hx hb dX9_nextAble_7 rfl (lv_at hl 2 rfl) ?_
        refine lv_iload_n hx hb dX9_nextAble_8 rfl (lv_at hl 0 rfl) ?_
        refine lv_iadd hx hb dX9_nextAble_9 ?_
        refine lv_topi (fun x_5 ex_5 => ?_)
        refine lv_iconst (v := 3) hx hb dX9_nextAble_10 (by decide) ?_
        refine lv_iand hx hb dX9_nextAble_11 ?_
        refine lv_topi (fun x_6 ex_6 => ?_)
        refine lv_istore_n (lv' := [(3, .int x_6), (2, .int y_1), (0, .ref a0), (1, .int x1)]) hx hb dX9_nextAble_12 rfl hl (by decide) rfl (fun ls hl => ?_)
        refine lv_aload_n hx hb dX9_nextAble_13 rfl (lv_at hl 2 rfl) ?_
        refine zg_8_11 C hs hP ha0 hk0 wf_X9_37 dX9_nextAble_14 ?_
        have hf_7 := hO.r (j := 11) ha0 hk0 (rfl : zX 8 11 = some (7, 0))
        refine lv_iload_n hx hb dX9_nextAble_17 rfl (lv_at hl 0 rfl) ?_
        refine zcS (zrV (As := [.int x_6]) (b := zr K a0 11) (rest := []) C hs hP hS (c_X8_placeOf l D K hO vi va vg hI (zr K a0 11) hf_7.1 hf_7.2.1 x_6) m_X8_placeOf wm_X9_156 (zrecv hs hP hf_7.1 (zF_7 hf_7.2.1) rfl) ⟨by decide, by decide⟩ hl.1 (Nat.le_of_ble_eq_true rfl) dX9_nextAble_18) (fun x_8 p_8 => ?_)
        refine lv_iconst (v := (-1)) hx hb dX9_nextAble_21 (by decide) ?_
        refine bi_ne (tgt := 35) hx hb rfl ti_m1 dX9_nextAble_22 (by decide) (fun c_9 => ?_) (fun c_9 => ?_)
        · skip
          obtain ⟨x_10, ex_10⟩ : ∃ y : Int32, y = y_1 + 1 := ⟨_, rfl⟩
          refine lv_iinc (v := x_10) (lv' := [(2, .int x_10), (3, .int x_6), (0, .ref a0), (1, .int x1)]) hx hb dX9_nextAble_35 hl (k := 1) rfl (by rw [ex_10]; rfl) (by decide) rfl (fun ls hl => ?_)
          refine lv_goto (tgt := 2) hx hb dX9_nextAble_38 (by decide) ?_
          have g_11 := z_rng y_1
          obtain ⟨f_10, l_10, u_10⟩ := z_add ex_10 rfl ti_1
          have g_12 := z_rng x_8
          exact ih_2 x_10 _ (by omega) (by omega) (lv_sub hl [0, 2, 3] rfl)
        · skip
          refine lv_aload_n hx hb dX9_nextAble_25 rfl (lv_at hl 2 rfl) ?_
          refine lv_iload_n hx hb dX9_nextAble_26 rfl (lv_at hl 0 rfl) ?_
          refine zcS (zrV (As := [.int x_6]) (b := a0) (rest := []) C hs hP hS (c_X9_canLay l D K hO vi va vg hI a0 ha0 hk0 x_6) m_X9_canLay wm_X9_159 (zrecv hs hP ha0 (zF_8 hk0) rfl) ⟨by decide, by decide⟩ hl.1 (Nat.le_of_ble_eq_true rfl) dX9_nextAble_27) (fun x_13 p_13 => ?_)
          refine bz_eq (tgt := 35) hx hb rfl dX9_nextAble_30 (by decide) (fun c_14 => ?_) (fun c_14 => ?_)
          · skip
            obtain ⟨x_15, ex_15⟩ : ∃ y : Int32, y = y_1 + 1 := ⟨_, rfl⟩
            refine lv_iinc (v := x_15) (lv' := [(2, .int x_15), (3, .int x_6), (0, .ref a0), (1, .int x1)]) hx hb dX9_nextAble_35 hl (k := 1) rfl (by rw [ex_15]; rfl) (by decide) rfl (fun ls hl => ?_)
            refine lv_goto (tgt := 2) hx hb dX9_nextAble_38 (by decide) ?_
            have g_16 := z_rng y_1
            obtain ⟨f_15, l_15, u_15⟩ := z_add ex_15 rfl ti_1
            have g_17 := z_rng x_8
            have g_18 := z_rng x_13
            exact ih_2 x_15 _ (by omega) (by omega) (lv_sub hl [0, 2, 3] rfl)
          · skip
            refine lv_iload_n hx hb dX9_nextAble_33 rfl (lv_at hl 0 rfl) ?_
            exact zaS hQ hx hb hr hlk trivial dX9_nextAble_34
  exact L_2_2 _ 0 _ (Nat.lt_succ_self _) (by simp only [ti_0]; omega) (lv_sub hl [0, 1, 2] rfl)
set_option maxHeartbeats 4000000 in
set_option maxRecDepth 100000 in
theorem c_X9_dealHands (l : Launch) (D : va_G) (K : zK) (hO : zOk K) (vi va : Nat → Nat → Int32) (vg : Nat → Nat → Option Nat) (hI : zI K (vi, va, vg)) (a0 : Nat) (ha0 : a0 ∈ zl K) (hk0 : zk K a0 = 8) (x1 : Int32) : Met l yX9_dealHands (zc yX9_dealHands cX9_dealHands 5 none) (rmd 2) (va_Pc [.ref a0, .int x1] (zB D K (vi, va, vg))) (zQv D K (fun V' => zI K V' ∧ V'.2.2 = vg)) 0 0 (zA K) := by
  refine zin (by decide) (Nat.le_of_ble_eq_true rfl) ?_
  intro p e s m args below meth c ls Q hQ C hr hlk hP hs hl
  have C : CallFix p m c cX9_dealHands 5 s args zw RX9 := C
  obtain ⟨hx, hb, hml, hown, hts⟩ := id C
  have hS : va_S (zA K) s.heap s.heap [] := va_S.rf
  have hl : lv_has ls 5 [(0, .ref a0), (1, .int x1)] := hl
  refine lv_iconst (v := 0) hx hb dX9_dealHands_0 (by decide) ?_
  refine lv_istore_n (lv' := [(2, .int 0), (0, .ref a0), (1, .int x1)]) hx hb dX9_dealHands_1 rfl hl (by decide) rfl (fun ls hl => ?_)
  refine lv_iconst (v := 0) hx hb dX9_dealHands_2 (by decide) ?_
  refine lv_istore_n (lv' := [(3, .int 0), (2, .int 0), (0, .ref a0), (1, .int x1)]) hx hb dX9_dealHands_3 rfl hl (by decide) rfl (fun ls hl => ?_)
  have L_4_3 : ∀ (n_3 : Nat) (vi_4 : Nat → Nat → Int32) (va_4 : Nat → Nat → Int32) (H : Heap) (locs : List Loc) (y_1 : Int32) (y_2 : Int32) (ls : Array Slot), (2147483648 - y_1.toInt).toNat < n_3 → 0 ≤ y_1.toInt → zI K (vi_4, va_4, vg) → va_P D vwCl (zW K (vi_4, va_4, vg)) H → va_S (zA K) s.heap H locs → lv_has ls 5 [(3, .int y_1), (2, .int y_2), (0, .ref a0), (1, .int x1)] → W p l e (rmd 2) s m args below meth c H locs 0 0 Q (F0 m 4 ls []) := by
    intro n_3
    induction n_3 with
    | zero => intro vi_4 va_4 H locs y_1 y_2 ls hm_3; exact absurd hm_3 (Nat.not_lt_zero _)
    | succ n_3 ih_3 =>
      intro vi_4 va_4 H locs y_1 y_2 ls hm_3 iv_4_0 hI hP hS hl
      refine lv_iload_n hx hb dX9_dealHands_4 rfl (lv_at hl 0 rfl) ?_
      refine lv_iconst (v := 4) hx hb dX9_dealHands_5 (by decide) ?_
      refine bi_ge (tgt := 94) hx hb rfl ti_4 dX9_dealHands_6 (by decide) (fun c_6 => ?_) (fun c_6 => ?_)
      · skip
        refine lv_aload_n hx hb dX9_dealHands_94 rfl (lv_at hl 2 rfl) ?_
        refine zg_8_9 C hs hP ha0 hk0 wf_X9_30 dX9_dealHands_95 ?_
        have hf_69 := hO.r (j := 9) ha0 hk0 (rfl : zX 8 9 = some (7, 0))
        refine zg_7_1 C hs hP hf_69.1 hf_69.2.1 wf_X9_110 dX9_dealHands_98 ?_
        refine lv_iload_n hx hb dX9_dealHands_101 rfl (lv_at hl 1 rfl) ?_
        refine lv_isub hx hb dX9_dealHands_102 ?_
        refine lv_topi (fun x_70 ex_70 => ?_)
        refine lv_istore_n (lv' := [(3, .int x_70), (2, .int y_2), (0, .ref a0), (1, .int x1)]) hx hb dX9_dealHands_103 rfl hl (by decide) rfl (fun ls hl => ?_)
        refine lv_iconst (v := 0) hx hb dX9_dealHands_104 (by decide) ?_
        refine lv_istore (lv' := [(4, .int 0), (3, .int x_70), (2, .int y_2), (0, .ref a0), (1, .int x1)]) hx hb dX9_dealHands_105 hl (by decide) rfl (fun ls hl => ?_)
        have L_107_72 : ∀ (n_72 : Nat) (vi_73 : Nat → Nat → Int32) (va_73 : Nat → Nat → Int32) (H : Heap) (locs : List Loc) (y_71 : Int32) (ls : Array Slot), (2147483648 - y_71.toInt).toNat < n_72 → 0 ≤ y_71.toInt → zI K (vi_73, va_73, vg) → va_P D vwCl (zW K (vi_73, va_73, vg)) H → va_S (zA K) s.heap H locs → lv_has ls 5 [(4, .int y_71), (3, .int x_70), (2, .int y_2), (0, .ref a0), (1, .int x1)] → W p l e (rmd 2) s m args below meth c H locs 0 0 Q (F0 m 107 ls []) := by
          intro n_72
          induction n_72 with
          | zero => intro vi_73 va_73 H locs y_71 ls hm_72; exact absurd hm_72 (Nat.not_lt_zero _)
          | succ n_72 ih_72 =>
            intro vi_73 va_73 H locs y_71 ls hm_72 iv_73_0 hI hP hS hl
            refine lv_iload hx hb dX9_dealHands_107 (lv_at hl 0 rfl) ?_
            refine lv_iload_n hx hb dX9_dealHands_109 rfl (lv_at hl 1 rfl) ?_
            refine bi_ge (tgt := 132) hx hb rfl rfl dX9_dealHands_110 (by decide) (fun c_75 => ?_) (fun c_75 => ?_)
            · skip
              refine lv_aload_n hx hb dX9_dealHands_132 rfl (lv_at hl 3 rfl) ?_
              refine zg_8_9 C hs hP ha0 hk0 wf_X9_30 dX9_dealHands_133 ?_
              refine lv_iload_n hx hb dX9_dealHands_136 rfl (lv_at hl 1 rfl) ?_
              refine kp_7_1 C hO hs hP hS hf_69.1 hf_69.2.1 wf_X9_110 hI dX9_dealHands_137 (fun vi_76 H locs hI hP hS => ?_)
              exact zaV hQ hx hb hr hlk hP hS ⟨hI, rfl⟩ dX9_dealHands_140
            · skip
              refine lv_aload_n hx hb dX9_dealHands_113 rfl (lv_at hl 3 rfl) ?_
              refine zg_8_9 C hs hP ha0 hk0 wf_X9_30 dX9_dealHands_114 ?_
              refine lv_iload hx hb dX9_dealHands_117 (lv_at hl 0 rfl) ?_
              refine lv_iload_n hx hb dX9_dealHands_119 rfl (lv_at hl 2 rfl) ?_
              refine lv_iload hx hb dX9_dealHands_120 (lv_at hl 0 rfl) ?_
              refine lv_iadd hx hb dX9_dealHands_122 ?_
              refine lv_topi (fun x_77 ex_77 => ?_)
              refine zcV (zrV (As := [.int y_71, .int x_77]) (b := zr K a0 9) (rest := []) C hs hP hS (c_X8_swap l D K hO vi_73 va_73 vg hI (zr K a0 9) hf_69.1 hf_69.2.1 y_71 x_77) m_X8_swap wm_X9_133 (zrecv hs hP hf_69.1 (zF_7 hf_69.2.1) rfl) ⟨by decide, by decide⟩ hl.1 (Nat.le_of_ble_eq_true rfl) dX9_dealHands_123) hS (fun V_78 H locs p_78 hP hS => ?_)
              obtain ⟨vi_78, va_78, vg_78⟩ := V_78
              obtain ⟨hI, hg_78⟩ := p_78
              try dsimp only at hI hg_78
              replace hg_78 := hg_78.symm
              subst hg_78
              obtain ⟨x_79, ex_79⟩ : ∃ y : Int32, y = y_71 + 1 := ⟨_, rfl⟩
              refine lv_iinc (v := x_79) (lv' := [(4, .int x_79), (3, .int x_70), (2, .int y_2), (0, .ref a0), (1, .int x1)]) hx hb dX9_dealHands_126 hl (k := 0) rfl (by rw [ex_79]; rfl) (by decide) rfl (fun ls hl => ?_)
              refine lv_goto (tgt := 107) hx hb dX9_dealHands_129 (by decide) ?_
              have g_80 := z_rng y_71
              obtain ⟨f_79, l_79, u_79⟩ := z_add ex_79 rfl ti_1
              have g_81 := z_rng x_70
              have g_82 := z_rng (vi_4 (zr K a0 9) 1)
              have g_83 := z_rng y_2
              obtain ⟨f_70, l_70, u_70⟩ := z_sub ex_70 rfl rfl
              exact ih_72 vi_78 va_78 _ _ x_79 _ (by omega) (by omega) hI hP hS (lv_sub hl [0, 1, 2, 3, 4] rfl)
        have g_84 := z_rng y_1
        exact L_107_72 _ vi_4 va_4 _ _ 0 _ (Nat.lt_succ_self _) (by simp only [ti_0]; omega) hI hP hS (lv_sub hl [0, 1, 2, 3, 4] rfl)
      · skip
        refine lv_aload_n hx hb dX9_dealHands_9 rfl (lv_at hl 2 rfl) ?_
        refine lv_iload_n hx hb dX9_dealHands_10 rfl (lv_at hl 0 rfl) ?_
        refine zcS (zrV (As := [.int y_1]) (b := a0) (rest := []) C hs hP hS (c_X9_isTaken l D K hO vi_4 va_4 vg hI a0 ha0 hk0 y_1) m_X9_isTaken wm_X9_150 (zrecv hs hP ha0 (zF_8 hk0) rfl) ⟨by decide, by decide⟩ hl.1 (Nat.le_of_ble_eq_true rfl) dX9_dealHands_11) (fun x_85 p_85 => ?_)
        have J_88_114 : ∀ (vi_115 : Nat → Nat → Int32) (va_115 : Nat → Nat → Int32) (H : Heap) (locs : List Loc) (y_113 : Int32) (ls : Array Slot), zI K (vi_115, va_115, vg) → va_P D vwCl (zW K (vi_115, va_115, vg)) H → va_S (zA K) s.heap H locs → lv_has ls 5 [(0, .ref a0), (1, .int x1), (2, .int y_113), (3, .int y_1)] → W p l e (rmd 2) s m args below meth c H locs 0 0 Q (F0 m 88 ls []) := by
          intro vi_115 va_115 H locs y_113 ls hI hP hS hl
          obtain ⟨x_117, ex_117⟩ : ∃ y : Int32, y = y_1 + 1 := ⟨_, rfl⟩
          refine lv_iinc (v := x_117) (lv' := [(3, .int x_117), (0, .ref a0), (1, .int x1), (2, .int y_113)]) hx hb dX9_dealHands_88 hl (k := 3) rfl (by rw [ex_117]; rfl) (by decide) rfl (fun ls hl => ?_)
          refine lv_goto (tgt := 4) hx hb dX9_dealHands_91 (by decide) ?_
          have g_118 := z_rng y_1
          obtain ⟨f_117, l_117, u_117⟩ := z_add ex_117 rfl ti_1
          have g_119 := z_rng y_113
          exact ih_3 vi_115 va_115 _ _ x_117 y_113 _ (by omega) (by omega) hI hP hS (lv_sub hl [0, 3, 1, 2] rfl)
        refine bz_eq (tgt := 88) hx hb rfl dX9_dealHands_14 (by decide) (fun c_86 => ?_) (fun c_86 => ?_)
        · skip
          exact J_88_114 vi_4 va_4 _ _ y_2 _ hI hP hS (lv_sub hl [2, 3, 1, 0] rfl)
        · skip
          refine lv_aload_n hx hb dX9_dealHands_17 rfl (lv_at hl 2 rfl) ?_
          refine zg_8_12 C hs hP ha0 hk0 wf_X9_40 dX9_dealHands_18 ?_
          have hf_120 := hO.r (j := 12) ha0 hk0 (rfl : zX 8 12 = some (23, 4))
          refine lv_iload_n hx hb dX9_dealHands_21 rfl (lv_at hl 0 rfl) ?_
          have g_122 := z_rng y_1
          have hin_121 : vp_in y_1 (zn K (zr K a0 12)) := vp_in_iff.mpr (by rw [(hf_120.2.2 (by decide))]; refine ⟨?_, ?_⟩ <;> omega)
          refine zld_23 C hs hP hf_120.1 hf_120.2.1 hin_121 dX9_dealHands_22 ?_
          have hf_123 := zel_23 hO hf_120.1 hf_120.2.1 hin_121
          refine lv_iconst (v := 0) hx hb dX9_dealHands_23 (by decide) ?_
          refine kp_7_1 C hO hs hP hS hf_123.1 hf_123.2 wf_X9_110 hI dX9_dealHands_24 (fun vi_124 H locs hI hP hS => ?_)
          refine lv_iconst (v := 0) hx hb dX9_dealHands_27 (by decide) ?_
          refine lv_istore (lv' := [(4, .int 0), (3, .int y_1), (2, .int y_2), (0, .ref a0), (1, .int x1)]) hx hb dX9_dealHands_28 hl (by decide) rfl (fun ls hl => ?_)
          have L_30_127 : ∀ (n_127 : Nat) (vi_128 : Nat → Nat → Int32) (va_128 : Nat → Nat → Int32) (H : Heap) (locs : List Loc) (y_125 : Int32) (y_126 : Int32) (ls : Array Slot), (2147483648 - y_125.toInt).toNat < n_127 → 0 ≤ y_125.toInt → zI K (vi_128, va_128, vg) → va_P D vwCl (zW K (vi_128, va_128, vg)) H → va_S (zA K) s.heap H locs → lv_has ls 5 [(4, .int y_125), (3, .int y_1), (2, .int y_126), (0, .ref a0), (1, .int x1)] → W p l e (rmd 2) s m args below meth c H locs 0 0 Q (F0 m 30 ls []) := by
            intro n_127
            induction n_127 with
            | zero => intro vi_128 va_128 H locs y_125 y_126 ls hm_127; exact absurd hm_127 (Nat.not_lt_zero _)
            | succ n_127 ih_127 =>
              intro vi_128 va_128 H locs y_125 y_126 ls hm_127 iv_128_0 hI hP hS hl
              refine lv_iload hx hb dX9_dealHands_30 (lv_at hl 0 rfl) ?_
              refine lv_iload_n hx hb dX9_dealHands_32 rfl (lv_at hl 4 rfl) ?_
              refine bi_ge (tgt := 88) hx hb rfl rfl dX9_dealHands_33 (by decide) (fun c_130 => ?_) (fun c_130 => ?_)
              · skip
                exact J_88_114 vi_128 va_128 _ _ y_126 _ hI hP hS (lv_sub hl [3, 4, 2, 1] rfl)
              · skip
                refine lv_iload_n hx hb dX9_dealHands_36 rfl (lv_at hl 2 rfl) ?_
                refine lv_aload_n hx hb dX9_dealHands_37 rfl (lv_at hl 3 rfl) ?_
                refine zg_8_9 C hs hP ha0 hk0 wf_X9_30 dX9_dealHands_38 ?_
                have hf_131 := hO.r (j := 9) ha0 hk0 (rfl : zX 8 9 = some (7, 0))
                refine zg_7_1 C hs hP hf_131.1 hf_131.2.1 wf_X9_110 dX9_dealHands_41 ?_
                refine bi_ge (tgt := 88) hx hb rfl rfl dX9_dealHands_44 (by decide) (fun c_132 => ?_) (fun c_132 => ?_)
                · skip
                  exact J_88_114 vi_128 va_128 _ _ y_126 _ hI hP hS (lv_sub hl [3, 4, 2, 1] rfl)
                · skip
                  refine lv_aload_n hx hb dX9_dealHands_47 rfl (lv_at hl 3 rfl) ?_
                  refine zg_8_12 C hs hP ha0 hk0 wf_X9_40 dX9_dealHands_48 ?_
                  refine lv_iload_n hx hb dX9_dealHands_51 rfl (lv_at hl 1 rfl) ?_
                  have hin_133 : vp_in y_1 (zn K (zr K a0 12)) := vp_in_iff.mpr (by rw [(hf_120.2.2 (by decide))]; refine ⟨?_, ?_⟩ <;> omega)
                  refine zld_23 C hs hP hf_120.1 hf_120.2.1 hin_133 dX9_dealHands_52 ?_
                  refine lv_aload_n hx hb dX9_dealHands_53 rfl (lv_at hl 3 rfl) ?_
                  refine zg_8_9 C hs hP ha0 hk0 wf_X9_30 dX9_dealHands_54 ?_
                  refine lv_iload_n hx hb dX9_dealHands_57 rfl (lv_at hl 2 rfl) ?_
                  refine zcS (zrV (As := [.int y_126]) (b := zr K a0 9) (rest := [.ref (zr K (zr K a0 12) y_1.toNatClampNeg)]) C hs hP hS (c_X8_at l D K hO vi_128 va_128 vg hI (zr K a0 9) hf_131.1 hf_131.2.1 y_126) m_X8_at wm_X9_123 (zrecv hs hP hf_131.1 (zF_7 hf_131.2.1) rfl) ⟨by decide, by decide⟩ hl.1 (Nat.le_of_ble_eq_true rfl) dX9_dealHands_58) (fun x_134 p_134 => ?_)
                  refine zcV (zrV (As := [.int x_134]) (b := zr K (zr K a0 12) y_1.toNatClampNeg) (rest := []) C hs hP hS (c_X8_add l D K hO vi_128 va_128 vg hI (zr K (zr K a0 12) y_1.toNatClampNeg) hf_123.1 hf_123.2 x_134) m_X8_add wm_X9_116 (zrecv hs hP hf_123.1 (zF_7 hf_123.2) rfl) ⟨by decide, by decide⟩ hl.1 (Nat.le_of_ble_eq_true rfl) dX9_dealHands_61) hS (fun V_135 H locs p_135 hP hS => ?_)
                  obtain ⟨vi_135, va_135, vg_135⟩ := V_135
                  obtain ⟨hI, hg_135⟩ := p_135
                  try dsimp only at hI hg_135
                  replace hg_135 := hg_135.symm
                  subst hg_135
                  refine lv_aload_n hx hb dX9_dealHands_64 rfl (lv_at hl 3 rfl) ?_
                  refine lv_aload_n hx hb dX9_dealHands_65 rfl (lv_at hl 3 rfl) ?_
                  refine zg_8_9 C hs hP ha0 hk0 wf_X9_30 dX9_dealHands_66 ?_
                  refine lv_iload_n hx hb dX9_dealHands_69 rfl (lv_at hl 2 rfl) ?_
                  refine zcS (zrV (As := [.int y_126]) (b := zr K a0 9) (rest := [.ref a0]) C hs hP hS (c_X8_at l D K hO vi_135 va_135 vg hI (zr K a0 9) hf_131.1 hf_131.2.1 y_126) m_X8_at wm_X9_123 (zrecv hs hP hf_131.1 (zF_7 hf_131.2.1) rfl) ⟨by decide, by decide⟩ hl.1 (Nat.le_of_ble_eq_true rfl) dX9_dealHands_70) (fun x_136 p_136 => ?_)
                  refine lv_iconst (v := 1) hx hb dX9_dealHands_73 (by decide) ?_
                  refine lv_iload_n hx hb dX9_dealHands_74 rfl (lv_at hl 1 rfl) ?_
                  refine lv_iadd hx hb dX9_dealHands_75 ?_
                  refine lv_topi (fun x_137 ex_137 => ?_)
                  refine zcV (zrV (As := [.int x_136, .int x_137]) (b := a0) (rest := []) C hs hP hS (c_X9_moveTo l D K hO vi_135 va_135 vg hI a0 ha0 hk0 x_136 x_137) m_X9_moveTo wm_X9_127 (zrecv hs hP ha0 (zF_8 hk0) rfl) ⟨by decide, by decide⟩ hl.1 (Nat.le_of_ble_eq_true rfl) dX9_dealHands_76) hS (fun V_138 H locs p_138 hP hS => ?_)
                  obtain ⟨vi_138, va_138, vg_138⟩ := V_138
                  obtain ⟨hI, hg_138⟩ := p_138
                  try dsimp only at hI hg_138
                  replace hg_138 := hg_138.symm
                  subst hg_138
                  obtain ⟨x_139, ex_139⟩ : ∃ y : Int32, y = y_126 + 1 := ⟨_, rfl⟩
                  refine lv_iinc (v := x_139) (lv' := [(2, .int x_139), (4, .int y_125), (3, .int y_1), (0, .ref a0), (1, .int x1)]) hx hb dX9_dealHands_79 hl (k := 2) rfl (by rw [ex_139]; rfl) (by decide) rfl (fun ls hl => ?_)
                  obtain ⟨x_140, ex_140⟩ : ∃ y : Int32, y = y_125 + 1 := ⟨_, rfl⟩
                  refine lv_iinc (v := x_140) (lv' := [(4, .int x_140), (2, .int x_139), (3, .int y_1), (0, .ref a0), (1, .int x1)]) hx hb dX9_dealHands_82 hl (k := 1) rfl (by rw [ex_140]; rfl) (by decide) rfl (fun ls hl => ?_)
                  refine lv_goto (tgt := 30) hx hb dX9_dealHands_85 (by decide) ?_
                  have g_141 := z_rng y_125
                  obtain ⟨f_140, l_140, u_140⟩ := z_add ex_140 rfl ti_1
                  have g_142 := z_rng y_126
                  obtain ⟨f_139, l_139, u_139⟩ := z_add ex_139 rfl ti_1
                  have g_143 := z_rng (vi_128 (zr K a0 9) 1)
                  have g_144 := z_rng x1
                  exact ih_127 vi_138 va_138 _ _ x_140 x_139 _ (by omega) (by omega) hI hP hS (lv_sub hl [0, 2, 1, 3, 4] rfl)
          have g_145 := z_rng y_2
          have g_146 := z_rng x_85
          exact L_30_127 _ vi_124 va_4 _ _ 0 y_2 _ (Nat.lt_succ_self _) (by simp only [ti_0]; omega) hI hP hS (lv_sub hl [0, 1, 2, 3, 4] rfl)
  exact L_4_3 _ vi va _ _ 0 0 _ (Nat.lt_succ_self _) (by simp only [ti_0, ti_0]; omega) hI hP hS (lv_sub hl [0, 1, 2, 3] rfl)
set_option maxHeartbeats 4000000 in
set_option maxRecDepth 100000 in
theorem c_X9_isBegun (l : Launch) (D : va_G) (K : zK) (hO : zOk K) (vi va : Nat → Nat → Int32) (vg : Nat → Nat → Option Nat) (hI : zI K (vi, va, vg)) (a0 : Nat) (ha0 : a0 ∈ zl K) (hk0 : zk K a0 = 8) : Met l yX9_isBegun (zc yX9_isBegun cX9_isBegun 1 (some .boolean)) (rmd 0) (va_Pc [.ref a0] (zB D K (vi, va, vg))) (vp_Si (fun r => (r = 0 ∨ r = 1))) 0 0 (fun _ => False) := by
  refine zin (by decide) (Nat.le_of_ble_eq_true rfl) ?_
  intro p e s m args below meth c ls Q hQ C hr hlk hP hs hl
  have C : CallFix p m c cX9_isBegun 1 s args zw RX9 := C
  obtain ⟨hx, hb, hml, hown, hts⟩ := id C
  have hS : va_S (zA K) s.heap s.heap [] := va_S.rf
  have hl : lv_has ls 1 [(0, .ref a0)] := hl
  refine lv_aload_n hx hb dX9_isBegun_0 rfl (lv_at hl 0 rfl) ?_
  refine zg_8_13 C hs hP ha0 hk0 wf_X9_47 dX9_isBegun_1 ?_
  have hf_1 := hO.r (j := 13) ha0 hk0 (rfl : zX 8 13 = some (1, 0))
  refine zg_1_8 C hs hP hf_1.1 hf_1.2.1 wf_X9_162 dX9_isBegun_4 ?_
  have hv_2 : 0 ≤ (vi (zr K a0 13) 8).toInt ∧ (vi (zr K a0 13) 8).toInt ≤ 15 := hI.1 _ hf_1.1 hf_1.2.1
  refine bz_gt (tgt := 20) hx hb rfl dX9_isBegun_7 (by decide) (fun c_3 => ?_) (fun c_3 => ?_)
  · skip
    refine lv_iconst (v := 1) hx hb dX9_isBegun_20 (by decide) ?_
    refine lv_goto (tgt := 25) hx hb dX9_isBegun_21 (by decide) ?_
    exact zaSz hQ hx hb hr hlk (Or.inr rfl) (Or.inr rfl) dX9_isBegun_25
  · skip
    refine lv_aload_n hx hb dX9_isBegun_10 rfl (lv_at hl 0 rfl) ?_
    refine zg_8_10 C hs hP ha0 hk0 wf_X9_34 dX9_isBegun_11 ?_
    have hf_4 := hO.r (j := 10) ha0 hk0 (rfl : zX 8 10 = some (7, 0))
    refine zg_7_1 C hs hP hf_4.1 hf_4.2.1 wf_X9_110 dX9_isBegun_14 ?_
    refine bz_le (tgt := 24) hx hb rfl dX9_isBegun_17 (by decide) (fun c_5 => ?_) (fun c_5 => ?_)
    · skip
      refine lv_iconst (v := 0) hx hb dX9_isBegun_24 (by decide) ?_
      exact zaSz hQ hx hb hr hlk (Or.inl rfl) (Or.inl rfl) dX9_isBegun_25
    · skip
      refine lv_iconst (v := 1) hx hb dX9_isBegun_20 (by decide) ?_
      refine lv_goto (tgt := 25) hx hb dX9_isBegun_21 (by decide) ?_
      exact zaSz hQ hx hb hr hlk (Or.inr rfl) (Or.inr rfl) dX9_isBegun_25
set_option maxHeartbeats 4000000 in
set_option maxRecDepth 100000 in
theorem c_X9_canDouble (l : Launch) (D : va_G) (K : zK) (hO : zOk K) (vi va : Nat → Nat → Int32) (vg : Nat → Nat → Option Nat) (hI : zI K (vi, va, vg)) (a0 : Nat) (ha0 : a0 ∈ zl K) (hk0 : zk K a0 = 8) (x1 : Int32) : Met l yX9_canDouble (zc yX9_canDouble cX9_canDouble 4 (some .boolean)) (rmd 2) (va_Pc [.ref a0, .int x1] (zB D K (vi, va, vg))) (vp_Si (fun r => (r = 0 ∨ r = 1))) 0 0 (fun _ => False) := by
  refine zin (by decide) (Nat.le_of_ble_eq_true rfl) ?_
  intro p e s m args below meth c ls Q hQ C hr hlk hP hs hl
  have C : CallFix p m c cX9_canDouble 4 s args zw RX9 := C
  obtain ⟨hx, hb, hml, hown, hts⟩ := id C
  have hS : va_S (zA K) s.heap s.heap [] := va_S.rf
  have hl : lv_has ls 4 [(0, .ref a0), (1, .int x1)] := hl
  refine lv_aload_n hx hb dX9_canDouble_0 rfl (lv_at hl 0 rfl) ?_
  refine zg_8_13 C hs hP ha0 hk0 wf_X9_47 dX9_canDouble_1 ?_
  have hf_1 := hO.r (j := 13) ha0 hk0 (rfl : zX 8 13 = some (1, 0))
  refine zg_1_6 C hs hP hf_1.1 hf_1.2.1 wf_X9_189 dX9_canDouble_4 ?_
  refine lv_iconst (v := 1) hx hb dX9_canDouble_7 (by decide) ?_
  refine lv_iand hx hb dX9_canDouble_8 ?_
  refine lv_topi (fun x_2 ex_2 => ?_)
  refine lv_iload_n hx hb dX9_canDouble_9 rfl (lv_at hl 1 rfl) ?_
  refine lv_iconst (v := 1) hx hb dX9_canDouble_10 (by decide) ?_
  refine lv_iand hx hb dX9_canDouble_11 ?_
  refine lv_topi (fun x_3 ex_3 => ?_)
  have J_20_6 : ∀ (y_5 : Int32) (ls : Array Slot), (y_5 = 0 ∨ y_5 = 1) → lv_has ls 4 [(0, .ref a0), (1, .int x1)] → W p l e (rmd 2) s m args below meth c s.heap [] 0 0 Q (F0 m 20 ls [.int y_5]) := by
    intro y_5 ls hb_y_5 hl
    refine lv_istore_n (lv' := [(2, .int y_5), (0, .ref a0), (1, .int x1)]) hx hb dX9_canDouble_20 rfl hl (by decide) rfl (fun ls hl => ?_)
    refine lv_aload_n hx hb dX9_canDouble_21 rfl (lv_at hl 1 rfl) ?_
    refine zg_8_13 C hs hP ha0 hk0 wf_X9_47 dX9_canDouble_22 ?_
    refine zg_1_7 C hs hP hf_1.1 hf_1.2.1 wf_X9_192 dX9_canDouble_25 ?_
    have J_55_15 : ∀ (y_14 : Int32) (ls : Array Slot), (y_14 = 0 ∨ y_14 = 1) → lv_has ls 4 [(0, .ref a0), (1, .int x1), (2, .int y_5)] → W p l e (rmd 2) s m args below meth c s.heap [] 0 0 Q (F0 m 55 ls [.int y_14]) := by
      intro y_14 ls hb_y_14 hl
      refine lv_istore_n (lv' := [(3, .int y_14), (0, .ref a0), (1, .int x1), (2, .int y_5)]) hx hb dX9_canDouble_55 rfl hl (by decide) rfl (fun ls hl => ?_)
      refine lv_aload_n hx hb dX9_canDouble_56 rfl (lv_at hl 1 rfl) ?_
      refine zg_8_13 C hs hP ha0 hk0 wf_X9_47 dX9_canDouble_57 ?_
      refine zg_1_4 C hs hP hf_1.1 hf_1.2.1 wf_X9_195 dX9_canDouble_60 ?_
      refine bz_le (tgt := 89) hx hb rfl dX9_canDouble_63 (by decide) (fun c_17 => ?_) (fun c_17 => ?_)
      · skip
        refine lv_iconst (v := 0) hx hb dX9_canDouble_89 (by decide) ?_
        exact zaSz hQ hx hb hr hlk (Or.inl rfl) (Or.inl rfl) dX9_canDouble_90
      · skip
        refine lv_aload_n hx hb dX9_canDouble_66 rfl (lv_at hl 1 rfl) ?_
        refine zcS (zrV (As := []) (b := a0) (rest := []) C hs hP hS (c_X9_isBegun l D K hO vi va vg hI a0 ha0 hk0) m_X9_isBegun wm_X9_173 (zrecv hs hP ha0 (zF_8 hk0) rfl) ⟨by decide, by decide⟩ hl.1 (Nat.le_of_ble_eq_true rfl) dX9_canDouble_67) (fun x_18 p_18 => ?_)
        refine bz_ne (tgt := 89) hx hb rfl dX9_canDouble_70 (by decide) (fun c_19 => ?_) (fun c_19 => ?_)
        · skip
          refine lv_iconst (v := 0) hx hb dX9_canDouble_89 (by decide) ?_
          exact zaSz hQ hx hb hr hlk (Or.inl rfl) (Or.inl rfl) dX9_canDouble_90
        · skip
          refine lv_aload_n hx hb dX9_canDouble_73 rfl (lv_at hl 1 rfl) ?_
          refine lv_iload_n hx hb dX9_canDouble_74 rfl (lv_at hl 2 rfl) ?_
          refine zcS (zrV (As := [.int x1]) (b := a0) (rest := []) C hs hP hS (c_X9_isTaken l D K hO vi va vg hI a0 ha0 hk0 x1) m_X9_isTaken wm_X9_150 (zrecv hs hP ha0 (zF_8 hk0) rfl) ⟨by decide, by decide⟩ hl.1 (Nat.le_of_ble_eq_true rfl) dX9_canDouble_75) (fun x_20 p_20 => ?_)
          refine bz_eq (tgt := 89) hx hb rfl dX9_canDouble_78 (by decide) (fun c_21 => ?_) (fun c_21 => ?_)
          · skip
            refine lv_iconst (v := 0) hx hb dX9_canDouble_89 (by decide) ?_
            exact zaSz hQ hx hb hr hlk (Or.inl rfl) (Or.inl rfl) dX9_canDouble_90
          · skip
            refine lv_iload_n hx hb dX9_canDouble_81 rfl (lv_at hl 0 rfl) ?_
            refine bz_eq (tgt := 89) hx hb rfl dX9_canDouble_82 (by decide) (fun c_22 => ?_) (fun c_22 => ?_)
            · skip
              refine lv_iconst (v := 0) hx hb dX9_canDouble_89 (by decide) ?_
              exact zaSz hQ hx hb hr hlk (Or.inl rfl) (Or.inl rfl) dX9_canDouble_90
            · skip
              refine lv_iconst (v := 1) hx hb dX9_canDouble_85 (by decide) ?_
              refine lv_goto (tgt := 90) hx hb dX9_canDouble_86 (by decide) ?_
              exact zaSz hQ hx hb hr hlk (Or.inr rfl) (Or.inr rfl) dX9_canDouble_90
    refine bz_ne (tgt := 35) hx hb rfl dX9_canDouble_28 (by decide) (fun c_8 => ?_) (fun c_8 => ?_)
    · skip
      refine lv_aload_n hx hb dX9_canDouble_35 rfl (lv_at hl 1 rfl) ?_
      refine zg_8_13 C hs hP ha0 hk0 wf_X9_47 dX9_canDouble_36 ?_
      refine zg_1_7 C hs hP hf_1.1 hf_1.2.1 wf_X9_192 dX9_canDouble_39 ?_
      refine lv_iconst (v := 1) hx hb dX9_canDouble_42 (by decide) ?_
      refine bi_ne (tgt := 54) hx hb rfl ti_1 dX9_canDouble_43 (by decide) (fun c_23 => ?_) (fun c_23 => ?_)
      · skip
        refine lv_iconst (v := 0) hx hb dX9_canDouble_54 (by decide) ?_
        exact J_55_15 0 _ (Or.inl rfl) (lv_sub hl [1, 2, 0] rfl)
      · skip
        refine lv_iload_n hx hb dX9_canDouble_46 rfl (lv_at hl 0 rfl) ?_
        refine bz_eq (tgt := 54) hx hb rfl dX9_canDouble_47 (by decide) (fun c_24 => ?_) (fun c_24 => ?_)
        · skip
          refine lv_iconst (v := 0) hx hb dX9_canDouble_54 (by decide) ?_
          exact J_55_15 0 _ (Or.inl rfl) (lv_sub hl [1, 2, 0] rfl)
        · skip
          refine lv_iconst (v := 1) hx hb dX9_canDouble_50 (by decide) ?_
          refine lv_goto (tgt := 55) hx hb dX9_canDouble_51 (by decide) ?_
          exact J_55_15 1 _ (Or.inr rfl) (lv_sub hl [1, 2, 0] rfl)
    · skip
      refine lv_iload_n hx hb dX9_canDouble_31 rfl (lv_at hl 0 rfl) ?_
      refine bz_eq (tgt := 50) hx hb rfl dX9_canDouble_32 (by decide) (fun c_25 => ?_) (fun c_25 => ?_)
      · skip
        refine lv_iconst (v := 1) hx hb dX9_canDouble_50 (by decide) ?_
        refine lv_goto (tgt := 55) hx hb dX9_canDouble_51 (by decide) ?_
        exact J_55_15 1 _ (Or.inr rfl) (lv_sub hl [1, 2, 0] rfl)
      · skip
        refine lv_aload_n hx hb dX9_canDouble_35 rfl (lv_at hl 1 rfl) ?_
        refine zg_8_13 C hs hP ha0 hk0 wf_X9_47 dX9_canDouble_36 ?_
        refine zg_1_7 C hs hP hf_1.1 hf_1.2.1 wf_X9_192 dX9_canDouble_39 ?_
        refine lv_iconst (v := 1) hx hb dX9_canDouble_42 (by decide) ?_
        refine bi_ne (tgt := 54) hx hb rfl ti_1 dX9_canDouble_43 (by decide) (fun c_26 => ?_) (fun c_26 => ?_)
        · skip
          refine lv_iconst (v := 0) hx hb dX9_canDouble_54 (by decide) ?_
          exact J_55_15 0 _ (Or.inl rfl) (lv_sub hl [1, 2, 0] rfl)
        · skip
          refine lv_iload_n hx hb dX9_canDouble_46 rfl (lv_at hl 0 rfl) ?_
          refine bz_eq (tgt := 54) hx hb rfl dX9_canDouble_47 (by decide) (fun c_27 => ?_) (fun c_27 => ?_)
          · skip
            refine lv_iconst (v := 0) hx hb dX9_canDouble_54 (by decide) ?_
            exact J_55_15 0 _ (Or.inl rfl) (lv_sub hl [1, 2, 0] rfl)
          · skip
            refine lv_iconst (v := 1) hx hb dX9_canDouble_50 (by decide) ?_
            refine lv_goto (tgt := 55) hx hb dX9_canDouble_51 (by decide) ?_
            exact J_55_15 1 _ (Or.inr rfl) (lv_sub hl [1, 2, 0] rfl)
  refine bi_ne (tgt := 19) hx hb rfl rfl dX9_canDouble_12 (by decide) (fun c_4 => ?_) (fun c_4 => ?_)
  · skip
    refine lv_iconst (v := 0) hx hb dX9_canDouble_19 (by decide) ?_
    exact J_20_6 0 _ (Or.inl rfl) (lv_sub hl [0, 1] rfl)
  · skip
    refine lv_iconst (v := 1) hx hb dX9_canDouble_15 (by decide) ?_
    refine lv_goto (tgt := 20) hx hb dX9_canDouble_16 (by decide) ?_
    exact J_20_6 1 _ (Or.inr rfl) (lv_sub hl [0, 1] rfl)
set_option maxHeartbeats 4000000 in
set_option maxRecDepth 100000 in
theorem c_X9_findingOf (l : Launch) (D : va_G) (K : zK) (hO : zOk K) (vi va : Nat → Nat → Int32) (vg : Nat → Nat → Option Nat) (hI : zI K (vi, va, vg)) (a0 : Nat) (ha0 : a0 ∈ zl K) (hk0 : zk K a0 = 8) (x1 : Int32) (x2 : Int32) (x3 : Int32) : Met l yX9_findingOf (zc yX9_findingOf cX9_findingOf 5 (some .int)) (rmd 2) (va_Pc [.ref a0, .int x1, .int x2, .int x3] (zB D K (vi, va, vg))) (vp_Si (fun r => True)) 0 0 (fun _ => False) := by
  refine zin (by decide) (Nat.le_of_ble_eq_true rfl) ?_
  intro p e s m args below meth c ls Q hQ C hr hlk hP hs hl
  have C : CallFix p m c cX9_findingOf 5 s args zw RX9 := C
  obtain ⟨hx, hb, hml, hown, hts⟩ := id C
  have hS : va_S (zA K) s.heap s.heap [] := va_S.rf
  have hl : lv_has ls 5 [(0, .ref a0), (1, .int x1), (2, .int x2), (3, .int x3)] := hl
  refine lv_aload_n hx hb dX9_findingOf_0 rfl (lv_at hl 0 rfl) ?_
  refine lv_iload_n hx hb dX9_findingOf_1 rfl (lv_at hl 1 rfl) ?_
  refine zcSq (zrV (As := [.int x1]) (b := a0) (rest := []) C hs hP hS (c_X9_handOf l D K hO vi va vg hI a0 ha0 hk0 x1) m_X9_handOf wm_X9_119 (zrecv hs hP ha0 (zF_8 hk0) rfl) ⟨by decide, by decide⟩ hl.1 (Nat.le_of_ble_eq_true rfl) dX9_findingOf_2) (fun p_1 => ?_) (fun q_1 p_1 => ?_)
  · skip
    obtain ⟨q9, h9, -⟩ := p_1; cases h9
  · skip
    obtain ⟨q9, h9, h8, h7⟩ := p_1
    cases h9
    have h8_q_1 := h8; have h7_q_1 := h7; clear h8 h7
    refine lv_astore (lv' := [(4, .ref q_1), (0, .ref a0), (1, .int x1), (2, .int x2), (3, .int x3)]) hx hb dX9_findingOf_5 hl (by decide) rfl (fun ls hl => ?_)
    refine lv_aload_n hx hb dX9_findingOf_7 rfl (lv_at hl 1 rfl) ?_
    refine lv_iload_n hx hb dX9_findingOf_8 rfl (lv_at hl 2 rfl) ?_
    refine zcS (zrV (As := [.int x1]) (b := a0) (rest := []) C hs hP hS (c_X9_isTaken l D K hO vi va vg hI a0 ha0 hk0 x1) m_X9_isTaken wm_X9_150 (zrecv hs hP ha0 (zF_8 hk0) rfl) ⟨by decide, by decide⟩ hl.1 (Nat.le_of_ble_eq_true rfl) dX9_findingOf_9) (fun x_2 p_2 => ?_)
    refine bz_ne (tgt := 17) hx hb rfl dX9_findingOf_12 (by decide) (fun c_3 => ?_) (fun c_3 => ?_)
    · skip
      refine lv_aload hx hb dX9_findingOf_17 (lv_at hl 0 rfl) ?_
      refine zg_7_1 C hs hP h8_q_1 h7_q_1 wf_X9_110 dX9_findingOf_19 ?_
      refine bz_ge (tgt := 27) hx hb rfl dX9_findingOf_22 (by decide) (fun c_4 => ?_) (fun c_4 => ?_)
      · skip
        refine lv_iload_n hx hb dX9_findingOf_27 rfl (lv_at hl 3 rfl) ?_
        refine bz_lt (tgt := 40) hx hb rfl dX9_findingOf_28 (by decide) (fun c_5 => ?_) (fun c_5 => ?_)
        · skip
          refine lv_iconst (v := 3) hx hb dX9_findingOf_40 (by decide) ?_
          exact zaS hQ hx hb hr hlk trivial dX9_findingOf_41
        · skip
          refine lv_iload_n hx hb dX9_findingOf_31 rfl (lv_at hl 3 rfl) ?_
          refine lv_aload hx hb dX9_findingOf_32 (lv_at hl 0 rfl) ?_
          refine zg_7_1 C hs hP h8_q_1 h7_q_1 wf_X9_110 dX9_findingOf_34 ?_
          refine bi_lt (tgt := 42) hx hb rfl rfl dX9_findingOf_37 (by decide) (fun c_6 => ?_) (fun c_6 => ?_)
          · skip
            refine lv_iload_n hx hb dX9_findingOf_42 rfl (lv_at hl 4 rfl) ?_
            refine bz_eq (tgt := 59) hx hb rfl dX9_findingOf_43 (by decide) (fun c_7 => ?_) (fun c_7 => ?_)
            · skip
              refine lv_aload_n hx hb dX9_findingOf_59 rfl (lv_at hl 1 rfl) ?_
              refine lv_aload hx hb dX9_findingOf_60 (lv_at hl 0 rfl) ?_
              refine lv_iload_n hx hb dX9_findingOf_62 rfl (lv_at hl 3 rfl) ?_
              refine zcS (zrV (As := [.int x2]) (b := q_1) (rest := [.ref a0]) C hs hP hS (c_X8_at l D K hO vi va vg hI q_1 h8_q_1 h7_q_1 x2) m_X8_at wm_X9_123 (zrecv hs hP h8_q_1 (zF_7 h7_q_1) rfl) ⟨by decide, by decide⟩ hl.1 (Nat.le_of_ble_eq_true rfl) dX9_findingOf_63) (fun x_8 p_8 => ?_)
              refine zcS (zrV (As := [.int x_8]) (b := a0) (rest := []) C hs hP hS (c_X9_colourOf l D K hO vi va vg hI a0 ha0 hk0 x_8) m_X9_colourOf wm_X9_153 (zrecv hs hP ha0 (zF_8 hk0) rfl) ⟨by decide, by decide⟩ hl.1 (Nat.le_of_ble_eq_true rfl) dX9_findingOf_66) (fun x_9 p_9 => ?_)
              refine lv_bipush (v := 6) hx hb dX9_findingOf_69 (by decide) ?_
              refine bi_ne (tgt := 78) hx hb rfl ti_6 dX9_findingOf_71 (by decide) (fun c_10 => ?_) (fun c_10 => ?_)
              · skip
                refine lv_iconst (v := 0) hx hb dX9_findingOf_78 (by decide) ?_
                exact zaS hQ hx hb hr hlk trivial dX9_findingOf_79
              · skip
                refine lv_iconst (v := 5) hx hb dX9_findingOf_74 (by decide) ?_
                refine lv_goto (tgt := 79) hx hb dX9_findingOf_75 (by decide) ?_
                exact zaS hQ hx hb hr hlk trivial dX9_findingOf_79
            · skip
              refine lv_aload_n hx hb dX9_findingOf_46 rfl (lv_at hl 1 rfl) ?_
              refine zg_8_13 C hs hP ha0 hk0 wf_X9_47 dX9_findingOf_47 ?_
              have hf_11 := hO.r (j := 13) ha0 hk0 (rfl : zX 8 13 = some (1, 0))
              refine zg_1_2 C hs hP hf_11.1 hf_11.2.1 wf_X9_147 dX9_findingOf_50 ?_
              refine lv_iload_n hx hb dX9_findingOf_53 rfl (lv_at hl 2 rfl) ?_
              refine bi_eq (tgt := 59) hx hb rfl rfl dX9_findingOf_54 (by decide) (fun c_12 => ?_) (fun c_12 => ?_)
              · skip
                refine lv_aload_n hx hb dX9_findingOf_59 rfl (lv_at hl 1 rfl) ?_
                refine lv_aload hx hb dX9_findingOf_60 (lv_at hl 0 rfl) ?_
                refine lv_iload_n hx hb dX9_findingOf_62 rfl (lv_at hl 3 rfl) ?_
                refine zcS (zrV (As := [.int x2]) (b := q_1) (rest := [.ref a0]) C hs hP hS (c_X8_at l D K hO vi va vg hI q_1 h8_q_1 h7_q_1 x2) m_X8_at wm_X9_123 (zrecv hs hP h8_q_1 (zF_7 h7_q_1) rfl) ⟨by decide, by decide⟩ hl.1 (Nat.le_of_ble_eq_true rfl) dX9_findingOf_63) (fun x_13 p_13 => ?_)
                refine zcS (zrV (As := [.int x_13]) (b := a0) (rest := []) C hs hP hS (c_X9_colourOf l D K hO vi va vg hI a0 ha0 hk0 x_13) m_X9_colourOf wm_X9_153 (zrecv hs hP ha0 (zF_8 hk0) rfl) ⟨by decide, by decide⟩ hl.1 (Nat.le_of_ble_eq_true rfl) dX9_findingOf_66) (fun x_14 p_14 => ?_)
                refine lv_bipush (v := 6) hx hb dX9_findingOf_69 (by decide) ?_
                refine bi_ne (tgt := 78) hx hb rfl ti_6 dX9_findingOf_71 (by decide) (fun c_15 => ?_) (fun c_15 => ?_)
                · skip
                  refine lv_iconst (v := 0) hx hb dX9_findingOf_78 (by decide) ?_
                  exact zaS hQ hx hb hr hlk trivial dX9_findingOf_79
                · skip
                  refine lv_iconst (v := 5) hx hb dX9_findingOf_74 (by decide) ?_
                  refine lv_goto (tgt := 79) hx hb dX9_findingOf_75 (by decide) ?_
                  exact zaS hQ hx hb hr hlk trivial dX9_findingOf_79
              · skip
                refine lv_iconst (v := 4) hx hb dX9_findingOf_57 (by decide) ?_
                exact zaS hQ hx hb hr hlk trivial dX9_findingOf_58
          · skip
            refine lv_iconst (v := 3) hx hb dX9_findingOf_40 (by decide) ?_
            exact zaS hQ hx hb hr hlk trivial dX9_findingOf_41
      · skip
        refine lv_iconst (v := 2) hx hb dX9_findingOf_25 (by decide) ?_
        exact zaS hQ hx hb hr hlk trivial dX9_findingOf_26
    · skip
      refine lv_iconst (v := 1) hx hb dX9_findingOf_15 (by decide) ?_
      exact zaS hQ hx hb hr hlk trivial dX9_findingOf_16
set_option maxHeartbeats 4000000 in
set_option maxRecDepth 100000 in
theorem c_X9_giveCard (l : Launch) (D : va_G) (K : zK) (hO : zOk K) (vi va : Nat → Nat → Int32) (vg : Nat → Nat → Option Nat) (hI : zI K (vi, va, vg)) (a0 : Nat) (ha0 : a0 ∈ zl K) (hk0 : zk K a0 = 8) (x1 : Int32) (x2 : Int32) : Met l yX9_giveCard (zc yX9_giveCard cX9_giveCard 3 (some .int)) (rmd 3) (va_Pc [.ref a0, .int x1, .int x2] (zB D K (vi, va, vg))) (zQi D K (fun r V' => zI K V' ∧ V'.2.2 = vg)) 0 0 (zA K) := by
  refine zin (by decide) (Nat.le_of_ble_eq_true rfl) ?_
  intro p e s m args below meth c ls Q hQ C hr hlk hP hs hl
  have C : CallFix p m c cX9_giveCard 3 s args zw RX9 := C
  obtain ⟨hx, hb, hml, hown, hts⟩ := id C
  have hS : va_S (zA K) s.heap s.heap [] := va_S.rf
  have hl : lv_has ls 3 [(0, .ref a0), (1, .int x1), (2, .int x2)] := hl
  refine lv_aload_n hx hb dX9_giveCard_0 rfl (lv_at hl 0 rfl) ?_
  refine zg_8_9 C hs hP ha0 hk0 wf_X9_30 dX9_giveCard_1 ?_
  have hf_1 := hO.r (j := 9) ha0 hk0 (rfl : zX 8 9 = some (7, 0))
  refine lv_aload_n hx hb dX9_giveCard_4 rfl (lv_at hl 0 rfl) ?_
  refine zg_8_9 C hs hP ha0 hk0 wf_X9_30 dX9_giveCard_5 ?_
  refine lv_iload_n hx hb dX9_giveCard_8 rfl (lv_at hl 2 rfl) ?_
  refine zcS (zrV (As := [.int x2]) (b := zr K a0 9) (rest := [.ref (zr K a0 9)]) C hs hP hS (c_X8_placeOf l D K hO vi va vg hI (zr K a0 9) hf_1.1 hf_1.2.1 x2) m_X8_placeOf wm_X9_156 (zrecv hs hP hf_1.1 (zF_7 hf_1.2.1) rfl) ⟨by decide, by decide⟩ hl.1 (Nat.le_of_ble_eq_true rfl) dX9_giveCard_9) (fun x_2 p_2 => ?_)
  refine zcI (zrV (As := [.int x_2]) (b := zr K a0 9) (rest := []) C hs hP hS (c_X8_takeAt l D K hO vi va vg hI (zr K a0 9) hf_1.1 hf_1.2.1 x_2) m_X8_takeAt wm_X9_179 (zrecv hs hP hf_1.1 (zF_7 hf_1.2.1) rfl) ⟨by decide, by decide⟩ hl.1 (Nat.le_of_ble_eq_true rfl) dX9_giveCard_12) hS (fun x_3 V_3 H locs p_3 hP hS => ?_)
  obtain ⟨vi_3, va_3, vg_3⟩ := V_3
  obtain ⟨hI, hg_3⟩ := p_3
  try dsimp only at hI hg_3
  replace hg_3 := hg_3.symm
  subst hg_3
  refine lv_pop hx hb dX9_giveCard_15 rfl ?_
  refine lv_aload_n hx hb dX9_giveCard_16 rfl (lv_at hl 0 rfl) ?_
  refine lv_iload_n hx hb dX9_giveCard_17 rfl (lv_at hl 1 rfl) ?_
  refine zcSq (zrV (As := [.int x1]) (b := a0) (rest := []) C hs hP hS (c_X9_handOf l D K hO vi_3 va_3 vg hI a0 ha0 hk0 x1) m_X9_handOf wm_X9_119 (zrecv hs hP ha0 (zF_8 hk0) rfl) ⟨by decide, by decide⟩ hl.1 (Nat.le_of_ble_eq_true rfl) dX9_giveCard_18) (fun p_4 => ?_) (fun q_4 p_4 => ?_)
  · skip
    obtain ⟨q9, h9, -⟩ := p_4; cases h9
  · skip
    obtain ⟨q9, h9, h8, h7⟩ := p_4
    cases h9
    have h8_q_4 := h8; have h7_q_4 := h7; clear h8 h7
    refine lv_iload_n hx hb dX9_giveCard_21 rfl (lv_at hl 2 rfl) ?_
    refine zcV (zrV (As := [.int x2]) (b := q_4) (rest := []) C hs hP hS (c_X8_add l D K hO vi_3 va_3 vg hI q_4 h8_q_4 h7_q_4 x2) m_X8_add wm_X9_116 (zrecv hs hP h8_q_4 (zF_7 h7_q_4) rfl) ⟨by decide, by decide⟩ hl.1 (Nat.le_of_ble_eq_true rfl) dX9_giveCard_22) hS (fun V_5 H locs p_5 hP hS => ?_)
    obtain ⟨vi_5, va_5, vg_5⟩ := V_5
    obtain ⟨hI, hg_5⟩ := p_5
    try dsimp only at hI hg_5
    replace hg_5 := hg_5.symm
    subst hg_5
    refine lv_aload_n hx hb dX9_giveCard_25 rfl (lv_at hl 0 rfl) ?_
    refine lv_iload_n hx hb dX9_giveCard_26 rfl (lv_at hl 2 rfl) ?_
    refine lv_iconst (v := 1) hx hb dX9_giveCard_27 (by decide) ?_
    refine lv_iload_n hx hb dX9_giveCard_28 rfl (lv_at hl 1 rfl) ?_
    refine lv_iadd hx hb dX9_giveCard_29 ?_
    refine lv_topi (fun x_6 ex_6 => ?_)
    refine zcV (zrV (As := [.int x2, .int x_6]) (b := a0) (rest := []) C hs hP hS (c_X9_moveTo l D K hO vi_5 va_5 vg hI a0 ha0 hk0 x2 x_6) m_X9_moveTo wm_X9_127 (zrecv hs hP ha0 (zF_8 hk0) rfl) ⟨by decide, by decide⟩ hl.1 (Nat.le_of_ble_eq_true rfl) dX9_giveCard_30) hS (fun V_7 H locs p_7 hP hS => ?_)
    obtain ⟨vi_7, va_7, vg_7⟩ := V_7
    obtain ⟨hI, hg_7⟩ := p_7
    try dsimp only at hI hg_7
    replace hg_7 := hg_7.symm
    subst hg_7
    refine lv_aload_n hx hb dX9_giveCard_33 rfl (lv_at hl 0 rfl) ?_
    refine zg_8_13 C hs hP ha0 hk0 wf_X9_47 dX9_giveCard_34 ?_
    have hf_8 := hO.r (j := 13) ha0 hk0 (rfl : zX 8 13 = some (1, 0))
    refine lv_aload_n hx hb dX9_giveCard_37 rfl (lv_at hl 0 rfl) ?_
    refine lv_iconst (v := 0) hx hb dX9_giveCard_38 (by decide) ?_
    refine zcS (zrV (As := [.int 0]) (b := a0) (rest := [.ref (zr K a0 13)]) C hs hP hS (c_X9_nextAble l D K hO vi_7 va_7 vg hI a0 ha0 hk0 0) m_X9_nextAble wm_X9_144 (zrecv hs hP ha0 (zF_8 hk0) rfl) ⟨by decide, by decide⟩ hl.1 (Nat.le_of_ble_eq_true rfl) dX9_giveCard_39) (fun x_9 p_9 => ?_)
    refine kp_1_2 C hO hs hP hS hf_8.1 hf_8.2.1 wf_X9_147 hI dX9_giveCard_42 (fun vi_10 H locs hI hP hS => ?_)
    refine lv_aload_n hx hb dX9_giveCard_45 rfl (lv_at hl 0 rfl) ?_
    refine lv_iload_n hx hb dX9_giveCard_46 rfl (lv_at hl 1 rfl) ?_
    refine zcSq (zrV (As := [.int x1]) (b := a0) (rest := []) C hs hP hS (c_X9_handOf l D K hO vi_10 va_7 vg hI a0 ha0 hk0 x1) m_X9_handOf wm_X9_119 (zrecv hs hP ha0 (zF_8 hk0) rfl) ⟨by decide, by decide⟩ hl.1 (Nat.le_of_ble_eq_true rfl) dX9_giveCard_47) (fun p_11 => ?_) (fun q_11 p_11 => ?_)
    · skip
      obtain ⟨q9, h9, -⟩ := p_11; cases h9
    · skip
      obtain ⟨q9, h9, h8, h7⟩ := p_11
      cases h9
      have h8_q_11 := h8; have h7_q_11 := h7; clear h8 h7
      refine zg_7_1 C hs hP h8_q_11 h7_q_11 wf_X9_110 dX9_giveCard_50 ?_
      exact zaI hQ hx hb hr hlk hP hS ⟨hI, rfl⟩ dX9_giveCard_53
set_option maxHeartbeats 4000000 in
set_option maxRecDepth 100000 in
theorem c_X9_putRight (l : Launch) (D : va_G) (K : zK) (hO : zOk K) (vi va : Nat → Nat → Int32) (vg : Nat → Nat → Option Nat) (hI : zI K (vi, va, vg)) (a0 : Nat) (ha0 : a0 ∈ zl K) (hk0 : zk K a0 = 8) (x1 : Int32) (x2 : Int32) : Met l yX9_putRight (zc yX9_putRight cX9_putRight 5 none) (rmd 2) (va_Pc [.ref a0, .int x1, .int x2] (zB D K (vi, va, vg))) (zQv D K (fun V' => zI K V' ∧ V'.2.2 = vg)) 0 0 (zA K) := by
  refine zin (by decide) (Nat.le_of_ble_eq_true rfl) ?_
  intro p e s m args below meth c ls Q hQ C hr hlk hP hs hl
  have C : CallFix p m c cX9_putRight 5 s args zw RX9 := C
  obtain ⟨hx, hb, hml, hown, hts⟩ := id C
  have hS : va_S (zA K) s.heap s.heap [] := va_S.rf
  have hl : lv_has ls 5 [(0, .ref a0), (1, .int x1), (2, .int x2)] := hl
  refine lv_iload_n hx hb dX9_putRight_0 rfl (lv_at hl 1 rfl) ?_
  refine lv_iconst (v := 1) hx hb dX9_putRight_1 (by decide) ?_
  refine lv_iand hx hb dX9_putRight_2 ?_
  refine lv_topi (fun x_1 ex_1 => ?_)
  refine lv_istore_n (lv' := [(3, .int x_1), (0, .ref a0), (1, .int x1), (2, .int x2)]) hx hb dX9_putRight_3 rfl hl (by decide) rfl (fun ls hl => ?_)
  refine lv_iload_n hx hb dX9_putRight_4 rfl (lv_at hl 3 rfl) ?_
  refine bz_lt (tgt := 27) hx hb rfl dX9_putRight_5 (by decide) (fun c_2 => ?_) (fun c_2 => ?_)
  · skip
    exact zaV hQ hx hb hr hlk hP hS ⟨hI, rfl⟩ dX9_putRight_27
  · skip
    refine lv_iload_n hx hb dX9_putRight_8 rfl (lv_at hl 3 rfl) ?_
    refine lv_bipush (v := 15) hx hb dX9_putRight_9 (by decide) ?_
    refine bi_ge (tgt := 27) hx hb rfl ti_15 dX9_putRight_11 (by decide) (fun c_3 => ?_) (fun c_3 => ?_)
    · skip
      exact zaV hQ hx hb hr hlk hP hS ⟨hI, rfl⟩ dX9_putRight_27
    · skip
      refine lv_aload_n hx hb dX9_putRight_14 rfl (lv_at hl 1 rfl) ?_
      refine zg_8_13 C hs hP ha0 hk0 wf_X9_47 dX9_putRight_15 ?_
      have hf_4 := hO.r (j := 13) ha0 hk0 (rfl : zX 8 13 = some (1, 0))
      refine zg_1_13 C hs hP hf_4.1 hf_4.2.1 wf_X9_214 dX9_putRight_18 ?_
      have hf_5 := hO.r (j := 13) hf_4.1 hf_4.2.1 (rfl : zX 1 13 = some (20, 15))
      refine lv_iload_n hx hb dX9_putRight_21 rfl (lv_at hl 3 rfl) ?_
      have g_7 := z_rng x2
      have hin_6 : vp_in x2 (zn K (zr K (zr K a0 13) 13)) := vp_in_iff.mpr (by rw [(hf_5.2.2 (by decide))]; refine ⟨?_, ?_⟩ <;> omega)
      refine zld_20 C hs hP hf_5.1 hf_5.2.1 hin_6 dX9_putRight_22 ?_
      refine lv_iload_n hx hb dX9_putRight_23 rfl (lv_at hl 0 rfl) ?_
      refine bi_eq (tgt := 28) hx hb rfl rfl dX9_putRight_24 (by decide) (fun c_8 => ?_) (fun c_8 => ?_)
      · skip
        refine lv_aload_n hx hb dX9_putRight_28 rfl (lv_at hl 1 rfl) ?_
        refine zg_8_13 C hs hP ha0 hk0 wf_X9_47 dX9_putRight_29 ?_
        refine lv_iload_n hx hb dX9_putRight_32 rfl (lv_at hl 3 rfl) ?_
        refine lv_iconst (v := 1) hx hb dX9_putRight_33 (by decide) ?_
        refine lv_iload_n hx hb dX9_putRight_34 rfl (lv_at hl 0 rfl) ?_
        refine lv_isub hx hb dX9_putRight_35 ?_
        refine lv_topi (fun x_9 ex_9 => ?_)
        refine zcV (zrV (As := [.int x2, .int x_9]) (b := zr K a0 13) (rest := []) C hs hP hS (c_X1_moveTrick l D K hO vi va vg hI (zr K a0 13) hf_4.1 hf_4.2.1 x2 x_9) m_X1_moveTrick wm_X9_217 (zrecv hs hP hf_4.1 (zF_1 hf_4.2.1) rfl) ⟨by decide, by decide⟩ hl.1 (Nat.le_of_ble_eq_true rfl) dX9_putRight_36) hS (fun V_10 H locs p_10 hP hS => ?_)
        obtain ⟨vi_10, va_10, vg_10⟩ := V_10
        obtain ⟨hI, hg_10⟩ := p_10
        try dsimp only at hI hg_10
        replace hg_10 := hg_10.symm
        subst hg_10
        refine lv_iconst (v := 0) hx hb dX9_putRight_39 (by decide) ?_
        refine lv_istore (lv' := [(4, .int 0), (3, .int x_1), (0, .ref a0), (1, .int x1), (2, .int x2)]) hx hb dX9_putRight_40 hl (by decide) rfl (fun ls hl => ?_)
        have L_42_12 : ∀ (n_12 : Nat) (va_13 : Nat → Nat → Int32) (H : Heap) (locs : List Loc) (y_11 : Int32) (ls : Array Slot), (2147483648 - y_11.toInt).toNat < n_12 → 0 ≤ y_11.toInt → zI K (vi_10, va_13, vg) → va_P D vwCl (zW K (vi_10, va_13, vg)) H → va_S (zA K) s.heap H locs → lv_has ls 5 [(4, .int y_11), (3, .int x_1), (0, .ref a0), (1, .int x1), (2, .int x2)] → W p l e (rmd 2) s m args below meth c H locs 0 0 Q (F0 m 42 ls []) := by
          intro n_12
          induction n_12 with
          | zero => intro va_13 H locs y_11 ls hm_12; exact absurd hm_12 (Nat.not_lt_zero _)
          | succ n_12 ih_12 =>
            intro va_13 H locs y_11 ls hm_12 iv_13_0 hI hP hS hl
            refine lv_iload hx hb dX9_putRight_42 (lv_at hl 0 rfl) ?_
            refine lv_bipush (v := 60) hx hb dX9_putRight_44 (by decide) ?_
            refine bi_ge (tgt := 80) hx hb rfl ti_60 dX9_putRight_46 (by decide) (fun c_15 => ?_) (fun c_15 => ?_)
            · skip
              exact zaV hQ hx hb hr hlk hP hS ⟨hI, rfl⟩ dX9_putRight_80
            · skip
              refine lv_aload_n hx hb dX9_putRight_49 rfl (lv_at hl 2 rfl) ?_
              refine zg_8_13 C hs hP ha0 hk0 wf_X9_47 dX9_putRight_50 ?_
              refine zg_1_15 C hs hP hf_4.1 hf_4.2.1 wf_X9_205 dX9_putRight_53 ?_
              have hf_16 := hO.r (j := 15) hf_4.1 hf_4.2.1 (rfl : zX 1 15 = some (20, 60))
              refine lv_iload hx hb dX9_putRight_56 (lv_at hl 0 rfl) ?_
              have g_18 := z_rng y_11
              have hin_17 : vp_in y_11 (zn K (zr K (zr K a0 13) 15)) := vp_in_iff.mpr (by rw [(hf_16.2.2 (by decide))]; refine ⟨?_, ?_⟩ <;> omega)
              refine zld_20 C hs hP hf_16.1 hf_16.2.1 hin_17 dX9_putRight_58 ?_
              refine lv_iload_n hx hb dX9_putRight_59 rfl (lv_at hl 4 rfl) ?_
              have J_74_24 : ∀ (va_25 : Nat → Nat → Int32) (H : Heap) (locs : List Loc) (ls : Array Slot), zI K (vi_10, va_25, vg) → va_P D vwCl (zW K (vi_10, va_25, vg)) H → va_S (zA K) s.heap H locs → lv_has ls 5 [(0, .ref a0), (1, .int x1), (2, .int x2), (3, .int x_1), (4, .int y_11)] → W p l e (rmd 2) s m args below meth c H locs 0 0 Q (F0 m 74 ls []) := by
                intro va_25 H locs ls hI hP hS hl
                obtain ⟨x_27, ex_27⟩ : ∃ y : Int32, y = y_11 + 1 := ⟨_, rfl⟩
                refine lv_iinc (v := x_27) (lv' := [(4, .int x_27), (0, .ref a0), (1, .int x1), (2, .int x2), (3, .int x_1)]) hx hb dX9_putRight_74 hl (k := 4) rfl (by rw [ex_27]; rfl) (by decide) rfl (fun ls hl => ?_)
                refine lv_goto (tgt := 42) hx hb dX9_putRight_77 (by decide) ?_
                obtain ⟨f_27, l_27, u_27⟩ := z_add ex_27 rfl ti_1
                exact ih_12 va_25 _ _ x_27 _ (by omega) (by omega) hI hP hS (lv_sub hl [0, 4, 1, 2, 3] rfl)
              refine bi_ne (tgt := 74) hx hb rfl rfl dX9_putRight_60 (by decide) (fun c_19 => ?_) (fun c_19 => ?_)
              · skip
                exact J_74_24 va_13 _ _ _ hI hP hS (lv_sub hl [2, 3, 4, 1, 0] rfl)
              · skip
                refine lv_aload_n hx hb dX9_putRight_63 rfl (lv_at hl 2 rfl) ?_
                refine zg_8_6 C hs hP ha0 hk0 wf_X9_15 dX9_putRight_64 ?_
                have hf_28 := hO.r (j := 6) ha0 hk0 (rfl : zX 8 6 = some (20, 60))
                refine lv_iload hx hb dX9_putRight_67 (lv_at hl 0 rfl) ?_
                refine lv_bipush (v := 7) hx hb dX9_putRight_69 (by decide) ?_
                refine lv_iload_n hx hb dX9_putRight_71 rfl (lv_at hl 1 rfl) ?_
                refine lv_isub hx hb dX9_putRight_72 ?_
                refine lv_topi (fun x_29 ex_29 => ?_)
                have hin_30 : vp_in y_11 (zn K (zr K a0 6)) := vp_in_iff.mpr (by rw [(hf_28.2.2 (by decide))]; refine ⟨?_, ?_⟩ <;> omega)
                refine ks_20 C hO hs hP hS hf_28.1 hf_28.2.1 hI hin_30 dX9_putRight_73 (fun va_31 H locs hI hP hS => ?_)
                exact J_74_24 va_31 _ _ _ hI hP hS (lv_sub hl [2, 3, 4, 1, 0] rfl)
        have g_32 := z_rng (va (zr K (zr K a0 13) 13) x2.toNatClampNeg)
        have g_33 := z_rng x_1
        have f_1 := z_and ex_1 ti_1 (by decide)
        exact L_42_12 _ va_10 _ _ 0 _ (Nat.lt_succ_self _) (by simp only [ti_0]; omega) hI hP hS (lv_sub hl [0, 1, 2, 3, 4] rfl)
      · skip
        exact zaV hQ hx hb hr hlk hP hS ⟨hI, rfl⟩ dX9_putRight_27
set_option maxHeartbeats 4000000 in
set_option maxRecDepth 100000 in
theorem c_X9_layCard (l : Launch) (D : va_G) (K : zK) (hO : zOk K) (vi va : Nat → Nat → Int32) (vg : Nat → Nat → Option Nat) (hI : zI K (vi, va, vg)) (a0 : Nat) (ha0 : a0 ∈ zl K) (hk0 : zk K a0 = 8) (x1 : Int32) (x2 : Int32) (x3 : Int32) : Met l yX9_layCard (zc yX9_layCard cX9_layCard 5 (some .int)) (rmd 3) (va_Pc [.ref a0, .int x1, .int x2, .int x3] (zB D K (vi, va, vg))) (zQi D K (fun r V' => zI K V' ∧ V'.2.2 = vg)) 0 0 (zA K) := by
  refine zin (by decide) (Nat.le_of_ble_eq_true rfl) ?_
  intro p e s m args below meth c ls Q hQ C hr hlk hP hs hl
  have C : CallFix p m c cX9_layCard 5 s args zw RX9 := C
  obtain ⟨hx, hb, hml, hown, hts⟩ := id C
  have hS : va_S (zA K) s.heap s.heap [] := va_S.rf
  have hl : lv_has ls 5 [(0, .ref a0), (1, .int x1), (2, .int x2), (3, .int x3)] := hl
  refine lv_iload_n hx hb dX9_layCard_0 rfl (lv_at hl 3 rfl) ?_
  have J_24_7 : ∀ (vi_8 : Nat → Nat → Int32) (va_8 : Nat → Nat → Int32) (H : Heap) (locs : List Loc) (ls : Array Slot), zI K (vi_8, va_8, vg) → va_P D vwCl (zW K (vi_8, va_8, vg)) H → va_S (zA K) s.heap H locs → lv_has ls 5 [(0, .ref a0), (1, .int x1), (2, .int x2), (3, .int x3)] → W p l e (rmd 3) s m args below meth c H locs 0 0 Q (F0 m 24 ls []) := by
    intro vi_8 va_8 H locs ls hI hP hS hl
    refine lv_aload_n hx hb dX9_layCard_24 rfl (lv_at hl 0 rfl) ?_
    refine lv_iload_n hx hb dX9_layCard_25 rfl (lv_at hl 1 rfl) ?_
    refine zcSq (zrV (As := [.int x1]) (b := a0) (rest := []) C hs hP hS (c_X9_handOf l D K hO vi_8 va_8 vg hI a0 ha0 hk0 x1) m_X9_handOf wm_X9_119 (zrecv hs hP ha0 (zF_8 hk0) rfl) ⟨by decide, by decide⟩ hl.1 (Nat.le_of_ble_eq_true rfl) dX9_layCard_26) (fun p_10 => ?_) (fun q_10 p_10 => ?_)
    · skip
      obtain ⟨q9, h9, -⟩ := p_10; cases h9
    · skip
      obtain ⟨q9, h9, h8, h7⟩ := p_10
      cases h9
      have h8_q_10 := h8; have h7_q_10 := h7; clear h8 h7
      refine lv_iload_n hx hb dX9_layCard_29 rfl (lv_at hl 2 rfl) ?_
      refine zcI (zrV (As := [.int x2]) (b := q_10) (rest := []) C hs hP hS (c_X8_takeAt l D K hO vi_8 va_8 vg hI q_10 h8_q_10 h7_q_10 x2) m_X8_takeAt wm_X9_179 (zrecv hs hP h8_q_10 (zF_7 h7_q_10) rfl) ⟨by decide, by decide⟩ hl.1 (Nat.le_of_ble_eq_true rfl) dX9_layCard_30) hS (fun x_11 V_11 H locs p_11 hP hS => ?_)
      obtain ⟨vi_11, va_11, vg_11⟩ := V_11
      obtain ⟨hI, hg_11⟩ := p_11
      try dsimp only at hI hg_11
      replace hg_11 := hg_11.symm
      subst hg_11
      refine lv_istore (lv' := [(4, .int x_11), (0, .ref a0), (1, .int x1), (2, .int x2), (3, .int x3)]) hx hb dX9_layCard_33 hl (by decide) rfl (fun ls hl => ?_)
      refine lv_aload_n hx hb dX9_layCard_35 rfl (lv_at hl 1 rfl) ?_
      refine zg_8_10 C hs hP ha0 hk0 wf_X9_34 dX9_layCard_36 ?_
      have hf_12 := hO.r (j := 10) ha0 hk0 (rfl : zX 8 10 = some (7, 0))
      refine lv_iload hx hb dX9_layCard_39 (lv_at hl 0 rfl) ?_
      refine zcV (zrV (As := [.int x_11]) (b := zr K a0 10) (rest := []) C hs hP hS (c_X8_add l D K hO vi_11 va_11 vg hI (zr K a0 10) hf_12.1 hf_12.2.1 x_11) m_X8_add wm_X9_116 (zrecv hs hP hf_12.1 (zF_7 hf_12.2.1) rfl) ⟨by decide, by decide⟩ hl.1 (Nat.le_of_ble_eq_true rfl) dX9_layCard_41) hS (fun V_13 H locs p_13 hP hS => ?_)
      obtain ⟨vi_13, va_13, vg_13⟩ := V_13
      obtain ⟨hI, hg_13⟩ := p_13
      try dsimp only at hI hg_13
      replace hg_13 := hg_13.symm
      subst hg_13
      refine lv_aload_n hx hb dX9_layCard_44 rfl (lv_at hl 1 rfl) ?_
      refine zg_8_11 C hs hP ha0 hk0 wf_X9_37 dX9_layCard_45 ?_
      have hf_14 := hO.r (j := 11) ha0 hk0 (rfl : zX 8 11 = some (7, 0))
      refine lv_iload_n hx hb dX9_layCard_48 rfl (lv_at hl 2 rfl) ?_
      refine zcV (zrV (As := [.int x1]) (b := zr K a0 11) (rest := []) C hs hP hS (c_X8_add l D K hO vi_13 va_13 vg hI (zr K a0 11) hf_14.1 hf_14.2.1 x1) m_X8_add wm_X9_116 (zrecv hs hP hf_14.1 (zF_7 hf_14.2.1) rfl) ⟨by decide, by decide⟩ hl.1 (Nat.le_of_ble_eq_true rfl) dX9_layCard_49) hS (fun V_15 H locs p_15 hP hS => ?_)
      obtain ⟨vi_15, va_15, vg_15⟩ := V_15
      obtain ⟨hI, hg_15⟩ := p_15
      try dsimp only at hI hg_15
      replace hg_15 := hg_15.symm
      subst hg_15
      refine lv_aload_n hx hb dX9_layCard_52 rfl (lv_at hl 1 rfl) ?_
      refine lv_iload hx hb dX9_layCard_53 (lv_at hl 0 rfl) ?_
      refine lv_iconst (v := 5) hx hb dX9_layCard_55 (by decide) ?_
      refine zcV (zrV (As := [.int x_11, .int 5]) (b := a0) (rest := []) C hs hP hS (c_X9_moveTo l D K hO vi_15 va_15 vg hI a0 ha0 hk0 x_11 5) m_X9_moveTo wm_X9_127 (zrecv hs hP ha0 (zF_8 hk0) rfl) ⟨by decide, by decide⟩ hl.1 (Nat.le_of_ble_eq_true rfl) dX9_layCard_56) hS (fun V_16 H locs p_16 hP hS => ?_)
      obtain ⟨vi_16, va_16, vg_16⟩ := V_16
      obtain ⟨hI, hg_16⟩ := p_16
      try dsimp only at hI hg_16
      replace hg_16 := hg_16.symm
      subst hg_16
      refine lv_iload hx hb dX9_layCard_59 (lv_at hl 0 rfl) ?_
      have J_88_25 : ∀ (va_26 : Nat → Nat → Int32) (H : Heap) (locs : List Loc) (ls : Array Slot), zI K (vi_16, va_26, vg) → va_P D vwCl (zW K (vi_16, va_26, vg)) H → va_S (zA K) s.heap H locs → lv_has ls 5 [(0, .ref a0), (1, .int x1), (2, .int x2), (3, .int x3), (4, .int x_11)] → W p l e (rmd 3) s m args below meth c H locs 0 0 Q (F0 m 88 ls []) := by
        intro va_26 H locs ls hI hP hS hl
        refine lv_aload_n hx hb dX9_layCard_88 rfl (lv_at hl 0 rfl) ?_
        refine lv_iload_n hx hb dX9_layCard_89 rfl (lv_at hl 1 rfl) ?_
        refine lv_aload_n hx hb dX9_layCard_90 rfl (lv_at hl 0 rfl) ?_
        refine zg_8_13 C hs hP ha0 hk0 wf_X9_47 dX9_layCard_91 ?_
        have hf_28 := hO.r (j := 13) ha0 hk0 (rfl : zX 8 13 = some (1, 0))
        refine lv_iload_n hx hb dX9_layCard_94 rfl (lv_at hl 1 rfl) ?_
        refine lv_aload_n hx hb dX9_layCard_95 rfl (lv_at hl 0 rfl) ?_
        refine lv_iload hx hb dX9_layCard_96 (lv_at hl 4 rfl) ?_
        refine zcS (zrV (As := [.int x_11]) (b := a0) (rest := [.int x1, .ref (zr K a0 13), .int x1, .ref a0]) C hs hP hS (c_X9_colourOf l D K hO vi_16 va_26 vg hI a0 ha0 hk0 x_11) m_X9_colourOf wm_X9_153 (zrecv hs hP ha0 (zF_8 hk0) rfl) ⟨by decide, by decide⟩ hl.1 (Nat.le_of_ble_eq_true rfl) dX9_layCard_98) (fun x_29 p_29 => ?_)
        refine zcI (zrV (As := [.int x1, .int x_29]) (b := zr K a0 13) (rest := [.int x1, .ref a0]) C hs hP hS (c_X1_findRevoke l D K hO vi_16 va_26 vg hI (zr K a0 13) hf_28.1 hf_28.2.1 x1 x_29) m_X1_findRevoke wm_X9_208 (zrecv hs hP hf_28.1 (zF_1 hf_28.2.1) rfl) ⟨by decide, by decide⟩ hl.1 (Nat.le_of_ble_eq_true rfl) dX9_layCard_101) hS (fun x_30 V_30 H locs p_30 hP hS => ?_)
        obtain ⟨vi_30, va_30, vg_30⟩ := V_30
        obtain ⟨hI, hg_30⟩ := p_30
        try dsimp only at hI hg_30
        replace hg_30 := hg_30.symm
        subst hg_30
        refine zcV (zrV (As := [.int x1, .int x_30]) (b := a0) (rest := []) C hs hP hS (c_X9_putRight l D K hO vi_30 va_30 vg hI a0 ha0 hk0 x1 x_30) m_X9_putRight wm_X9_211 (zrecv hs hP ha0 (zF_8 hk0) rfl) ⟨by decide, by decide⟩ hl.1 (Nat.le_of_ble_eq_true rfl) dX9_layCard_104) hS (fun V_31 H locs p_31 hP hS => ?_)
        obtain ⟨vi_31, va_31, vg_31⟩ := V_31
        obtain ⟨hI, hg_31⟩ := p_31
        try dsimp only at hI hg_31
        replace hg_31 := hg_31.symm
        subst hg_31
        refine lv_aload_n hx hb dX9_layCard_107 rfl (lv_at hl 0 rfl) ?_
        refine zg_8_13 C hs hP ha0 hk0 wf_X9_47 dX9_layCard_108 ?_
        refine lv_aload_n hx hb dX9_layCard_111 rfl (lv_at hl 0 rfl) ?_
        refine lv_iload_n hx hb dX9_layCard_112 rfl (lv_at hl 1 rfl) ?_
        refine lv_iconst (v := 1) hx hb dX9_layCard_113 (by decide) ?_
        refine lv_iadd hx hb dX9_layCard_114 ?_
        refine lv_topi (fun x_32 ex_32 => ?_)
        refine zcS (zrV (As := [.int x_32]) (b := a0) (rest := [.ref (zr K a0 13)]) C hs hP hS (c_X9_nextAble l D K hO vi_31 va_31 vg hI a0 ha0 hk0 x_32) m_X9_nextAble wm_X9_144 (zrecv hs hP ha0 (zF_8 hk0) rfl) ⟨by decide, by decide⟩ hl.1 (Nat.le_of_ble_eq_true rfl) dX9_layCard_115) (fun x_33 p_33 => ?_)
        refine kp_1_2 C hO hs hP hS hf_28.1 hf_28.2.1 wf_X9_147 hI dX9_layCard_118 (fun vi_34 H locs hI hP hS => ?_)
        refine lv_iload hx hb dX9_layCard_121 (lv_at hl 4 rfl) ?_
        exact zaI hQ hx hb hr hlk hP hS ⟨hI, rfl⟩ dX9_layCard_123
      refine bz_lt (tgt := 88) hx hb rfl dX9_layCard_61 (by decide) (fun c_17 => ?_) (fun c_17 => ?_)
      · skip
        exact J_88_25 va_16 _ _ _ hI hP hS (lv_sub hl [1, 2, 3, 4, 0] rfl)
      · skip
        refine lv_iload hx hb dX9_layCard_64 (lv_at hl 0 rfl) ?_
        refine lv_bipush (v := 60) hx hb dX9_layCard_66 (by decide) ?_
        refine bi_ge (tgt := 88) hx hb rfl ti_60 dX9_layCard_68 (by decide) (fun c_35 => ?_) (fun c_35 => ?_)
        · skip
          exact J_88_25 va_16 _ _ _ hI hP hS (lv_sub hl [1, 2, 3, 4, 0] rfl)
        · skip
          refine lv_aload_n hx hb dX9_layCard_71 rfl (lv_at hl 1 rfl) ?_
          refine zg_8_13 C hs hP ha0 hk0 wf_X9_47 dX9_layCard_72 ?_
          have hf_36 := hO.r (j := 13) ha0 hk0 (rfl : zX 8 13 = some (1, 0))
          refine zg_1_15 C hs hP hf_36.1 hf_36.2.1 wf_X9_205 dX9_layCard_75 ?_
          have hf_37 := hO.r (j := 15) hf_36.1 hf_36.2.1 (rfl : zX 1 15 = some (20, 60))
          refine lv_iload hx hb dX9_layCard_78 (lv_at hl 0 rfl) ?_
          refine lv_aload_n hx hb dX9_layCard_80 rfl (lv_at hl 1 rfl) ?_
          refine zg_8_13 C hs hP ha0 hk0 wf_X9_47 dX9_layCard_81 ?_
          refine zg_1_8 C hs hP hf_36.1 hf_36.2.1 wf_X9_162 dX9_layCard_84 ?_
          have hv_38 : 0 ≤ (vi_16 (zr K a0 13) 8).toInt ∧ (vi_16 (zr K a0 13) 8).toInt ≤ 15 := hI.1 _ hf_36.1 hf_36.2.1
          have g_40 := z_rng x_11
          have hin_39 : vp_in x_11 (zn K (zr K (zr K a0 13) 15)) := vp_in_iff.mpr (by rw [(hf_37.2.2 (by decide))]; refine ⟨?_, ?_⟩ <;> omega)
          refine ks_20 C hO hs hP hS hf_37.1 hf_37.2.1 hI hin_39 dX9_layCard_87 (fun va_41 H locs hI hP hS => ?_)
          exact J_88_25 va_41 _ _ _ hI hP hS (lv_sub hl [1, 2, 3, 4, 0] rfl)
  refine bz_eq (tgt := 24) hx hb rfl dX9_layCard_1 (by decide) (fun c_1 => ?_) (fun c_1 => ?_)
  · skip
    exact J_24_7 vi va _ _ _ hI hP hS (lv_sub hl [0, 1, 2, 3] rfl)
  · skip
    refine lv_aload_n hx hb dX9_layCard_4 rfl (lv_at hl 0 rfl) ?_
    refine zg_8_13 C hs hP ha0 hk0 wf_X9_47 dX9_layCard_5 ?_
    have hf_42 := hO.r (j := 13) ha0 hk0 (rfl : zX 8 13 = some (1, 0))
    refine lv_iload_n hx hb dX9_layCard_8 rfl (lv_at hl 1 rfl) ?_
    refine lv_aload_n hx hb dX9_layCard_9 rfl (lv_at hl 0 rfl) ?_
    refine lv_aload_n hx hb dX9_layCard_10 rfl (lv_at hl 0 rfl) ?_
    refine zg_8_10 C hs hP ha0 hk0 wf_X9_34 dX9_layCard_11 ?_
    have hf_43 := hO.r (j := 10) ha0 hk0 (rfl : zX 8 10 = some (7, 0))
    refine lv_iconst (v := 0) hx hb dX9_layCard_14 (by decide) ?_
    refine zcS (zrV (As := [.int 0]) (b := zr K a0 10) (rest := [.ref a0, .int x1, .ref (zr K a0 13)]) C hs hP hS (c_X8_at l D K hO vi va vg hI (zr K a0 10) hf_43.1 hf_43.2.1 0) m_X8_at wm_X9_123 (zrecv hs hP hf_43.1 (zF_7 hf_43.2.1) rfl) ⟨by decide, by decide⟩ hl.1 (Nat.le_of_ble_eq_true rfl) dX9_layCard_15) (fun x_44 p_44 => ?_)
    refine zcS (zrV (As := [.int x_44]) (b := a0) (rest := [.int x1, .ref (zr K a0 13)]) C hs hP hS (c_X9_colourOf l D K hO vi va vg hI a0 ha0 hk0 x_44) m_X9_colourOf wm_X9_153 (zrecv hs hP ha0 (zF_8 hk0) rfl) ⟨by decide, by decide⟩ hl.1 (Nat.le_of_ble_eq_true rfl) dX9_layCard_18) (fun x_45 p_45 => ?_)
    refine zcV (zrV (As := [.int x1, .int x_45]) (b := zr K a0 13) (rest := []) C hs hP hS (c_X1_deny l D K hO vi va vg hI (zr K a0 13) hf_42.1 hf_42.2.1 x1 x_45) m_X1_deny wm_X9_202 (zrecv hs hP hf_42.1 (zF_1 hf_42.2.1) rfl) ⟨by decide, by decide⟩ hl.1 (Nat.le_of_ble_eq_true rfl) dX9_layCard_21) hS (fun V_46 H locs p_46 hP hS => ?_)
    obtain ⟨vi_46, va_46, vg_46⟩ := V_46
    obtain ⟨hI, hg_46⟩ := p_46
    try dsimp only at hI hg_46
    replace hg_46 := hg_46.symm
    subst hg_46
    exact J_24_7 vi_46 va_46 _ _ _ hI hP hS (lv_sub hl [0, 1, 2, 3] rfl)
set_option maxHeartbeats 4000000 in
set_option maxRecDepth 100000 in
theorem c_X9_begin (l : Launch) (D : va_G) (K : zK) (hO : zOk K) (vi va : Nat → Nat → Int32) (vg : Nat → Nat → Option Nat) (hI : zI K (vi, va, vg)) (a0 : Nat) (ha0 : a0 ∈ zl K) (hk0 : zk K a0 = 8) (x1 : Int32) (x2 : Int32) : Met l yX9_begin (zc yX9_begin cX9_begin 5 none) (rmd 3) (va_Pc [.ref a0, .int x1, .int x2] (zB D K (vi, va, vg))) (zQv D K (fun V' => zI K V' ∧ V'.2.2 = vg)) 0 0 (zA K) := by
  refine zin (by decide) (Nat.le_of_ble_eq_true rfl) ?_
  intro p e s m args below meth c ls Q hQ C hr hlk hP hs hl
  have C : CallFix p m c cX9_begin 5 s args zw RX9 := C
  obtain ⟨hx, hb, hml, hown, hts⟩ := id C
  have hS : va_S (zA K) s.heap s.heap [] := va_S.rf
  have hl : lv_has ls 5 [(0, .ref a0), (1, .int x1), (2, .int x2)] := hl
  refine lv_aload_n hx hb dX9_begin_0 rfl (lv_at hl 0 rfl) ?_
  refine zcV (zrV (As := []) (b := a0) (rest := []) C hs hP hS (c_X9_gatherCards l D K hO vi va vg hI a0 ha0 hk0) m_X9_gatherCards wm_X9_80 (zrecv hs hP ha0 (zF_8 hk0) rfl) ⟨by decide, by decide⟩ hl.1 (Nat.le_of_ble_eq_true rfl) dX9_begin_1) hS (fun V_1 H locs p_1 hP hS => ?_)
  obtain ⟨vi_1, va_1, vg_1⟩ := V_1
  obtain ⟨hI, hg_1⟩ := p_1
  try dsimp only at hI hg_1
  replace hg_1 := hg_1.symm
  subst hg_1
  refine lv_iload_n hx hb dX9_begin_4 rfl (lv_at hl 1 rfl) ?_
  refine lv_istore_n (lv' := [(3, .int x1), (0, .ref a0), (1, .int x1), (2, .int x2)]) hx hb dX9_begin_5 rfl hl (by decide) rfl (fun ls hl => ?_)
  refine lv_aload_n hx hb dX9_begin_6 rfl (lv_at hl 1 rfl) ?_
  refine zg_8_2 C hs hP ha0 hk0 wf_X9_61 dX9_begin_7 ?_
  refine lv_iconst (v := 1) hx hb dX9_begin_10 (by decide) ?_
  refine lv_isub hx hb dX9_begin_11 ?_
  refine lv_topi (fun x_2 ex_2 => ?_)
  refine lv_istore (lv' := [(4, .int x_2), (3, .int x1), (0, .ref a0), (1, .int x1), (2, .int x2)]) hx hb dX9_begin_12 hl (by decide) rfl (fun ls hl => ?_)
  have L_14_5 : ∀ (n_5 : Nat) (vi_6 : Nat → Nat → Int32) (va_6 : Nat → Nat → Int32) (H : Heap) (locs : List Loc) (y_3 : Int32) (y_4 : Int32) (ls : Array Slot), (y_3.toInt).toNat < n_5 → zI K (vi_6, va_6, vg) → va_P D vwCl (zW K (vi_6, va_6, vg)) H → va_S (zA K) s.heap H locs → lv_has ls 5 [(4, .int y_3), (3, .int y_4), (0, .ref a0), (1, .int x1), (2, .int x2)] → W p l e (rmd 3) s m args below meth c H locs 0 0 Q (F0 m 14 ls []) := by
    intro n_5
    induction n_5 with
    | zero => intro vi_6 va_6 H locs y_3 y_4 ls hm_5; exact absurd hm_5 (Nat.not_lt_zero _)
    | succ n_5 ih_5 =>
      intro vi_6 va_6 H locs y_3 y_4 ls hm_5 hI hP hS hl
      refine lv_iload hx hb dX9_begin_14 (lv_at hl 0 rfl) ?_
      refine lv_iconst (v := 1) hx hb dX9_begin_16 (by decide) ?_
      refine bi_lt (tgt := 52) hx hb rfl ti_1 dX9_begin_17 (by decide) (fun c_8 => ?_) (fun c_8 => ?_)
      · skip
        refine lv_aload_n hx hb dX9_begin_52 rfl (lv_at hl 2 rfl) ?_
        refine zg_8_13 C hs hP ha0 hk0 wf_X9_47 dX9_begin_53 ?_
        have hf_20 := hO.r (j := 13) ha0 hk0 (rfl : zX 8 13 = some (1, 0))
        refine zcV (zrV (As := []) (b := zr K a0 13) (rest := []) C hs hP hS (c_X1_clear l D K hO vi_6 va_6 vg hI (zr K a0 13) hf_20.1 hf_20.2.1) m_X1_clear wm_X9_83 (zrecv hs hP hf_20.1 (zF_1 hf_20.2.1) rfl) ⟨by decide, by decide⟩ hl.1 (Nat.le_of_ble_eq_true rfl) dX9_begin_56) hS (fun V_21 H locs p_21 hP hS => ?_)
        obtain ⟨vi_21, va_21, vg_21⟩ := V_21
        obtain ⟨hI, hg_21⟩ := p_21
        try dsimp only at hI hg_21
        replace hg_21 := hg_21.symm
        subst hg_21
        refine lv_aload_n hx hb dX9_begin_59 rfl (lv_at hl 2 rfl) ?_
        refine zg_8_13 C hs hP ha0 hk0 wf_X9_47 dX9_begin_60 ?_
        refine lv_iconst (v := 1) hx hb dX9_begin_63 (by decide) ?_
        refine kp_1_0 C hO hs hP hS hf_20.1 hf_20.2.1 wf_X9_97 hI dX9_begin_64 (fun vi_22 H locs hI hP hS => ?_)
        refine lv_aload_n hx hb dX9_begin_67 rfl (lv_at hl 2 rfl) ?_
        refine zg_8_13 C hs hP ha0 hk0 wf_X9_47 dX9_begin_68 ?_
        refine lv_iload_n hx hb dX9_begin_71 rfl (lv_at hl 3 rfl) ?_
        refine kp_1_9 C hO hs hP hS hf_20.1 hf_20.2.1 wf_X9_136 hI dX9_begin_72 (fun vi_23 H locs hI hP hS => ?_)
        refine lv_aload_n hx hb dX9_begin_75 rfl (lv_at hl 2 rfl) ?_
        refine zg_8_13 C hs hP ha0 hk0 wf_X9_47 dX9_begin_76 ?_
        refine lv_iload_n hx hb dX9_begin_79 rfl (lv_at hl 4 rfl) ?_
        refine kp_1_10 C hO hs hP hS hf_20.1 hf_20.2.1 wf_X9_139 hI dX9_begin_80 (fun vi_24 H locs hI hP hS => ?_)
        refine lv_aload_n hx hb dX9_begin_83 rfl (lv_at hl 2 rfl) ?_
        refine lv_iload_n hx hb dX9_begin_84 rfl (lv_at hl 4 rfl) ?_
        refine zcV (zrV (As := [.int x2]) (b := a0) (rest := []) C hs hP hS (c_X9_dealHands l D K hO vi_24 va_21 vg hI a0 ha0 hk0 x2) m_X9_dealHands wm_X9_141 (zrecv hs hP ha0 (zF_8 hk0) rfl) ⟨by decide, by decide⟩ hl.1 (Nat.le_of_ble_eq_true rfl) dX9_begin_85) hS (fun V_25 H locs p_25 hP hS => ?_)
        obtain ⟨vi_25, va_25, vg_25⟩ := V_25
        obtain ⟨hI, hg_25⟩ := p_25
        try dsimp only at hI hg_25
        replace hg_25 := hg_25.symm
        subst hg_25
        refine lv_aload_n hx hb dX9_begin_88 rfl (lv_at hl 2 rfl) ?_
        refine zg_8_13 C hs hP ha0 hk0 wf_X9_47 dX9_begin_89 ?_
        refine lv_aload_n hx hb dX9_begin_92 rfl (lv_at hl 2 rfl) ?_
        refine lv_iconst (v := 0) hx hb dX9_begin_93 (by decide) ?_
        refine zcS (zrV (As := [.int 0]) (b := a0) (rest := [.ref (zr K a0 13)]) C hs hP hS (c_X9_nextAble l D K hO vi_25 va_25 vg hI a0 ha0 hk0 0) m_X9_nextAble wm_X9_144 (zrecv hs hP ha0 (zF_8 hk0) rfl) ⟨by decide, by decide⟩ hl.1 (Nat.le_of_ble_eq_true rfl) dX9_begin_94) (fun x_26 p_26 => ?_)
        refine kp_1_2 C hO hs hP hS hf_20.1 hf_20.2.1 wf_X9_147 hI dX9_begin_97 (fun vi_27 H locs hI hP hS => ?_)
        exact zaV hQ hx hb hr hlk hP hS ⟨hI, rfl⟩ dX9_begin_100
      · skip
        refine lv_iload_n hx hb dX9_begin_20 rfl (lv_at hl 1 rfl) ?_
        refine lv_ldc (v := 1664525) hx hb hown (hts _ wz_X9_131) dX9_begin_21 ?_
        refine lv_imul hx hb dX9_begin_23 ?_
        refine lv_topi (fun x_28 ex_28 => ?_)
        refine lv_ldc (v := 1013904223) hx hb hown (hts _ wz_X9_132) dX9_begin_24 ?_
        refine lv_iadd hx hb dX9_begin_26 ?_
        refine lv_topi (fun x_29 ex_29 => ?_)
        refine lv_istore_n (lv' := [(3, .int x_29), (4, .int y_3), (0, .ref a0), (1, .int x1), (2, .int x2)]) hx hb dX9_begin_27 rfl hl (by decide) rfl (fun ls hl => ?_)
        refine lv_aload_n hx hb dX9_begin_28 rfl (lv_at hl 2 rfl) ?_
        refine zg_8_9 C hs hP ha0 hk0 wf_X9_30 dX9_begin_29 ?_
        have hf_30 := hO.r (j := 9) ha0 hk0 (rfl : zX 8 9 = some (7, 0))
        refine lv_iload hx hb dX9_begin_32 (lv_at hl 1 rfl) ?_
        refine lv_iload_n hx hb dX9_begin_34 rfl (lv_at hl 0 rfl) ?_
        refine lv_bipush (v := 8) hx hb dX9_begin_35 (by decide) ?_
        refine lv_iushr hx hb dX9_begin_37 rfl ?_
        refine lv_topi (fun x_31 ex_31 => ?_)
        refine lv_iload hx hb dX9_begin_38 (lv_at hl 1 rfl) ?_
        refine lv_iconst (v := 1) hx hb dX9_begin_40 (by decide) ?_
        refine lv_iadd hx hb dX9_begin_41 ?_
        refine lv_topi (fun x_32 ex_32 => ?_)
        have g_33 := z_rng y_3
        obtain ⟨f_32, l_32, u_32⟩ := z_add ex_32 rfl ti_1
        have hz_34 : ¬ x_32 = 0 := fun h9 => by have h8 := congrArg Int32.toInt h9; rw [ti_0] at h8; omega
        refine lv_irem hx hb dX9_begin_42 hz_34 ?_
        refine lv_topi (fun x_35 ex_35 => ?_)
        refine zcV (zrV (As := [.int y_3, .int x_35]) (b := zr K a0 9) (rest := []) C hs hP hS (c_X8_swap l D K hO vi_6 va_6 vg hI (zr K a0 9) hf_30.1 hf_30.2.1 y_3 x_35) m_X8_swap wm_X9_133 (zrecv hs hP hf_30.1 (zF_7 hf_30.2.1) rfl) ⟨by decide, by decide⟩ hl.1 (Nat.le_of_ble_eq_true rfl) dX9_begin_43) hS (fun V_36 H locs p_36 hP hS => ?_)
        obtain ⟨vi_36, va_36, vg_36⟩ := V_36
        obtain ⟨hI, hg_36⟩ := p_36
        try dsimp only at hI hg_36
        replace hg_36 := hg_36.symm
        subst hg_36
        obtain ⟨x_37, ex_37⟩ : ∃ y : Int32, y = y_3 + (-1) := ⟨_, rfl⟩
        refine lv_iinc (v := x_37) (lv' := [(4, .int x_37), (3, .int x_29), (0, .ref a0), (1, .int x1), (2, .int x2)]) hx hb dX9_begin_46 hl (k := 1) rfl (by rw [ex_37]; rfl) (by decide) rfl (fun ls hl => ?_)
        refine lv_goto (tgt := 14) hx hb dX9_begin_49 (by decide) ?_
        obtain ⟨f_37, l_37, u_37⟩ := z_add ex_37 rfl ti_m1
        have g_38 := z_rng y_4
        obtain ⟨f_28, l_28, u_28⟩ := z_mul ex_28 rfl ti_1664525
        obtain ⟨f_29, l_29, u_29⟩ := z_add ex_29 rfl ti_1013904223
        exact ih_5 vi_36 va_36 _ _ x_37 x_29 _ (by omega) hI hP hS (lv_sub hl [0, 1, 2, 3, 4] rfl)
  have g_39 := z_rng (vi_1 a0 2)
  obtain ⟨f_2, l_2, u_2⟩ := z_sub ex_2 rfl ti_1
  have g_40 := z_rng x1
  exact L_14_5 _ vi_1 va_1 _ _ x_2 x1 _ (Nat.lt_succ_self _) hI hP hS (lv_sub hl [0, 1, 2, 3, 4] rfl)
set_option maxHeartbeats 4000000 in
set_option maxRecDepth 100000 in
theorem c_X9_share (l : Launch) (D : va_G) (K : zK) (hO : zOk K) (vi va : Nat → Nat → Int32) (vg : Nat → Nat → Option Nat) (hI : zI K (vi, va, vg)) (a0 : Nat) (ha0 : a0 ∈ zl K) (hk0 : zk K a0 = 8) (a1 : Nat) (ha1 : a1 ∈ zl K) (hk1 : zk K a1 = 5) (x2 : Int32) (x3 : Int32) (hp0 : 0 ≤ x2.toInt) : Met l yX9_share (zc yX9_share cX9_share 6 none) (rmd 2) (va_Pc [.ref a0, .ref a1, .int x2, .int x3] (zB D K (vi, va, vg))) (zQv D K (fun V' => zI K V' ∧ V'.2.2 = vg)) 0 0 (zA K) := by
  refine zin (by decide) (Nat.le_of_ble_eq_true rfl) ?_
  intro p e s m args below meth c ls Q hQ C hr hlk hP hs hl
  have C : CallFix p m c cX9_share 6 s args zw RX9 := C
  obtain ⟨hx, hb, hml, hown, hts⟩ := id C
  have hS : va_S (zA K) s.heap s.heap [] := va_S.rf
  have hl : lv_has ls 6 [(0, .ref a0), (1, .ref a1), (2, .int x2), (3, .int x3)] := hl
  refine lv_aload_n hx hb dX9_share_0 rfl (lv_at hl 0 rfl) ?_
  refine lv_iload_n hx hb dX9_share_1 rfl (lv_at hl 2 rfl) ?_
  refine zcS (zrV (As := [.int x2]) (b := a0) (rest := []) C hs hP hS (c_X9_isTaken l D K hO vi va vg hI a0 ha0 hk0 x2) m_X9_isTaken wm_X9_150 (zrecv hs hP ha0 (zF_8 hk0) rfl) ⟨by decide, by decide⟩ hl.1 (Nat.le_of_ble_eq_true rfl) dX9_share_2) (fun x_1 p_1 => ?_)
  have J_13_4 : ∀ (y_3 : Int32) (ls : Array Slot), (y_3 = 0 ∨ y_3 = 1) → lv_has ls 6 [(0, .ref a0), (1, .ref a1), (2, .int x2), (3, .int x3)] → W p l e (rmd 2) s m args below meth c s.heap [] 0 0 Q (F0 m 13 ls [.int y_3]) := by
    intro y_3 ls hb_y_3 hl
    refine lv_aload_n hx hb dX9_share_13 rfl (lv_at hl 0 rfl) ?_
    refine lv_iload_n hx hb dX9_share_14 rfl (lv_at hl 2 rfl) ?_
    refine lv_iconst (v := 2) hx hb dX9_share_15 (by decide) ?_
    refine lv_iadd hx hb dX9_share_16 ?_
    refine lv_topi (fun x_6 ex_6 => ?_)
    refine zcS (zrV (As := [.int x_6]) (b := a0) (rest := [.int y_3]) C hs hP hS (c_X9_isTaken l D K hO vi va vg hI a0 ha0 hk0 x_6) m_X9_isTaken wm_X9_150 (zrecv hs hP ha0 (zF_8 hk0) rfl) ⟨by decide, by decide⟩ hl.1 (Nat.le_of_ble_eq_true rfl) dX9_share_17) (fun x_7 p_7 => ?_)
    have J_28_10 : ∀ (y_9 : Int32) (ls : Array Slot), (y_9 = 0 ∨ y_9 = 1) → lv_has ls 6 [(0, .ref a0), (1, .ref a1), (2, .int x2), (3, .int x3)] → W p l e (rmd 2) s m args below meth c s.heap [] 0 0 Q (F0 m 28 ls [.int y_9, .int y_3]) := by
      intro y_9 ls hb_y_9 hl
      refine lv_iadd hx hb dX9_share_28 ?_
      refine lv_topi (fun x_12 ex_12 => ?_)
      refine lv_istore (lv' := [(4, .int x_12), (0, .ref a0), (1, .ref a1), (2, .int x2), (3, .int x3)]) hx hb dX9_share_29 hl (by decide) rfl (fun ls hl => ?_)
      refine lv_iload hx hb dX9_share_31 (lv_at hl 0 rfl) ?_
      refine bz_ne (tgt := 49) hx hb rfl dX9_share_33 (by decide) (fun c_13 => ?_) (fun c_13 => ?_)
      · skip
        refine lv_iload_n hx hb dX9_share_49 rfl (lv_at hl 3 rfl) ?_
        refine lv_istore (lv' := [(5, .int x2), (4, .int x_12), (0, .ref a0), (1, .ref a1), (2, .int x2), (3, .int x3)]) hx hb dX9_share_50 hl (by decide) rfl (fun ls hl => ?_)
        have L_52_15 : ∀ (n_15 : Nat) (va_16 : Nat → Nat → Int32) (H : Heap) (locs : List Loc) (y_14 : Int32) (ls : Array Slot), (2147483648 - y_14.toInt).toNat < n_15 → 0 ≤ y_14.toInt → zI K (vi, va_16, vg) → va_P D vwCl (zW K (vi, va_16, vg)) H → va_S (zA K) s.heap H locs → lv_has ls 6 [(5, .int y_14), (4, .int x_12), (0, .ref a0), (1, .ref a1), (2, .int x2), (3, .int x3)] → W p l e (rmd 2) s m args below meth c H locs 0 0 Q (F0 m 52 ls []) := by
          intro n_15
          induction n_15 with
          | zero => intro va_16 H locs y_14 ls hm_15; exact absurd hm_15 (Nat.not_lt_zero _)
          | succ n_15 ih_15 =>
            intro va_16 H locs y_14 ls hm_15 iv_16_0 hI hP hS hl
            refine lv_iload hx hb dX9_share_52 (lv_at hl 0 rfl) ?_
            refine lv_iconst (v := 4) hx hb dX9_share_54 (by decide) ?_
            refine bi_ge (tgt := 91) hx hb rfl ti_4 dX9_share_55 (by decide) (fun c_18 => ?_) (fun c_18 => ?_)
            · skip
              exact zaV hQ hx hb hr hlk hP hS ⟨hI, rfl⟩ dX9_share_91
            · skip
              refine lv_aload_n hx hb dX9_share_58 rfl (lv_at hl 2 rfl) ?_
              refine zg_8_8 C hs hP ha0 hk0 wf_X9_22 dX9_share_59 ?_
              have hf_19 := hO.r (j := 8) ha0 hk0 (rfl : zX 8 8 = some (20, 4))
              refine lv_iload hx hb dX9_share_62 (lv_at hl 0 rfl) ?_
              refine lv_dup2_11 hx hb dX9_share_64 rfl rfl ?_
              have g_21 := z_rng y_14
              have hin_20 : vp_in y_14 (zn K (zr K a0 8)) := vp_in_iff.mpr (by rw [(hf_19.2.2 (by decide))]; refine ⟨?_, ?_⟩ <;> omega)
              refine zld_20 C hs hP hf_19.1 hf_19.2.1 hin_20 dX9_share_65 ?_
              refine lv_aload_n hx hb dX9_share_66 rfl (lv_at hl 2 rfl) ?_
              refine lv_iload hx hb dX9_share_67 (lv_at hl 0 rfl) ?_
              refine zcS (zrV (As := [.int y_14]) (b := a0) (rest := [.int (va_16 (zr K a0 8) y_14.toNatClampNeg), .int y_14, .ref (zr K a0 8)]) C hs hP hS (c_X9_isTaken l D K hO vi va_16 vg hI a0 ha0 hk0 y_14) m_X9_isTaken wm_X9_150 (zrecv hs hP ha0 (zF_8 hk0) rfl) ⟨by decide, by decide⟩ hl.1 (Nat.le_of_ble_eq_true rfl) dX9_share_69) (fun x_22 p_22 => ?_)
              have J_83_29 : ∀ (y_28 : Int32) (ls : Array Slot), lv_has ls 6 [(0, .ref a0), (1, .ref a1), (2, .int x2), (3, .int x3), (4, .int x_12), (5, .int y_14)] → W p l e (rmd 2) s m args below meth c H locs 0 0 Q (F0 m 83 ls [.int y_28, .int (va_16 (zr K a0 8) y_14.toNatClampNeg), .int y_14, .ref (zr K a0 8)]) := by
                intro y_28 ls hl
                refine lv_iadd hx hb dX9_share_83 ?_
                refine lv_topi (fun x_31 ex_31 => ?_)
                have hin_32 : vp_in y_14 (zn K (zr K a0 8)) := vp_in_iff.mpr (by rw [(hf_19.2.2 (by decide))]; refine ⟨?_, ?_⟩ <;> omega)
                refine ks_20 C hO hs hP hS hf_19.1 hf_19.2.1 hI hin_32 dX9_share_84 (fun va_33 H locs hI hP hS => ?_)
                obtain ⟨x_34, ex_34⟩ : ∃ y : Int32, y = y_14 + 2 := ⟨_, rfl⟩
                refine lv_iinc (v := x_34) (lv' := [(5, .int x_34), (0, .ref a0), (1, .ref a1), (2, .int x2), (3, .int x3), (4, .int x_12)]) hx hb dX9_share_85 hl (k := 5) rfl (by rw [ex_34]; rfl) (by decide) rfl (fun ls hl => ?_)
                refine lv_goto (tgt := 52) hx hb dX9_share_88 (by decide) ?_
                obtain ⟨f_34, l_34, u_34⟩ := z_add ex_34 rfl ti_2
                exact ih_15 va_33 _ _ x_34 _ (by omega) (by omega) hI hP hS (lv_sub hl [0, 5, 1, 2, 3, 4] rfl)
              refine bz_eq (tgt := 82) hx hb rfl dX9_share_72 (by decide) (fun c_23 => ?_) (fun c_23 => ?_)
              · skip
                refine lv_iconst (v := 0) hx hb dX9_share_82 (by decide) ?_
                exact J_83_29 0 _ (lv_sub hl [2, 3, 4, 5, 1, 0] rfl)
              · skip
                refine lv_iload_n hx hb dX9_share_75 rfl (lv_at hl 5 rfl) ?_
                refine lv_iload hx hb dX9_share_76 (lv_at hl 1 rfl) ?_
                have g_35 := z_rng y_3
                have g_36 := z_rng y_9
                obtain ⟨f_12, l_12, u_12⟩ := z_add ex_12 rfl rfl
                have hz_37 : ¬ x_12 = 0 := fun h9 => by have h8 := congrArg Int32.toInt h9; rw [ti_0] at h8; omega
                refine lv_idiv hx hb dX9_share_78 hz_37 ?_
                refine lv_topi (fun x_38 ex_38 => ?_)
                refine lv_goto (tgt := 83) hx hb dX9_share_79 (by decide) ?_
                exact J_83_29 x_38 _ (lv_sub hl [2, 3, 4, 5, 1, 0] rfl)
        have g_39 := z_rng x2
        have g_40 := z_rng x_12
        have g_41 := z_rng y_3
        have g_42 := z_rng y_9
        obtain ⟨f_12, l_12, u_12⟩ := z_add ex_12 rfl rfl
        exact L_52_15 _ va _ _ x2 _ (Nat.lt_succ_self _) (by omega) hI hP hS (lv_sub hl [0, 1, 2, 3, 4, 5] rfl)
      · skip
        refine lv_aload_n hx hb dX9_share_36 rfl (lv_at hl 2 rfl) ?_
        refine lv_bipush (v := 7) hx hb dX9_share_37 (by decide) ?_
        refine lv_aload_n hx hb dX9_share_39 rfl (lv_at hl 1 rfl) ?_
        refine zg_8_0 C hs hP ha0 hk0 wf_X9_51 dX9_share_40 ?_
        refine lv_iload_n hx hb dX9_share_43 rfl (lv_at hl 3 rfl) ?_
        refine lv_iconst (v := 0) hx hb dX9_share_44 (by decide) ?_
        refine zcV (zrV (As := [.int 7, .int (vi a0 0), .int x2, .int 0]) (b := a1) (rest := []) C hs hP hS (c_X6_find l D K hO vi va vg hI a1 ha1 hk1 7 (vi a0 0) x2 0) m_X6_find wm_X9_249 (zrecv hs hP ha1 (zF_5 hk1) rfl) ⟨by decide, by decide⟩ hl.1 (Nat.le_of_ble_eq_true rfl) dX9_share_45) hS (fun V_43 H locs p_43 hP hS => ?_)
        obtain ⟨vi_43, va_43, vg_43⟩ := V_43
        obtain ⟨hI, hg_43⟩ := p_43
        try dsimp only at hI hg_43
        replace hg_43 := hg_43.symm
        subst hg_43
        exact zaV hQ hx hb hr hlk hP hS ⟨hI, rfl⟩ dX9_share_48
    refine bz_eq (tgt := 27) hx hb rfl dX9_share_20 (by decide) (fun c_8 => ?_) (fun c_8 => ?_)
    · skip
      refine lv_iconst (v := 0) hx hb dX9_share_27 (by decide) ?_
      exact J_28_10 0 _ (Or.inl rfl) (lv_sub hl [0, 1, 2, 3] rfl)
    · skip
      refine lv_iconst (v := 1) hx hb dX9_share_23 (by decide) ?_
      refine lv_goto (tgt := 28) hx hb dX9_share_24 (by decide) ?_
      exact J_28_10 1 _ (Or.inr rfl) (lv_sub hl [0, 1, 2, 3] rfl)
  refine bz_eq (tgt := 12) hx hb rfl dX9_share_5 (by decide) (fun c_2 => ?_) (fun c_2 => ?_)
  · skip
    refine lv_iconst (v := 0) hx hb dX9_share_12 (by decide) ?_
    exact J_13_4 0 _ (Or.inl rfl) (lv_sub hl [0, 1, 2, 3] rfl)
  · skip
    refine lv_iconst (v := 1) hx hb dX9_share_8 (by decide) ?_
    refine lv_goto (tgt := 13) hx hb dX9_share_9 (by decide) ?_
    exact J_13_4 1 _ (Or.inr rfl) (lv_sub hl [0, 1, 2, 3] rfl)
set_option maxHeartbeats 4000000 in
set_option maxRecDepth 100000 in
theorem c_X9_isEnd (l : Launch) (D : va_G) (K : zK) (hO : zOk K) (vi va : Nat → Nat → Int32) (vg : Nat → Nat → Option Nat) (hI : zI K (vi, va, vg)) (a0 : Nat) (ha0 : a0 ∈ zl K) (hk0 : zk K a0 = 8) : Met l yX9_isEnd (zc yX9_isEnd cX9_isEnd 3 (some .boolean)) (rmd 1) (va_Pc [.ref a0] (zB D K (vi, va, vg))) (vp_Si (fun r => (r = 0 ∨ r = 1))) 0 0 (fun _ => False) := by
  refine zin (by decide) (Nat.le_of_ble_eq_true rfl) ?_
  intro p e s m args below meth c ls Q hQ C hr hlk hP hs hl
  have C : CallFix p m c cX9_isEnd 3 s args zw RX9 := C
  obtain ⟨hx, hb, hml, hown, hts⟩ := id C
  have hS : va_S (zA K) s.heap s.heap [] := va_S.rf
  have hl : lv_has ls 3 [(0, .ref a0)] := hl
  refine lv_aload_n hx hb dX9_isEnd_0 rfl (lv_at hl 0 rfl) ?_
  refine zcS (zrV (As := []) (b := a0) (rest := []) C hs hP hS (c_X9_isOn l D K hO vi va vg hI a0 ha0 hk0) m_X9_isOn wm_X9_169 (zrecv hs hP ha0 (zF_8 hk0) rfl) ⟨by decide, by decide⟩ hl.1 (Nat.le_of_ble_eq_true rfl) dX9_isEnd_1) (fun x_1 p_1 => ?_)
  have J_22_6 : ∀ (y_5 : Int32) (ls : Array Slot), (y_5 = 0 ∨ y_5 = 1) → lv_has ls 3 [(0, .ref a0)] → W p l e (rmd 1) s m args below meth c s.heap [] 0 0 Q (F0 m 22 ls [.int y_5]) := by
    intro y_5 ls hb_y_5 hl
    refine lv_istore_n (lv' := [(1, .int y_5), (0, .ref a0)]) hx hb dX9_isEnd_22 rfl hl (by decide) rfl (fun ls hl => ?_)
    refine lv_iconst (v := 0) hx hb dX9_isEnd_23 (by decide) ?_
    refine lv_istore_n (lv' := [(2, .int 0), (1, .int y_5), (0, .ref a0)]) hx hb dX9_isEnd_24 rfl hl (by decide) rfl (fun ls hl => ?_)
    have L_25_10 : ∀ (n_10 : Nat) (y_8 : Int32) (y_9 : Int32) (ls : Array Slot), (2147483648 - y_8.toInt).toNat < n_10 → (y_9 = 0 ∨ y_9 = 1) → 0 ≤ y_8.toInt → lv_has ls 3 [(2, .int y_8), (1, .int y_9), (0, .ref a0)] → W p l e (rmd 1) s m args below meth c s.heap [] 0 0 Q (F0 m 25 ls []) := by
      intro n_10
      induction n_10 with
      | zero => intro y_8 y_9 ls hm_10; exact absurd hm_10 (Nat.not_lt_zero _)
      | succ n_10 ih_10 =>
        intro y_8 y_9 ls hm_10 hb_y_9 iv_11_0 hl
        refine lv_iload_n hx hb dX9_isEnd_25 rfl (lv_at hl 0 rfl) ?_
        refine lv_iconst (v := 4) hx hb dX9_isEnd_26 (by decide) ?_
        refine bi_ge (tgt := 75) hx hb rfl ti_4 dX9_isEnd_27 (by decide) (fun c_12 => ?_) (fun c_12 => ?_)
        · skip
          refine lv_iload_n hx hb dX9_isEnd_75 rfl (lv_at hl 1 rfl) ?_
          exact zaSz hQ hx hb hr hlk hb_y_9 hb_y_9 dX9_isEnd_76
        · skip
          refine lv_iload_n hx hb dX9_isEnd_30 rfl (lv_at hl 1 rfl) ?_
          refine bz_eq (tgt := 75) hx hb rfl dX9_isEnd_31 (by decide) (fun c_13 => ?_) (fun c_13 => ?_)
          · skip
            refine lv_iload_n hx hb dX9_isEnd_75 rfl (lv_at hl 1 rfl) ?_
            exact zaSz hQ hx hb hr hlk hb_y_9 hb_y_9 dX9_isEnd_76
          · skip
            refine lv_aload_n hx hb dX9_isEnd_34 rfl (lv_at hl 2 rfl) ?_
            refine zg_8_12 C hs hP ha0 hk0 wf_X9_40 dX9_isEnd_35 ?_
            have hf_14 := hO.r (j := 12) ha0 hk0 (rfl : zX 8 12 = some (23, 4))
            refine lv_iload_n hx hb dX9_isEnd_38 rfl (lv_at hl 0 rfl) ?_
            have g_16 := z_rng y_8
            have hin_15 : vp_in y_8 (zn K (zr K a0 12)) := vp_in_iff.mpr (by rw [(hf_14.2.2 (by decide))]; refine ⟨?_, ?_⟩ <;> omega)
            refine zld_23 C hs hP hf_14.1 hf_14.2.1 hin_15 dX9_isEnd_39 ?_
            have hf_17 := zel_23 hO hf_14.1 hf_14.2.1 hin_15
            refine zg_7_1 C hs hP hf_17.1 hf_17.2 wf_X9_110 dX9_isEnd_40 ?_
            refine lv_iconst (v := 4) hx hb dX9_isEnd_43 (by decide) ?_
            have J_68_23 : ∀ (y_22 : Int32) (ls : Array Slot), (y_22 = 0 ∨ y_22 = 1) → lv_has ls 3 [(0, .ref a0), (1, .int y_9), (2, .int y_8)] → W p l e (rmd 1) s m args below meth c s.heap [] 0 0 Q (F0 m 68 ls [.int y_22]) := by
              intro y_22 ls hb_y_22 hl
              refine lv_istore_n (lv' := [(1, .int y_22), (0, .ref a0), (2, .int y_8)]) hx hb dX9_isEnd_68 rfl hl (by decide) rfl (fun ls hl => ?_)
              obtain ⟨x_25, ex_25⟩ : ∃ y : Int32, y = y_8 + 1 := ⟨_, rfl⟩
              refine lv_iinc (v := x_25) (lv' := [(2, .int x_25), (1, .int y_22), (0, .ref a0)]) hx hb dX9_isEnd_69 hl (k := 2) rfl (by rw [ex_25]; rfl) (by decide) rfl (fun ls hl => ?_)
              refine lv_goto (tgt := 25) hx hb dX9_isEnd_72 (by decide) ?_
              obtain ⟨f_25, l_25, u_25⟩ := z_add ex_25 rfl ti_1
              have g_26 := z_rng y_22
              have g_27 := z_rng y_9
              exact ih_10 x_25 y_22 _ (by omega) hb_y_22 (by omega) (lv_sub hl [0, 1, 2] rfl)
            refine bi_gt (tgt := 67) hx hb rfl ti_4 dX9_isEnd_44 (by decide) (fun c_18 => ?_) (fun c_18 => ?_)
            · skip
              refine lv_iconst (v := 0) hx hb dX9_isEnd_67 (by decide) ?_
              exact J_68_23 0 _ (Or.inl rfl) (lv_sub hl [2, 1, 0] rfl)
            · skip
              refine lv_aload_n hx hb dX9_isEnd_47 rfl (lv_at hl 2 rfl) ?_
              refine lv_aload_n hx hb dX9_isEnd_48 rfl (lv_at hl 2 rfl) ?_
              refine zg_8_12 C hs hP ha0 hk0 wf_X9_40 dX9_isEnd_49 ?_
              refine lv_iload_n hx hb dX9_isEnd_52 rfl (lv_at hl 0 rfl) ?_
              have hin_28 : vp_in y_8 (zn K (zr K a0 12)) := vp_in_iff.mpr (by rw [(hf_14.2.2 (by decide))]; refine ⟨?_, ?_⟩ <;> omega)
              refine zld_23 C hs hP hf_14.1 hf_14.2.1 hin_28 dX9_isEnd_53 ?_
              refine lv_bipush (v := 6) hx hb dX9_isEnd_54 (by decide) ?_
              refine zcS (zrV (As := [.ref (zr K (zr K a0 12) y_8.toNatClampNeg), .int 6]) (b := a0) (rest := []) C hs hP hS (c_X9_firstOf l D K hO vi va vg hI a0 ha0 hk0 (zr K (zr K a0 12) y_8.toNatClampNeg) hf_17.1 hf_17.2 6) m_X9_firstOf wm_X9_255 (zrecv hs hP ha0 (zF_8 hk0) rfl) ⟨by decide, by decide⟩ hl.1 (Nat.le_of_ble_eq_true rfl) dX9_isEnd_56) (fun x_29 p_29 => ?_)
              refine lv_iconst (v := (-1)) hx hb dX9_isEnd_59 (by decide) ?_
              refine bi_ne (tgt := 67) hx hb rfl ti_m1 dX9_isEnd_60 (by decide) (fun c_30 => ?_) (fun c_30 => ?_)
              · skip
                refine lv_iconst (v := 0) hx hb dX9_isEnd_67 (by decide) ?_
                exact J_68_23 0 _ (Or.inl rfl) (lv_sub hl [2, 1, 0] rfl)
              · skip
                refine lv_iconst (v := 1) hx hb dX9_isEnd_63 (by decide) ?_
                refine lv_goto (tgt := 68) hx hb dX9_isEnd_64 (by decide) ?_
                exact J_68_23 1 _ (Or.inr rfl) (lv_sub hl [2, 1, 0] rfl)
    have g_31 := z_rng y_5
    exact L_25_10 _ 0 y_5 _ (Nat.lt_succ_self _) hb_y_5 (by simp only [ti_0]; omega) (lv_sub hl [0, 1, 2] rfl)
  refine bz_eq (tgt := 21) hx hb rfl dX9_isEnd_4 (by decide) (fun c_2 => ?_) (fun c_2 => ?_)
  · skip
    refine lv_iconst (v := 0) hx hb dX9_isEnd_21 (by decide) ?_
    exact J_22_6 0 _ (Or.inl rfl) (lv_sub hl [0] rfl)
  · skip
    refine lv_aload_n hx hb dX9_isEnd_7 rfl (lv_at hl 0 rfl) ?_
    refine zg_8_10 C hs hP ha0 hk0 wf_X9_34 dX9_isEnd_8 ?_
    have hf_32 := hO.r (j := 10) ha0 hk0 (rfl : zX 8 10 = some (7, 0))
    refine zg_7_1 C hs hP hf_32.1 hf_32.2.1 wf_X9_110 dX9_isEnd_11 ?_
    refine bz_ne (tgt := 21) hx hb rfl dX9_isEnd_14 (by decide) (fun c_33 => ?_) (fun c_33 => ?_)
    · skip
      refine lv_iconst (v := 0) hx hb dX9_isEnd_21 (by decide) ?_
      exact J_22_6 0 _ (Or.inl rfl) (lv_sub hl [0] rfl)
    · skip
      refine lv_iconst (v := 1) hx hb dX9_isEnd_17 (by decide) ?_
      refine lv_goto (tgt := 22) hx hb dX9_isEnd_18 (by decide) ?_
      exact J_22_6 1 _ (Or.inr rfl) (lv_sub hl [0] rfl)
set_option maxHeartbeats 4000000 in
set_option maxRecDepth 100000 in
theorem c_X9_isLike (l : Launch) (D : va_G) (K : zK) (hO : zOk K) (vi va : Nat → Nat → Int32) (vg : Nat → Nat → Option Nat) (hI : zI K (vi, va, vg)) (a0 : Nat) (ha0 : a0 ∈ zl K) (hk0 : zk K a0 = 8) (a1 : Nat) (ha1 : a1 ∈ zl K) (hk1 : zk K a1 = 8) : Met l yX9_isLike (zc yX9_isLike cX9_isLike 4 (some .boolean)) (rmd 2) (va_Pc [.ref a0, .ref a1] (zB D K (vi, va, vg))) (vp_Si (fun r => (r = 0 ∨ r = 1))) 0 0 (fun _ => False) := by
  refine zin (by decide) (Nat.le_of_ble_eq_true rfl) ?_
  intro p e s m args below meth c ls Q hQ C hr hlk hP hs hl
  have C : CallFix p m c cX9_isLike 4 s args zw RX9 := C
  obtain ⟨hx, hb, hml, hown, hts⟩ := id C
  have hS : va_S (zA K) s.heap s.heap [] := va_S.rf
  have hl : lv_has ls 4 [(0, .ref a0), (1, .ref a1)] := hl
  refine lv_aload_n hx hb dX9_isLike_0 rfl (lv_at hl 0 rfl) ?_
  refine zg_8_9 C hs hP ha0 hk0 wf_X9_30 dX9_isLike_1 ?_
  have hf_1 := hO.r (j := 9) ha0 hk0 (rfl : zX 8 9 = some (7, 0))
  refine lv_aload_n hx hb dX9_isLike_4 rfl (lv_at hl 1 rfl) ?_
  refine zg_8_9 C hs hP ha1 hk1 wf_X9_30 dX9_isLike_5 ?_
  have hf_2 := hO.r (j := 9) ha1 hk1 (rfl : zX 8 9 = some (7, 0))
  refine zcS (zrV (As := [.ref (zr K a1 9)]) (b := zr K a0 9) (rest := []) C hs hP hS (c_X8_isLike l D K hO vi va vg hI (zr K a0 9) hf_1.1 hf_1.2.1 (zr K a1 9) hf_2.1 hf_2.2.1) m_X8_isLike wm_X9_265 (zrecv hs hP hf_1.1 (zF_7 hf_1.2.1) rfl) ⟨by decide, by decide⟩ hl.1 (Nat.le_of_ble_eq_true rfl) dX9_isLike_8) (fun x_3 p_3 => ?_)
  refine lv_istore_n (lv' := [(2, .int x_3), (0, .ref a0), (1, .ref a1)]) hx hb dX9_isLike_11 rfl hl (by decide) rfl (fun ls hl => ?_)
  refine lv_iconst (v := 0) hx hb dX9_isLike_12 (by decide) ?_
  refine lv_istore_n (lv' := [(3, .int 0), (2, .int x_3), (0, .ref a0), (1, .ref a1)]) hx hb dX9_isLike_13 rfl hl (by decide) rfl (fun ls hl => ?_)
  have L_14_6 : ∀ (n_6 : Nat) (y_4 : Int32) (y_5 : Int32) (ls : Array Slot), (2147483648 - y_4.toInt).toNat < n_6 → (y_5 = 0 ∨ y_5 = 1) → 0 ≤ y_4.toInt → lv_has ls 4 [(3, .int y_4), (2, .int y_5), (0, .ref a0), (1, .ref a1)] → W p l e (rmd 2) s m args below meth c s.heap [] 0 0 Q (F0 m 14 ls []) := by
    intro n_6
    induction n_6 with
    | zero => intro y_4 y_5 ls hm_6; exact absurd hm_6 (Nat.not_lt_zero _)
    | succ n_6 ih_6 =>
      intro y_4 y_5 ls hm_6 hb_y_5 iv_7_0 hl
      refine lv_iload_n hx hb dX9_isLike_14 rfl (lv_at hl 0 rfl) ?_
      refine lv_iconst (v := 2) hx hb dX9_isLike_15 (by decide) ?_
      refine bi_ge (tgt := 87) hx hb rfl ti_2 dX9_isLike_16 (by decide) (fun c_8 => ?_) (fun c_8 => ?_)
      · skip
        refine lv_iconst (v := 0) hx hb dX9_isLike_87 (by decide) ?_
        refine lv_istore_n (lv' := [(3, .int 0), (2, .int y_5), (0, .ref a0), (1, .ref a1)]) hx hb dX9_isLike_88 rfl hl (by decide) rfl (fun ls hl => ?_)
        have L_89_54 : ∀ (n_54 : Nat) (y_52 : Int32) (y_53 : Int32) (ls : Array Slot), (2147483648 - y_52.toInt).toNat < n_54 → (y_53 = 0 ∨ y_53 = 1) → 0 ≤ y_52.toInt → lv_has ls 4 [(3, .int y_52), (2, .int y_53), (0, .ref a0), (1, .ref a1)] → W p l e (rmd 2) s m args below meth c s.heap [] 0 0 Q (F0 m 89 ls []) := by
          intro n_54
          induction n_54 with
          | zero => intro y_52 y_53 ls hm_54; exact absurd hm_54 (Nat.not_lt_zero _)
          | succ n_54 ih_54 =>
            intro y_52 y_53 ls hm_54 hb_y_53 iv_55_0 hl
            refine lv_iload_n hx hb dX9_isLike_89 rfl (lv_at hl 0 rfl) ?_
            refine lv_iconst (v := 4) hx hb dX9_isLike_90 (by decide) ?_
            refine bi_ge (tgt := 128) hx hb rfl ti_4 dX9_isLike_91 (by decide) (fun c_56 => ?_) (fun c_56 => ?_)
            · skip
              refine lv_iload_n hx hb dX9_isLike_128 rfl (lv_at hl 1 rfl) ?_
              exact zaSz hQ hx hb hr hlk hb_y_53 hb_y_53 dX9_isLike_129
            · skip
              refine lv_iload_n hx hb dX9_isLike_94 rfl (lv_at hl 1 rfl) ?_
              have J_121_68 : ∀ (y_67 : Int32) (ls : Array Slot), (y_67 = 0 ∨ y_67 = 1) → lv_has ls 4 [(0, .ref a0), (1, .ref a1), (2, .int y_53), (3, .int y_52)] → W p l e (rmd 2) s m args below meth c s.heap [] 0 0 Q (F0 m 121 ls [.int y_67]) := by
                intro y_67 ls hb_y_67 hl
                refine lv_istore_n (lv' := [(2, .int y_67), (0, .ref a0), (1, .ref a1), (3, .int y_52)]) hx hb dX9_isLike_121 rfl hl (by decide) rfl (fun ls hl => ?_)
                obtain ⟨x_70, ex_70⟩ : ∃ y : Int32, y = y_52 + 1 := ⟨_, rfl⟩
                refine lv_iinc (v := x_70) (lv' := [(3, .int x_70), (2, .int y_67), (0, .ref a0), (1, .ref a1)]) hx hb dX9_isLike_122 hl (k := 3) rfl (by rw [ex_70]; rfl) (by decide) rfl (fun ls hl => ?_)
                refine lv_goto (tgt := 89) hx hb dX9_isLike_125 (by decide) ?_
                have g_71 := z_rng y_52
                obtain ⟨f_70, l_70, u_70⟩ := z_add ex_70 rfl ti_1
                have g_72 := z_rng y_67
                exact ih_54 x_70 y_67 _ (by omega) hb_y_67 (by omega) (lv_sub hl [0, 1, 2, 3] rfl)
              refine bz_eq (tgt := 120) hx hb rfl dX9_isLike_95 (by decide) (fun c_57 => ?_) (fun c_57 => ?_)
              · skip
                refine lv_iconst (v := 0) hx hb dX9_isLike_120 (by decide) ?_
                exact J_121_68 0 _ (Or.inl rfl) (lv_sub hl [2, 3, 1, 0] rfl)
              · skip
                refine lv_aload_n hx hb dX9_isLike_98 rfl (lv_at hl 2 rfl) ?_
                refine zg_8_12 C hs hP ha0 hk0 wf_X9_40 dX9_isLike_99 ?_
                have hf_73 := hO.r (j := 12) ha0 hk0 (rfl : zX 8 12 = some (23, 4))
                refine lv_iload_n hx hb dX9_isLike_102 rfl (lv_at hl 0 rfl) ?_
                have g_75 := z_rng y_52
                have hin_74 : vp_in y_52 (zn K (zr K a0 12)) := vp_in_iff.mpr (by rw [(hf_73.2.2 (by decide))]; refine ⟨?_, ?_⟩ <;> omega)
                refine zld_23 C hs hP hf_73.1 hf_73.2.1 hin_74 dX9_isLike_103 ?_
                have hf_76 := zel_23 hO hf_73.1 hf_73.2.1 hin_74
                refine lv_aload_n hx hb dX9_isLike_104 rfl (lv_at hl 3 rfl) ?_
                refine zg_8_12 C hs hP ha1 hk1 wf_X9_40 dX9_isLike_105 ?_
                have hf_77 := hO.r (j := 12) ha1 hk1 (rfl : zX 8 12 = some (23, 4))
                refine lv_iload_n hx hb dX9_isLike_108 rfl (lv_at hl 0 rfl) ?_
                have hin_78 : vp_in y_52 (zn K (zr K a1 12)) := vp_in_iff.mpr (by rw [(hf_77.2.2 (by decide))]; refine ⟨?_, ?_⟩ <;> omega)
                refine zld_23 C hs hP hf_77.1 hf_77.2.1 hin_78 dX9_isLike_109 ?_
                have hf_79 := zel_23 hO hf_77.1 hf_77.2.1 hin_78
                refine zcS (zrV (As := [.ref (zr K (zr K a1 12) y_52.toNatClampNeg)]) (b := zr K (zr K a0 12) y_52.toNatClampNeg) (rest := []) C hs hP hS (c_X8_isLike l D K hO vi va vg hI (zr K (zr K a0 12) y_52.toNatClampNeg) hf_76.1 hf_76.2 (zr K (zr K a1 12) y_52.toNatClampNeg) hf_79.1 hf_79.2) m_X8_isLike wm_X9_265 (zrecv hs hP hf_76.1 (zF_7 hf_76.2) rfl) ⟨by decide, by decide⟩ hl.1 (Nat.le_of_ble_eq_true rfl) dX9_isLike_110) (fun x_80 p_80 => ?_)
                refine bz_eq (tgt := 120) hx hb rfl dX9_isLike_113 (by decide) (fun c_81 => ?_) (fun c_81 => ?_)
                · skip
                  refine lv_iconst (v := 0) hx hb dX9_isLike_120 (by decide) ?_
                  exact J_121_68 0 _ (Or.inl rfl) (lv_sub hl [2, 3, 1, 0] rfl)
                · skip
                  refine lv_iconst (v := 1) hx hb dX9_isLike_116 (by decide) ?_
                  refine lv_goto (tgt := 121) hx hb dX9_isLike_117 (by decide) ?_
                  exact J_121_68 1 _ (Or.inr rfl) (lv_sub hl [2, 3, 1, 0] rfl)
        have g_82 := z_rng y_5
        have g_83 := z_rng y_4
        exact L_89_54 _ 0 y_5 _ (Nat.lt_succ_self _) hb_y_5 (by simp only [ti_0]; omega) (lv_sub hl [0, 1, 2, 3] rfl)
      · skip
        refine lv_iload_n hx hb dX9_isLike_19 rfl (lv_at hl 1 rfl) ?_
        have J_49_94 : ∀ (y_93 : Int32) (ls : Array Slot), (y_93 = 0 ∨ y_93 = 1) → lv_has ls 4 [(0, .ref a0), (1, .ref a1), (2, .int y_5), (3, .int y_4)] → W p l e (rmd 2) s m args below meth c s.heap [] 0 0 Q (F0 m 49 ls [.int y_93]) := by
          intro y_93 ls hb_y_93 hl
          refine lv_istore_n (lv' := [(2, .int y_93), (0, .ref a0), (1, .ref a1), (3, .int y_4)]) hx hb dX9_isLike_49 rfl hl (by decide) rfl (fun ls hl => ?_)
          refine lv_iload_n hx hb dX9_isLike_50 rfl (lv_at hl 0 rfl) ?_
          have J_80_106 : ∀ (y_105 : Int32) (ls : Array Slot), (y_105 = 0 ∨ y_105 = 1) → lv_has ls 4 [(0, .ref a0), (1, .ref a1), (2, .int y_93), (3, .int y_4)] → W p l e (rmd 2) s m args below meth c s.heap [] 0 0 Q (F0 m 80 ls [.int y_105]) := by
            intro y_105 ls hb_y_105 hl
            refine lv_istore_n (lv' := [(2, .int y_105), (0, .ref a0), (1, .ref a1), (3, .int y_4)]) hx hb dX9_isLike_80 rfl hl (by decide) rfl (fun ls hl => ?_)
            obtain ⟨x_108, ex_108⟩ : ∃ y : Int32, y = y_4 + 1 := ⟨_, rfl⟩
            refine lv_iinc (v := x_108) (lv' := [(3, .int x_108), (2, .int y_105), (0, .ref a0), (1, .ref a1)]) hx hb dX9_isLike_81 hl (k := 3) rfl (by rw [ex_108]; rfl) (by decide) rfl (fun ls hl => ?_)
            refine lv_goto (tgt := 14) hx hb dX9_isLike_84 (by decide) ?_
            have g_109 := z_rng y_4
            obtain ⟨f_108, l_108, u_108⟩ := z_add ex_108 rfl ti_1
            have g_110 := z_rng y_105
            exact ih_6 x_108 y_105 _ (by omega) hb_y_105 (by omega) (lv_sub hl [0, 1, 2, 3] rfl)
          refine bz_eq (tgt := 79) hx hb rfl dX9_isLike_51 (by decide) (fun c_96 => ?_) (fun c_96 => ?_)
          · skip
            refine lv_iconst (v := 0) hx hb dX9_isLike_79 (by decide) ?_
            exact J_80_106 0 _ (Or.inl rfl) (lv_sub hl [1, 2, 0, 3] rfl)
          · skip
            refine lv_aload_n hx hb dX9_isLike_54 rfl (lv_at hl 1 rfl) ?_
            refine zg_8_13 C hs hP ha0 hk0 wf_X9_47 dX9_isLike_55 ?_
            have hf_111 := hO.r (j := 13) ha0 hk0 (rfl : zX 8 13 = some (1, 0))
            refine zg_1_12 C hs hP hf_111.1 hf_111.2.1 wf_X9_238 dX9_isLike_58 ?_
            have hf_112 := hO.r (j := 12) hf_111.1 hf_111.2.1 (rfl : zX 1 12 = some (20, 2))
            refine lv_iload_n hx hb dX9_isLike_61 rfl (lv_at hl 3 rfl) ?_
            have g_114 := z_rng y_4
            have hin_113 : vp_in y_4 (zn K (zr K (zr K a0 13) 12)) := vp_in_iff.mpr (by rw [(hf_112.2.2 (by decide))]; refine ⟨?_, ?_⟩ <;> omega)
            refine zld_20 C hs hP hf_112.1 hf_112.2.1 hin_113 dX9_isLike_62 ?_
            refine lv_aload_n hx hb dX9_isLike_63 rfl (lv_at hl 2 rfl) ?_
            refine zg_8_13 C hs hP ha1 hk1 wf_X9_47 dX9_isLike_64 ?_
            have hf_115 := hO.r (j := 13) ha1 hk1 (rfl : zX 8 13 = some (1, 0))
            refine zg_1_12 C hs hP hf_115.1 hf_115.2.1 wf_X9_238 dX9_isLike_67 ?_
            have hf_116 := hO.r (j := 12) hf_115.1 hf_115.2.1 (rfl : zX 1 12 = some (20, 2))
            refine lv_iload_n hx hb dX9_isLike_70 rfl (lv_at hl 3 rfl) ?_
            have hin_117 : vp_in y_4 (zn K (zr K (zr K a1 13) 12)) := vp_in_iff.mpr (by rw [(hf_116.2.2 (by decide))]; refine ⟨?_, ?_⟩ <;> omega)
            refine zld_20 C hs hP hf_116.1 hf_116.2.1 hin_117 dX9_isLike_71 ?_
            refine bi_ne (tgt := 79) hx hb rfl rfl dX9_isLike_72 (by decide) (fun c_118 => ?_) (fun c_118 => ?_)
            · skip
              refine lv_iconst (v := 0) hx hb dX9_isLike_79 (by decide) ?_
              exact J_80_106 0 _ (Or.inl rfl) (lv_sub hl [1, 2, 0, 3] rfl)
            · skip
              refine lv_iconst (v := 1) hx hb dX9_isLike_75 (by decide) ?_
              refine lv_goto (tgt := 80) hx hb dX9_isLike_76 (by decide) ?_
              exact J_80_106 1 _ (Or.inr rfl) (lv_sub hl [1, 2, 0, 3] rfl)
        refine bz_eq (tgt := 48) hx hb rfl dX9_isLike_20 (by decide) (fun c_84 => ?_) (fun c_84 => ?_)
        · skip
          refine lv_iconst (v := 0) hx hb dX9_isLike_48 (by decide) ?_
          exact J_49_94 0 _ (Or.inl rfl) (lv_sub hl [2, 3, 1, 0] rfl)
        · skip
          refine lv_aload_n hx hb dX9_isLike_23 rfl (lv_at hl 2 rfl) ?_
          refine zg_8_13 C hs hP ha0 hk0 wf_X9_47 dX9_isLike_24 ?_
          have hf_119 := hO.r (j := 13) ha0 hk0 (rfl : zX 8 13 = some (1, 0))
          refine zg_1_11 C hs hP hf_119.1 hf_119.2.1 wf_X9_262 dX9_isLike_27 ?_
          have hf_120 := hO.r (j := 11) hf_119.1 hf_119.2.1 (rfl : zX 1 11 = some (20, 2))
          refine lv_iload_n hx hb dX9_isLike_30 rfl (lv_at hl 0 rfl) ?_
          have g_122 := z_rng y_4
          have hin_121 : vp_in y_4 (zn K (zr K (zr K a0 13) 11)) := vp_in_iff.mpr (by rw [(hf_120.2.2 (by decide))]; refine ⟨?_, ?_⟩ <;> omega)
          refine zld_20 C hs hP hf_120.1 hf_120.2.1 hin_121 dX9_isLike_31 ?_
          refine lv_aload_n hx hb dX9_isLike_32 rfl (lv_at hl 3 rfl) ?_
          refine zg_8_13 C hs hP ha1 hk1 wf_X9_47 dX9_isLike_33 ?_
          have hf_123 := hO.r (j := 13) ha1 hk1 (rfl : zX 8 13 = some (1, 0))
          refine zg_1_11 C hs hP hf_123.1 hf_123.2.1 wf_X9_262 dX9_isLike_36 ?_
          have hf_124 := hO.r (j := 11) hf_123.1 hf_123.2.1 (rfl : zX 1 11 = some (20, 2))
          refine lv_iload_n hx hb dX9_isLike_39 rfl (lv_at hl 0 rfl) ?_
          have hin_125 : vp_in y_4 (zn K (zr K (zr K a1 13) 11)) := vp_in_iff.mpr (by rw [(hf_124.2.2 (by decide))]; refine ⟨?_, ?_⟩ <;> omega)
          refine zld_20 C hs hP hf_124.1 hf_124.2.1 hin_125 dX9_isLike_40 ?_
          refine bi_ne (tgt := 48) hx hb rfl rfl dX9_isLike_41 (by decide) (fun c_126 => ?_) (fun c_126 => ?_)
          · skip
            refine lv_iconst (v := 0) hx hb dX9_isLike_48 (by decide) ?_
            exact J_49_94 0 _ (Or.inl rfl) (lv_sub hl [2, 3, 1, 0] rfl)
          · skip
            refine lv_iconst (v := 1) hx hb dX9_isLike_44 (by decide) ?_
            refine lv_goto (tgt := 49) hx hb dX9_isLike_45 (by decide) ?_
            exact J_49_94 1 _ (Or.inr rfl) (lv_sub hl [2, 3, 1, 0] rfl)
  have g_127 := z_rng x_3
  exact L_14_6 _ 0 x_3 _ (Nat.lt_succ_self _) p_3 (by simp only [ti_0]; omega) (lv_sub hl [0, 1, 2, 3] rfl)
