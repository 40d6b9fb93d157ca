set_option maxHeartbeats 4000000 in
set_option maxRecDepth 100000 in
theorem c_X12_canLay (l : Launch) (D : va_G) (K : zK) (hM : mK K) (f : Nat → Int32) (A : Nat → Nat → Int32) (hT : mT f A) (a0 : Nat) (ha0 : a0 ∈ zl K) (hk0 : zk K a0 = 11) (x1 : Int32) (x2 : Int32) (hp0 : zRow x1.toInt) (hp1 : 0 ≤ x2.toInt ∧ x2.toInt ≤ 3) : Met l yX12_canLay (zc yX12_canLay cX12_canLay 4 (some .boolean)) (rmd 0) (va_Pc [.ref a0, .int x1, .int x2] (zB D K (mV K f A))) (vp_Si (fun r => (r = 0 ∨ r = 1) ∧ (r.toInt ≠ 0 → 1 ≤ (A 40 (x1.toInt + x2.toInt + 22).toNat).toInt))) 0 0 (fun _ => False) := by
  refine zin (by decide) (Nat.le_of_ble_eq_true rfl) ?_
  intro p e s m args below meth c ls Q hQ C hr hlk hP hs hl
  have C : CallFix p m c cX12_canLay 4 s args zw RX12 := C
  obtain ⟨hx, hb, hml, hown, hts⟩ := id C
  have hO := hM.1
  have hS : va_S (zA K) s.heap s.heap [] := va_S.rf
  have hl : lv_has ls 4 [(0, .ref a0), (1, .int x1), (2, .int x2)] := hl
  have hb0 := hp0.lin
  refine lv_iconst (v := 0) hx hb dX12_canLay_0 (by decide) ?_
  refine lv_istore_n (lv' := [(3, .int 0), (0, .ref a0), (1, .int x1), (2, .int x2)]) hx hb dX12_canLay_1 rfl hl (by decide) rfl (fun ls hl => ?_)
  have L_2_2 : ∀ (n_2 : Nat) (y_1 : Int32) (ls : Array Slot), (2147483648 - y_1.toInt).toNat < n_2 → 0 ≤ y_1.toInt → lv_has ls 4 [(3, .int y_1), (0, .ref a0), (1, .int x1), (2, .int x2)] → W p l e (rmd 0) s m args below meth c s.heap [] 0 0 Q (F0 m 2 ls []) := by
    intro n_2
    induction n_2 with
    | zero => intro y_1 ls hm_2; exact absurd hm_2 (Nat.not_lt_zero _)
    | succ n_2 ih_2 =>
      intro y_1 ls hm_2 iv_3_0 hl
      refine lv_iload_n hx hb dX12_canLay_2 rfl (lv_at hl 0 rfl) ?_
      refine lv_aload_n hx hb dX12_canLay_3 rfl (lv_at hl 1 rfl) ?_
      refine mg_0 C hs hP ha0 hk0 wf_X12_8 dX12_canLay_4 ?_
      have hf_4 := hO.r (j := 0) ha0 hk0 (rfl : zX 11 0 = some (40, 47730))
      refine lv_iload_n hx hb dX12_canLay_7 rfl (lv_at hl 2 rfl) ?_
      refine lv_bipush (v := 22) hx hb dX12_canLay_8 (by decide) ?_
      refine lv_iadd hx hb dX12_canLay_10 ?_
      refine lv_topi (fun x_5 ex_5 => ?_)
      refine lv_iload_n hx hb dX12_canLay_11 rfl (lv_at hl 3 rfl) ?_
      refine lv_iadd hx hb dX12_canLay_12 ?_
      refine lv_topi (fun x_6 ex_6 => ?_)
      have g_7 := z_rng x1
      obtain ⟨f_5, l_5, u_5⟩ := z_add ex_5 rfl ti_22
      try replace f_5 : x_5.toInt = x1.toInt + 22 := by omega
      have g_8 := z_rng x2
      obtain ⟨f_6, l_6, u_6⟩ := z_add ex_6 rfl rfl
      try replace f_6 : x_6.toInt = x_5.toInt + x2.toInt := by omega
      have hi_hr_9 : x_6.toInt = x1.toInt + (x2.toInt + 22) := by omega
      have hr_9 := z_cell (lo := 22) (hi := 25) hp0 hi_hr_9 (by omega) (by decide)
      have hin_10 : vp_in x_6 (zn K (zr K a0 0)) := vp_in_iff.mpr (by rw [(hf_4.2.2 (by decide))]; exact hr_9.in)
      refine mld_40 C hs hP hf_4.1 hf_4.2.1 hin_10 dX12_canLay_13 ?_
      have ep_11 : x_6.toNatClampNeg = (x1.toInt + x2.toInt + 22).toNat := z_pos (hi_hr_9.trans (by omega))
      rw [ep_11]
      have tv_12 := rv_22 hT hr_9
      rw [ep_11] at tv_12
      refine bi_ge (tgt := 56) hx hb rfl rfl dX12_canLay_14 (by decide) (fun c_13 => ?_) (fun c_13 => ?_)
      · skip
        refine lv_iconst (v := 0) hx hb dX12_canLay_56 (by decide) ?_
        exact zaSz hQ hx hb hr hlk (Or.inl rfl) ⟨(Or.inl rfl), (by (try dsimp only); (try simp only [ti_0]); (first | omega | (intro h9; omega) | (simp; done) | (refine ⟨?_, ?_⟩ <;> intros <;> first | trivial | omega) | (refine ⟨?_, ?_, ?_⟩ <;> intros <;> first | trivial | omega)))⟩ dX12_canLay_57
      · skip
        refine lv_aload_n hx hb dX12_canLay_17 rfl (lv_at hl 1 rfl) ?_
        refine mg_0 C hs hP ha0 hk0 wf_X12_8 dX12_canLay_18 ?_
        refine lv_iload_n hx hb dX12_canLay_21 rfl (lv_at hl 2 rfl) ?_
        refine lv_bipush (v := 50) hx hb dX12_canLay_22 (by decide) ?_
        refine lv_iadd hx hb dX12_canLay_24 ?_
        refine lv_topi (fun x_14 ex_14 => ?_)
        refine lv_aload_n hx hb dX12_canLay_25 rfl (lv_at hl 1 rfl) ?_
        refine mg_0 C hs hP ha0 hk0 wf_X12_8 dX12_canLay_26 ?_
        refine lv_iload_n hx hb dX12_canLay_29 rfl (lv_at hl 2 rfl) ?_
        refine lv_sipush (v := 230) hx hb dX12_canLay_30 (by decide) ?_
        refine lv_iadd hx hb dX12_canLay_33 ?_
        refine lv_topi (fun x_15 ex_15 => ?_)
        refine lv_bipush (v := 60) hx hb dX12_canLay_34 (by decide) ?_
        refine lv_iload_n hx hb dX12_canLay_36 rfl (lv_at hl 3 rfl) ?_
        refine lv_imul hx hb dX12_canLay_37 ?_
        refine lv_topi (fun x_16 ex_16 => ?_)
        refine lv_iadd hx hb dX12_canLay_38 ?_
        refine lv_topi (fun x_17 ex_17 => ?_)
        refine lv_iload_n hx hb dX12_canLay_39 rfl (lv_at hl 0 rfl) ?_
        refine lv_iadd hx hb dX12_canLay_40 ?_
        refine lv_topi (fun x_18 ex_18 => ?_)
        obtain ⟨f_15, l_15, u_15⟩ := z_add ex_15 rfl ti_230
        try replace f_15 : x_15.toInt = x1.toInt + 230 := by omega
        obtain ⟨f_16, l_16, u_16⟩ := z_mul ex_16 ti_60 rfl
        try replace f_16 : x_16.toInt = 60 * x2.toInt := by omega
        obtain ⟨f_17, l_17, u_17⟩ := z_add ex_17 rfl rfl
        try replace f_17 : x_17.toInt = x_15.toInt + x_16.toInt := by omega
        have g_19 := z_rng y_1
        obtain ⟨f_18, l_18, u_18⟩ := z_add ex_18 rfl rfl
        try replace f_18 : x_18.toInt = x_17.toInt + y_1.toInt := by omega
        have hi_hr_20 : x_18.toInt = x1.toInt + (60 * x2.toInt + y_1.toInt + 230) := by omega
        have hr_20 := z_cell (lo := 170) (hi := 469) hp0 hi_hr_20 (by omega) (by decide)
        have hin_21 : vp_in x_18 (zn K (zr K a0 0)) := vp_in_iff.mpr (by rw [(hf_4.2.2 (by decide))]; exact hr_20.in)
        refine mld_40 C hs hP hf_4.1 hf_4.2.1 hin_21 dX12_canLay_41 ?_
        have ep_22 : x_18.toNatClampNeg = (x1.toInt + 60 * x2.toInt + y_1.toInt + 230).toNat := z_pos (hi_hr_20.trans (by omega))
        rw [ep_22]
        have tv_23 := rv_170 hT hr_20
        rw [ep_22] at tv_23
        refine lv_iadd hx hb dX12_canLay_42 ?_
        refine lv_topi (fun x_24 ex_24 => ?_)
        obtain ⟨f_14, l_14, u_14⟩ := z_add ex_14 rfl ti_50
        try replace f_14 : x_14.toInt = x1.toInt + 50 := by omega
        have g_25 := z_rng (A 40 (x1.toInt + 60 * x2.toInt + y_1.toInt + 230).toNat)
        obtain ⟨f_24, l_24, u_24⟩ := z_add ex_24 rfl rfl
        try replace f_24 : x_24.toInt = x_14.toInt + (A 40 (x1.toInt + 60 * x2.toInt + y_1.toInt + 230).toNat).toInt := by omega
        have hi_hr_26 : x_24.toInt = x1.toInt + ((A 40 (x1.toInt + 60 * x2.toInt + y_1.toInt + 230).toNat).toInt + 50) := by omega
        have hr_26 := z_cell (lo := 45) (hi := 169) hp0 hi_hr_26 (by omega) (by decide)
        have hin_27 : vp_in x_24 (zn K (zr K a0 0)) := vp_in_iff.mpr (by rw [(hf_4.2.2 (by decide))]; exact hr_26.in)
        refine mld_40 C hs hP hf_4.1 hf_4.2.1 hin_27 dX12_canLay_43 ?_
        have ep_28 : x_24.toNatClampNeg = ((A 40 (x1.toInt + 60 * x2.toInt + y_1.toInt + 230).toNat).toInt + x1.toInt + 50).toNat := z_pos (hi_hr_26.trans (by omega))
        rw [ep_28]
        refine lv_iconst (v := 3) hx hb dX12_canLay_44 (by decide) ?_
        refine bi_eq (tgt := 50) hx hb rfl ti_3 dX12_canLay_45 (by decide) (fun c_29 => ?_) (fun c_29 => ?_)
        · skip
          obtain ⟨x_30, ex_30⟩ : ∃ y : Int32, y = y_1 + 1 := ⟨_, rfl⟩
          refine lv_iinc (v := x_30) (lv' := [(3, .int x_30), (0, .ref a0), (1, .int x1), (2, .int x2)]) hx hb dX12_canLay_50 hl (k := 0) rfl (by rw [ex_30]; rfl) (by decide) rfl (fun ls hl => ?_)
          refine lv_goto (tgt := 2) hx hb dX12_canLay_53 (by decide) ?_
          obtain ⟨f_30, l_30, u_30⟩ := z_add ex_30 rfl ti_1
          try replace f_30 : x_30.toInt = y_1.toInt + 1 := by omega
          have g_31 := z_rng (A 40 ((A 40 (x1.toInt + 60 * x2.toInt + y_1.toInt + 230).toNat).toInt + x1.toInt + 50).toNat)
          have g_32 := z_rng (A 40 (x1.toInt + x2.toInt + 22).toNat)
          exact ih_2 x_30 _ (by omega) (by omega) (lv_sub hl [0, 1, 2, 3] rfl)
        · skip
          refine lv_iconst (v := 1) hx hb dX12_canLay_48 (by decide) ?_
          exact zaSz hQ hx hb hr hlk (Or.inr rfl) ⟨(Or.inr rfl), (by (try dsimp only); (try simp only [ti_1]); (first | omega | (intro h9; omega) | (simp; done) | (refine ⟨?_, ?_⟩ <;> intros <;> first | trivial | omega) | (refine ⟨?_, ?_, ?_⟩ <;> intros <;> first | trivial | omega)))⟩ dX12_canLay_49
  exact L_2_2 _ 0 _ (Nat.lt_succ_self _) (by (try simp only [ti_0]); omega) (lv_sub hl [0, 1, 2, 3] rfl)
set_option maxHeartbeats 4000000 in
set_option maxRecDepth 100000 in
theorem c_X12_meets (l : Launch) (D : va_G) (K : zK) (hM : mK K) (f : Nat → Int32) (A : Nat → Nat → Int32) (hT : mT f A) (a0 : Nat) (ha0 : a0 ∈ zl K) (hk0 : zk K a0 = 11) (x1 : Int32) (x2 : Int32) (x3 : Int32) (x4 : Int32) (hp0 : zRow x1.toInt) (hp1 : 0 ≤ x2.toInt ∧ x2.toInt ≤ 3) : Met l yX12_meets (zc yX12_meets cX12_meets 5 (some .int)) (rmd 1) (va_Pc [.ref a0, .int x1, .int x2, .int x3, .int x4] (zB D K (mV K f A))) (vp_Si (fun r => (r.toInt ≤ 0 → 0 ≤ x3.toInt ∧ x3.toInt ≤ 59 ∧ x3.toInt < (A 40 (x1.toInt + x2.toInt + 22).toNat).toInt ∧ (x4.toInt ≠ 0 → (A 40 (x1.toInt + 9).toNat).toInt = x2.toInt)))) 0 0 (fun _ => False) := by
  refine zin (by decide) (Nat.le_of_ble_eq_true rfl) ?_
  intro p e s m args below meth c ls Q hQ C hr hlk hP hs hl
  have C : CallFix p m c cX12_meets 5 s args zw RX12 := C
  obtain ⟨hx, hb, hml, hown, hts⟩ := id C
  have hO := hM.1
  have hS : va_S (zA K) s.heap s.heap [] := va_S.rf
  have hl : lv_has ls 5 [(0, .ref a0), (1, .int x1), (2, .int x2), (3, .int x3), (4, .int x4)] := hl
  have hb0 := hp0.lin
  refine lv_aload_n hx hb dX12_meets_0 rfl (lv_at hl 0 rfl) ?_
  refine mg_0 C hs hP ha0 hk0 wf_X12_8 dX12_meets_1 ?_
  have hf_1 := hO.r (j := 0) ha0 hk0 (rfl : zX 11 0 = some (40, 47730))
  refine lv_iload_n hx hb dX12_meets_4 rfl (lv_at hl 1 rfl) ?_
  refine lv_bipush (v := 35) hx hb dX12_meets_5 (by decide) ?_
  refine lv_iadd hx hb dX12_meets_7 ?_
  refine lv_topi (fun x_2 ex_2 => ?_)
  refine lv_iload_n hx hb dX12_meets_8 rfl (lv_at hl 2 rfl) ?_
  refine lv_iadd hx hb dX12_meets_9 ?_
  refine lv_topi (fun x_3 ex_3 => ?_)
  have g_4 := z_rng x1
  obtain ⟨f_2, l_2, u_2⟩ := z_add ex_2 rfl ti_35
  try replace f_2 : x_2.toInt = x1.toInt + 35 := by omega
  have g_5 := z_rng x2
  obtain ⟨f_3, l_3, u_3⟩ := z_add ex_3 rfl rfl
  try replace f_3 : x_3.toInt = x_2.toInt + x2.toInt := by omega
  have hi_hr_6 : x_3.toInt = x1.toInt + (x2.toInt + 35) := by omega
  have hr_6 := z_cell (lo := 35) (hi := 38) hp0 hi_hr_6 (by omega) (by decide)
  have hin_7 : vp_in x_3 (zn K (zr K a0 0)) := vp_in_iff.mpr (by rw [(hf_1.2.2 (by decide))]; exact hr_6.in)
  refine mld_40 C hs hP hf_1.1 hf_1.2.1 hin_7 dX12_meets_10 ?_
  have ep_8 : x_3.toNatClampNeg = (x1.toInt + x2.toInt + 35).toNat := z_pos (hi_hr_6.trans (by omega))
  rw [ep_8]
  have tv_9 := rv_35 hT hr_6
  rw [ep_8] at tv_9
  refine bz_ne (tgt := 16) hx hb rfl dX12_meets_11 (by decide) (fun c_10 => ?_) (fun c_10 => ?_)
  · skip
    refine lv_aload_n hx hb dX12_meets_16 rfl (lv_at hl 0 rfl) ?_
    refine mg_0 C hs hP ha0 hk0 wf_X12_8 dX12_meets_17 ?_
    refine lv_iload_n hx hb dX12_meets_20 rfl (lv_at hl 1 rfl) ?_
    refine lv_bipush (v := 22) hx hb dX12_meets_21 (by decide) ?_
    refine lv_iadd hx hb dX12_meets_23 ?_
    refine lv_topi (fun x_11 ex_11 => ?_)
    refine lv_iload_n hx hb dX12_meets_24 rfl (lv_at hl 2 rfl) ?_
    refine lv_iadd hx hb dX12_meets_25 ?_
    refine lv_topi (fun x_12 ex_12 => ?_)
    obtain ⟨f_11, l_11, u_11⟩ := z_add ex_11 rfl ti_22
    try replace f_11 : x_11.toInt = x1.toInt + 22 := by omega
    obtain ⟨f_12, l_12, u_12⟩ := z_add ex_12 rfl rfl
    try replace f_12 : x_12.toInt = x_11.toInt + x2.toInt := by omega
    have hi_hr_13 : x_12.toInt = x1.toInt + (x2.toInt + 22) := by omega
    have hr_13 := z_cell (lo := 22) (hi := 25) hp0 hi_hr_13 (by omega) (by decide)
    have hin_14 : vp_in x_12 (zn K (zr K a0 0)) := vp_in_iff.mpr (by rw [(hf_1.2.2 (by decide))]; exact hr_13.in)
    refine mld_40 C hs hP hf_1.1 hf_1.2.1 hin_14 dX12_meets_26 ?_
    have ep_15 : x_12.toNatClampNeg = (x1.toInt + x2.toInt + 22).toNat := z_pos (hi_hr_13.trans (by omega))
    rw [ep_15]
    have tv_16 := rv_22 hT hr_13
    rw [ep_15] at tv_16
    refine lv_iconst (v := (-1)) hx hb dX12_meets_27 (by decide) ?_
    refine bi_ne (tgt := 33) hx hb rfl ti_m1 dX12_meets_28 (by decide) (fun c_17 => ?_) (fun c_17 => ?_)
    · skip
      refine lv_iload_n hx hb dX12_meets_33 rfl (lv_at hl 3 rfl) ?_
      refine lv_iconst (v := 0) hx hb dX12_meets_34 (by decide) ?_
      refine lv_aload_n hx hb dX12_meets_35 rfl (lv_at hl 0 rfl) ?_
      refine mg_0 C hs hP ha0 hk0 wf_X12_8 dX12_meets_36 ?_
      refine lv_iload_n hx hb dX12_meets_39 rfl (lv_at hl 1 rfl) ?_
      refine lv_bipush (v := 22) hx hb dX12_meets_40 (by decide) ?_
      refine lv_iadd hx hb dX12_meets_42 ?_
      refine lv_topi (fun x_18 ex_18 => ?_)
      refine lv_iload_n hx hb dX12_meets_43 rfl (lv_at hl 2 rfl) ?_
      refine lv_iadd hx hb dX12_meets_44 ?_
      refine lv_topi (fun x_19 ex_19 => ?_)
      obtain ⟨f_18, l_18, u_18⟩ := z_add ex_18 rfl ti_22
      try replace f_18 : x_18.toInt = x1.toInt + 22 := by omega
      obtain ⟨f_19, l_19, u_19⟩ := z_add ex_19 rfl rfl
      try replace f_19 : x_19.toInt = x_18.toInt + x2.toInt := by omega
      have hi_hr_20 : x_19.toInt = x1.toInt + (x2.toInt + 22) := by omega
      have hr_20 := z_cell (lo := 22) (hi := 25) hp0 hi_hr_20 (by omega) (by decide)
      have hin_21 : vp_in x_19 (zn K (zr K a0 0)) := vp_in_iff.mpr (by rw [(hf_1.2.2 (by decide))]; exact hr_20.in)
      refine mld_40 C hs hP hf_1.1 hf_1.2.1 hin_21 dX12_meets_45 ?_
      have ep_22 : x_19.toNatClampNeg = (x1.toInt + x2.toInt + 22).toNat := z_pos (hi_hr_20.trans (by omega))
      rw [ep_22]
      refine lv_iconst (v := 1) hx hb dX12_meets_46 (by decide) ?_
      refine lv_isub hx hb dX12_meets_47 ?_
      refine lv_topi (fun x_23 ex_23 => ?_)
      refine zcS (zrS (As := [.int x3, .int 0, .int x_23]) (rest := []) C hs hP hS (c_X12_in l D K hM f A hT x3 0 x_23) m_X12_in wm_X12_91 ⟨by decide, by decide⟩ hl.1 (Nat.le_of_ble_eq_true rfl) dX12_meets_48) (fun x_24 p_24 => ?_)
      have pp_24 : (x_24.toInt ≠ 0 → (0 : Int32).toInt ≤ x3.toInt ∧ x3.toInt ≤ x_23.toInt) ∧ (x_24.toInt = 0 → x3.toInt < (0 : Int32).toInt ∨ x_23.toInt < x3.toInt) := p_24.2
      try simp only [ti_0] at pp_24
      have g_25 := z_rng x3
      have g_26 := z_rng (A 40 (x1.toInt + x2.toInt + 22).toNat)
      obtain ⟨f_23, l_23, u_23⟩ := z_sub ex_23 rfl ti_1
      try replace f_23 : x_23.toInt = (A 40 (x1.toInt + x2.toInt + 22).toNat).toInt - 1 := by omega
      refine bz_ne (tgt := 56) hx hb rfl dX12_meets_51 (by decide) (fun c_27 => ?_) (fun c_27 => ?_)
      · skip
        replace pp_24 := pp_24.1 c_27
        refine lv_iload hx hb dX12_meets_56 (lv_at hl 4 rfl) ?_
        refine bz_eq (tgt := 76) hx hb rfl dX12_meets_58 (by decide) (fun c_28 => ?_) (fun c_28 => ?_)
        · skip
          refine lv_aload_n hx hb dX12_meets_76 rfl (lv_at hl 0 rfl) ?_
          refine mg_0 C hs hP ha0 hk0 wf_X12_8 dX12_meets_77 ?_
          refine lv_iload_n hx hb dX12_meets_80 rfl (lv_at hl 1 rfl) ?_
          refine lv_bipush (v := 50) hx hb dX12_meets_81 (by decide) ?_
          refine lv_iadd hx hb dX12_meets_83 ?_
          refine lv_topi (fun x_29 ex_29 => ?_)
          refine lv_aload_n hx hb dX12_meets_84 rfl (lv_at hl 0 rfl) ?_
          refine mg_0 C hs hP ha0 hk0 wf_X12_8 dX12_meets_85 ?_
          refine lv_iload_n hx hb dX12_meets_88 rfl (lv_at hl 1 rfl) ?_
          refine lv_sipush (v := 230) hx hb dX12_meets_89 (by decide) ?_
          refine lv_iadd hx hb dX12_meets_92 ?_
          refine lv_topi (fun x_30 ex_30 => ?_)
          refine lv_bipush (v := 60) hx hb dX12_meets_93 (by decide) ?_
          refine lv_iload_n hx hb dX12_meets_95 rfl (lv_at hl 2 rfl) ?_
          refine lv_imul hx hb dX12_meets_96 ?_
          refine lv_topi (fun x_31 ex_31 => ?_)
          refine lv_iadd hx hb dX12_meets_97 ?_
          refine lv_topi (fun x_32 ex_32 => ?_)
          refine lv_iload_n hx hb dX12_meets_98 rfl (lv_at hl 3 rfl) ?_
          refine lv_iadd hx hb dX12_meets_99 ?_
          refine lv_topi (fun x_33 ex_33 => ?_)
          obtain ⟨f_30, l_30, u_30⟩ := z_add ex_30 rfl ti_230
          try replace f_30 : x_30.toInt = x1.toInt + 230 := by omega
          obtain ⟨f_31, l_31, u_31⟩ := z_mul ex_31 ti_60 rfl
          try replace f_31 : x_31.toInt = 60 * x2.toInt := by omega
          obtain ⟨f_32, l_32, u_32⟩ := z_add ex_32 rfl rfl
          try replace f_32 : x_32.toInt = x_30.toInt + x_31.toInt := by omega
          obtain ⟨f_33, l_33, u_33⟩ := z_add ex_33 rfl rfl
          try replace f_33 : x_33.toInt = x_32.toInt + x3.toInt := by omega
          have hi_hr_34 : x_33.toInt = x1.toInt + (60 * x2.toInt + x3.toInt + 230) := by omega
          have hr_34 := z_cell (lo := 170) (hi := 469) hp0 hi_hr_34 (by omega) (by decide)
          have hin_35 : vp_in x_33 (zn K (zr K a0 0)) := vp_in_iff.mpr (by rw [(hf_1.2.2 (by decide))]; exact hr_34.in)
          refine mld_40 C hs hP hf_1.1 hf_1.2.1 hin_35 dX12_meets_100 ?_
          have ep_36 : x_33.toNatClampNeg = (x1.toInt + 60 * x2.toInt + x3.toInt + 230).toNat := z_pos (hi_hr_34.trans (by omega))
          rw [ep_36]
          have tv_37 := rv_170 hT hr_34
          rw [ep_36] at tv_37
          refine lv_iadd hx hb dX12_meets_101 ?_
          refine lv_topi (fun x_38 ex_38 => ?_)
          obtain ⟨f_29, l_29, u_29⟩ := z_add ex_29 rfl ti_50
          try replace f_29 : x_29.toInt = x1.toInt + 50 := by omega
          have g_39 := z_rng (A 40 (x1.toInt + 60 * x2.toInt + x3.toInt + 230).toNat)
          obtain ⟨f_38, l_38, u_38⟩ := z_add ex_38 rfl rfl
          try replace f_38 : x_38.toInt = x_29.toInt + (A 40 (x1.toInt + 60 * x2.toInt + x3.toInt + 230).toNat).toInt := by omega
          have hi_hr_40 : x_38.toInt = x1.toInt + ((A 40 (x1.toInt + 60 * x2.toInt + x3.toInt + 230).toNat).toInt + 50) := by omega
          have hr_40 := z_cell (lo := 45) (hi := 169) hp0 hi_hr_40 (by omega) (by decide)
          have hin_41 : vp_in x_38 (zn K (zr K a0 0)) := vp_in_iff.mpr (by rw [(hf_1.2.2 (by decide))]; exact hr_40.in)
          refine mld_40 C hs hP hf_1.1 hf_1.2.1 hin_41 dX12_meets_102 ?_
          have ep_42 : x_38.toNatClampNeg = ((A 40 (x1.toInt + 60 * x2.toInt + x3.toInt + 230).toNat).toInt + x1.toInt + 50).toNat := z_pos (hi_hr_40.trans (by omega))
          rw [ep_42]
          refine lv_iconst (v := 3) hx hb dX12_meets_103 (by decide) ?_
          refine bi_ne (tgt := 111) hx hb rfl ti_3 dX12_meets_104 (by decide) (fun c_43 => ?_) (fun c_43 => ?_)
          · skip
            refine lv_iconst (v := 0) hx hb dX12_meets_111 (by decide) ?_
            exact zaS hQ hx hb hr hlk (by (try dsimp only); (try simp only [ti_0]); (first | omega | (intro h9; omega) | (simp; done) | (refine ⟨?_, ?_⟩ <;> intros <;> first | trivial | omega) | (refine ⟨?_, ?_, ?_⟩ <;> intros <;> first | trivial | omega))) dX12_meets_112
          · skip
            refine lv_iconst (v := 5) hx hb dX12_meets_107 (by decide) ?_
            refine lv_goto (tgt := 112) hx hb dX12_meets_108 (by decide) ?_
            exact zaS hQ hx hb hr hlk (by (try dsimp only); (try simp only [ti_5]); (first | omega | (intro h9; omega) | (simp; done) | (refine ⟨?_, ?_⟩ <;> intros <;> first | trivial | omega) | (refine ⟨?_, ?_, ?_⟩ <;> intros <;> first | trivial | omega))) dX12_meets_112
        · skip
          refine lv_aload_n hx hb dX12_meets_61 rfl (lv_at hl 0 rfl) ?_
          refine mg_0 C hs hP ha0 hk0 wf_X12_8 dX12_meets_62 ?_
          refine lv_iload_n hx hb dX12_meets_65 rfl (lv_at hl 1 rfl) ?_
          refine lv_bipush (v := 9) hx hb dX12_meets_66 (by decide) ?_
          refine lv_iadd hx hb dX12_meets_68 ?_
          refine lv_topi (fun x_44 ex_44 => ?_)
          obtain ⟨f_44, l_44, u_44⟩ := z_add ex_44 rfl ti_9
          try replace f_44 : x_44.toInt = x1.toInt + 9 := by omega
          have hi_hr_45 : x_44.toInt = x1.toInt + (9) := by omega
          have hr_45 := z_cell (lo := 9) (hi := 9) hp0 hi_hr_45 (by decide) (by decide)
          have hin_46 : vp_in x_44 (zn K (zr K a0 0)) := vp_in_iff.mpr (by rw [(hf_1.2.2 (by decide))]; exact hr_45.in)
          refine mld_40 C hs hP hf_1.1 hf_1.2.1 hin_46 dX12_meets_69 ?_
          have ep_47 : x_44.toNatClampNeg = (x1.toInt + 9).toNat := z_pos (hi_hr_45.trans (by omega))
          rw [ep_47]
          have tv_48 := rv_9 hT hr_45
          rw [ep_47] at tv_48
          refine lv_iload_n hx hb dX12_meets_70 rfl (lv_at hl 2 rfl) ?_
          refine bi_eq (tgt := 76) hx hb rfl rfl dX12_meets_71 (by decide) (fun c_49 => ?_) (fun c_49 => ?_)
          · skip
            refine lv_aload_n hx hb dX12_meets_76 rfl (lv_at hl 0 rfl) ?_
            refine mg_0 C hs hP ha0 hk0 wf_X12_8 dX12_meets_77 ?_
            refine lv_iload_n hx hb dX12_meets_80 rfl (lv_at hl 1 rfl) ?_
            refine lv_bipush (v := 50) hx hb dX12_meets_81 (by decide) ?_
            refine lv_iadd hx hb dX12_meets_83 ?_
            refine lv_topi (fun x_50 ex_50 => ?_)
            refine lv_aload_n hx hb dX12_meets_84 rfl (lv_at hl 0 rfl) ?_
            refine mg_0 C hs hP ha0 hk0 wf_X12_8 dX12_meets_85 ?_
            refine lv_iload_n hx hb dX12_meets_88 rfl (lv_at hl 1 rfl) ?_
            refine lv_sipush (v := 230) hx hb dX12_meets_89 (by decide) ?_
            refine lv_iadd hx hb dX12_meets_92 ?_
            refine lv_topi (fun x_51 ex_51 => ?_)
            refine lv_bipush (v := 60) hx hb dX12_meets_93 (by decide) ?_
            refine lv_iload_n hx hb dX12_meets_95 rfl (lv_at hl 2 rfl) ?_
            refine lv_imul hx hb dX12_meets_96 ?_
            refine lv_topi (fun x_52 ex_52 => ?_)
            refine lv_iadd hx hb dX12_meets_97 ?_
            refine lv_topi (fun x_53 ex_53 => ?_)
            refine lv_iload_n hx hb dX12_meets_98 rfl (lv_at hl 3 rfl) ?_
            refine lv_iadd hx hb dX12_meets_99 ?_
            refine lv_topi (fun x_54 ex_54 => ?_)
            obtain ⟨f_51, l_51, u_51⟩ := z_add ex_51 rfl ti_230
            try replace f_51 : x_51.toInt = x1.toInt + 230 := by omega
            obtain ⟨f_52, l_52, u_52⟩ := z_mul ex_52 ti_60 rfl
            try replace f_52 : x_52.toInt = 60 * x2.toInt := by omega
            obtain ⟨f_53, l_53, u_53⟩ := z_add ex_53 rfl rfl
            try replace f_53 : x_53.toInt = x_51.toInt + x_52.toInt := by omega
            obtain ⟨f_54, l_54, u_54⟩ := z_add ex_54 rfl rfl
            try replace f_54 : x_54.toInt = x_53.toInt + x3.toInt := by omega
            have hi_hr_55 : x_54.toInt = x1.toInt + (60 * x2.toInt + x3.toInt + 230) := by omega
            have hr_55 := z_cell (lo := 170) (hi := 469) hp0 hi_hr_55 (by omega) (by decide)
            have hin_56 : vp_in x_54 (zn K (zr K a0 0)) := vp_in_iff.mpr (by rw [(hf_1.2.2 (by decide))]; exact hr_55.in)
            refine mld_40 C hs hP hf_1.1 hf_1.2.1 hin_56 dX12_meets_100 ?_
            have ep_57 : x_54.toNatClampNeg = (x1.toInt + 60 * x2.toInt + x3.toInt + 230).toNat := z_pos (hi_hr_55.trans (by omega))
            rw [ep_57]
            have tv_58 := rv_170 hT hr_55
            rw [ep_57] at tv_58
            refine lv_iadd hx hb dX12_meets_101 ?_
            refine lv_topi (fun x_59 ex_59 => ?_)
            obtain ⟨f_50, l_50, u_50⟩ := z_add ex_50 rfl ti_50
            try replace f_50 : x_50.toInt = x1.toInt + 50 := by omega
            have g_60 := z_rng (A 40 (x1.toInt + 60 * x2.toInt + x3.toInt + 230).toNat)
            obtain ⟨f_59, l_59, u_59⟩ := z_add ex_59 rfl rfl
            try replace f_59 : x_59.toInt = x_50.toInt + (A 40 (x1.toInt + 60 * x2.toInt + x3.toInt + 230).toNat).toInt := by omega
            have hi_hr_61 : x_59.toInt = x1.toInt + ((A 40 (x1.toInt + 60 * x2.toInt + x3.toInt + 230).toNat).toInt + 50) := by omega
            have hr_61 := z_cell (lo := 45) (hi := 169) hp0 hi_hr_61 (by omega) (by decide)
            have hin_62 : vp_in x_59 (zn K (zr K a0 0)) := vp_in_iff.mpr (by rw [(hf_1.2.2 (by decide))]; exact hr_61.in)
            refine mld_40 C hs hP hf_1.1 hf_1.2.1 hin_62 dX12_meets_102 ?_
            have ep_63 : x_59.toNatClampNeg = ((A 40 (x1.toInt + 60 * x2.toInt + x3.toInt + 230).toNat).toInt + x1.toInt + 50).toNat := z_pos (hi_hr_61.trans (by omega))
            rw [ep_63]
            refine lv_iconst (v := 3) hx hb dX12_meets_103 (by decide) ?_
            refine bi_ne (tgt := 111) hx hb rfl ti_3 dX12_meets_104 (by decide) (fun c_64 => ?_) (fun c_64 => ?_)
            · skip
              refine lv_iconst (v := 0) hx hb dX12_meets_111 (by decide) ?_
              exact zaS hQ hx hb hr hlk (by (try dsimp only); (try simp only [ti_0]); (first | omega | (intro h9; omega) | (simp; done) | (refine ⟨?_, ?_⟩ <;> intros <;> first | trivial | omega) | (refine ⟨?_, ?_, ?_⟩ <;> intros <;> first | trivial | omega))) dX12_meets_112
            · skip
              refine lv_iconst (v := 5) hx hb dX12_meets_107 (by decide) ?_
              refine lv_goto (tgt := 112) hx hb dX12_meets_108 (by decide) ?_
              exact zaS hQ hx hb hr hlk (by (try dsimp only); (try simp only [ti_5]); (first | omega | (intro h9; omega) | (simp; done) | (refine ⟨?_, ?_⟩ <;> intros <;> first | trivial | omega) | (refine ⟨?_, ?_, ?_⟩ <;> intros <;> first | trivial | omega))) dX12_meets_112
          · skip
            refine lv_iconst (v := 4) hx hb dX12_meets_74 (by decide) ?_
            exact zaS hQ hx hb hr hlk (by (try dsimp only); (try simp only [ti_4]); (first | omega | (intro h9; omega) | (simp; done) | (refine ⟨?_, ?_⟩ <;> intros <;> first | trivial | omega) | (refine ⟨?_, ?_, ?_⟩ <;> intros <;> first | trivial | omega))) dX12_meets_75
      · skip
        replace pp_24 := pp_24.2 c_27
        refine lv_iconst (v := 3) hx hb dX12_meets_54 (by decide) ?_
        exact zaS hQ hx hb hr hlk (by (try dsimp only); (try simp only [ti_3]); (first | omega | (intro h9; omega) | (simp; done) | (refine ⟨?_, ?_⟩ <;> intros <;> first | trivial | omega) | (refine ⟨?_, ?_, ?_⟩ <;> intros <;> first | trivial | omega))) dX12_meets_55
    · skip
      refine lv_iconst (v := 2) hx hb dX12_meets_31 (by decide) ?_
      exact zaS hQ hx hb hr hlk (by (try dsimp only); (try simp only [ti_2]); (first | omega | (intro h9; omega) | (simp; done) | (refine ⟨?_, ?_⟩ <;> intros <;> first | trivial | omega) | (refine ⟨?_, ?_, ?_⟩ <;> intros <;> first | trivial | omega))) dX12_meets_32
  · skip
    refine lv_iconst (v := 1) hx hb dX12_meets_14 (by decide) ?_
    exact zaS hQ hx hb hr hlk (by (try dsimp only); (try simp only [ti_1]); (first | omega | (intro h9; omega) | (simp; done) | (refine ⟨?_, ?_⟩ <;> intros <;> first | trivial | omega) | (refine ⟨?_, ?_, ?_⟩ <;> intros <;> first | trivial | omega))) dX12_meets_15
set_option maxHeartbeats 4000000 in
set_option maxRecDepth 100000 in
theorem c_X12_barsGive (l : Launch) (D : va_G) (K : zK) (hM : mK K) (f : Nat → Int32) (A : Nat → Nat → Int32) (hT : mT f A) (a0 : Nat) (ha0 : a0 ∈ zl K) (hk0 : zk K a0 = 11) (x1 : Int32) (x2 : Int32) (x3 : Int32) (hp0 : zRow x1.toInt) (hp1 : 0 ≤ x2.toInt ∧ x2.toInt ≤ 3) (hp2 : 0 ≤ x3.toInt ∧ x3.toInt ≤ 59) : Met l yX12_barsGive (zc yX12_barsGive cX12_barsGive 4 (some .int)) (rmd 1) (va_Pc [.ref a0, .int x1, .int x2, .int x3] (zB D K (mV K f A))) (vp_Si (fun r => (0 ≤ r.toInt → (A 40 (x1.toInt + x2.toInt + 22).toNat).toInt < 15 ∧ (A 40 (x1.toInt + 5).toNat).toInt = 1 ∧ (A 40 (x1.toInt + x3.toInt + 110).toNat).toInt = 0))) 0 0 (fun _ => False) := by
  refine zin (by decide) (Nat.le_of_ble_eq_true rfl) ?_
  intro p e s m args below meth c ls Q hQ C hr hlk hP hs hl
  have C : CallFix p m c cX12_barsGive 4 s args zw RX12 := C
  obtain ⟨hx, hb, hml, hown, hts⟩ := id C
  have hO := hM.1
  have hS : va_S (zA K) s.heap s.heap [] := va_S.rf
  have hl : lv_has ls 4 [(0, .ref a0), (1, .int x1), (2, .int x2), (3, .int x3)] := hl
  have hb0 := hp0.lin
  refine lv_aload_n hx hb dX12_barsGive_0 rfl (lv_at hl 0 rfl) ?_
  refine mg_0 C hs hP ha0 hk0 wf_X12_8 dX12_barsGive_1 ?_
  have hf_1 := hO.r (j := 0) ha0 hk0 (rfl : zX 11 0 = some (40, 47730))
  refine lv_iload_n hx hb dX12_barsGive_4 rfl (lv_at hl 1 rfl) ?_
  refine lv_bipush (v := 22) hx hb dX12_barsGive_5 (by decide) ?_
  refine lv_iadd hx hb dX12_barsGive_7 ?_
  refine lv_topi (fun x_2 ex_2 => ?_)
  refine lv_iload_n hx hb dX12_barsGive_8 rfl (lv_at hl 2 rfl) ?_
  refine lv_iadd hx hb dX12_barsGive_9 ?_
  refine lv_topi (fun x_3 ex_3 => ?_)
  have g_4 := z_rng x1
  obtain ⟨f_2, l_2, u_2⟩ := z_add ex_2 rfl ti_22
  try replace f_2 : x_2.toInt = x1.toInt + 22 := by omega
  have g_5 := z_rng x2
  obtain ⟨f_3, l_3, u_3⟩ := z_add ex_3 rfl rfl
  try replace f_3 : x_3.toInt = x_2.toInt + x2.toInt := by omega
  have hi_hr_6 : x_3.toInt = x1.toInt + (x2.toInt + 22) := by omega
  have hr_6 := z_cell (lo := 22) (hi := 25) hp0 hi_hr_6 (by omega) (by decide)
  have hin_7 : vp_in x_3 (zn K (zr K a0 0)) := vp_in_iff.mpr (by rw [(hf_1.2.2 (by decide))]; exact hr_6.in)
  refine mld_40 C hs hP hf_1.1 hf_1.2.1 hin_7 dX12_barsGive_10 ?_
  have ep_8 : x_3.toNatClampNeg = (x1.toInt + x2.toInt + 22).toNat := z_pos (hi_hr_6.trans (by omega))
  rw [ep_8]
  have tv_9 := rv_22 hT hr_6
  rw [ep_8] at tv_9
  refine lv_aload_n hx hb dX12_barsGive_11 rfl (lv_at hl 0 rfl) ?_
  refine lv_iload_n hx hb dX12_barsGive_12 rfl (lv_at hl 1 rfl) ?_
  refine zcS (zrV (As := [.int x1]) (b := a0) (rest := [.int (A 40 (x1.toInt + x2.toInt + 22).toNat)]) C hs hP hS (c_X12_sizeOf l D K hM f A hT a0 ha0 hk0 x1 hp0) m_X12_sizeOf wm_X12_155 (zrecv hs hP ha0 (zF_11 hk0) rfl) ⟨by decide, by decide⟩ hl.1 (Nat.le_of_ble_eq_true rfl) dX12_barsGive_13) (fun x_10 p_10 => ?_)
  have pp_10 : 0 ≤ x_10.toInt ∧ x_10.toInt ≤ 15 := p_10
  refine bi_lt (tgt := 22) hx hb rfl rfl dX12_barsGive_16 (by decide) (fun c_11 => ?_) (fun c_11 => ?_)
  · skip
    refine lv_aload_n hx hb dX12_barsGive_22 rfl (lv_at hl 0 rfl) ?_
    refine lv_iload_n hx hb dX12_barsGive_23 rfl (lv_at hl 1 rfl) ?_
    refine lv_iload_n hx hb dX12_barsGive_24 rfl (lv_at hl 2 rfl) ?_
    have hq_12 : 0 ≤ x2.toInt ∧ x2.toInt ≤ 3 := by first | assumption | omega | (intros; omega)
    refine zcS (zrV (As := [.int x1, .int x2]) (b := a0) (rest := []) C hs hP hS (c_X12_isOpen l D K hM f A hT a0 ha0 hk0 x1 x2 hp0 hq_12) m_X12_isOpen wm_X12_178 (zrecv hs hP ha0 (zF_11 hk0) rfl) ⟨by decide, by decide⟩ hl.1 (Nat.le_of_ble_eq_true rfl) dX12_barsGive_25) (fun x_13 p_13 => ?_)
    have pp_13 : (x_13.toInt ≠ 0 → (A 40 (x1.toInt + 5).toNat).toInt = 1 ∧ (A 40 (x1.toInt + x2.toInt + 35).toNat).toInt = 1) := p_13.2
    refine bz_eq (tgt := 45) hx hb rfl dX12_barsGive_28 (by decide) (fun c_14 => ?_) (fun c_14 => ?_)
    · skip
      clear pp_13
      refine lv_bipush (v := (-4)) hx hb dX12_barsGive_45 (by decide) ?_
      refine lv_goto (tgt := 51) hx hb dX12_barsGive_47 (by decide) ?_
      exact zaS hQ hx hb hr hlk (by (try dsimp only); (try simp only [ti_m4]); (first | omega | (intro h9; omega) | (simp; done) | (refine ⟨?_, ?_⟩ <;> intros <;> first | trivial | omega) | (refine ⟨?_, ?_, ?_⟩ <;> intros <;> first | trivial | omega))) dX12_barsGive_51
    · skip
      replace pp_13 := pp_13 c_14
      refine lv_aload_n hx hb dX12_barsGive_31 rfl (lv_at hl 0 rfl) ?_
      refine mg_0 C hs hP ha0 hk0 wf_X12_8 dX12_barsGive_32 ?_
      refine lv_iload_n hx hb dX12_barsGive_35 rfl (lv_at hl 1 rfl) ?_
      refine lv_bipush (v := 110) hx hb dX12_barsGive_36 (by decide) ?_
      refine lv_iadd hx hb dX12_barsGive_38 ?_
      refine lv_topi (fun x_15 ex_15 => ?_)
      refine lv_iload_n hx hb dX12_barsGive_39 rfl (lv_at hl 3 rfl) ?_
      refine lv_iadd hx hb dX12_barsGive_40 ?_
      refine lv_topi (fun x_16 ex_16 => ?_)
      obtain ⟨f_15, l_15, u_15⟩ := z_add ex_15 rfl ti_110
      try replace f_15 : x_15.toInt = x1.toInt + 110 := by omega
      have g_17 := z_rng x3
      obtain ⟨f_16, l_16, u_16⟩ := z_add ex_16 rfl rfl
      try replace f_16 : x_16.toInt = x_15.toInt + x3.toInt := by omega
      have hi_hr_18 : x_16.toInt = x1.toInt + (x3.toInt + 110) := by omega
      have hr_18 := z_cell (lo := 45) (hi := 169) hp0 hi_hr_18 (by omega) (by decide)
      have hin_19 : vp_in x_16 (zn K (zr K a0 0)) := vp_in_iff.mpr (by rw [(hf_1.2.2 (by decide))]; exact hr_18.in)
      refine mld_40 C hs hP hf_1.1 hf_1.2.1 hin_19 dX12_barsGive_41 ?_
      have ep_20 : x_16.toNatClampNeg = (x1.toInt + x3.toInt + 110).toNat := z_pos (hi_hr_18.trans (by omega))
      rw [ep_20]
      refine bz_eq (tgt := 50) hx hb rfl dX12_barsGive_42 (by decide) (fun c_21 => ?_) (fun c_21 => ?_)
      · skip
        refine lv_iconst (v := 0) hx hb dX12_barsGive_50 (by decide) ?_
        exact zaS hQ hx hb hr hlk (by (try dsimp only); (try simp only [ti_0]); (first | omega | (intro h9; omega) | (simp; done) | (refine ⟨?_, ?_⟩ <;> intros <;> first | trivial | omega) | (refine ⟨?_, ?_, ?_⟩ <;> intros <;> first | trivial | omega))) dX12_barsGive_51
      · skip
        refine lv_bipush (v := (-4)) hx hb dX12_barsGive_45 (by decide) ?_
        refine lv_goto (tgt := 51) hx hb dX12_barsGive_47 (by decide) ?_
        exact zaS hQ hx hb hr hlk (by (try dsimp only); (try simp only [ti_m4]); (first | omega | (intro h9; omega) | (simp; done) | (refine ⟨?_, ?_⟩ <;> intros <;> first | trivial | omega) | (refine ⟨?_, ?_, ?_⟩ <;> intros <;> first | trivial | omega))) dX12_barsGive_51
  · skip
    refine lv_bipush (v := (-3)) hx hb dX12_barsGive_19 (by decide) ?_
    exact zaS hQ hx hb hr hlk (by (try dsimp only); (try simp only [ti_m3]); (first | omega | (intro h9; omega) | (simp; done) | (refine ⟨?_, ?_⟩ <;> intros <;> first | trivial | omega) | (refine ⟨?_, ?_, ?_⟩ <;> intros <;> first | trivial | omega))) dX12_barsGive_21
set_option maxHeartbeats 4000000 in
set_option maxRecDepth 100000 in
theorem c_X12_canBid (l : Launch) (D : va_G) (K : zK) (hM : mK K) (f : Nat → Int32) (A : Nat → Nat → Int32) (hT : mT f A) (a0 : Nat) (ha0 : a0 ∈ zl K) (hk0 : zk K a0 = 11) (x1 : Int32) (x2 : Int32) (x3 : Int32) (x4 : Int32) (hp0 : zRow x1.toInt) (hp1 : 0 ≤ x2.toInt ∧ x2.toInt ≤ 3) : Met l yX12_canBid (zc yX12_canBid cX12_canBid 6 (some .boolean)) (rmd 1) (va_Pc [.ref a0, .int x1, .int x2, .int x3, .int x4] (zB D K (mV K f A))) (vp_Si (fun r => (r = 0 ∨ r = 1))) 0 0 (fun _ => False) := by
  refine zin (by decide) (Nat.le_of_ble_eq_true rfl) ?_
  intro p e s m args below meth c ls Q hQ C hr hlk hP hs hl
  have C : CallFix p m c cX12_canBid 6 s args zw RX12 := C
  obtain ⟨hx, hb, hml, hown, hts⟩ := id C
  have hO := hM.1
  have hS : va_S (zA K) s.heap s.heap [] := va_S.rf
  have hl : lv_has ls 6 [(0, .ref a0), (1, .int x1), (2, .int x2), (3, .int x3), (4, .int x4)] := hl
  have hb0 := hp0.lin
  refine lv_iload_n hx hb dX12_canBid_0 rfl (lv_at hl 3 rfl) ?_
  refine lv_aload_n hx hb dX12_canBid_1 rfl (lv_at hl 0 rfl) ?_
  refine mg_0 C hs hP ha0 hk0 wf_X12_8 dX12_canBid_2 ?_
  have hf_1 := hO.r (j := 0) ha0 hk0 (rfl : zX 11 0 = some (40, 47730))
  refine lv_iload_n hx hb dX12_canBid_5 rfl (lv_at hl 1 rfl) ?_
  refine lv_bipush (v := 10) hx hb dX12_canBid_6 (by decide) ?_
  refine lv_iadd hx hb dX12_canBid_8 ?_
  refine lv_topi (fun x_2 ex_2 => ?_)
  have g_3 := z_rng x1
  obtain ⟨f_2, l_2, u_2⟩ := z_add ex_2 rfl ti_10
  try replace f_2 : x_2.toInt = x1.toInt + 10 := by omega
  have hi_hr_4 : x_2.toInt = x1.toInt + (10) := by omega
  have hr_4 := z_cell (lo := 10) (hi := 19) hp0 hi_hr_4 (by decide) (by decide)
  have hin_5 : vp_in x_2 (zn K (zr K a0 0)) := vp_in_iff.mpr (by rw [(hf_1.2.2 (by decide))]; exact hr_4.in)
  refine mld_40 C hs hP hf_1.1 hf_1.2.1 hin_5 dX12_canBid_9 ?_
  have ep_6 : x_2.toNatClampNeg = (x1.toInt + 10).toNat := z_pos (hi_hr_4.trans (by omega))
  rw [ep_6]
  have J_45_19 : ∀ (y_18 : Int32) (ls : Array Slot), (y_18 = 0 ∨ y_18 = 1) → lv_has ls 6 [(0, .ref a0), (1, .int x1), (2, .int x2), (3, .int x3), (4, .int x4)] → W p l e (rmd 1) s m args below meth c s.heap [] 0 0 Q (F0 m 45 ls [.int y_18]) := by
    intro y_18 ls hb_y_18 hl
    refine lv_istore (lv' := [(5, .int y_18), (0, .ref a0), (1, .int x1), (2, .int x2), (3, .int x3), (4, .int x4)]) hx hb dX12_canBid_45 hl (by decide) rfl (fun ls hl => ?_)
    refine lv_aload_n hx hb dX12_canBid_47 rfl (lv_at hl 1 rfl) ?_
    refine mg_0 C hs hP ha0 hk0 wf_X12_8 dX12_canBid_48 ?_
    refine lv_iload_n hx hb dX12_canBid_51 rfl (lv_at hl 2 rfl) ?_
    refine lv_iconst (v := 2) hx hb dX12_canBid_52 (by decide) ?_
    refine lv_iadd hx hb dX12_canBid_53 ?_
    refine lv_topi (fun x_21 ex_21 => ?_)
    obtain ⟨f_21, l_21, u_21⟩ := z_add ex_21 rfl ti_2
    try replace f_21 : x_21.toInt = x1.toInt + 2 := by omega
    have hi_hr_22 : x_21.toInt = x1.toInt + (2) := by omega
    have hr_22 := z_cell (lo := 2) (hi := 8) hp0 hi_hr_22 (by decide) (by decide)
    have hin_23 : vp_in x_21 (zn K (zr K a0 0)) := vp_in_iff.mpr (by rw [(hf_1.2.2 (by decide))]; exact hr_22.in)
    refine mld_40 C hs hP hf_1.1 hf_1.2.1 hin_23 dX12_canBid_54 ?_
    have ep_24 : x_21.toNatClampNeg = (x1.toInt + 2).toNat := z_pos (hi_hr_22.trans (by omega))
    rw [ep_24]
    refine lv_iconst (v := 3) hx hb dX12_canBid_55 (by decide) ?_
    refine bi_ne (tgt := 77) hx hb rfl ti_3 dX12_canBid_56 (by decide) (fun c_25 => ?_) (fun c_25 => ?_)
    · skip
      refine lv_iconst (v := 0) hx hb dX12_canBid_77 (by decide) ?_
      exact zaSz hQ hx hb hr hlk (Or.inl rfl) (Or.inl rfl) dX12_canBid_78
    · skip
      refine lv_aload_n hx hb dX12_canBid_59 rfl (lv_at hl 1 rfl) ?_
      refine lv_iload_n hx hb dX12_canBid_60 rfl (lv_at hl 2 rfl) ?_
      refine lv_iload_n hx hb dX12_canBid_61 rfl (lv_at hl 3 rfl) ?_
      have g_26 := z_rng x2
      have hq_27 : 0 ≤ x2.toInt ∧ x2.toInt ≤ 3 := by first | assumption | omega | (intros; omega)
      refine zcS (zrV (As := [.int x1, .int x2]) (b := a0) (rest := []) C hs hP hS (c_X12_isOpen l D K hM f A hT a0 ha0 hk0 x1 x2 hp0 hq_27) m_X12_isOpen wm_X12_178 (zrecv hs hP ha0 (zF_11 hk0) rfl) ⟨by decide, by decide⟩ hl.1 (Nat.le_of_ble_eq_true rfl) dX12_canBid_62) (fun x_28 p_28 => ?_)
      have pp_28 : (x_28.toInt ≠ 0 → (A 40 (x1.toInt + 5).toNat).toInt = 1 ∧ (A 40 (x1.toInt + x2.toInt + 35).toNat).toInt = 1) := p_28.2
      refine bz_eq (tgt := 77) hx hb rfl dX12_canBid_65 (by decide) (fun c_29 => ?_) (fun c_29 => ?_)
      · skip
        clear pp_28
        refine lv_iconst (v := 0) hx hb dX12_canBid_77 (by decide) ?_
        exact zaSz hQ hx hb hr hlk (Or.inl rfl) (Or.inl rfl) dX12_canBid_78
      · skip
        replace pp_28 := pp_28 c_29
        refine lv_iload hx hb dX12_canBid_68 (lv_at hl 0 rfl) ?_
        refine bz_eq (tgt := 77) hx hb rfl dX12_canBid_70 (by decide) (fun c_30 => ?_) (fun c_30 => ?_)
        · skip
          refine lv_iconst (v := 0) hx hb dX12_canBid_77 (by decide) ?_
          exact zaSz hQ hx hb hr hlk (Or.inl rfl) (Or.inl rfl) dX12_canBid_78
        · skip
          refine lv_iconst (v := 1) hx hb dX12_canBid_73 (by decide) ?_
          refine lv_goto (tgt := 78) hx hb dX12_canBid_74 (by decide) ?_
          exact zaSz hQ hx hb hr hlk (Or.inr rfl) (Or.inr rfl) dX12_canBid_78
  refine bi_gt (tgt := 40) hx hb rfl rfl dX12_canBid_10 (by decide) (fun c_7 => ?_) (fun c_7 => ?_)
  · skip
    refine lv_iconst (v := 1) hx hb dX12_canBid_40 (by decide) ?_
    refine lv_goto (tgt := 45) hx hb dX12_canBid_41 (by decide) ?_
    exact J_45_19 1 _ (Or.inr rfl) (lv_sub hl [0, 1, 2, 3, 4] rfl)
  · skip
    refine lv_iload_n hx hb dX12_canBid_13 rfl (lv_at hl 3 rfl) ?_
    refine lv_aload_n hx hb dX12_canBid_14 rfl (lv_at hl 0 rfl) ?_
    refine mg_0 C hs hP ha0 hk0 wf_X12_8 dX12_canBid_15 ?_
    refine lv_iload_n hx hb dX12_canBid_18 rfl (lv_at hl 1 rfl) ?_
    refine lv_bipush (v := 10) hx hb dX12_canBid_19 (by decide) ?_
    refine lv_iadd hx hb dX12_canBid_21 ?_
    refine lv_topi (fun x_31 ex_31 => ?_)
    obtain ⟨f_31, l_31, u_31⟩ := z_add ex_31 rfl ti_10
    try replace f_31 : x_31.toInt = x1.toInt + 10 := by omega
    have hi_hr_32 : x_31.toInt = x1.toInt + (10) := by omega
    have hr_32 := z_cell (lo := 10) (hi := 19) hp0 hi_hr_32 (by decide) (by decide)
    have hin_33 : vp_in x_31 (zn K (zr K a0 0)) := vp_in_iff.mpr (by rw [(hf_1.2.2 (by decide))]; exact hr_32.in)
    refine mld_40 C hs hP hf_1.1 hf_1.2.1 hin_33 dX12_canBid_22 ?_
    have ep_34 : x_31.toNatClampNeg = (x1.toInt + 10).toNat := z_pos (hi_hr_32.trans (by omega))
    rw [ep_34]
    refine bi_ne (tgt := 44) hx hb rfl rfl dX12_canBid_23 (by decide) (fun c_35 => ?_) (fun c_35 => ?_)
    · skip
      refine lv_iconst (v := 0) hx hb dX12_canBid_44 (by decide) ?_
      exact J_45_19 0 _ (Or.inl rfl) (lv_sub hl [0, 1, 2, 3, 4] rfl)
    · skip
      refine lv_iload hx hb dX12_canBid_26 (lv_at hl 4 rfl) ?_
      refine lv_aload_n hx hb dX12_canBid_28 rfl (lv_at hl 0 rfl) ?_
      refine mg_0 C hs hP ha0 hk0 wf_X12_8 dX12_canBid_29 ?_
      refine lv_iload_n hx hb dX12_canBid_32 rfl (lv_at hl 1 rfl) ?_
      refine lv_bipush (v := 11) hx hb dX12_canBid_33 (by decide) ?_
      refine lv_iadd hx hb dX12_canBid_35 ?_
      refine lv_topi (fun x_36 ex_36 => ?_)
      obtain ⟨f_36, l_36, u_36⟩ := z_add ex_36 rfl ti_11
      try replace f_36 : x_36.toInt = x1.toInt + 11 := by omega
      have hi_hr_37 : x_36.toInt = x1.toInt + (11) := by omega
      have hr_37 := z_cell (lo := 10) (hi := 19) hp0 hi_hr_37 (by decide) (by decide)
      have hin_38 : vp_in x_36 (zn K (zr K a0 0)) := vp_in_iff.mpr (by rw [(hf_1.2.2 (by decide))]; exact hr_37.in)
      refine mld_40 C hs hP hf_1.1 hf_1.2.1 hin_38 dX12_canBid_36 ?_
      have ep_39 : x_36.toNatClampNeg = (x1.toInt + 11).toNat := z_pos (hi_hr_37.trans (by omega))
      rw [ep_39]
      refine bi_le (tgt := 44) hx hb rfl rfl dX12_canBid_37 (by decide) (fun c_40 => ?_) (fun c_40 => ?_)
      · skip
        refine lv_iconst (v := 0) hx hb dX12_canBid_44 (by decide) ?_
        exact J_45_19 0 _ (Or.inl rfl) (lv_sub hl [0, 1, 2, 3, 4] rfl)
      · skip
        refine lv_iconst (v := 1) hx hb dX12_canBid_40 (by decide) ?_
        refine lv_goto (tgt := 45) hx hb dX12_canBid_41 (by decide) ?_
        exact J_45_19 1 _ (Or.inr rfl) (lv_sub hl [0, 1, 2, 3, 4] rfl)
set_option maxHeartbeats 4000000 in
set_option maxRecDepth 100000 in
theorem c_X12_canDouble (l : Launch) (D : va_G) (K : zK) (hM : mK K) (f : Nat → Int32) (A : Nat → Nat → Int32) (hT : mT f A) (a0 : Nat) (ha0 : a0 ∈ zl K) (hk0 : zk K a0 = 11) (x1 : Int32) (x2 : Int32) (hp0 : zRow x1.toInt) (hp1 : 0 ≤ x2.toInt ∧ x2.toInt ≤ 3) : Met l yX12_canDouble (zc yX12_canDouble cX12_canDouble 5 (some .boolean)) (rmd 1) (va_Pc [.ref a0, .int x1, .int x2] (zB D K (mV K f A))) (vp_Si (fun r => (r = 0 ∨ r = 1))) 0 0 (fun _ => False) := by
  refine zin (by decide) (Nat.le_of_ble_eq_true rfl) ?_
  intro p e s m args below meth c ls Q hQ C hr hlk hP hs hl
  have C : CallFix p m c cX12_canDouble 5 s args zw RX12 := C
  obtain ⟨hx, hb, hml, hown, hts⟩ := id C
  have hO := hM.1
  have hS : va_S (zA K) s.heap s.heap [] := va_S.rf
  have hl : lv_has ls 5 [(0, .ref a0), (1, .int x1), (2, .int x2)] := hl
  have hb0 := hp0.lin
  refine lv_aload_n hx hb dX12_canDouble_0 rfl (lv_at hl 0 rfl) ?_
  refine mg_0 C hs hP ha0 hk0 wf_X12_8 dX12_canDouble_1 ?_
  have hf_1 := hO.r (j := 0) ha0 hk0 (rfl : zX 11 0 = some (40, 47730))
  refine lv_iload_n hx hb dX12_canDouble_4 rfl (lv_at hl 1 rfl) ?_
  refine lv_bipush (v := 12) hx hb dX12_canDouble_5 (by decide) ?_
  refine lv_iadd hx hb dX12_canDouble_7 ?_
  refine lv_topi (fun x_2 ex_2 => ?_)
  have g_3 := z_rng x1
  obtain ⟨f_2, l_2, u_2⟩ := z_add ex_2 rfl ti_12
  try replace f_2 : x_2.toInt = x1.toInt + 12 := by omega
  have hi_hr_4 : x_2.toInt = x1.toInt + (12) := by omega
  have hr_4 := z_cell (lo := 10) (hi := 19) hp0 hi_hr_4 (by decide) (by decide)
  have hin_5 : vp_in x_2 (zn K (zr K a0 0)) := vp_in_iff.mpr (by rw [(hf_1.2.2 (by decide))]; exact hr_4.in)
  refine mld_40 C hs hP hf_1.1 hf_1.2.1 hin_5 dX12_canDouble_8 ?_
  have ep_6 : x_2.toNatClampNeg = (x1.toInt + 12).toNat := z_pos (hi_hr_4.trans (by omega))
  rw [ep_6]
  refine lv_iconst (v := 2) hx hb dX12_canDouble_9 (by decide) ?_
  refine lv_irem hx hb dX12_canDouble_10 (by decide) ?_
  refine lv_topi (fun x_7 ex_7 => ?_)
  refine lv_iload_n hx hb dX12_canDouble_11 rfl (lv_at hl 2 rfl) ?_
  refine lv_iconst (v := 2) hx hb dX12_canDouble_12 (by decide) ?_
  refine lv_irem hx hb dX12_canDouble_13 (by decide) ?_
  refine lv_topi (fun x_8 ex_8 => ?_)
  have J_22_11 : ∀ (y_10 : Int32) (ls : Array Slot), (y_10 = 0 ∨ y_10 = 1) → lv_has ls 5 [(0, .ref a0), (1, .int x1), (2, .int x2)] → W p l e (rmd 1) s m args below meth c s.heap [] 0 0 Q (F0 m 22 ls [.int y_10]) := by
    intro y_10 ls hb_y_10 hl
    refine lv_istore_n (lv' := [(3, .int y_10), (0, .ref a0), (1, .int x1), (2, .int x2)]) hx hb dX12_canDouble_22 rfl hl (by decide) rfl (fun ls hl => ?_)
    refine lv_aload_n hx hb dX12_canDouble_23 rfl (lv_at hl 1 rfl) ?_
    refine mg_0 C hs hP ha0 hk0 wf_X12_8 dX12_canDouble_24 ?_
    refine lv_iload_n hx hb dX12_canDouble_27 rfl (lv_at hl 2 rfl) ?_
    refine lv_bipush (v := 13) hx hb dX12_canDouble_28 (by decide) ?_
    refine lv_iadd hx hb dX12_canDouble_30 ?_
    refine lv_topi (fun x_13 ex_13 => ?_)
    obtain ⟨f_13, l_13, u_13⟩ := z_add ex_13 rfl ti_13
    try replace f_13 : x_13.toInt = x1.toInt + 13 := by omega
    have hi_hr_14 : x_13.toInt = x1.toInt + (13) := by omega
    have hr_14 := z_cell (lo := 10) (hi := 19) hp0 hi_hr_14 (by decide) (by decide)
    have hin_15 : vp_in x_13 (zn K (zr K a0 0)) := vp_in_iff.mpr (by rw [(hf_1.2.2 (by decide))]; exact hr_14.in)
    refine mld_40 C hs hP hf_1.1 hf_1.2.1 hin_15 dX12_canDouble_31 ?_
    have ep_16 : x_13.toNatClampNeg = (x1.toInt + 13).toNat := z_pos (hi_hr_14.trans (by omega))
    rw [ep_16]
    refine lv_istore (lv' := [(4, .int (A 40 (x1.toInt + 13).toNat)), (3, .int y_10), (0, .ref a0), (1, .int x1), (2, .int x2)]) hx hb dX12_canDouble_32 hl (by decide) rfl (fun ls hl => ?_)
    refine lv_aload_n hx hb dX12_canDouble_34 rfl (lv_at hl 2 rfl) ?_
    refine mg_0 C hs hP ha0 hk0 wf_X12_8 dX12_canDouble_35 ?_
    refine lv_iload_n hx hb dX12_canDouble_38 rfl (lv_at hl 3 rfl) ?_
    refine lv_bipush (v := 10) hx hb dX12_canDouble_39 (by decide) ?_
    refine lv_iadd hx hb dX12_canDouble_41 ?_
    refine lv_topi (fun x_17 ex_17 => ?_)
    obtain ⟨f_17, l_17, u_17⟩ := z_add ex_17 rfl ti_10
    try replace f_17 : x_17.toInt = x1.toInt + 10 := by omega
    have hi_hr_18 : x_17.toInt = x1.toInt + (10) := by omega
    have hr_18 := z_cell (lo := 10) (hi := 19) hp0 hi_hr_18 (by decide) (by decide)
    have hin_19 : vp_in x_17 (zn K (zr K a0 0)) := vp_in_iff.mpr (by rw [(hf_1.2.2 (by decide))]; exact hr_18.in)
    refine mld_40 C hs hP hf_1.1 hf_1.2.1 hin_19 dX12_canDouble_42 ?_
    have ep_20 : x_17.toNatClampNeg = (x1.toInt + 10).toNat := z_pos (hi_hr_18.trans (by omega))
    rw [ep_20]
    refine bz_le (tgt := 78) hx hb rfl dX12_canDouble_43 (by decide) (fun c_21 => ?_) (fun c_21 => ?_)
    · skip
      refine lv_iconst (v := 0) hx hb dX12_canDouble_78 (by decide) ?_
      exact zaSz hQ hx hb hr hlk (Or.inl rfl) (Or.inl rfl) dX12_canDouble_79
    · skip
      refine lv_aload_n hx hb dX12_canDouble_46 rfl (lv_at hl 2 rfl) ?_
      refine lv_iload_n hx hb dX12_canDouble_47 rfl (lv_at hl 3 rfl) ?_
      refine lv_iload_n hx hb dX12_canDouble_48 rfl (lv_at hl 4 rfl) ?_
      have g_22 := z_rng x2
      have hq_23 : 0 ≤ x2.toInt ∧ x2.toInt ≤ 3 := by first | assumption | omega | (intros; omega)
      refine zcS (zrV (As := [.int x1, .int x2]) (b := a0) (rest := []) C hs hP hS (c_X12_isOpen l D K hM f A hT a0 ha0 hk0 x1 x2 hp0 hq_23) m_X12_isOpen wm_X12_178 (zrecv hs hP ha0 (zF_11 hk0) rfl) ⟨by decide, by decide⟩ hl.1 (Nat.le_of_ble_eq_true rfl) dX12_canDouble_49) (fun x_24 p_24 => ?_)
      have pp_24 : (x_24.toInt ≠ 0 → (A 40 (x1.toInt + 5).toNat).toInt = 1 ∧ (A 40 (x1.toInt + x2.toInt + 35).toNat).toInt = 1) := p_24.2
      refine bz_eq (tgt := 78) hx hb rfl dX12_canDouble_52 (by decide) (fun c_25 => ?_) (fun c_25 => ?_)
      · skip
        clear pp_24
        refine lv_iconst (v := 0) hx hb dX12_canDouble_78 (by decide) ?_
        exact zaSz hQ hx hb hr hlk (Or.inl rfl) (Or.inl rfl) dX12_canDouble_79
      · skip
        replace pp_24 := pp_24 c_25
        refine lv_iload hx hb dX12_canDouble_55 (lv_at hl 0 rfl) ?_
        refine bz_ne (tgt := 64) hx hb rfl dX12_canDouble_57 (by decide) (fun c_26 => ?_) (fun c_26 => ?_)
        · skip
          refine lv_iload hx hb dX12_canDouble_64 (lv_at hl 0 rfl) ?_
          refine lv_iconst (v := 1) hx hb dX12_canDouble_66 (by decide) ?_
          refine bi_ne (tgt := 78) hx hb rfl ti_1 dX12_canDouble_67 (by decide) (fun c_27 => ?_) (fun c_27 => ?_)
          · skip
            refine lv_iconst (v := 0) hx hb dX12_canDouble_78 (by decide) ?_
            exact zaSz hQ hx hb hr hlk (Or.inl rfl) (Or.inl rfl) dX12_canDouble_79
          · skip
            refine lv_iload_n hx hb dX12_canDouble_70 rfl (lv_at hl 1 rfl) ?_
            refine bz_eq (tgt := 78) hx hb rfl dX12_canDouble_71 (by decide) (fun c_28 => ?_) (fun c_28 => ?_)
            · skip
              refine lv_iconst (v := 0) hx hb dX12_canDouble_78 (by decide) ?_
              exact zaSz hQ hx hb hr hlk (Or.inl rfl) (Or.inl rfl) dX12_canDouble_79
            · skip
              refine lv_iconst (v := 1) hx hb dX12_canDouble_74 (by decide) ?_
              refine lv_goto (tgt := 79) hx hb dX12_canDouble_75 (by decide) ?_
              exact zaSz hQ hx hb hr hlk (Or.inr rfl) (Or.inr rfl) dX12_canDouble_79
        · skip
          refine lv_iload_n hx hb dX12_canDouble_60 rfl (lv_at hl 1 rfl) ?_
          refine bz_eq (tgt := 74) hx hb rfl dX12_canDouble_61 (by decide) (fun c_29 => ?_) (fun c_29 => ?_)
          · skip
            refine lv_iconst (v := 1) hx hb dX12_canDouble_74 (by decide) ?_
            refine lv_goto (tgt := 79) hx hb dX12_canDouble_75 (by decide) ?_
            exact zaSz hQ hx hb hr hlk (Or.inr rfl) (Or.inr rfl) dX12_canDouble_79
          · skip
            refine lv_iload hx hb dX12_canDouble_64 (lv_at hl 0 rfl) ?_
            refine lv_iconst (v := 1) hx hb dX12_canDouble_66 (by decide) ?_
            refine bi_ne (tgt := 78) hx hb rfl ti_1 dX12_canDouble_67 (by decide) (fun c_30 => ?_) (fun c_30 => ?_)
            · skip
              refine lv_iconst (v := 0) hx hb dX12_canDouble_78 (by decide) ?_
              exact zaSz hQ hx hb hr hlk (Or.inl rfl) (Or.inl rfl) dX12_canDouble_79
            · skip
              refine lv_iload_n hx hb dX12_canDouble_70 rfl (lv_at hl 1 rfl) ?_
              refine bz_eq (tgt := 78) hx hb rfl dX12_canDouble_71 (by decide) (fun c_31 => ?_) (fun c_31 => ?_)
              · skip
                refine lv_iconst (v := 0) hx hb dX12_canDouble_78 (by decide) ?_
                exact zaSz hQ hx hb hr hlk (Or.inl rfl) (Or.inl rfl) dX12_canDouble_79
              · skip
                refine lv_iconst (v := 1) hx hb dX12_canDouble_74 (by decide) ?_
                refine lv_goto (tgt := 79) hx hb dX12_canDouble_75 (by decide) ?_
                exact zaSz hQ hx hb hr hlk (Or.inr rfl) (Or.inr rfl) dX12_canDouble_79
  refine bi_ne (tgt := 21) hx hb rfl rfl dX12_canDouble_14 (by decide) (fun c_9 => ?_) (fun c_9 => ?_)
  · skip
    refine lv_iconst (v := 0) hx hb dX12_canDouble_21 (by decide) ?_
    exact J_22_11 0 _ (Or.inl rfl) (lv_sub hl [0, 1, 2] rfl)
  · skip
    refine lv_iconst (v := 1) hx hb dX12_canDouble_17 (by decide) ?_
    refine lv_goto (tgt := 22) hx hb dX12_canDouble_18 (by decide) ?_
    exact J_22_11 1 _ (Or.inr rfl) (lv_sub hl [0, 1, 2] rfl)
