set_option maxHeartbeats 4000000 in
set_option maxRecDepth 100000 in
theorem c_X12_canLay (l : Launch) (D : va_G) (K : zK) (hM : mK K) (f : Nat → Int32) (A : Nat → Nat → Int32) (hT : mT f A) (a0 : Nat) (ha0 : a0 ∈ zl K) (hk0 : zk K a0 = 11) (x1 : Int32) (x2 : Int32) (hp0 : 0 ≤ x1.toInt ∧ x1.toInt ≤ 46440 ∧ x1.toInt % 1290 = 0) (hp1 : 0 ≤ x2.toInt ∧ x2.toInt ≤ 3) : Met l yX12_canLay (zc yX12_canLay cX12_canLay 4 (some .boolean)) (rmd 0) (va_Pc [.ref a0, .int x1, .int x2] (zB D K (mV K f A))) (vp_Si (fun r => (r = 0 ∨ r = 1) ∧ (r.toInt ≠ 0 → 1 ≤ (A 40 (x1.toInt + x2.toInt + 22).toNat).toInt))) 0 0 (fun _ => False) := by
  refine zin (by decide) (Nat.le_of_ble_eq_true rfl) ?_
  intro p e s m args below meth c ls Q hQ C hr hlk hP hs hl
  have C : CallFix p m c cX12_canLay 4 s args zw RX12 := C
  obtain ⟨hx, hb, hml, hown, hts⟩ := id C
  have hO := hM.1
  have hS : va_S (zA K) s.heap s.heap [] := va_S.rf
  have hl : lv_has ls 4 [(0, .ref a0), (1, .int x1), (2, .int x2)] := hl
  refine lv_iconst (v := 0) hx hb dX12_canLay_0 (by decide) ?_
  refine lv_istore_n (lv' := [(3, .int 0), (0, .ref a0), (1, .int x1), (2, .int x2)]) hx hb dX12_canLay_1 rfl hl (by decide) rfl (fun ls hl => ?_)
  have L_2_2 : ∀ (n_2 : Nat) (y_1 : Int32) (ls : Array Slot), (2147483648 - y_1.toInt).toNat < n_2 → 0 ≤ y_1.toInt → lv_has ls 4 [(3, .int y_1), (0, .ref a0), (1, .int x1), (2, .int x2)] → W p l e (rmd 0) s m args below meth c s.heap [] 0 0 Q (F0 m 2 ls []) := by
    intro n_2
    induction n_2 with
    | zero => intro y_1 ls hm_2; exact absurd hm_2 (Nat.not_lt_zero _)
    | succ n_2 ih_2 =>
      intro y_1 ls hm_2 iv_3_0 hl
      refine lv_iload_n hx hb dX12_canLay_2 rfl (lv_at hl 0 rfl) ?_
      refine lv_aload_n hx hb dX12_canLay_3 rfl (lv_at hl 1 rfl) ?_
      refine mg_0 C hs hP ha0 hk0 wf_X12_8 dX12_canLay_4 ?_
      have hf_4 := hO.r (j := 0) ha0 hk0 (rfl : zX 11 0 = some (40, 47730))
      refine lv_iload_n hx hb dX12_canLay_7 rfl (lv_at hl 2 rfl) ?_
      refine lv_bipush (v := 22) hx hb dX12_canLay_8 (by decide) ?_
      refine lv_iadd hx hb dX12_canLay_10 ?_
      refine lv_topi (fun x_5 ex_5 => ?_)
      refine lv_iload_n hx hb dX12_canLay_11 rfl (lv_at hl 3 rfl) ?_
      refine lv_iadd hx hb dX12_canLay_12 ?_
      refine lv_topi (fun x_6 ex_6 => ?_)
      have g_8 := z_rng x1
      obtain ⟨f_5, l_5, u_5⟩ := z_add ex_5 rfl ti_22
      try replace f_5 : x_5.toInt = x1.toInt + 22 := by omega
      have g_9 := z_rng x2
      obtain ⟨f_6, l_6, u_6⟩ := z_add ex_6 rfl rfl
      try replace f_6 : x_6.toInt = x_5.toInt + x2.toInt := by omega
      have hin_7 : vp_in x_6 (zn K (zr K a0 0)) := vp_in_iff.mpr (by rw [(hf_4.2.2 (by decide))]; refine ⟨?_, ?_⟩ <;> omega)
      refine mld_40 C hs hP hf_4.1 hf_4.2.1 hin_7 dX12_canLay_13 ?_
      have ep_10 : x_6.toNatClampNeg = (x1.toInt + x2.toInt + 22).toNat := by show x_6.toInt.toNat = _; rw [show x_6.toInt = (x1.toInt + x2.toInt + 22) by omega]
      rw [ep_10]
      have hm_hr_11 : x_6.toInt % 1290 = x2.toInt + 22 := z_m1290 (b := x1.toInt) (by omega) (by omega) (by omega)
      have hr_11 : 0 ≤ x_6.toInt ∧ x_6.toInt < 47730 ∧ 22 ≤ x_6.toInt % 1290 ∧ x_6.toInt % 1290 ≤ 25 := by rw [hm_hr_11]; omega
      have tv_12 := rt_22 hT hr_11.1 hr_11.2.1 hr_11.2.2.1 hr_11.2.2.2
      rw [ep_10] at tv_12
      refine bi_ge (tgt := 56) hx hb rfl rfl dX12_canLay_14 (by decide) (fun c_13 => ?_) (fun c_13 => ?_)
      · skip
        refine lv_iconst (v := 0) hx hb dX12_canLay_56 (by decide) ?_
        exact zaSz hQ hx hb hr hlk (Or.inl rfl) ⟨(Or.inl rfl), (by (try simp only [ti_0]); first | omega | (intro h9; omega) | (simp; done) | (refine ⟨?_, ?_⟩ <;> intros <;> omega) | (refine ⟨?_, ?_, ?_⟩ <;> intros <;> omega))⟩ dX12_canLay_57
      · skip
        refine lv_aload_n hx hb dX12_canLay_17 rfl (lv_at hl 1 rfl) ?_
        refine mg_0 C hs hP ha0 hk0 wf_X12_8 dX12_canLay_18 ?_
        refine lv_iload_n hx hb dX12_canLay_21 rfl (lv_at hl 2 rfl) ?_
        refine lv_bipush (v := 50) hx hb dX12_canLay_22 (by decide) ?_
        refine lv_iadd hx hb dX12_canLay_24 ?_
        refine lv_topi (fun x_14 ex_14 => ?_)
        refine lv_aload_n hx hb dX12_canLay_25 rfl (lv_at hl 1 rfl) ?_
        refine mg_0 C hs hP ha0 hk0 wf_X12_8 dX12_canLay_26 ?_
        refine lv_iload_n hx hb dX12_canLay_29 rfl (lv_at hl 2 rfl) ?_
        refine lv_sipush (v := 230) hx hb dX12_canLay_30 (by decide) ?_
        refine lv_iadd hx hb dX12_canLay_33 ?_
        refine lv_topi (fun x_15 ex_15 => ?_)
        refine lv_bipush (v := 60) hx hb dX12_canLay_34 (by decide) ?_
        refine lv_iload_n hx hb dX12_canLay_36 rfl (lv_at hl 3 rfl) ?_
        refine lv_imul hx hb dX12_canLay_37 ?_
        refine lv_topi (fun x_16 ex_16 => ?_)
        refine lv_iadd hx hb dX12_canLay_38 ?_
        refine lv_topi (fun x_17 ex_17 => ?_)
        refine lv_iload_n hx hb dX12_canLay_39 rfl (lv_at hl 0 rfl) ?_
        refine lv_iadd hx hb dX12_canLay_40 ?_
        refine lv_topi (fun x_18 ex_18 => ?_)
        obtain ⟨f_15, l_15, u_15⟩ := z_add ex_15 rfl ti_230
        try replace f_15 : x_15.toInt = x1.toInt + 230 := by omega
        obtain ⟨f_16, l_16, u_16⟩ := z_mul ex_16 ti_60 rfl
        try replace f_16 : x_16.toInt = 60 * x2.toInt := by omega
        obtain ⟨f_17, l_17, u_17⟩ := z_add ex_17 rfl rfl
        try replace f_17 : x_17.toInt = x_15.toInt + x_16.toInt := by omega
        have g_20 := z_rng y_1
        obtain ⟨f_18, l_18, u_18⟩ := z_add ex_18 rfl rfl
        try replace f_18 : x_18.toInt = x_17.toInt + y_1.toInt := by omega
        have hin_19 : vp_in x_18 (zn K (zr K a0 0)) := vp_in_iff.mpr (by rw [(hf_4.2.2 (by decide))]; refine ⟨?_, ?_⟩ <;> omega)
        refine mld_40 C hs hP hf_4.1 hf_4.2.1 hin_19 dX12_canLay_41 ?_
        have ep_21 : x_18.toNatClampNeg = (x1.toInt + 60 * x2.toInt + y_1.toInt + 230).toNat := by show x_18.toInt.toNat = _; rw [show x_18.toInt = (x1.toInt + 60 * x2.toInt + y_1.toInt + 230) by omega]
        rw [ep_21]
        have hm_hr_22 : x_18.toInt % 1290 = 60 * x2.toInt + y_1.toInt + 230 := z_m1290 (b := x1.toInt) (by omega) (by omega) (by omega)
        have hr_22 : 0 ≤ x_18.toInt ∧ x_18.toInt < 47730 ∧ 170 ≤ x_18.toInt % 1290 ∧ x_18.toInt % 1290 ≤ 469 := by rw [hm_hr_22]; omega
        have tv_23 := rt_170 hT hr_22.1 hr_22.2.1 hr_22.2.2.1 hr_22.2.2.2
        rw [ep_21] at tv_23
        refine lv_iadd hx hb dX12_canLay_42 ?_
        refine lv_topi (fun x_24 ex_24 => ?_)
        obtain ⟨f_14, l_14, u_14⟩ := z_add ex_14 rfl ti_50
        try replace f_14 : x_14.toInt = x1.toInt + 50 := by omega
        have g_26 := z_rng (A 40 (x1.toInt + 60 * x2.toInt + y_1.toInt + 230).toNat)
        obtain ⟨f_24, l_24, u_24⟩ := z_add ex_24 rfl rfl
        try replace f_24 : x_24.toInt = x_14.toInt + (A 40 (x1.toInt + 60 * x2.toInt + y_1.toInt + 230).toNat).toInt := by omega
        have hin_25 : vp_in x_24 (zn K (zr K a0 0)) := vp_in_iff.mpr (by rw [(hf_4.2.2 (by decide))]; refine ⟨?_, ?_⟩ <;> omega)
        refine mld_40 C hs hP hf_4.1 hf_4.2.1 hin_25 dX12_canLay_43 ?_
        have ep_27 : x_24.toNatClampNeg = ((A 40 (x1.toInt + 60 * x2.toInt + y_1.toInt + 230).toNat).toInt + x1.toInt + 50).toNat := by show x_24.toInt.toNat = _; rw [show x_24.toInt = ((A 40 (x1.toInt + 60 * x2.toInt + y_1.toInt + 230).toNat).toInt + x1.toInt + 50) by omega]
        rw [ep_27]
        refine lv_iconst (v := 3) hx hb dX12_canLay_44 (by decide) ?_
        refine bi_eq (tgt := 50) hx hb rfl ti_3 dX12_canLay_45 (by decide) (fun c_28 => ?_) (fun c_28 => ?_)
        · skip
          obtain ⟨x_29, ex_29⟩ : ∃ y : Int32, y = y_1 + 1 := ⟨_, rfl⟩
          refine lv_iinc (v := x_29) (lv' := [(3, .int x_29), (0, .ref a0), (1, .int x1), (2, .int x2)]) hx hb dX12_canLay_50 hl (k := 0) rfl (by rw [ex_29]; rfl) (by decide) rfl (fun ls hl => ?_)
          refine lv_goto (tgt := 2) hx hb dX12_canLay_53 (by decide) ?_
          obtain ⟨f_29, l_29, u_29⟩ := z_add ex_29 rfl ti_1
          try replace f_29 : x_29.toInt = y_1.toInt + 1 := by omega
          have g_30 := z_rng (A 40 (x1.toInt + x2.toInt + 22).toNat)
          have g_31 := z_rng (A 40 ((A 40 (x1.toInt + 60 * x2.toInt + y_1.toInt + 230).toNat).toInt + x1.toInt + 50).toNat)
          exact ih_2 x_29 _ (by omega) (by omega) (lv_sub hl [0, 1, 2, 3] rfl)
        · skip
          refine lv_iconst (v := 1) hx hb dX12_canLay_48 (by decide) ?_
          exact zaSz hQ hx hb hr hlk (Or.inr rfl) ⟨(Or.inr rfl), (by (try simp only [ti_1]); first | omega | (intro h9; omega) | (simp; done) | (refine ⟨?_, ?_⟩ <;> intros <;> omega) | (refine ⟨?_, ?_, ?_⟩ <;> intros <;> omega))⟩ dX12_canLay_49
  exact L_2_2 _ 0 _ (Nat.lt_succ_self _) (by (try simp only [ti_0]); omega) (lv_sub hl [0, 1, 2, 3] rfl)
set_option maxHeartbeats 4000000 in
set_option maxRecDepth 100000 in
theorem c_X12_meets (l : Launch) (D : va_G) (K : zK) (hM : mK K) (f : Nat → Int32) (A : Nat → Nat → Int32) (hT : mT f A) (a0 : Nat) (ha0 : a0 ∈ zl K) (hk0 : zk K a0 = 11) (x1 : Int32) (x2 : Int32) (x3 : Int32) (x4 : Int32) (hp0 : 0 ≤ x1.toInt ∧ x1.toInt ≤ 46440 ∧ x1.toInt % 1290 = 0) (hp1 : 0 ≤ x2.toInt ∧ x2.toInt ≤ 3) : Met l yX12_meets (zc yX12_meets cX12_meets 5 (some .int)) (rmd 1) (va_Pc [.ref a0, .int x1, .int x2, .int x3, .int x4] (zB D K (mV K f A))) (vp_Si (fun r => (r.toInt ≤ 0 → 0 ≤ x3.toInt ∧ x3.toInt < (A 40 (x1.toInt + x2.toInt + 22).toNat).toInt ∧ (x4.toInt ≠ 0 → (A 40 (x1.toInt + 9).toNat).toInt = x2.toInt)))) 0 0 (fun _ => False) := by
  refine zin (by decide) (Nat.le_of_ble_eq_true rfl) ?_
  intro p e s m args below meth c ls Q hQ C hr hlk hP hs hl
  have C : CallFix p m c cX12_meets 5 s args zw RX12 := C
  obtain ⟨hx, hb, hml, hown, hts⟩ := id C
  have hO := hM.1
  have hS : va_S (zA K) s.heap s.heap [] := va_S.rf
  have hl : lv_has ls 5 [(0, .ref a0), (1, .int x1), (2, .int x2), (3, .int x3), (4, .int x4)] := hl
  refine lv_aload_n hx hb dX12_meets_0 rfl (lv_at hl 0 rfl) ?_
  refine mg_0 C hs hP ha0 hk0 wf_X12_8 dX12_meets_1 ?_
  have hf_1 := hO.r (j := 0) ha0 hk0 (rfl : zX 11 0 = some (40, 47730))
  refine lv_iload_n hx hb dX12_meets_4 rfl (lv_at hl 1 rfl) ?_
  refine lv_bipush (v := 35) hx hb dX12_meets_5 (by decide) ?_
  refine lv_iadd hx hb dX12_meets_7 ?_
  refine lv_topi (fun x_2 ex_2 => ?_)
  refine lv_iload_n hx hb dX12_meets_8 rfl (lv_at hl 2 rfl) ?_
  refine lv_iadd hx hb dX12_meets_9 ?_
  refine lv_topi (fun x_3 ex_3 => ?_)
  have g_5 := z_rng x1
  obtain ⟨f_2, l_2, u_2⟩ := z_add ex_2 rfl ti_35
  try replace f_2 : x_2.toInt = x1.toInt + 35 := by omega
  have g_6 := z_rng x2
  obtain ⟨f_3, l_3, u_3⟩ := z_add ex_3 rfl rfl
  try replace f_3 : x_3.toInt = x_2.toInt + x2.toInt := by omega
  have hin_4 : vp_in x_3 (zn K (zr K a0 0)) := vp_in_iff.mpr (by rw [(hf_1.2.2 (by decide))]; refine ⟨?_, ?_⟩ <;> omega)
  refine mld_40 C hs hP hf_1.1 hf_1.2.1 hin_4 dX12_meets_10 ?_
  have ep_7 : x_3.toNatClampNeg = (x1.toInt + x2.toInt + 35).toNat := by show x_3.toInt.toNat = _; rw [show x_3.toInt = (x1.toInt + x2.toInt + 35) by omega]
  rw [ep_7]
  have hm_hr_8 : x_3.toInt % 1290 = x2.toInt + 35 := z_m1290 (b := x1.toInt) (by omega) (by omega) (by omega)
  have hr_8 : 0 ≤ x_3.toInt ∧ x_3.toInt < 47730 ∧ 35 ≤ x_3.toInt % 1290 ∧ x_3.toInt % 1290 ≤ 38 := by rw [hm_hr_8]; omega
  have tv_9 := rt_35 hT hr_8.1 hr_8.2.1 hr_8.2.2.1 hr_8.2.2.2
  rw [ep_7] at tv_9
  refine bz_ne (tgt := 16) hx hb rfl dX12_meets_11 (by decide) (fun c_10 => ?_) (fun c_10 => ?_)
  · skip
    refine lv_aload_n hx hb dX12_meets_16 rfl (lv_at hl 0 rfl) ?_
    refine mg_0 C hs hP ha0 hk0 wf_X12_8 dX12_meets_17 ?_
    refine lv_iload_n hx hb dX12_meets_20 rfl (lv_at hl 1 rfl) ?_
    refine lv_bipush (v := 22) hx hb dX12_meets_21 (by decide) ?_
    refine lv_iadd hx hb dX12_meets_23 ?_
    refine lv_topi (fun x_11 ex_11 => ?_)
    refine lv_iload_n hx hb dX12_meets_24 rfl (lv_at hl 2 rfl) ?_
    refine lv_iadd hx hb dX12_meets_25 ?_
    refine lv_topi (fun x_12 ex_12 => ?_)
    obtain ⟨f_11, l_11, u_11⟩ := z_add ex_11 rfl ti_22
    try replace f_11 : x_11.toInt = x1.toInt + 22 := by omega
    obtain ⟨f_12, l_12, u_12⟩ := z_add ex_12 rfl rfl
    try replace f_12 : x_12.toInt = x_11.toInt + x2.toInt := by omega
    have hin_13 : vp_in x_12 (zn K (zr K a0 0)) := vp_in_iff.mpr (by rw [(hf_1.2.2 (by decide))]; refine ⟨?_, ?_⟩ <;> omega)
    refine mld_40 C hs hP hf_1.1 hf_1.2.1 hin_13 dX12_meets_26 ?_
    have ep_14 : x_12.toNatClampNeg = (x1.toInt + x2.toInt + 22).toNat := by show x_12.toInt.toNat = _; rw [show x_12.toInt = (x1.toInt + x2.toInt + 22) by omega]
    rw [ep_14]
    have hm_hr_15 : x_12.toInt % 1290 = x2.toInt + 22 := z_m1290 (b := x1.toInt) (by omega) (by omega) (by omega)
    have hr_15 : 0 ≤ x_12.toInt ∧ x_12.toInt < 47730 ∧ 22 ≤ x_12.toInt % 1290 ∧ x_12.toInt % 1290 ≤ 25 := by rw [hm_hr_15]; omega
    have tv_16 := rt_22 hT hr_15.1 hr_15.2.1 hr_15.2.2.1 hr_15.2.2.2
    rw [ep_14] at tv_16
    refine lv_iconst (v := (-1)) hx hb dX12_meets_27 (by decide) ?_
    refine bi_ne (tgt := 33) hx hb rfl ti_m1 dX12_meets_28 (by decide) (fun c_17 => ?_) (fun c_17 => ?_)
    · skip
      refine lv_iload_n hx hb dX12_meets_33 rfl (lv_at hl 3 rfl) ?_
      refine lv_iconst (v := 0) hx hb dX12_meets_34 (by decide) ?_
      refine lv_aload_n hx hb dX12_meets_35 rfl (lv_at hl 0 rfl) ?_
      refine mg_0 C hs hP ha0 hk0 wf_X12_8 dX12_meets_36 ?_
      refine lv_iload_n hx hb dX12_meets_39 rfl (lv_at hl 1 rfl) ?_
      refine lv_bipush (v := 22) hx hb dX12_meets_40 (by decide) ?_
      refine lv_iadd hx hb dX12_meets_42 ?_
      refine lv_topi (fun x_18 ex_18 => ?_)
      refine lv_iload_n hx hb dX12_meets_43 rfl (lv_at hl 2 rfl) ?_
      refine lv_iadd hx hb dX12_meets_44 ?_
      refine lv_topi (fun x_19 ex_19 => ?_)
      obtain ⟨f_18, l_18, u_18⟩ := z_add ex_18 rfl ti_22
      try replace f_18 : x_18.toInt = x1.toInt + 22 := by omega
      obtain ⟨f_19, l_19, u_19⟩ := z_add ex_19 rfl rfl
      try replace f_19 : x_19.toInt = x_18.toInt + x2.toInt := by omega
      have hin_20 : vp_in x_19 (zn K (zr K a0 0)) := vp_in_iff.mpr (by rw [(hf_1.2.2 (by decide))]; refine ⟨?_, ?_⟩ <;> omega)
      refine mld_40 C hs hP hf_1.1 hf_1.2.1 hin_20 dX12_meets_45 ?_
      have ep_21 : x_19.toNatClampNeg = (x1.toInt + x2.toInt + 22).toNat := by show x_19.toInt.toNat = _; rw [show x_19.toInt = (x1.toInt + x2.toInt + 22) by omega]
      rw [ep_21]
      refine lv_iconst (v := 1) hx hb dX12_meets_46 (by decide) ?_
      refine lv_isub hx hb dX12_meets_47 ?_
      refine lv_topi (fun x_22 ex_22 => ?_)
      refine zcS (zrS (As := [.int x3, .int 0, .int x_22]) (rest := []) C hs hP hS (c_X12_in l D K hM f A hT x3 0 x_22) m_X12_in wm_X12_91 ⟨by decide, by decide⟩ hl.1 (Nat.le_of_ble_eq_true rfl) dX12_meets_48) (fun x_23 p_23 => ?_)
      have pp_23 : (x_23.toInt ≠ 0 → (0 : Int32).toInt ≤ x3.toInt ∧ x3.toInt ≤ x_22.toInt) ∧ (x_23.toInt = 0 → x3.toInt < (0 : Int32).toInt ∨ x_22.toInt < x3.toInt) := p_23.2
      try simp only [ti_0] at pp_23
      have g_24 := z_rng x3
      have g_25 := z_rng (A 40 (x1.toInt + x2.toInt + 22).toNat)
      obtain ⟨f_22, l_22, u_22⟩ := z_sub ex_22 rfl ti_1
      try replace f_22 : x_22.toInt = (A 40 (x1.toInt + x2.toInt + 22).toNat).toInt - 1 := by omega
      refine bz_ne (tgt := 56) hx hb rfl dX12_meets_51 (by decide) (fun c_26 => ?_) (fun c_26 => ?_)
      · skip
        replace pp_23 := pp_23.1 c_26
        refine lv_iload hx hb dX12_meets_56 (lv_at hl 4 rfl) ?_
        refine bz_eq (tgt := 76) hx hb rfl dX12_meets_58 (by decide) (fun c_27 => ?_) (fun c_27 => ?_)
        · skip
          refine lv_aload_n hx hb dX12_meets_76 rfl (lv_at hl 0 rfl) ?_
          refine mg_0 C hs hP ha0 hk0 wf_X12_8 dX12_meets_77 ?_
          refine lv_iload_n hx hb dX12_meets_80 rfl (lv_at hl 1 rfl) ?_
          refine lv_bipush (v := 50) hx hb dX12_meets_81 (by decide) ?_
          refine lv_iadd hx hb dX12_meets_83 ?_
          refine lv_topi (fun x_28 ex_28 => ?_)
          refine lv_aload_n hx hb dX12_meets_84 rfl (lv_at hl 0 rfl) ?_
          refine mg_0 C hs hP ha0 hk0 wf_X12_8 dX12_meets_85 ?_
          refine lv_iload_n hx hb dX12_meets_88 rfl (lv_at hl 1 rfl) ?_
          refine lv_sipush (v := 230) hx hb dX12_meets_89 (by decide) ?_
          refine lv_iadd hx hb dX12_meets_92 ?_
          refine lv_topi (fun x_29 ex_29 => ?_)
          refine lv_bipush (v := 60) hx hb dX12_meets_93 (by decide) ?_
          refine lv_iload_n hx hb dX12_meets_95 rfl (lv_at hl 2 rfl) ?_
          refine lv_imul hx hb dX12_meets_96 ?_
          refine lv_topi (fun x_30 ex_30 => ?_)
          refine lv_iadd hx hb dX12_meets_97 ?_
          refine lv_topi (fun x_31 ex_31 => ?_)
          refine lv_iload_n hx hb dX12_meets_98 rfl (lv_at hl 3 rfl) ?_
          refine lv_iadd hx hb dX12_meets_99 ?_
          refine lv_topi (fun x_32 ex_32 => ?_)
          obtain ⟨f_29, l_29, u_29⟩ := z_add ex_29 rfl ti_230
          try replace f_29 : x_29.toInt = x1.toInt + 230 := by omega
          obtain ⟨f_30, l_30, u_30⟩ := z_mul ex_30 ti_60 rfl
          try replace f_30 : x_30.toInt = 60 * x2.toInt := by omega
          obtain ⟨f_31, l_31, u_31⟩ := z_add ex_31 rfl rfl
          try replace f_31 : x_31.toInt = x_29.toInt + x_30.toInt := by omega
          obtain ⟨f_32, l_32, u_32⟩ := z_add ex_32 rfl rfl
          try replace f_32 : x_32.toInt = x_31.toInt + x3.toInt := by omega
          have hin_33 : vp_in x_32 (zn K (zr K a0 0)) := vp_in_iff.mpr (by rw [(hf_1.2.2 (by decide))]; refine ⟨?_, ?_⟩ <;> omega)
          refine mld_40 C hs hP hf_1.1 hf_1.2.1 hin_33 dX12_meets_100 ?_
          have ep_34 : x_32.toNatClampNeg = (x1.toInt + 60 * x2.toInt + x3.toInt + 230).toNat := by show x_32.toInt.toNat = _; rw [show x_32.toInt = (x1.toInt + 60 * x2.toInt + x3.toInt + 230) by omega]
          rw [ep_34]
          have hm_hr_35 : x_32.toInt % 1290 = 60 * x2.toInt + x3.toInt + 230 := z_m1290 (b := x1.toInt) (by omega) (by omega) (by omega)
          have hr_35 : 0 ≤ x_32.toInt ∧ x_32.toInt < 47730 ∧ 170 ≤ x_32.toInt % 1290 ∧ x_32.toInt % 1290 ≤ 469 := by rw [hm_hr_35]; omega
          have tv_36 := rt_170 hT hr_35.1 hr_35.2.1 hr_35.2.2.1 hr_35.2.2.2
          rw [ep_34] at tv_36
          refine lv_iadd hx hb dX12_meets_101 ?_
          refine lv_topi (fun x_37 ex_37 => ?_)
          obtain ⟨f_28, l_28, u_28⟩ := z_add ex_28 rfl ti_50
          try replace f_28 : x_28.toInt = x1.toInt + 50 := by omega
          have g_39 := z_rng (A 40 (x1.toInt + 60 * x2.toInt + x3.toInt + 230).toNat)
          obtain ⟨f_37, l_37, u_37⟩ := z_add ex_37 rfl rfl
          try replace f_37 : x_37.toInt = x_28.toInt + (A 40 (x1.toInt + 60 * x2.toInt + x3.toInt + 230).toNat).toInt := by omega
          have hin_38 : vp_in x_37 (zn K (zr K a0 0)) := vp_in_iff.mpr (by rw [(hf_1.2.2 (by decide))]; refine ⟨?_, ?_⟩ <;> omega)
          refine mld_40 C hs hP hf_1.1 hf_1.2.1 hin_38 dX12_meets_102 ?_
          have ep_40 : x_37.toNatClampNeg = ((A 40 (x1.toInt + 60 * x2.toInt + x3.toInt + 230).toNat).toInt + x1.toInt + 50).toNat := by show x_37.toInt.toNat = _; rw [show x_37.toInt = ((A 40 (x1.toInt + 60 * x2.toInt + x3.toInt + 230).toNat).toInt + x1.toInt + 50) by omega]
          rw [ep_40]
          refine lv_iconst (v := 3) hx hb dX12_meets_103 (by decide) ?_
          refine bi_ne (tgt := 111) hx hb rfl ti_3 dX12_meets_104 (by decide) (fun c_41 => ?_) (fun c_41 => ?_)
          · skip
            refine lv_iconst (v := 0) hx hb dX12_meets_111 (by decide) ?_
            exact zaS hQ hx hb hr hlk (by (try simp only [ti_0]); first | omega | (intro h9; omega) | (simp; done) | (refine ⟨?_, ?_⟩ <;> intros <;> omega) | (refine ⟨?_, ?_, ?_⟩ <;> intros <;> omega)) dX12_meets_112
          · skip
            refine lv_iconst (v := 5) hx hb dX12_meets_107 (by decide) ?_
            refine lv_goto (tgt := 112) hx hb dX12_meets_108 (by decide) ?_
            exact zaS hQ hx hb hr hlk (by (try simp only [ti_5]); first | omega | (intro h9; omega) | (simp; done) | (refine ⟨?_, ?_⟩ <;> intros <;> omega) | (refine ⟨?_, ?_, ?_⟩ <;> intros <;> omega)) dX12_meets_112
        · skip
          refine lv_aload_n hx hb dX12_meets_61 rfl (lv_at hl 0 rfl) ?_
          refine mg_0 C hs hP ha0 hk0 wf_X12_8 dX12_meets_62 ?_
          refine lv_iload_n hx hb dX12_meets_65 rfl (lv_at hl 1 rfl) ?_
          refine lv_bipush (v := 9) hx hb dX12_meets_66 (by decide) ?_
          refine lv_iadd hx hb dX12_meets_68 ?_
          refine lv_topi (fun x_42 ex_42 => ?_)
          obtain ⟨f_42, l_42, u_42⟩ := z_add ex_42 rfl ti_9
          try replace f_42 : x_42.toInt = x1.toInt + 9 := by omega
          have hin_43 : vp_in x_42 (zn K (zr K a0 0)) := vp_in_iff.mpr (by rw [(hf_1.2.2 (by decide))]; refine ⟨?_, ?_⟩ <;> omega)
          refine mld_40 C hs hP hf_1.1 hf_1.2.1 hin_43 dX12_meets_69 ?_
          have ep_44 : x_42.toNatClampNeg = (x1.toInt + 9).toNat := by show x_42.toInt.toNat = _; rw [show x_42.toInt = (x1.toInt + 9) by omega]
          rw [ep_44]
          have hm_hr_45 : x_42.toInt % 1290 = 9 := z_m1290 (b := x1.toInt) (by omega) (by omega) (by omega)
          have hr_45 : 0 ≤ x_42.toInt ∧ x_42.toInt < 47730 ∧ x_42.toInt % 1290 = 9 := by rw [hm_hr_45]; omega
          have tv_46 := rt_9 hT hr_45.1 hr_45.2.1 hr_45.2.2
          rw [ep_44] at tv_46
          refine lv_iload_n hx hb dX12_meets_70 rfl (lv_at hl 2 rfl) ?_
          refine bi_eq (tgt := 76) hx hb rfl rfl dX12_meets_71 (by decide) (fun c_47 => ?_) (fun c_47 => ?_)
          · skip
            refine lv_aload_n hx hb dX12_meets_76 rfl (lv_at hl 0 rfl) ?_
            refine mg_0 C hs hP ha0 hk0 wf_X12_8 dX12_meets_77 ?_
            refine lv_iload_n hx hb dX12_meets_80 rfl (lv_at hl 1 rfl) ?_
            refine lv_bipush (v := 50) hx hb dX12_meets_81 (by decide) ?_
            refine lv_iadd hx hb dX12_meets_83 ?_
            refine lv_topi (fun x_48 ex_48 => ?_)
            refine lv_aload_n hx hb dX12_meets_84 rfl (lv_at hl 0 rfl) ?_
            refine mg_0 C hs hP ha0 hk0 wf_X12_8 dX12_meets_85 ?_
            refine lv_iload_n hx hb dX12_meets_88 rfl (lv_at hl 1 rfl) ?_
            refine lv_sipush (v := 230) hx hb dX12_meets_89 (by decide) ?_
            refine lv_iadd hx hb dX12_meets_92 ?_
            refine lv_topi (fun x_49 ex_49 => ?_)
            refine lv_bipush (v := 60) hx hb dX12_meets_93 (by decide) ?_
            refine lv_iload_n hx hb dX12_meets_95 rfl (lv_at hl 2 rfl) ?_
            refine lv_imul hx hb dX12_meets_96 ?_
            refine lv_topi (fun x_50 ex_50 => ?_)
            refine lv_iadd hx hb dX12_meets_97 ?_
            refine lv_topi (fun x_51 ex_51 => ?_)
            refine lv_iload_n hx hb dX12_meets_98 rfl (lv_at hl 3 rfl) ?_
            refine lv_iadd hx hb dX12_meets_99 ?_
            refine lv_topi (fun x_52 ex_52 => ?_)
            obtain ⟨f_49, l_49, u_49⟩ := z_add ex_49 rfl ti_230
            try replace f_49 : x_49.toInt = x1.toInt + 230 := by omega
            obtain ⟨f_50, l_50, u_50⟩ := z_mul ex_50 ti_60 rfl
            try replace f_50 : x_50.toInt = 60 * x2.toInt := by omega
            obtain ⟨f_51, l_51, u_51⟩ := z_add ex_51 rfl rfl
            try replace f_51 : x_51.toInt = x_49.toInt + x_50.toInt := by omega
            obtain ⟨f_52, l_52, u_52⟩ := z_add ex_52 rfl rfl
            try replace f_52 : x_52.toInt = x_51.toInt + x3.toInt := by omega
            have hin_53 : vp_in x_52 (zn K (zr K a0 0)) := vp_in_iff.mpr (by rw [(hf_1.2.2 (by decide))]; refine ⟨?_, ?_⟩ <;> omega)
            refine mld_40 C hs hP hf_1.1 hf_1.2.1 hin_53 dX12_meets_100 ?_
            have ep_54 : x_52.toNatClampNeg = (x1.toInt + 60 * x2.toInt + x3.toInt + 230).toNat := by show x_52.toInt.toNat = _; rw [show x_52.toInt = (x1.toInt + 60 * x2.toInt + x3.toInt + 230) by omega]
            rw [ep_54]
            have hm_hr_55 : x_52.toInt % 1290 = 60 * x2.toInt + x3.toInt + 230 := z_m1290 (b := x1.toInt) (by omega) (by omega) (by omega)
            have hr_55 : 0 ≤ x_52.toInt ∧ x_52.toInt < 47730 ∧ 170 ≤ x_52.toInt % 1290 ∧ x_52.toInt % 1290 ≤ 469 := by rw [hm_hr_55]; omega
            have tv_56 := rt_170 hT hr_55.1 hr_55.2.1 hr_55.2.2.1 hr_55.2.2.2
            rw [ep_54] at tv_56
            refine lv_iadd hx hb dX12_meets_101 ?_
            refine lv_topi (fun x_57 ex_57 => ?_)
            obtain ⟨f_48, l_48, u_48⟩ := z_add ex_48 rfl ti_50
            try replace f_48 : x_48.toInt = x1.toInt + 50 := by omega
            have g_59 := z_rng (A 40 (x1.toInt + 60 * x2.toInt + x3.toInt + 230).toNat)
            obtain ⟨f_57, l_57, u_57⟩ := z_add ex_57 rfl rfl
            try replace f_57 : x_57.toInt = x_48.toInt + (A 40 (x1.toInt + 60 * x2.toInt + x3.toInt + 230).toNat).toInt := by omega
            have hin_58 : vp_in x_57 (zn K (zr K a0 0)) := vp_in_iff.mpr (by rw [(hf_1.2.2 (by decide))]; refine ⟨?_, ?_⟩ <;> omega)
            refine mld_40 C hs hP hf_1.1 hf_1.2.1 hin_58 dX12_meets_102 ?_
            have ep_60 : x_57.toNatClampNeg = ((A 40 (x1.toInt + 60 * x2.toInt + x3.toInt + 230).toNat).toInt + x1.toInt + 50).toNat := by show x_57.toInt.toNat = _; rw [show x_57.toInt = ((A 40 (x1.toInt + 60 * x2.toInt + x3.toInt + 230).toNat).toInt + x1.toInt + 50) by omega]
            rw [ep_60]
            refine lv_iconst (v := 3) hx hb dX12_meets_103 (by decide) ?_
            refine bi_ne (tgt := 111) hx hb rfl ti_3 dX12_meets_104 (by decide) (fun c_61 => ?_) (fun c_61 => ?_)
            · skip
              refine lv_iconst (v := 0) hx hb dX12_meets_111 (by decide) ?_
              exact zaS hQ hx hb hr hlk (by (try simp only [ti_0]); first | omega | (intro h9; omega) | (simp; done) | (refine ⟨?_, ?_⟩ <;> intros <;> omega) | (refine ⟨?_, ?_, ?_⟩ <;> intros <;> omega)) dX12_meets_112
            · skip
              refine lv_iconst (v := 5) hx hb dX12_meets_107 (by decide) ?_
              refine lv_goto (tgt := 112) hx hb dX12_meets_108 (by decide) ?_
              exact zaS hQ hx hb hr hlk (by (try simp only [ti_5]); first | omega | (intro h9; omega) | (simp; done) | (refine ⟨?_, ?_⟩ <;> intros <;> omega) | (refine ⟨?_, ?_, ?_⟩ <;> intros <;> omega)) dX12_meets_112
          · skip
            refine lv_iconst (v := 4) hx hb dX12_meets_74 (by decide) ?_
            exact zaS hQ hx hb hr hlk (by (try simp only [ti_4]); first | omega | (intro h9; omega) | (simp; done) | (refine ⟨?_, ?_⟩ <;> intros <;> omega) | (refine ⟨?_, ?_, ?_⟩ <;> intros <;> omega)) dX12_meets_75
      · skip
        replace pp_23 := pp_23.2 c_26
        refine lv_iconst (v := 3) hx hb dX12_meets_54 (by decide) ?_
        exact zaS hQ hx hb hr hlk (by (try simp only [ti_3]); first | omega | (intro h9; omega) | (simp; done) | (refine ⟨?_, ?_⟩ <;> intros <;> omega) | (refine ⟨?_, ?_, ?_⟩ <;> intros <;> omega)) dX12_meets_55
    · skip
      refine lv_iconst (v := 2) hx hb dX12_meets_31 (by decide) ?_
      exact zaS hQ hx hb hr hlk (by (try simp only [ti_2]); first | omega | (intro h9; omega) | (simp; done) | (refine ⟨?_, ?_⟩ <;> intros <;> omega) | (refine ⟨?_, ?_, ?_⟩ <;> intros <;> omega)) dX12_meets_32
  · skip
    refine lv_iconst (v := 1) hx hb dX12_meets_14 (by decide) ?_
    exact zaS hQ hx hb hr hlk (by (try simp only [ti_1]); first | omega | (intro h9; omega) | (simp; done) | (refine ⟨?_, ?_⟩ <;> intros <;> omega) | (refine ⟨?_, ?_, ?_⟩ <;> intros <;> omega)) dX12_meets_15
set_option maxHeartbeats 4000000 in
set_option maxRecDepth 100000 in
theorem c_X12_barsGive (l : Launch) (D : va_G) (K : zK) (hM : mK K) (f : Nat → Int32) (A : Nat → Nat → Int32) (hT : mT f A) (a0 : Nat) (ha0 : a0 ∈ zl K) (hk0 : zk K a0 = 11) (x1 : Int32) (x2 : Int32) (x3 : Int32) (hp0 : 0 ≤ x1.toInt ∧ x1.toInt ≤ 46440 ∧ x1.toInt % 1290 = 0) (hp1 : 0 ≤ x2.toInt ∧ x2.toInt ≤ 3) (hp2 : 0 ≤ x3.toInt ∧ x3.toInt ≤ 59) : Met l yX12_barsGive (zc yX12_barsGive cX12_barsGive 4 (some .int)) (rmd 1) (va_Pc [.ref a0, .int x1, .int x2, .int x3] (zB D K (mV K f A))) (vp_Si (fun r => (0 ≤ r.toInt → (A 40 (x1.toInt + x2.toInt + 22).toNat).toInt < 15 ∧ (A 40 (x1.toInt + 5).toNat).toInt = 1 ∧ (A 40 (x1.toInt + x3.toInt + 110).toNat).toInt = 0))) 0 0 (fun _ => False) := by
  refine zin (by decide) (Nat.le_of_ble_eq_true rfl) ?_
  intro p e s m args below meth c ls Q hQ C hr hlk hP hs hl
  have C : CallFix p m c cX12_barsGive 4 s args zw RX12 := C
  obtain ⟨hx, hb, hml, hown, hts⟩ := id C
  have hO := hM.1
  have hS : va_S (zA K) s.heap s.heap [] := va_S.rf
  have hl : lv_has ls 4 [(0, .ref a0), (1, .int x1), (2, .int x2), (3, .int x3)] := hl
  refine lv_aload_n hx hb dX12_barsGive_0 rfl (lv_at hl 0 rfl) ?_
  refine mg_0 C hs hP ha0 hk0 wf_X12_8 dX12_barsGive_1 ?_
  have hf_1 := hO.r (j := 0) ha0 hk0 (rfl : zX 11 0 = some (40, 47730))
  refine lv_iload_n hx hb dX12_barsGive_4 rfl (lv_at hl 1 rfl) ?_
  refine lv_bipush (v := 22) hx hb dX12_barsGive_5 (by decide) ?_
  refine lv_iadd hx hb dX12_barsGive_7 ?_
  refine lv_topi (fun x_2 ex_2 => ?_)
  refine lv_iload_n hx hb dX12_barsGive_8 rfl (lv_at hl 2 rfl) ?_
  refine lv_iadd hx hb dX12_barsGive_9 ?_
  refine lv_topi (fun x_3 ex_3 => ?_)
  have g_5 := z_rng x1
  obtain ⟨f_2, l_2, u_2⟩ := z_add ex_2 rfl ti_22
  try replace f_2 : x_2.toInt = x1.toInt + 22 := by omega
  have g_6 := z_rng x2
  obtain ⟨f_3, l_3, u_3⟩ := z_add ex_3 rfl rfl
  try replace f_3 : x_3.toInt = x_2.toInt + x2.toInt := by omega
  have hin_4 : vp_in x_3 (zn K (zr K a0 0)) := vp_in_iff.mpr (by rw [(hf_1.2.2 (by decide))]; refine ⟨?_, ?_⟩ <;> omega)
  refine mld_40 C hs hP hf_1.1 hf_1.2.1 hin_4 dX12_barsGive_10 ?_
  have ep_7 : x_3.toNatClampNeg = (x1.toInt + x2.toInt + 22).toNat := by show x_3.toInt.toNat = _; rw [show x_3.toInt = (x1.toInt + x2.toInt + 22) by omega]
  rw [ep_7]
  have hm_hr_8 : x_3.toInt % 1290 = x2.toInt + 22 := z_m1290 (b := x1.toInt) (by omega) (by omega) (by omega)
  have hr_8 : 0 ≤ x_3.toInt ∧ x_3.toInt < 47730 ∧ 22 ≤ x_3.toInt % 1290 ∧ x_3.toInt % 1290 ≤ 25 := by rw [hm_hr_8]; omega
  have tv_9 := rt_22 hT hr_8.1 hr_8.2.1 hr_8.2.2.1 hr_8.2.2.2
  rw [ep_7] at tv_9
  refine lv_aload_n hx hb dX12_barsGive_11 rfl (lv_at hl 0 rfl) ?_
  refine lv_iload_n hx hb dX12_barsGive_12 rfl (lv_at hl 1 rfl) ?_
  have hq_10 : 0 ≤ x1.toInt ∧ x1.toInt ≤ 46440 ∧ x1.toInt % 1290 = 0 := by first | assumption | omega | (intros; omega)
  refine zcS (zrV (As := [.int x1]) (b := a0) (rest := [.int (A 40 (x1.toInt + x2.toInt + 22).toNat)]) C hs hP hS (c_X12_sizeOf l D K hM f A hT a0 ha0 hk0 x1 hq_10) m_X12_sizeOf wm_X12_155 (zrecv hs hP ha0 (zF_11 hk0) rfl) ⟨by decide, by decide⟩ hl.1 (Nat.le_of_ble_eq_true rfl) dX12_barsGive_13) (fun x_11 p_11 => ?_)
  have pp_11 : 0 ≤ x_11.toInt ∧ x_11.toInt ≤ 15 := p_11
  refine bi_lt (tgt := 22) hx hb rfl rfl dX12_barsGive_16 (by decide) (fun c_12 => ?_) (fun c_12 => ?_)
  · skip
    refine lv_aload_n hx hb dX12_barsGive_22 rfl (lv_at hl 0 rfl) ?_
    refine lv_iload_n hx hb dX12_barsGive_23 rfl (lv_at hl 1 rfl) ?_
    refine lv_iload_n hx hb dX12_barsGive_24 rfl (lv_at hl 2 rfl) ?_
    have hq_13 : 0 ≤ x1.toInt ∧ x1.toInt ≤ 46440 ∧ x1.toInt % 1290 = 0 := by first | assumption | omega | (intros; omega)
    have hq_14 : 0 ≤ x2.toInt ∧ x2.toInt ≤ 3 := by first | assumption | omega | (intros; omega)
    refine zcS (zrV (As := [.int x1, .int x2]) (b := a0) (rest := []) C hs hP hS (c_X12_isOpen l D K hM f A hT a0 ha0 hk0 x1 x2 hq_13 hq_14) m_X12_isOpen wm_X12_178 (zrecv hs hP ha0 (zF_11 hk0) rfl) ⟨by decide, by decide⟩ hl.1 (Nat.le_of_ble_eq_true rfl) dX12_barsGive_25) (fun x_15 p_15 => ?_)
    have pp_15 : (x_15.toInt ≠ 0 → (A 40 (x1.toInt + 5).toNat).toInt = 1 ∧ (A 40 (x1.toInt + x2.toInt + 35).toNat).toInt = 1) := p_15.2
    refine bz_eq (tgt := 45) hx hb rfl dX12_barsGive_28 (by decide) (fun c_16 => ?_) (fun c_16 => ?_)
    · skip
      clear pp_15
      refine lv_bipush (v := (-4)) hx hb dX12_barsGive_45 (by decide) ?_
      refine lv_goto (tgt := 51) hx hb dX12_barsGive_47 (by decide) ?_
      exact zaS hQ hx hb hr hlk (by (try simp only [ti_m4]); first | omega | (intro h9; omega) | (simp; done) | (refine ⟨?_, ?_⟩ <;> intros <;> omega) | (refine ⟨?_, ?_, ?_⟩ <;> intros <;> omega)) dX12_barsGive_51
    · skip
      replace pp_15 := pp_15 c_16
      refine lv_aload_n hx hb dX12_barsGive_31 rfl (lv_at hl 0 rfl) ?_
      refine mg_0 C hs hP ha0 hk0 wf_X12_8 dX12_barsGive_32 ?_
      refine lv_iload_n hx hb dX12_barsGive_35 rfl (lv_at hl 1 rfl) ?_
      refine lv_bipush (v := 110) hx hb dX12_barsGive_36 (by decide) ?_
      refine lv_iadd hx hb dX12_barsGive_38 ?_
      refine lv_topi (fun x_17 ex_17 => ?_)
      refine lv_iload_n hx hb dX12_barsGive_39 rfl (lv_at hl 3 rfl) ?_
      refine lv_iadd hx hb dX12_barsGive_40 ?_
      refine lv_topi (fun x_18 ex_18 => ?_)
      obtain ⟨f_17, l_17, u_17⟩ := z_add ex_17 rfl ti_110
      try replace f_17 : x_17.toInt = x1.toInt + 110 := by omega
      have g_20 := z_rng x3
      obtain ⟨f_18, l_18, u_18⟩ := z_add ex_18 rfl rfl
      try replace f_18 : x_18.toInt = x_17.toInt + x3.toInt := by omega
      have hin_19 : vp_in x_18 (zn K (zr K a0 0)) := vp_in_iff.mpr (by rw [(hf_1.2.2 (by decide))]; refine ⟨?_, ?_⟩ <;> omega)
      refine mld_40 C hs hP hf_1.1 hf_1.2.1 hin_19 dX12_barsGive_41 ?_
      have ep_21 : x_18.toNatClampNeg = (x1.toInt + x3.toInt + 110).toNat := by show x_18.toInt.toNat = _; rw [show x_18.toInt = (x1.toInt + x3.toInt + 110) by omega]
      rw [ep_21]
      refine bz_eq (tgt := 50) hx hb rfl dX12_barsGive_42 (by decide) (fun c_22 => ?_) (fun c_22 => ?_)
      · skip
        refine lv_iconst (v := 0) hx hb dX12_barsGive_50 (by decide) ?_
        exact zaS hQ hx hb hr hlk (by (try simp only [ti_0]); first | omega | (intro h9; omega) | (simp; done) | (refine ⟨?_, ?_⟩ <;> intros <;> omega) | (refine ⟨?_, ?_, ?_⟩ <;> intros <;> omega)) dX12_barsGive_51
      · skip
        refine lv_bipush (v := (-4)) hx hb dX12_barsGive_45 (by decide) ?_
        refine lv_goto (tgt := 51) hx hb dX12_barsGive_47 (by decide) ?_
        exact zaS hQ hx hb hr hlk (by (try simp only [ti_m4]); first | omega | (intro h9; omega) | (simp; done) | (refine ⟨?_, ?_⟩ <;> intros <;> omega) | (refine ⟨?_, ?_, ?_⟩ <;> intros <;> omega)) dX12_barsGive_51
  · skip
    refine lv_bipush (v := (-3)) hx hb dX12_barsGive_19 (by decide) ?_
    exact zaS hQ hx hb hr hlk (by (try simp only [ti_m3]); first | omega | (intro h9; omega) | (simp; done) | (refine ⟨?_, ?_⟩ <;> intros <;> omega) | (refine ⟨?_, ?_, ?_⟩ <;> intros <;> omega)) dX12_barsGive_21
set_option maxHeartbeats 4000000 in
set_option maxRecDepth 100000 in
theorem c_X12_canBid (l : Launch) (D : va_G) (K : zK) (hM : mK K) (f : Nat → Int32) (A : Nat → Nat → Int32) (hT : mT f A) (a0 : Nat) (ha0 : a0 ∈ zl K) (hk0 : zk K a0 = 11) (x1 : Int32) (x2 : Int32) (x3 : Int32) (x4 : Int32) (hp0 : 0 ≤ x1.toInt ∧ x1.toInt ≤ 46440 ∧ x1.toInt % 1290 = 0) (hp1 : 0 ≤ x2.toInt ∧ x2.toInt ≤ 3) : Met l yX12_canBid (zc yX12_canBid cX12_canBid 6 (some .boolean)) (rmd 1) (va_Pc [.ref a0, .int x1, .int x2, .int x3, .int x4] (zB D K (mV K f A))) (vp_Si (fun r => (r = 0 ∨ r = 1))) 0 0 (fun _ => False) := by
  refine zin (by decide) (Nat.le_of_ble_eq_true rfl) ?_
  intro p e s m args below meth c ls Q hQ C hr hlk hP hs hl
  have C : CallFix p m c cX12_canBid 6 s args zw RX12 := C
  obtain ⟨hx, hb, hml, hown, hts⟩ := id C
  have hO := hM.1
  have hS : va_S (zA K) s.heap s.heap [] := va_S.rf
  have hl : lv_has ls 6 [(0, .ref a0), (1, .int x1), (2, .int x2), (3, .int x3), (4, .int x4)] := hl
  refine lv_iload_n hx hb dX12_canBid_0 rfl (lv_at hl 3 rfl) ?_
  refine lv_aload_n hx hb dX12_canBid_1 rfl (lv_at hl 0 rfl) ?_
  refine mg_0 C hs hP ha0 hk0 wf_X12_8 dX12_canBid_2 ?_
  have hf_1 := hO.r (j := 0) ha0 hk0 (rfl : zX 11 0 = some (40, 47730))
  refine lv_iload_n hx hb dX12_canBid_5 rfl (lv_at hl 1 rfl) ?_
  refine lv_bipush (v := 10) hx hb dX12_canBid_6 (by decide) ?_
  refine lv_iadd hx hb dX12_canBid_8 ?_
  refine lv_topi (fun x_2 ex_2 => ?_)
  have g_4 := z_rng x1
  obtain ⟨f_2, l_2, u_2⟩ := z_add ex_2 rfl ti_10
  try replace f_2 : x_2.toInt = x1.toInt + 10 := by omega
  have hin_3 : vp_in x_2 (zn K (zr K a0 0)) := vp_in_iff.mpr (by rw [(hf_1.2.2 (by decide))]; refine ⟨?_, ?_⟩ <;> omega)
  refine mld_40 C hs hP hf_1.1 hf_1.2.1 hin_3 dX12_canBid_9 ?_
  have ep_5 : x_2.toNatClampNeg = (x1.toInt + 10).toNat := by show x_2.toInt.toNat = _; rw [show x_2.toInt = (x1.toInt + 10) by omega]
  rw [ep_5]
  have J_45_16 : ∀ (y_15 : Int32) (ls : Array Slot), (y_15 = 0 ∨ y_15 = 1) → lv_has ls 6 [(0, .ref a0), (1, .int x1), (2, .int x2), (3, .int x3), (4, .int x4)] → W p l e (rmd 1) s m args below meth c s.heap [] 0 0 Q (F0 m 45 ls [.int y_15]) := by
    intro y_15 ls hb_y_15 hl
    refine lv_istore (lv' := [(5, .int y_15), (0, .ref a0), (1, .int x1), (2, .int x2), (3, .int x3), (4, .int x4)]) hx hb dX12_canBid_45 hl (by decide) rfl (fun ls hl => ?_)
    refine lv_aload_n hx hb dX12_canBid_47 rfl (lv_at hl 1 rfl) ?_
    refine mg_0 C hs hP ha0 hk0 wf_X12_8 dX12_canBid_48 ?_
    refine lv_iload_n hx hb dX12_canBid_51 rfl (lv_at hl 2 rfl) ?_
    refine lv_iconst (v := 2) hx hb dX12_canBid_52 (by decide) ?_
    refine lv_iadd hx hb dX12_canBid_53 ?_
    refine lv_topi (fun x_18 ex_18 => ?_)
    obtain ⟨f_18, l_18, u_18⟩ := z_add ex_18 rfl ti_2
    try replace f_18 : x_18.toInt = x1.toInt + 2 := by omega
    have hin_19 : vp_in x_18 (zn K (zr K a0 0)) := vp_in_iff.mpr (by rw [(hf_1.2.2 (by decide))]; refine ⟨?_, ?_⟩ <;> omega)
    refine mld_40 C hs hP hf_1.1 hf_1.2.1 hin_19 dX12_canBid_54 ?_
    have ep_20 : x_18.toNatClampNeg = (x1.toInt + 2).toNat := by show x_18.toInt.toNat = _; rw [show x_18.toInt = (x1.toInt + 2) by omega]
    rw [ep_20]
    refine lv_iconst (v := 3) hx hb dX12_canBid_55 (by decide) ?_
    refine bi_ne (tgt := 77) hx hb rfl ti_3 dX12_canBid_56 (by decide) (fun c_21 => ?_) (fun c_21 => ?_)
    · skip
      refine lv_iconst (v := 0) hx hb dX12_canBid_77 (by decide) ?_
      exact zaSz hQ hx hb hr hlk (Or.inl rfl) (Or.inl rfl) dX12_canBid_78
    · skip
      refine lv_aload_n hx hb dX12_canBid_59 rfl (lv_at hl 1 rfl) ?_
      refine lv_iload_n hx hb dX12_canBid_60 rfl (lv_at hl 2 rfl) ?_
      refine lv_iload_n hx hb dX12_canBid_61 rfl (lv_at hl 3 rfl) ?_
      have g_22 := z_rng x2
      have hq_23 : 0 ≤ x1.toInt ∧ x1.toInt ≤ 46440 ∧ x1.toInt % 1290 = 0 := by first | assumption | omega | (intros; omega)
      have hq_24 : 0 ≤ x2.toInt ∧ x2.toInt ≤ 3 := by first | assumption | omega | (intros; omega)
      refine zcS (zrV (As := [.int x1, .int x2]) (b := a0) (rest := []) C hs hP hS (c_X12_isOpen l D K hM f A hT a0 ha0 hk0 x1 x2 hq_23 hq_24) m_X12_isOpen wm_X12_178 (zrecv hs hP ha0 (zF_11 hk0) rfl) ⟨by decide, by decide⟩ hl.1 (Nat.le_of_ble_eq_true rfl) dX12_canBid_62) (fun x_25 p_25 => ?_)
      have pp_25 : (x_25.toInt ≠ 0 → (A 40 (x1.toInt + 5).toNat).toInt = 1 ∧ (A 40 (x1.toInt + x2.toInt + 35).toNat).toInt = 1) := p_25.2
      refine bz_eq (tgt := 77) hx hb rfl dX12_canBid_65 (by decide) (fun c_26 => ?_) (fun c_26 => ?_)
      · skip
        clear pp_25
        refine lv_iconst (v := 0) hx hb dX12_canBid_77 (by decide) ?_
        exact zaSz hQ hx hb hr hlk (Or.inl rfl) (Or.inl rfl) dX12_canBid_78
      · skip
        replace pp_25 := pp_25 c_26
        refine lv_iload hx hb dX12_canBid_68 (lv_at hl 0 rfl) ?_
        refine bz_eq (tgt := 77) hx hb rfl dX12_canBid_70 (by decide) (fun c_27 => ?_) (fun c_27 => ?_)
        · skip
          refine lv_iconst (v := 0) hx hb dX12_canBid_77 (by decide) ?_
          exact zaSz hQ hx hb hr hlk (Or.inl rfl) (Or.inl rfl) dX12_canBid_78
        · skip
          refine lv_iconst (v := 1) hx hb dX12_canBid_73 (by decide) ?_
          refine lv_goto (tgt := 78) hx hb dX12_canBid_74 (by decide) ?_
          exact zaSz hQ hx hb hr hlk (Or.inr rfl) (Or.inr rfl) dX12_canBid_78
  refine bi_gt (tgt := 40) hx hb rfl rfl dX12_canBid_10 (by decide) (fun c_6 => ?_) (fun c_6 => ?_)
  · skip
    refine lv_iconst (v := 1) hx hb dX12_canBid_40 (by decide) ?_
    refine lv_goto (tgt := 45) hx hb dX12_canBid_41 (by decide) ?_
    exact J_45_16 1 _ (Or.inr rfl) (lv_sub hl [0, 1, 2, 3, 4] rfl)
  · skip
    refine lv_iload_n hx hb dX12_canBid_13 rfl (lv_at hl 3 rfl) ?_
    refine lv_aload_n hx hb dX12_canBid_14 rfl (lv_at hl 0 rfl) ?_
    refine mg_0 C hs hP ha0 hk0 wf_X12_8 dX12_canBid_15 ?_
    refine lv_iload_n hx hb dX12_canBid_18 rfl (lv_at hl 1 rfl) ?_
    refine lv_bipush (v := 10) hx hb dX12_canBid_19 (by decide) ?_
    refine lv_iadd hx hb dX12_canBid_21 ?_
    refine lv_topi (fun x_28 ex_28 => ?_)
    obtain ⟨f_28, l_28, u_28⟩ := z_add ex_28 rfl ti_10
    try replace f_28 : x_28.toInt = x1.toInt + 10 := by omega
    have hin_29 : vp_in x_28 (zn K (zr K a0 0)) := vp_in_iff.mpr (by rw [(hf_1.2.2 (by decide))]; refine ⟨?_, ?_⟩ <;> omega)
    refine mld_40 C hs hP hf_1.1 hf_1.2.1 hin_29 dX12_canBid_22 ?_
    have ep_30 : x_28.toNatClampNeg = (x1.toInt + 10).toNat := by show x_28.toInt.toNat = _; rw [show x_28.toInt = (x1.toInt + 10) by omega]
    rw [ep_30]
    refine bi_ne (tgt := 44) hx hb rfl rfl dX12_canBid_23 (by decide) (fun c_31 => ?_) (fun c_31 => ?_)
    · skip
      refine lv_iconst (v := 0) hx hb dX12_canBid_44 (by decide) ?_
      exact J_45_16 0 _ (Or.inl rfl) (lv_sub hl [0, 1, 2, 3, 4] rfl)
    · skip
      refine lv_iload hx hb dX12_canBid_26 (lv_at hl 4 rfl) ?_
      refine lv_aload_n hx hb dX12_canBid_28 rfl (lv_at hl 0 rfl) ?_
      refine mg_0 C hs hP ha0 hk0 wf_X12_8 dX12_canBid_29 ?_
      refine lv_iload_n hx hb dX12_canBid_32 rfl (lv_at hl 1 rfl) ?_
      refine lv_bipush (v := 11) hx hb dX12_canBid_33 (by decide) ?_
      refine lv_iadd hx hb dX12_canBid_35 ?_
      refine lv_topi (fun x_32 ex_32 => ?_)
      obtain ⟨f_32, l_32, u_32⟩ := z_add ex_32 rfl ti_11
      try replace f_32 : x_32.toInt = x1.toInt + 11 := by omega
      have hin_33 : vp_in x_32 (zn K (zr K a0 0)) := vp_in_iff.mpr (by rw [(hf_1.2.2 (by decide))]; refine ⟨?_, ?_⟩ <;> omega)
      refine mld_40 C hs hP hf_1.1 hf_1.2.1 hin_33 dX12_canBid_36 ?_
      have ep_34 : x_32.toNatClampNeg = (x1.toInt + 11).toNat := by show x_32.toInt.toNat = _; rw [show x_32.toInt = (x1.toInt + 11) by omega]
      rw [ep_34]
      refine bi_le (tgt := 44) hx hb rfl rfl dX12_canBid_37 (by decide) (fun c_35 => ?_) (fun c_35 => ?_)
      · skip
        refine lv_iconst (v := 0) hx hb dX12_canBid_44 (by decide) ?_
        exact J_45_16 0 _ (Or.inl rfl) (lv_sub hl [0, 1, 2, 3, 4] rfl)
      · skip
        refine lv_iconst (v := 1) hx hb dX12_canBid_40 (by decide) ?_
        refine lv_goto (tgt := 45) hx hb dX12_canBid_41 (by decide) ?_
        exact J_45_16 1 _ (Or.inr rfl) (lv_sub hl [0, 1, 2, 3, 4] rfl)
set_option maxHeartbeats 4000000 in
set_option maxRecDepth 100000 in
theorem c_X12_canDouble (l : Launch) (D : va_G) (K : zK) (hM : mK K) (f : Nat → Int32) (A : Nat → Nat → Int32) (hT : mT f A) (a0 : Nat) (ha0 : a0 ∈ zl K) (hk0 : zk K a0 = 11) (x1 : Int32) (x2 : Int32) (hp0 : 0 ≤ x1.toInt ∧ x1.toInt ≤ 46440 ∧ x1.toInt % 1290 = 0) (hp1 : 0 ≤ x2.toInt ∧ x2.toInt ≤ 3) : Met l yX12_canDouble (zc yX12_canDouble cX12_canDouble 5 (some .boolean)) (rmd 1) (va_Pc [.ref a0, .int x1, .int x2] (zB D K (mV K f A))) (vp_Si (fun r => (r = 0 ∨ r = 1))) 0 0 (fun _ => False) := by
  refine zin (by decide) (Nat.le_of_ble_eq_true rfl) ?_
  intro p e s m args below meth c ls Q hQ C hr hlk hP hs hl
  have C : CallFix p m c cX12_canDouble 5 s args zw RX12 := C
  obtain ⟨hx, hb, hml, hown, hts⟩ := id C
  have hO := hM.1
  have hS : va_S (zA K) s.heap s.heap [] := va_S.rf
  have hl : lv_has ls 5 [(0, .ref a0), (1, .int x1), (2, .int x2)] := hl
  refine lv_aload_n hx hb dX12_canDouble_0 rfl (lv_at hl 0 rfl) ?_
  refine mg_0 C hs hP ha0 hk0 wf_X12_8 dX12_canDouble_1 ?_
  have hf_1 := hO.r (j := 0) ha0 hk0 (rfl : zX 11 0 = some (40, 47730))
  refine lv_iload_n hx hb dX12_canDouble_4 rfl (lv_at hl 1 rfl) ?_
  refine lv_bipush (v := 12) hx hb dX12_canDouble_5 (by decide) ?_
  refine lv_iadd hx hb dX12_canDouble_7 ?_
  refine lv_topi (fun x_2 ex_2 => ?_)
  have g_4 := z_rng x1
  obtain ⟨f_2, l_2, u_2⟩ := z_add ex_2 rfl ti_12
  try replace f_2 : x_2.toInt = x1.toInt + 12 := by omega
  have hin_3 : vp_in x_2 (zn K (zr K a0 0)) := vp_in_iff.mpr (by rw [(hf_1.2.2 (by decide))]; refine ⟨?_, ?_⟩ <;> omega)
  refine mld_40 C hs hP hf_1.1 hf_1.2.1 hin_3 dX12_canDouble_8 ?_
  have ep_5 : x_2.toNatClampNeg = (x1.toInt + 12).toNat := by show x_2.toInt.toNat = _; rw [show x_2.toInt = (x1.toInt + 12) by omega]
  rw [ep_5]
  refine lv_iconst (v := 2) hx hb dX12_canDouble_9 (by decide) ?_
  refine lv_irem hx hb dX12_canDouble_10 (by decide) ?_
  refine lv_topi (fun x_6 ex_6 => ?_)
  refine lv_iload_n hx hb dX12_canDouble_11 rfl (lv_at hl 2 rfl) ?_
  refine lv_iconst (v := 2) hx hb dX12_canDouble_12 (by decide) ?_
  refine lv_irem hx hb dX12_canDouble_13 (by decide) ?_
  refine lv_topi (fun x_7 ex_7 => ?_)
  have J_22_10 : ∀ (y_9 : Int32) (ls : Array Slot), (y_9 = 0 ∨ y_9 = 1) → lv_has ls 5 [(0, .ref a0), (1, .int x1), (2, .int x2)] → W p l e (rmd 1) s m args below meth c s.heap [] 0 0 Q (F0 m 22 ls [.int y_9]) := by
    intro y_9 ls hb_y_9 hl
    refine lv_istore_n (lv' := [(3, .int y_9), (0, .ref a0), (1, .int x1), (2, .int x2)]) hx hb dX12_canDouble_22 rfl hl (by decide) rfl (fun ls hl => ?_)
    refine lv_aload_n hx hb dX12_canDouble_23 rfl (lv_at hl 1 rfl) ?_
    refine mg_0 C hs hP ha0 hk0 wf_X12_8 dX12_canDouble_24 ?_
    refine lv_iload_n hx hb dX12_canDouble_27 rfl (lv_at hl 2 rfl) ?_
    refine lv_bipush (v := 13) hx hb dX12_canDouble_28 (by decide) ?_
    refine lv_iadd hx hb dX12_canDouble_30 ?_
    refine lv_topi (fun x_12 ex_12 => ?_)
    obtain ⟨f_12, l_12, u_12⟩ := z_add ex_12 rfl ti_13
    try replace f_12 : x_12.toInt = x1.toInt + 13 := by omega
    have hin_13 : vp_in x_12 (zn K (zr K a0 0)) := vp_in_iff.mpr (by rw [(hf_1.2.2 (by decide))]; refine ⟨?_, ?_⟩ <;> omega)
    refine mld_40 C hs hP hf_1.1 hf_1.2.1 hin_13 dX12_canDouble_31 ?_
    have ep_14 : x_12.toNatClampNeg = (x1.toInt + 13).toNat := by show x_12.toInt.toNat = _; rw [show x_12.toInt = (x1.toInt + 13) by omega]
    rw [ep_14]
    refine lv_istore (lv' := [(4, .int (A 40 (x1.toInt + 13).toNat)), (3, .int y_9), (0, .ref a0), (1, .int x1), (2, .int x2)]) hx hb dX12_canDouble_32 hl (by decide) rfl (fun ls hl => ?_)
    refine lv_aload_n hx hb dX12_canDouble_34 rfl (lv_at hl 2 rfl) ?_
    refine mg_0 C hs hP ha0 hk0 wf_X12_8 dX12_canDouble_35 ?_
    refine lv_iload_n hx hb dX12_canDouble_38 rfl (lv_at hl 3 rfl) ?_
    refine lv_bipush (v := 10) hx hb dX12_canDouble_39 (by decide) ?_
    refine lv_iadd hx hb dX12_canDouble_41 ?_
    refine lv_topi (fun x_15 ex_15 => ?_)
    obtain ⟨f_15, l_15, u_15⟩ := z_add ex_15 rfl ti_10
    try replace f_15 : x_15.toInt = x1.toInt + 10 := by omega
    have hin_16 : vp_in x_15 (zn K (zr K a0 0)) := vp_in_iff.mpr (by rw [(hf_1.2.2 (by decide))]; refine ⟨?_, ?_⟩ <;> omega)
    refine mld_40 C hs hP hf_1.1 hf_1.2.1 hin_16 dX12_canDouble_42 ?_
    have ep_17 : x_15.toNatClampNeg = (x1.toInt + 10).toNat := by show x_15.toInt.toNat = _; rw [show x_15.toInt = (x1.toInt + 10) by omega]
    rw [ep_17]
    refine bz_le (tgt := 78) hx hb rfl dX12_canDouble_43 (by decide) (fun c_18 => ?_) (fun c_18 => ?_)
    · skip
      refine lv_iconst (v := 0) hx hb dX12_canDouble_78 (by decide) ?_
      exact zaSz hQ hx hb hr hlk (Or.inl rfl) (Or.inl rfl) dX12_canDouble_79
    · skip
      refine lv_aload_n hx hb dX12_canDouble_46 rfl (lv_at hl 2 rfl) ?_
      refine lv_iload_n hx hb dX12_canDouble_47 rfl (lv_at hl 3 rfl) ?_
      refine lv_iload_n hx hb dX12_canDouble_48 rfl (lv_at hl 4 rfl) ?_
      have g_19 := z_rng x2
      have hq_20 : 0 ≤ x1.toInt ∧ x1.toInt ≤ 46440 ∧ x1.toInt % 1290 = 0 := by first | assumption | omega | (intros; omega)
      have hq_21 : 0 ≤ x2.toInt ∧ x2.toInt ≤ 3 := by first | assumption | omega | (intros; omega)
      refine zcS (zrV (As := [.int x1, .int x2]) (b := a0) (rest := []) C hs hP hS (c_X12_isOpen l D K hM f A hT a0 ha0 hk0 x1 x2 hq_20 hq_21) m_X12_isOpen wm_X12_178 (zrecv hs hP ha0 (zF_11 hk0) rfl) ⟨by decide, by decide⟩ hl.1 (Nat.le_of_ble_eq_true rfl) dX12_canDouble_49) (fun x_22 p_22 => ?_)
      have pp_22 : (x_22.toInt ≠ 0 → (A 40 (x1.toInt + 5).toNat).toInt = 1 ∧ (A 40 (x1.toInt + x2.toInt + 35).toNat).toInt = 1) := p_22.2
      refine bz_eq (tgt := 78) hx hb rfl dX12_canDouble_52 (by decide) (fun c_23 => ?_) (fun c_23 => ?_)
      · skip
        clear pp_22
        refine lv_iconst (v := 0) hx hb dX12_canDouble_78 (by decide) ?_
        exact zaSz hQ hx hb hr hlk (Or.inl rfl) (Or.inl rfl) dX12_canDouble_79
      · skip
        replace pp_22 := pp_22 c_23
        refine lv_iload hx hb dX12_canDouble_55 (lv_at hl 0 rfl) ?_
        refine bz_ne (tgt := 64) hx hb rfl dX12_canDouble_57 (by decide) (fun c_24 => ?_) (fun c_24 => ?_)
        · skip
          refine lv_iload hx hb dX12_canDouble_64 (lv_at hl 0 rfl) ?_
          refine lv_iconst (v := 1) hx hb dX12_canDouble_66 (by decide) ?_
          refine bi_ne (tgt := 78) hx hb rfl ti_1 dX12_canDouble_67 (by decide) (fun c_25 => ?_) (fun c_25 => ?_)
          · skip
            refine lv_iconst (v := 0) hx hb dX12_canDouble_78 (by decide) ?_
            exact zaSz hQ hx hb hr hlk (Or.inl rfl) (Or.inl rfl) dX12_canDouble_79
          · skip
            refine lv_iload_n hx hb dX12_canDouble_70 rfl (lv_at hl 1 rfl) ?_
            refine bz_eq (tgt := 78) hx hb rfl dX12_canDouble_71 (by decide) (fun c_26 => ?_) (fun c_26 => ?_)
            · skip
              refine lv_iconst (v := 0) hx hb dX12_canDouble_78 (by decide) ?_
              exact zaSz hQ hx hb hr hlk (Or.inl rfl) (Or.inl rfl) dX12_canDouble_79
            · skip
              refine lv_iconst (v := 1) hx hb dX12_canDouble_74 (by decide) ?_
              refine lv_goto (tgt := 79) hx hb dX12_canDouble_75 (by decide) ?_
              exact zaSz hQ hx hb hr hlk (Or.inr rfl) (Or.inr rfl) dX12_canDouble_79
        · skip
          refine lv_iload_n hx hb dX12_canDouble_60 rfl (lv_at hl 1 rfl) ?_
          refine bz_eq (tgt := 74) hx hb rfl dX12_canDouble_61 (by decide) (fun c_27 => ?_) (fun c_27 => ?_)
          · skip
            refine lv_iconst (v := 1) hx hb dX12_canDouble_74 (by decide) ?_
            refine lv_goto (tgt := 79) hx hb dX12_canDouble_75 (by decide) ?_
            exact zaSz hQ hx hb hr hlk (Or.inr rfl) (Or.inr rfl) dX12_canDouble_79
          · skip
            refine lv_iload hx hb dX12_canDouble_64 (lv_at hl 0 rfl) ?_
            refine lv_iconst (v := 1) hx hb dX12_canDouble_66 (by decide) ?_
            refine bi_ne (tgt := 78) hx hb rfl ti_1 dX12_canDouble_67 (by decide) (fun c_28 => ?_) (fun c_28 => ?_)
            · skip
              refine lv_iconst (v := 0) hx hb dX12_canDouble_78 (by decide) ?_
              exact zaSz hQ hx hb hr hlk (Or.inl rfl) (Or.inl rfl) dX12_canDouble_79
            · skip
              refine lv_iload_n hx hb dX12_canDouble_70 rfl (lv_at hl 1 rfl) ?_
              refine bz_eq (tgt := 78) hx hb rfl dX12_canDouble_71 (by decide) (fun c_29 => ?_) (fun c_29 => ?_)
              · skip
                refine lv_iconst (v := 0) hx hb dX12_canDouble_78 (by decide) ?_
                exact zaSz hQ hx hb hr hlk (Or.inl rfl) (Or.inl rfl) dX12_canDouble_79
              · skip
                refine lv_iconst (v := 1) hx hb dX12_canDouble_74 (by decide) ?_
                refine lv_goto (tgt := 79) hx hb dX12_canDouble_75 (by decide) ?_
                exact zaSz hQ hx hb hr hlk (Or.inr rfl) (Or.inr rfl) dX12_canDouble_79
  refine bi_ne (tgt := 21) hx hb rfl rfl dX12_canDouble_14 (by decide) (fun c_8 => ?_) (fun c_8 => ?_)
  · skip
    refine lv_iconst (v := 0) hx hb dX12_canDouble_21 (by decide) ?_
    exact J_22_10 0 _ (Or.inl rfl) (lv_sub hl [0, 1, 2] rfl)
  · skip
    refine lv_iconst (v := 1) hx hb dX12_canDouble_17 (by decide) ?_
    refine lv_goto (tgt := 22) hx hb dX12_canDouble_18 (by decide) ?_
    exact J_22_10 1 _ (Or.inr rfl) (lv_sub hl [0, 1, 2] rfl)
