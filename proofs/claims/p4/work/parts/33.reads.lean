set_option maxHeartbeats 4000000 in
set_option maxRecDepth 100000 in
theorem c_X12_canLay (l : Launch) (D : va_G) (K : zK) (hM : mK K) (f : Nat → Int32) (A : Nat → Nat → Int32) (hT : mT f A) (a0 : Nat) (ha0 : a0 ∈ zl K) (hk0 : zk K a0 = 11) (x1 : Int32) (x2 : Int32) (hp0 : zRow x1.toInt) (hp1 : 0 ≤ x2.toInt ∧ x2.toInt ≤ 3) : Met l yX12_canLay (zc yX12_canLay cX12_canLay 4 (some .boolean)) (rmd 0) (va_Pc [.ref a0, .int x1, .int x2] (zB D K (mV K f A))) (vp_Si (fun r => (r = 0 ∨ r = 1) ∧ (r.toInt ≠ 0 → 1 ≤ (A 40 (x1.toInt + x2.toInt + 22).toNat).toInt))) 0 0 (fun _ => False) := by
  refine zin (by decide) (Nat.le_of_ble_eq_true rfl) ?_
  intro p e s m args below meth c ls Q hQ C hr hlk hP hs hl
  have C : CallFix p m c cX12_canLay 4 s args zw RX12 := C
  obtain ⟨hx, hb, hml, hown, hts⟩ := id C
  have hO := hM.1
  have hS : va_S (zA K) s.heap s.heap [] := va_S.rf
  have hl : lv_has ls 4 [(0, .ref a0), (1, .int x1), (2, .int x2)] := hl
  have hb0 := hp0.lin
  refine lv_iconst (v := 0) hx hb dX12_canLay_0 (by decide) ?_
  refine lv_istore_n (lv' := [(3, .int 0), (0, .ref a0), (1, .int x1), (2, .int x2)]) hx hb dX12_canLay_1 rfl hl (by decide) rfl (fun ls hl => ?_)
  have L_2_2 : ∀ (n_2 : Nat) (y_1 : Int32) (ls : Array Slot), (2147483648 - y_1.toInt).toNat < n_2 → 0 ≤ y_1.toInt → lv_has ls 4 [(3, .int y_1), (0, .ref a0), (1, .int x1), (2, .int x2)] → W p l e (rmd 0) s m args below meth c s.heap [] 0 0 Q (F0 m 2 ls []) := by
    intro n_2
    induction n_2 with
    | zero => intro y_1 ls hm_2; exact absurd hm_2 (Nat.not_lt_zero _)
    | succ n_2 ih_2 =>
      intro y_1 ls hm_2 iv_3_0 hl
      refine lv_iload_n hx hb dX12_canLay_2 rfl (lv_at hl 0 rfl) ?_
      refine lv_aload_n hx hb dX12_canLay_3 rfl (lv_at hl 1 rfl) ?_
      refine mg_0 C hs hP ha0 hk0 wf_X12_8 dX12_canLay_4 ?_
      have hf_4 := hO.r (j := 0) ha0 hk0 (rfl : zX 11 0 = some (40, 47730))
      refine lv_iload_n hx hb dX12_canLay_7 rfl (lv_at hl 2 rfl) ?_
      refine lv_bipush (v := 22) hx hb dX12_canLay_8 (by decide) ?_
      refine lv_iadd hx hb dX12_canLay_10 ?_
      refine lv_topi (fun x_5 ex_5 => ?_)
      refine lv_iload_n hx hb dX12_canLay_11 rfl (lv_at hl 3 rfl) ?_
      refine lv_iadd hx hb dX12_canLay_12 ?_
      refine lv_topi (fun x_6 ex_6 => ?_)
      have hi_hr_7 : zEq x_6.toInt (x1.toInt + x2.toInt + 22) := by
        have g_8 := z_rng x1
        obtain ⟨f_5, l_5, u_5⟩ := z_add ex_5 rfl ti_22
        try replace f_5 : x_5.toInt = x1.toInt + 22 := by omega
        clear l_5 u_5
        have g_9 := z_rng x2
        obtain ⟨f_6, l_6, u_6⟩ := z_add ex_6 rfl rfl
        try replace f_6 : x_6.toInt = x_5.toInt + x2.toInt := by omega
        clear l_6 u_6
        show x_6.toInt = (x1.toInt + x2.toInt + 22)
        omega
      have hl_hr_7 : 22 ≤ x2.toInt + 22 ∧ x2.toInt + 22 ≤ 25 := by
        have g_10 := z_rng x1
        have g_11 := z_rng x2
        omega
      have hid_hr_7 : (x1.toInt + x2.toInt + 22) = x1.toInt + (x2.toInt + 22) := by simp only [Int.add_assoc, Int.add_sub_assoc]
      have hr_7 := z_cell (lo := 22) (hi := 25) hp0 hi_hr_7 hid_hr_7 hl_hr_7 (by decide)
      replace hid_hr_7 : zEq (x1.toInt + x2.toInt + 22) (x1.toInt + (x2.toInt + 22)) := hid_hr_7
      have hin_12 : vp_in x_6 (zn K (zr K a0 0)) := vp_in_iff.mpr (by rw [(hf_4.2.2 (by decide))]; exact hr_7.in)
      refine mld_40 C hs hP hf_4.1 hf_4.2.1 hin_12 dX12_canLay_13 ?_
      have ep_13 : x_6.toNatClampNeg = (x1.toInt + x2.toInt + 22).toNat := z_posE hi_hr_7
      rw [ep_13]
      have tv_14 := rv_22 hT hr_7
      rw [ep_13] at tv_14
      refine bi_ge (tgt := 56) hx hb rfl rfl dX12_canLay_14 (by decide) (fun c_15 => ?_) (fun c_15 => ?_)
      · skip
        refine lv_iconst (v := 0) hx hb dX12_canLay_56 (by decide) ?_
        exact zaSz hQ hx hb hr hlk (Or.inl rfl) ⟨(Or.inl rfl), (by (try dsimp only); (try simp only [ti_0]); (first | omega | (intro h9; omega) | (simp; done) | (refine ⟨?_, ?_⟩ <;> intros <;> first | trivial | omega) | (refine ⟨?_, ?_, ?_⟩ <;> intros <;> first | trivial | omega)))⟩ dX12_canLay_57
      · skip
        refine lv_aload_n hx hb dX12_canLay_17 rfl (lv_at hl 1 rfl) ?_
        refine mg_0 C hs hP ha0 hk0 wf_X12_8 dX12_canLay_18 ?_
        refine lv_iload_n hx hb dX12_canLay_21 rfl (lv_at hl 2 rfl) ?_
        refine lv_bipush (v := 50) hx hb dX12_canLay_22 (by decide) ?_
        refine lv_iadd hx hb dX12_canLay_24 ?_
        refine lv_topi (fun x_16 ex_16 => ?_)
        refine lv_aload_n hx hb dX12_canLay_25 rfl (lv_at hl 1 rfl) ?_
        refine mg_0 C hs hP ha0 hk0 wf_X12_8 dX12_canLay_26 ?_
        refine lv_iload_n hx hb dX12_canLay_29 rfl (lv_at hl 2 rfl) ?_
        refine lv_sipush (v := 230) hx hb dX12_canLay_30 (by decide) ?_
        refine lv_iadd hx hb dX12_canLay_33 ?_
        refine lv_topi (fun x_17 ex_17 => ?_)
        refine lv_bipush (v := 60) hx hb dX12_canLay_34 (by decide) ?_
        refine lv_iload_n hx hb dX12_canLay_36 rfl (lv_at hl 3 rfl) ?_
        refine lv_imul hx hb dX12_canLay_37 ?_
        refine lv_topi (fun x_18 ex_18 => ?_)
        refine lv_iadd hx hb dX12_canLay_38 ?_
        refine lv_topi (fun x_19 ex_19 => ?_)
        refine lv_iload_n hx hb dX12_canLay_39 rfl (lv_at hl 0 rfl) ?_
        refine lv_iadd hx hb dX12_canLay_40 ?_
        refine lv_topi (fun x_20 ex_20 => ?_)
        have hi_hr_21 : zEq x_20.toInt (x1.toInt + 60 * x2.toInt + y_1.toInt + 230) := by
          have g_22 := z_rng x1
          obtain ⟨f_17, l_17, u_17⟩ := z_add ex_17 rfl ti_230
          try replace f_17 : x_17.toInt = x1.toInt + 230 := by omega
          clear l_17 u_17
          have g_23 := z_rng x2
          obtain ⟨f_18, l_18, u_18⟩ := z_mul ex_18 ti_60 rfl
          try replace f_18 : x_18.toInt = 60 * x2.toInt := by omega
          clear l_18 u_18
          obtain ⟨f_19, l_19, u_19⟩ := z_add ex_19 rfl rfl
          try replace f_19 : x_19.toInt = x_17.toInt + x_18.toInt := by omega
          clear l_19 u_19
          have g_24 := z_rng y_1
          obtain ⟨f_20, l_20, u_20⟩ := z_add ex_20 rfl rfl
          try replace f_20 : x_20.toInt = x_19.toInt + y_1.toInt := by omega
          clear l_20 u_20
          show x_20.toInt = (x1.toInt + 60 * x2.toInt + y_1.toInt + 230)
          omega
        have hl_hr_21 : 230 ≤ 60 * x2.toInt + y_1.toInt + 230 ∧ 60 * x2.toInt + y_1.toInt + 230 ≤ 469 := by
          have g_25 := z_rng x1
          have g_26 := z_rng x2
          have g_27 := z_rng y_1
          omega
        have hid_hr_21 : (x1.toInt + 60 * x2.toInt + y_1.toInt + 230) = x1.toInt + (60 * x2.toInt + y_1.toInt + 230) := by simp only [Int.add_assoc, Int.add_sub_assoc]
        have hr_21 := z_cell (lo := 170) (hi := 469) hp0 hi_hr_21 hid_hr_21 hl_hr_21 (by decide)
        replace hid_hr_21 : zEq (x1.toInt + 60 * x2.toInt + y_1.toInt + 230) (x1.toInt + (60 * x2.toInt + y_1.toInt + 230)) := hid_hr_21
        have hin_28 : vp_in x_20 (zn K (zr K a0 0)) := vp_in_iff.mpr (by rw [(hf_4.2.2 (by decide))]; exact hr_21.in)
        refine mld_40 C hs hP hf_4.1 hf_4.2.1 hin_28 dX12_canLay_41 ?_
        have ep_29 : x_20.toNatClampNeg = (x1.toInt + 60 * x2.toInt + y_1.toInt + 230).toNat := z_posE hi_hr_21
        rw [ep_29]
        have tv_30 := rv_170 hT hr_21
        rw [ep_29] at tv_30
        refine lv_iadd hx hb dX12_canLay_42 ?_
        refine lv_topi (fun x_31 ex_31 => ?_)
        have hi_hr_32 : zEq x_31.toInt (x1.toInt + (A 40 (x1.toInt + 60 * x2.toInt + y_1.toInt + 230).toNat).toInt + 50) := by
          have g_33 := z_rng x1
          obtain ⟨f_16, l_16, u_16⟩ := z_add ex_16 rfl ti_50
          try replace f_16 : x_16.toInt = x1.toInt + 50 := by omega
          clear l_16 u_16
          have g_34 := z_rng (A 40 (x1.toInt + 60 * x2.toInt + y_1.toInt + 230).toNat)
          obtain ⟨f_31, l_31, u_31⟩ := z_add ex_31 rfl rfl
          try replace f_31 : x_31.toInt = x_16.toInt + (A 40 (x1.toInt + 60 * x2.toInt + y_1.toInt + 230).toNat).toInt := by omega
          clear l_31 u_31
          show x_31.toInt = (x1.toInt + (A 40 (x1.toInt + 60 * x2.toInt + y_1.toInt + 230).toNat).toInt + 50)
          omega
        have hl_hr_32 : 50 ≤ (A 40 (x1.toInt + 60 * x2.toInt + y_1.toInt + 230).toNat).toInt + 50 ∧ (A 40 (x1.toInt + 60 * x2.toInt + y_1.toInt + 230).toNat).toInt + 50 ≤ 109 := by
          have g_35 := z_rng x1
          have g_36 := z_rng (A 40 (x1.toInt + 60 * x2.toInt + y_1.toInt + 230).toNat)
          omega
        have hid_hr_32 : (x1.toInt + (A 40 (x1.toInt + 60 * x2.toInt + y_1.toInt + 230).toNat).toInt + 50) = x1.toInt + ((A 40 (x1.toInt + 60 * x2.toInt + y_1.toInt + 230).toNat).toInt + 50) := by simp only [Int.add_assoc, Int.add_sub_assoc]
        have hr_32 := z_cell (lo := 45) (hi := 169) hp0 hi_hr_32 hid_hr_32 hl_hr_32 (by decide)
        replace hid_hr_32 : zEq (x1.toInt + (A 40 (x1.toInt + 60 * x2.toInt + y_1.toInt + 230).toNat).toInt + 50) (x1.toInt + ((A 40 (x1.toInt + 60 * x2.toInt + y_1.toInt + 230).toNat).toInt + 50)) := hid_hr_32
        have hin_37 : vp_in x_31 (zn K (zr K a0 0)) := vp_in_iff.mpr (by rw [(hf_4.2.2 (by decide))]; exact hr_32.in)
        refine mld_40 C hs hP hf_4.1 hf_4.2.1 hin_37 dX12_canLay_43 ?_
        have ep_38 : x_31.toNatClampNeg = (x1.toInt + (A 40 (x1.toInt + 60 * x2.toInt + y_1.toInt + 230).toNat).toInt + 50).toNat := z_posE hi_hr_32
        rw [ep_38]
        refine lv_iconst (v := 3) hx hb dX12_canLay_44 (by decide) ?_
        refine bi_eq (tgt := 50) hx hb rfl ti_3 dX12_canLay_45 (by decide) (fun c_39 => ?_) (fun c_39 => ?_)
        · skip
          obtain ⟨x_40, ex_40⟩ : ∃ y : Int32, y = y_1 + 1 := ⟨_, rfl⟩
          refine lv_iinc (v := x_40) (lv' := [(3, .int x_40), (0, .ref a0), (1, .int x1), (2, .int x2)]) hx hb dX12_canLay_50 hl (k := 0) rfl (by rw [ex_40]; rfl) (by decide) rfl (fun ls hl => ?_)
          refine lv_goto (tgt := 2) hx hb dX12_canLay_53 (by decide) ?_
          have g_41 := z_rng y_1
          obtain ⟨f_40, l_40, u_40⟩ := z_add ex_40 rfl ti_1
          try replace f_40 : x_40.toInt = y_1.toInt + 1 := by omega
          clear l_40 u_40
          have g_42 := z_rng (A 40 (x1.toInt + (A 40 (x1.toInt + 60 * x2.toInt + y_1.toInt + 230).toNat).toInt + 50).toNat)
          have g_43 := z_rng (A 40 (x1.toInt + x2.toInt + 22).toNat)
          exact ih_2 x_40 _ (by omega) (by omega) (lv_sub hl [0, 1, 2, 3] rfl)
        · skip
          refine lv_iconst (v := 1) hx hb dX12_canLay_48 (by decide) ?_
          exact zaSz hQ hx hb hr hlk (Or.inr rfl) ⟨(Or.inr rfl), (by (try dsimp only); (try simp only [ti_1]); (first | omega | (intro h9; omega) | (simp; done) | (refine ⟨?_, ?_⟩ <;> intros <;> first | trivial | omega) | (refine ⟨?_, ?_, ?_⟩ <;> intros <;> first | trivial | omega)))⟩ dX12_canLay_49
  exact L_2_2 _ 0 _ (Nat.lt_succ_self _) (by (try simp only [ti_0]); omega) (lv_sub hl [0, 1, 2, 3] rfl)
set_option maxHeartbeats 4000000 in
set_option maxRecDepth 100000 in
theorem c_X12_meets (l : Launch) (D : va_G) (K : zK) (hM : mK K) (f : Nat → Int32) (A : Nat → Nat → Int32) (hT : mT f A) (a0 : Nat) (ha0 : a0 ∈ zl K) (hk0 : zk K a0 = 11) (x1 : Int32) (x2 : Int32) (x3 : Int32) (x4 : Int32) (hp0 : zRow x1.toInt) (hp1 : 0 ≤ x2.toInt ∧ x2.toInt ≤ 3) : Met l yX12_meets (zc yX12_meets cX12_meets 5 (some .int)) (rmd 1) (va_Pc [.ref a0, .int x1, .int x2, .int x3, .int x4] (zB D K (mV K f A))) (vp_Si (fun r => (r.toInt ≤ 0 → 0 ≤ x3.toInt ∧ x3.toInt ≤ 59 ∧ x3.toInt < (A 40 (x1.toInt + x2.toInt + 22).toNat).toInt ∧ (x4.toInt ≠ 0 → (A 40 (x1.toInt + 9).toNat).toInt = x2.toInt)))) 0 0 (fun _ => False) := by
  refine zin (by decide) (Nat.le_of_ble_eq_true rfl) ?_
  intro p e s m args below meth c ls Q hQ C hr hlk hP hs hl
  have C : CallFix p m c cX12_meets 5 s args zw RX12 := C
  obtain ⟨hx, hb, hml, hown, hts⟩ := id C
  have hO := hM.1
  have hS : va_S (zA K) s.heap s.heap [] := va_S.rf
  have hl : lv_has ls 5 [(0, .ref a0), (1, .int x1), (2, .int x2), (3, .int x3), (4, .int x4)] := hl
  have hb0 := hp0.lin
  refine lv_aload_n hx hb dX12_meets_0 rfl (lv_at hl 0 rfl) ?_
  refine mg_0 C hs hP ha0 hk0 wf_X12_8 dX12_meets_1 ?_
  have hf_1 := hO.r (j := 0) ha0 hk0 (rfl : zX 11 0 = some (40, 47730))
  refine lv_iload_n hx hb dX12_meets_4 rfl (lv_at hl 1 rfl) ?_
  refine lv_bipush (v := 35) hx hb dX12_meets_5 (by decide) ?_
  refine lv_iadd hx hb dX12_meets_7 ?_
  refine lv_topi (fun x_2 ex_2 => ?_)
  refine lv_iload_n hx hb dX12_meets_8 rfl (lv_at hl 2 rfl) ?_
  refine lv_iadd hx hb dX12_meets_9 ?_
  refine lv_topi (fun x_3 ex_3 => ?_)
  have hi_hr_4 : zEq x_3.toInt (x1.toInt + x2.toInt + 35) := by
    have g_5 := z_rng x1
    obtain ⟨f_2, l_2, u_2⟩ := z_add ex_2 rfl ti_35
    try replace f_2 : x_2.toInt = x1.toInt + 35 := by omega
    clear l_2 u_2
    have g_6 := z_rng x2
    obtain ⟨f_3, l_3, u_3⟩ := z_add ex_3 rfl rfl
    try replace f_3 : x_3.toInt = x_2.toInt + x2.toInt := by omega
    clear l_3 u_3
    show x_3.toInt = (x1.toInt + x2.toInt + 35)
    omega
  have hl_hr_4 : 35 ≤ x2.toInt + 35 ∧ x2.toInt + 35 ≤ 38 := by
    have g_7 := z_rng x1
    have g_8 := z_rng x2
    omega
  have hid_hr_4 : (x1.toInt + x2.toInt + 35) = x1.toInt + (x2.toInt + 35) := by simp only [Int.add_assoc, Int.add_sub_assoc]
  have hr_4 := z_cell (lo := 35) (hi := 38) hp0 hi_hr_4 hid_hr_4 hl_hr_4 (by decide)
  replace hid_hr_4 : zEq (x1.toInt + x2.toInt + 35) (x1.toInt + (x2.toInt + 35)) := hid_hr_4
  have hin_9 : vp_in x_3 (zn K (zr K a0 0)) := vp_in_iff.mpr (by rw [(hf_1.2.2 (by decide))]; exact hr_4.in)
  refine mld_40 C hs hP hf_1.1 hf_1.2.1 hin_9 dX12_meets_10 ?_
  have ep_10 : x_3.toNatClampNeg = (x1.toInt + x2.toInt + 35).toNat := z_posE hi_hr_4
  rw [ep_10]
  have tv_11 := rv_35 hT hr_4
  rw [ep_10] at tv_11
  refine bz_ne (tgt := 16) hx hb rfl dX12_meets_11 (by decide) (fun c_12 => ?_) (fun c_12 => ?_)
  · skip
    refine lv_aload_n hx hb dX12_meets_16 rfl (lv_at hl 0 rfl) ?_
    refine mg_0 C hs hP ha0 hk0 wf_X12_8 dX12_meets_17 ?_
    refine lv_iload_n hx hb dX12_meets_20 rfl (lv_at hl 1 rfl) ?_
    refine lv_bipush (v := 22) hx hb dX12_meets_21 (by decide) ?_
    refine lv_iadd hx hb dX12_meets_23 ?_
    refine lv_topi (fun x_13 ex_13 => ?_)
    refine lv_iload_n hx hb dX12_meets_24 rfl (lv_at hl 2 rfl) ?_
    refine lv_iadd hx hb dX12_meets_25 ?_
    refine lv_topi (fun x_14 ex_14 => ?_)
    have hi_hr_15 : zEq x_14.toInt (x1.toInt + x2.toInt + 22) := by
      have g_16 := z_rng x1
      obtain ⟨f_13, l_13, u_13⟩ := z_add ex_13 rfl ti_22
      try replace f_13 : x_13.toInt = x1.toInt + 22 := by omega
      clear l_13 u_13
      have g_17 := z_rng x2
      obtain ⟨f_14, l_14, u_14⟩ := z_add ex_14 rfl rfl
      try replace f_14 : x_14.toInt = x_13.toInt + x2.toInt := by omega
      clear l_14 u_14
      show x_14.toInt = (x1.toInt + x2.toInt + 22)
      omega
    have hl_hr_15 : 22 ≤ x2.toInt + 22 ∧ x2.toInt + 22 ≤ 25 := by
      have g_18 := z_rng x1
      have g_19 := z_rng x2
      omega
    have hid_hr_15 : (x1.toInt + x2.toInt + 22) = x1.toInt + (x2.toInt + 22) := by simp only [Int.add_assoc, Int.add_sub_assoc]
    have hr_15 := z_cell (lo := 22) (hi := 25) hp0 hi_hr_15 hid_hr_15 hl_hr_15 (by decide)
    replace hid_hr_15 : zEq (x1.toInt + x2.toInt + 22) (x1.toInt + (x2.toInt + 22)) := hid_hr_15
    have hin_20 : vp_in x_14 (zn K (zr K a0 0)) := vp_in_iff.mpr (by rw [(hf_1.2.2 (by decide))]; exact hr_15.in)
    refine mld_40 C hs hP hf_1.1 hf_1.2.1 hin_20 dX12_meets_26 ?_
    have ep_21 : x_14.toNatClampNeg = (x1.toInt + x2.toInt + 22).toNat := z_posE hi_hr_15
    rw [ep_21]
    have tv_22 := rv_22 hT hr_15
    rw [ep_21] at tv_22
    refine lv_iconst (v := (-1)) hx hb dX12_meets_27 (by decide) ?_
    refine bi_ne (tgt := 33) hx hb rfl ti_m1 dX12_meets_28 (by decide) (fun c_23 => ?_) (fun c_23 => ?_)
    · skip
      refine lv_iload_n hx hb dX12_meets_33 rfl (lv_at hl 3 rfl) ?_
      refine lv_iconst (v := 0) hx hb dX12_meets_34 (by decide) ?_
      refine lv_aload_n hx hb dX12_meets_35 rfl (lv_at hl 0 rfl) ?_
      refine mg_0 C hs hP ha0 hk0 wf_X12_8 dX12_meets_36 ?_
      refine lv_iload_n hx hb dX12_meets_39 rfl (lv_at hl 1 rfl) ?_
      refine lv_bipush (v := 22) hx hb dX12_meets_40 (by decide) ?_
      refine lv_iadd hx hb dX12_meets_42 ?_
      refine lv_topi (fun x_24 ex_24 => ?_)
      refine lv_iload_n hx hb dX12_meets_43 rfl (lv_at hl 2 rfl) ?_
      refine lv_iadd hx hb dX12_meets_44 ?_
      refine lv_topi (fun x_25 ex_25 => ?_)
      have hi_hr_26 : zEq x_25.toInt (x1.toInt + x2.toInt + 22) := by
        have g_27 := z_rng x1
        obtain ⟨f_24, l_24, u_24⟩ := z_add ex_24 rfl ti_22
        try replace f_24 : x_24.toInt = x1.toInt + 22 := by omega
        clear l_24 u_24
        have g_28 := z_rng x2
        obtain ⟨f_25, l_25, u_25⟩ := z_add ex_25 rfl rfl
        try replace f_25 : x_25.toInt = x_24.toInt + x2.toInt := by omega
        clear l_25 u_25
        show x_25.toInt = (x1.toInt + x2.toInt + 22)
        omega
      have hl_hr_26 : 22 ≤ x2.toInt + 22 ∧ x2.toInt + 22 ≤ 25 := by
        have g_29 := z_rng x1
        have g_30 := z_rng x2
        omega
      have hid_hr_26 : (x1.toInt + x2.toInt + 22) = x1.toInt + (x2.toInt + 22) := by simp only [Int.add_assoc, Int.add_sub_assoc]
      have hr_26 := z_cell (lo := 22) (hi := 25) hp0 hi_hr_26 hid_hr_26 hl_hr_26 (by decide)
      replace hid_hr_26 : zEq (x1.toInt + x2.toInt + 22) (x1.toInt + (x2.toInt + 22)) := hid_hr_26
      have hin_31 : vp_in x_25 (zn K (zr K a0 0)) := vp_in_iff.mpr (by rw [(hf_1.2.2 (by decide))]; exact hr_26.in)
      refine mld_40 C hs hP hf_1.1 hf_1.2.1 hin_31 dX12_meets_45 ?_
      have ep_32 : x_25.toNatClampNeg = (x1.toInt + x2.toInt + 22).toNat := z_posE hi_hr_26
      rw [ep_32]
      refine lv_iconst (v := 1) hx hb dX12_meets_46 (by decide) ?_
      refine lv_isub hx hb dX12_meets_47 ?_
      refine lv_topi (fun x_33 ex_33 => ?_)
      refine zcS (zrS (As := [.int x3, .int 0, .int x_33]) (rest := []) C hs hP hS (c_X12_in l D K hM f A hT x3 0 x_33) m_X12_in wm_X12_91 ⟨by decide, by decide⟩ hl.1 (Nat.le_of_ble_eq_true rfl) dX12_meets_48) (fun x_34 p_34 => ?_)
      have pp_34 : (x_34.toInt ≠ 0 → (0 : Int32).toInt ≤ x3.toInt ∧ x3.toInt ≤ x_33.toInt) ∧ (x_34.toInt = 0 → x3.toInt < (0 : Int32).toInt ∨ x_33.toInt < x3.toInt) := p_34.2
      try simp only [ti_0] at pp_34
      have g_35 := z_rng x3
      have g_36 := z_rng (A 40 (x1.toInt + x2.toInt + 22).toNat)
      obtain ⟨f_33, l_33, u_33⟩ := z_sub ex_33 rfl ti_1
      try replace f_33 : x_33.toInt = (A 40 (x1.toInt + x2.toInt + 22).toNat).toInt - 1 := by omega
      clear l_33 u_33
      refine bz_ne (tgt := 56) hx hb rfl dX12_meets_51 (by decide) (fun c_37 => ?_) (fun c_37 => ?_)
      · skip
        replace pp_34 := pp_34.1 c_37
        refine lv_iload hx hb dX12_meets_56 (lv_at hl 4 rfl) ?_
        refine bz_eq (tgt := 76) hx hb rfl dX12_meets_58 (by decide) (fun c_38 => ?_) (fun c_38 => ?_)
        · skip
          refine lv_aload_n hx hb dX12_meets_76 rfl (lv_at hl 0 rfl) ?_
          refine mg_0 C hs hP ha0 hk0 wf_X12_8 dX12_meets_77 ?_
          refine lv_iload_n hx hb dX12_meets_80 rfl (lv_at hl 1 rfl) ?_
          refine lv_bipush (v := 50) hx hb dX12_meets_81 (by decide) ?_
          refine lv_iadd hx hb dX12_meets_83 ?_
          refine lv_topi (fun x_39 ex_39 => ?_)
          refine lv_aload_n hx hb dX12_meets_84 rfl (lv_at hl 0 rfl) ?_
          refine mg_0 C hs hP ha0 hk0 wf_X12_8 dX12_meets_85 ?_
          refine lv_iload_n hx hb dX12_meets_88 rfl (lv_at hl 1 rfl) ?_
          refine lv_sipush (v := 230) hx hb dX12_meets_89 (by decide) ?_
          refine lv_iadd hx hb dX12_meets_92 ?_
          refine lv_topi (fun x_40 ex_40 => ?_)
          refine lv_bipush (v := 60) hx hb dX12_meets_93 (by decide) ?_
          refine lv_iload_n hx hb dX12_meets_95 rfl (lv_at hl 2 rfl) ?_
          refine lv_imul hx hb dX12_meets_96 ?_
          refine lv_topi (fun x_41 ex_41 => ?_)
          refine lv_iadd hx hb dX12_meets_97 ?_
          refine lv_topi (fun x_42 ex_42 => ?_)
          refine lv_iload_n hx hb dX12_meets_98 rfl (lv_at hl 3 rfl) ?_
          refine lv_iadd hx hb dX12_meets_99 ?_
          refine lv_topi (fun x_43 ex_43 => ?_)
          have hi_hr_44 : zEq x_43.toInt (x1.toInt + 60 * x2.toInt + x3.toInt + 230) := by
            have g_45 := z_rng x1
            obtain ⟨f_40, l_40, u_40⟩ := z_add ex_40 rfl ti_230
            try replace f_40 : x_40.toInt = x1.toInt + 230 := by omega
            clear l_40 u_40
            have g_46 := z_rng x2
            obtain ⟨f_41, l_41, u_41⟩ := z_mul ex_41 ti_60 rfl
            try replace f_41 : x_41.toInt = 60 * x2.toInt := by omega
            clear l_41 u_41
            obtain ⟨f_42, l_42, u_42⟩ := z_add ex_42 rfl rfl
            try replace f_42 : x_42.toInt = x_40.toInt + x_41.toInt := by omega
            clear l_42 u_42
            obtain ⟨f_43, l_43, u_43⟩ := z_add ex_43 rfl rfl
            try replace f_43 : x_43.toInt = x_42.toInt + x3.toInt := by omega
            clear l_43 u_43
            show x_43.toInt = (x1.toInt + 60 * x2.toInt + x3.toInt + 230)
            omega
          have hl_hr_44 : 230 ≤ 60 * x2.toInt + x3.toInt + 230 ∧ 60 * x2.toInt + x3.toInt + 230 ≤ 469 := by
            have g_47 := z_rng x1
            have g_48 := z_rng x2
            omega
          have hid_hr_44 : (x1.toInt + 60 * x2.toInt + x3.toInt + 230) = x1.toInt + (60 * x2.toInt + x3.toInt + 230) := by simp only [Int.add_assoc, Int.add_sub_assoc]
          have hr_44 := z_cell (lo := 170) (hi := 469) hp0 hi_hr_44 hid_hr_44 hl_hr_44 (by decide)
          replace hid_hr_44 : zEq (x1.toInt + 60 * x2.toInt + x3.toInt + 230) (x1.toInt + (60 * x2.toInt + x3.toInt + 230)) := hid_hr_44
          have hin_49 : vp_in x_43 (zn K (zr K a0 0)) := vp_in_iff.mpr (by rw [(hf_1.2.2 (by decide))]; exact hr_44.in)
          refine mld_40 C hs hP hf_1.1 hf_1.2.1 hin_49 dX12_meets_100 ?_
          have ep_50 : x_43.toNatClampNeg = (x1.toInt + 60 * x2.toInt + x3.toInt + 230).toNat := z_posE hi_hr_44
          rw [ep_50]
          have tv_51 := rv_170 hT hr_44
          rw [ep_50] at tv_51
          refine lv_iadd hx hb dX12_meets_101 ?_
          refine lv_topi (fun x_52 ex_52 => ?_)
          have hi_hr_53 : zEq x_52.toInt (x1.toInt + (A 40 (x1.toInt + 60 * x2.toInt + x3.toInt + 230).toNat).toInt + 50) := by
            have g_54 := z_rng x1
            obtain ⟨f_39, l_39, u_39⟩ := z_add ex_39 rfl ti_50
            try replace f_39 : x_39.toInt = x1.toInt + 50 := by omega
            clear l_39 u_39
            have g_55 := z_rng (A 40 (x1.toInt + 60 * x2.toInt + x3.toInt + 230).toNat)
            obtain ⟨f_52, l_52, u_52⟩ := z_add ex_52 rfl rfl
            try replace f_52 : x_52.toInt = x_39.toInt + (A 40 (x1.toInt + 60 * x2.toInt + x3.toInt + 230).toNat).toInt := by omega
            clear l_52 u_52
            show x_52.toInt = (x1.toInt + (A 40 (x1.toInt + 60 * x2.toInt + x3.toInt + 230).toNat).toInt + 50)
            omega
          have hl_hr_53 : 50 ≤ (A 40 (x1.toInt + 60 * x2.toInt + x3.toInt + 230).toNat).toInt + 50 ∧ (A 40 (x1.toInt + 60 * x2.toInt + x3.toInt + 230).toNat).toInt + 50 ≤ 109 := by
            have g_56 := z_rng x1
            have g_57 := z_rng (A 40 (x1.toInt + 60 * x2.toInt + x3.toInt + 230).toNat)
            omega
          have hid_hr_53 : (x1.toInt + (A 40 (x1.toInt + 60 * x2.toInt + x3.toInt + 230).toNat).toInt + 50) = x1.toInt + ((A 40 (x1.toInt + 60 * x2.toInt + x3.toInt + 230).toNat).toInt + 50) := by simp only [Int.add_assoc, Int.add_sub_assoc]
          have hr_53 := z_cell (lo := 45) (hi := 169) hp0 hi_hr_53 hid_hr_53 hl_hr_53 (by decide)
          replace hid_hr_53 : zEq (x1.toInt + (A 40 (x1.toInt + 60 * x2.toInt + x3.toInt + 230).toNat).toInt + 50) (x1.toInt + ((A 40 (x1.toInt + 60 * x2.toInt + x3.toInt + 230).toNat).toInt + 50)) := hid_hr_53
          have hin_58 : vp_in x_52 (zn K (zr K a0 0)) := vp_in_iff.mpr (by rw [(hf_1.2.2 (by decide))]; exact hr_53.in)
          refine mld_40 C hs hP hf_1.1 hf_1.2.1 hin_58 dX12_meets_102 ?_
          have ep_59 : x_52.toNatClampNeg = (x1.toInt + (A 40 (x1.toInt + 60 * x2.toInt + x3.toInt + 230).toNat).toInt + 50).toNat := z_posE hi_hr_53
          rw [ep_59]
          refine lv_iconst (v := 3) hx hb dX12_meets_103 (by decide) ?_
          refine bi_ne (tgt := 111) hx hb rfl ti_3 dX12_meets_104 (by decide) (fun c_60 => ?_) (fun c_60 => ?_)
          · skip
            refine lv_iconst (v := 0) hx hb dX12_meets_111 (by decide) ?_
            exact zaS hQ hx hb hr hlk (by (try dsimp only); (try simp only [ti_0]); (first | omega | (intro h9; omega) | (simp; done) | (refine ⟨?_, ?_⟩ <;> intros <;> first | trivial | omega) | (refine ⟨?_, ?_, ?_⟩ <;> intros <;> first | trivial | omega))) dX12_meets_112
          · skip
            refine lv_iconst (v := 5) hx hb dX12_meets_107 (by decide) ?_
            refine lv_goto (tgt := 112) hx hb dX12_meets_108 (by decide) ?_
            exact zaS hQ hx hb hr hlk (by (try dsimp only); (try simp only [ti_5]); (first | omega | (intro h9; omega) | (simp; done) | (refine ⟨?_, ?_⟩ <;> intros <;> first | trivial | omega) | (refine ⟨?_, ?_, ?_⟩ <;> intros <;> first | trivial | omega))) dX12_meets_112
        · skip
          refine lv_aload_n hx hb dX12_meets_61 rfl (lv_at hl 0 rfl) ?_
          refine mg_0 C hs hP ha0 hk0 wf_X12_8 dX12_meets_62 ?_
          refine lv_iload_n hx hb dX12_meets_65 rfl (lv_at hl 1 rfl) ?_
          refine lv_bipush (v := 9) hx hb dX12_meets_66 (by decide) ?_
          refine lv_iadd hx hb dX12_meets_68 ?_
          refine lv_topi (fun x_61 ex_61 => ?_)
          have hi_hr_62 : zEq x_61.toInt (x1.toInt + 9) := by
            have g_63 := z_rng x1
            obtain ⟨f_61, l_61, u_61⟩ := z_add ex_61 rfl ti_9
            try replace f_61 : x_61.toInt = x1.toInt + 9 := by omega
            clear l_61 u_61
            show x_61.toInt = (x1.toInt + 9)
            omega
          have hl_hr_62 : (9 : Int) ≤ 9 ∧ 9 ≤ (9 : Int) := by decide
          have hid_hr_62 : (x1.toInt + 9) = x1.toInt + (9) := by simp only [Int.add_assoc, Int.add_sub_assoc]
          have hr_62 := z_cell (lo := 9) (hi := 9) hp0 hi_hr_62 hid_hr_62 hl_hr_62 (by decide)
          replace hid_hr_62 : zEq (x1.toInt + 9) (x1.toInt + (9)) := hid_hr_62
          have hin_64 : vp_in x_61 (zn K (zr K a0 0)) := vp_in_iff.mpr (by rw [(hf_1.2.2 (by decide))]; exact hr_62.in)
          refine mld_40 C hs hP hf_1.1 hf_1.2.1 hin_64 dX12_meets_69 ?_
          have ep_65 : x_61.toNatClampNeg = (x1.toInt + 9).toNat := z_posE hi_hr_62
          rw [ep_65]
          have tv_66 := rv_9 hT hr_62
          rw [ep_65] at tv_66
          refine lv_iload_n hx hb dX12_meets_70 rfl (lv_at hl 2 rfl) ?_
          refine bi_eq (tgt := 76) hx hb rfl rfl dX12_meets_71 (by decide) (fun c_67 => ?_) (fun c_67 => ?_)
          · skip
            refine lv_aload_n hx hb dX12_meets_76 rfl (lv_at hl 0 rfl) ?_
            refine mg_0 C hs hP ha0 hk0 wf_X12_8 dX12_meets_77 ?_
            refine lv_iload_n hx hb dX12_meets_80 rfl (lv_at hl 1 rfl) ?_
            refine lv_bipush (v := 50) hx hb dX12_meets_81 (by decide) ?_
            refine lv_iadd hx hb dX12_meets_83 ?_
            refine lv_topi (fun x_68 ex_68 => ?_)
            refine lv_aload_n hx hb dX12_meets_84 rfl (lv_at hl 0 rfl) ?_
            refine mg_0 C hs hP ha0 hk0 wf_X12_8 dX12_meets_85 ?_
            refine lv_iload_n hx hb dX12_meets_88 rfl (lv_at hl 1 rfl) ?_
            refine lv_sipush (v := 230) hx hb dX12_meets_89 (by decide) ?_
            refine lv_iadd hx hb dX12_meets_92 ?_
            refine lv_topi (fun x_69 ex_69 => ?_)
            refine lv_bipush (v := 60) hx hb dX12_meets_93 (by decide) ?_
            refine lv_iload_n hx hb dX12_meets_95 rfl (lv_at hl 2 rfl) ?_
            refine lv_imul hx hb dX12_meets_96 ?_
            refine lv_topi (fun x_70 ex_70 => ?_)
            refine lv_iadd hx hb dX12_meets_97 ?_
            refine lv_topi (fun x_71 ex_71 => ?_)
            refine lv_iload_n hx hb dX12_meets_98 rfl (lv_at hl 3 rfl) ?_
            refine lv_iadd hx hb dX12_meets_99 ?_
            refine lv_topi (fun x_72 ex_72 => ?_)
            have hi_hr_73 : zEq x_72.toInt (x1.toInt + 60 * x2.toInt + x3.toInt + 230) := by
              have g_74 := z_rng x1
              obtain ⟨f_69, l_69, u_69⟩ := z_add ex_69 rfl ti_230
              try replace f_69 : x_69.toInt = x1.toInt + 230 := by omega
              clear l_69 u_69
              have g_75 := z_rng x2
              obtain ⟨f_70, l_70, u_70⟩ := z_mul ex_70 ti_60 rfl
              try replace f_70 : x_70.toInt = 60 * x2.toInt := by omega
              clear l_70 u_70
              obtain ⟨f_71, l_71, u_71⟩ := z_add ex_71 rfl rfl
              try replace f_71 : x_71.toInt = x_69.toInt + x_70.toInt := by omega
              clear l_71 u_71
              obtain ⟨f_72, l_72, u_72⟩ := z_add ex_72 rfl rfl
              try replace f_72 : x_72.toInt = x_71.toInt + x3.toInt := by omega
              clear l_72 u_72
              show x_72.toInt = (x1.toInt + 60 * x2.toInt + x3.toInt + 230)
              omega
            have hl_hr_73 : 230 ≤ 60 * x2.toInt + x3.toInt + 230 ∧ 60 * x2.toInt + x3.toInt + 230 ≤ 469 := by
              have g_76 := z_rng x1
              have g_77 := z_rng x2
              omega
            have hid_hr_73 : (x1.toInt + 60 * x2.toInt + x3.toInt + 230) = x1.toInt + (60 * x2.toInt + x3.toInt + 230) := by simp only [Int.add_assoc, Int.add_sub_assoc]
            have hr_73 := z_cell (lo := 170) (hi := 469) hp0 hi_hr_73 hid_hr_73 hl_hr_73 (by decide)
            replace hid_hr_73 : zEq (x1.toInt + 60 * x2.toInt + x3.toInt + 230) (x1.toInt + (60 * x2.toInt + x3.toInt + 230)) := hid_hr_73
            have hin_78 : vp_in x_72 (zn K (zr K a0 0)) := vp_in_iff.mpr (by rw [(hf_1.2.2 (by decide))]; exact hr_73.in)
            refine mld_40 C hs hP hf_1.1 hf_1.2.1 hin_78 dX12_meets_100 ?_
            have ep_79 : x_72.toNatClampNeg = (x1.toInt + 60 * x2.toInt + x3.toInt + 230).toNat := z_posE hi_hr_73
            rw [ep_79]
            have tv_80 := rv_170 hT hr_73
            rw [ep_79] at tv_80
            refine lv_iadd hx hb dX12_meets_101 ?_
            refine lv_topi (fun x_81 ex_81 => ?_)
            have hi_hr_82 : zEq x_81.toInt (x1.toInt + (A 40 (x1.toInt + 60 * x2.toInt + x3.toInt + 230).toNat).toInt + 50) := by
              have g_83 := z_rng x1
              obtain ⟨f_68, l_68, u_68⟩ := z_add ex_68 rfl ti_50
              try replace f_68 : x_68.toInt = x1.toInt + 50 := by omega
              clear l_68 u_68
              have g_84 := z_rng (A 40 (x1.toInt + 60 * x2.toInt + x3.toInt + 230).toNat)
              obtain ⟨f_81, l_81, u_81⟩ := z_add ex_81 rfl rfl
              try replace f_81 : x_81.toInt = x_68.toInt + (A 40 (x1.toInt + 60 * x2.toInt + x3.toInt + 230).toNat).toInt := by omega
              clear l_81 u_81
              show x_81.toInt = (x1.toInt + (A 40 (x1.toInt + 60 * x2.toInt + x3.toInt + 230).toNat).toInt + 50)
              omega
            have hl_hr_82 : 50 ≤ (A 40 (x1.toInt + 60 * x2.toInt + x3.toInt + 230).toNat).toInt + 50 ∧ (A 40 (x1.toInt + 60 * x2.toInt + x3.toInt + 230).toNat).toInt + 50 ≤ 109 := by
              have g_85 := z_rng x1
              have g_86 := z_rng (A 40 (x1.toInt + 60 * x2.toInt + x3.toInt + 230).toNat)
              omega
            have hid_hr_82 : (x1.toInt + (A 40 (x1.toInt + 60 * x2.toInt + x3.toInt + 230).toNat).toInt + 50) = x1.toInt + ((A 40 (x1.toInt + 60 * x2.toInt + x3.toInt + 230).toNat).toInt + 50) := by simp only [Int.add_assoc, Int.add_sub_assoc]
            have hr_82 := z_cell (lo := 45) (hi := 169) hp0 hi_hr_82 hid_hr_82 hl_hr_82 (by decide)
            replace hid_hr_82 : zEq (x1.toInt + (A 40 (x1.toInt + 60 * x2.toInt + x3.toInt + 230).toNat).toInt + 50) (x1.toInt + ((A 40 (x1.toInt + 60 * x2.toInt + x3.toInt + 230).toNat).toInt + 50)) := hid_hr_82
            have hin_87 : vp_in x_81 (zn K (zr K a0 0)) := vp_in_iff.mpr (by rw [(hf_1.2.2 (by decide))]; exact hr_82.in)
            refine mld_40 C hs hP hf_1.1 hf_1.2.1 hin_87 dX12_meets_102 ?_
            have ep_88 : x_81.toNatClampNeg = (x1.toInt + (A 40 (x1.toInt + 60 * x2.toInt + x3.toInt + 230).toNat).toInt + 50).toNat := z_posE hi_hr_82
            rw [ep_88]
            refine lv_iconst (v := 3) hx hb dX12_meets_103 (by decide) ?_
            refine bi_ne (tgt := 111) hx hb rfl ti_3 dX12_meets_104 (by decide) (fun c_89 => ?_) (fun c_89 => ?_)
            · skip
              refine lv_iconst (v := 0) hx hb dX12_meets_111 (by decide) ?_
              exact zaS hQ hx hb hr hlk (by (try dsimp only); (try simp only [ti_0]); (first | omega | (intro h9; omega) | (simp; done) | (refine ⟨?_, ?_⟩ <;> intros <;> first | trivial | omega) | (refine ⟨?_, ?_, ?_⟩ <;> intros <;> first | trivial | omega))) dX12_meets_112
            · skip
              refine lv_iconst (v := 5) hx hb dX12_meets_107 (by decide) ?_
              refine lv_goto (tgt := 112) hx hb dX12_meets_108 (by decide) ?_
              exact zaS hQ hx hb hr hlk (by (try dsimp only); (try simp only [ti_5]); (first | omega | (intro h9; omega) | (simp; done) | (refine ⟨?_, ?_⟩ <;> intros <;> first | trivial | omega) | (refine ⟨?_, ?_, ?_⟩ <;> intros <;> first | trivial | omega))) dX12_meets_112
          · skip
            refine lv_iconst (v := 4) hx hb dX12_meets_74 (by decide) ?_
            exact zaS hQ hx hb hr hlk (by (try dsimp only); (try simp only [ti_4]); (first | omega | (intro h9; omega) | (simp; done) | (refine ⟨?_, ?_⟩ <;> intros <;> first | trivial | omega) | (refine ⟨?_, ?_, ?_⟩ <;> intros <;> first | trivial | omega))) dX12_meets_75
      · skip
        replace pp_34 := pp_34.2 c_37
        refine lv_iconst (v := 3) hx hb dX12_meets_54 (by decide) ?_
        exact zaS hQ hx hb hr hlk (by (try dsimp only); (try simp only [ti_3]); (first | omega | (intro h9; omega) | (simp; done) | (refine ⟨?_, ?_⟩ <;> intros <;> first | trivial | omega) | (refine ⟨?_, ?_, ?_⟩ <;> intros <;> first | trivial | omega))) dX12_meets_55
    · skip
      refine lv_iconst (v := 2) hx hb dX12_meets_31 (by decide) ?_
      exact zaS hQ hx hb hr hlk (by (try dsimp only); (try simp only [ti_2]); (first | omega | (intro h9; omega) | (simp; done) | (refine ⟨?_, ?_⟩ <;> intros <;> first | trivial | omega) | (refine ⟨?_, ?_, ?_⟩ <;> intros <;> first | trivial | omega))) dX12_meets_32
  · skip
    refine lv_iconst (v := 1) hx hb dX12_meets_14 (by decide) ?_
    exact zaS hQ hx hb hr hlk (by (try dsimp only); (try simp only [ti_1]); (first | omega | (intro h9; omega) | (simp; done) | (refine ⟨?_, ?_⟩ <;> intros <;> first | trivial | omega) | (refine ⟨?_, ?_, ?_⟩ <;> intros <;> first | trivial | omega))) dX12_meets_15
set_option maxHeartbeats 4000000 in
set_option maxRecDepth 100000 in
theorem c_X12_barsGive (l : Launch) (D : va_G) (K : zK) (hM : mK K) (f : Nat → Int32) (A : Nat → Nat → Int32) (hT : mT f A) (a0 : Nat) (ha0 : a0 ∈ zl K) (hk0 : zk K a0 = 11) (x1 : Int32) (x2 : Int32) (x3 : Int32) (hp0 : zRow x1.toInt) (hp1 : 0 ≤ x2.toInt ∧ x2.toInt ≤ 3) (hp2 : 0 ≤ x3.toInt ∧ x3.toInt ≤ 59) : Met l yX12_barsGive (zc yX12_barsGive cX12_barsGive 4 (some .int)) (rmd 1) (va_Pc [.ref a0, .int x1, .int x2, .int x3] (zB D K (mV K f A))) (vp_Si (fun r => (0 ≤ r.toInt → (A 40 (x1.toInt + x2.toInt + 22).toNat).toInt < 15 ∧ (A 40 (x1.toInt + 5).toNat).toInt = 1 ∧ (A 40 (x1.toInt + x3.toInt + 110).toNat).toInt = 0))) 0 0 (fun _ => False) := by
  refine zin (by decide) (Nat.le_of_ble_eq_true rfl) ?_
  intro p e s m args below meth c ls Q hQ C hr hlk hP hs hl
  have C : CallFix p m c cX12_barsGive 4 s args zw RX12 := C
  obtain ⟨hx, hb, hml, hown, hts⟩ := id C
  have hO := hM.1
  have hS : va_S (zA K) s.heap s.heap [] := va_S.rf
  have hl : lv_has ls 4 [(0, .ref a0), (1, .int x1), (2, .int x2), (3, .int x3)] := hl
  have hb0 := hp0.lin
  refine lv_aload_n hx hb dX12_barsGive_0 rfl (lv_at hl 0 rfl) ?_
  refine mg_0 C hs hP ha0 hk0 wf_X12_8 dX12_barsGive_1 ?_
  have hf_1 := hO.r (j := 0) ha0 hk0 (rfl : zX 11 0 = some (40, 47730))
  refine lv_iload_n hx hb dX12_barsGive_4 rfl (lv_at hl 1 rfl) ?_
  refine lv_bipush (v := 22) hx hb dX12_barsGive_5 (by decide) ?_
  refine lv_iadd hx hb dX12_barsGive_7 ?_
  refine lv_topi (fun x_2 ex_2 => ?_)
  refine lv_iload_n hx hb dX12_barsGive_8 rfl (lv_at hl 2 rfl) ?_
  refine lv_iadd hx hb dX12_barsGive_9 ?_
  refine lv_topi (fun x_3 ex_3 => ?_)
  have hi_hr_4 : zEq x_3.toInt (x1.toInt + x2.toInt + 22) := by
    have g_5 := z_rng x1
    obtain ⟨f_2, l_2, u_2⟩ := z_add ex_2 rfl ti_22
    try replace f_2 : x_2.toInt = x1.toInt + 22 := by omega
    clear l_2 u_2
    have g_6 := z_rng x2
    obtain ⟨f_3, l_3, u_3⟩ := z_add ex_3 rfl rfl
    try replace f_3 : x_3.toInt = x_2.toInt + x2.toInt := by omega
    clear l_3 u_3
    show x_3.toInt = (x1.toInt + x2.toInt + 22)
    omega
  have hl_hr_4 : 22 ≤ x2.toInt + 22 ∧ x2.toInt + 22 ≤ 25 := by
    have g_7 := z_rng x1
    have g_8 := z_rng x2
    omega
  have hid_hr_4 : (x1.toInt + x2.toInt + 22) = x1.toInt + (x2.toInt + 22) := by simp only [Int.add_assoc, Int.add_sub_assoc]
  have hr_4 := z_cell (lo := 22) (hi := 25) hp0 hi_hr_4 hid_hr_4 hl_hr_4 (by decide)
  replace hid_hr_4 : zEq (x1.toInt + x2.toInt + 22) (x1.toInt + (x2.toInt + 22)) := hid_hr_4
  have hin_9 : vp_in x_3 (zn K (zr K a0 0)) := vp_in_iff.mpr (by rw [(hf_1.2.2 (by decide))]; exact hr_4.in)
  refine mld_40 C hs hP hf_1.1 hf_1.2.1 hin_9 dX12_barsGive_10 ?_
  have ep_10 : x_3.toNatClampNeg = (x1.toInt + x2.toInt + 22).toNat := z_posE hi_hr_4
  rw [ep_10]
  have tv_11 := rv_22 hT hr_4
  rw [ep_10] at tv_11
  refine lv_aload_n hx hb dX12_barsGive_11 rfl (lv_at hl 0 rfl) ?_
  refine lv_iload_n hx hb dX12_barsGive_12 rfl (lv_at hl 1 rfl) ?_
  refine zcS (zrV (As := [.int x1]) (b := a0) (rest := [.int (A 40 (x1.toInt + x2.toInt + 22).toNat)]) C hs hP hS (c_X12_sizeOf l D K hM f A hT a0 ha0 hk0 x1 hp0) m_X12_sizeOf wm_X12_155 (zrecv hs hP ha0 (zF_11 hk0) rfl) ⟨by decide, by decide⟩ hl.1 (Nat.le_of_ble_eq_true rfl) dX12_barsGive_13) (fun x_12 p_12 => ?_)
  have pp_12 : 0 ≤ x_12.toInt ∧ x_12.toInt ≤ 15 := p_12
  have g_13 := z_rng x1
  refine bi_lt (tgt := 22) hx hb rfl rfl dX12_barsGive_16 (by decide) (fun c_14 => ?_) (fun c_14 => ?_)
  · skip
    refine lv_aload_n hx hb dX12_barsGive_22 rfl (lv_at hl 0 rfl) ?_
    refine lv_iload_n hx hb dX12_barsGive_23 rfl (lv_at hl 1 rfl) ?_
    refine lv_iload_n hx hb dX12_barsGive_24 rfl (lv_at hl 2 rfl) ?_
    have g_15 := z_rng x2
    have hq_16 : 0 ≤ x2.toInt ∧ x2.toInt ≤ 3 := by (first | assumption | omega | (intros; omega))
    refine zcS (zrV (As := [.int x1, .int x2]) (b := a0) (rest := []) C hs hP hS (c_X12_isOpen l D K hM f A hT a0 ha0 hk0 x1 x2 hp0 hq_16) m_X12_isOpen wm_X12_178 (zrecv hs hP ha0 (zF_11 hk0) rfl) ⟨by decide, by decide⟩ hl.1 (Nat.le_of_ble_eq_true rfl) dX12_barsGive_25) (fun x_17 p_17 => ?_)
    have pp_17 : (x_17.toInt ≠ 0 → (A 40 (x1.toInt + 5).toNat).toInt = 1 ∧ (A 40 (x1.toInt + x2.toInt + 35).toNat).toInt = 1) := p_17.2
    refine bz_eq (tgt := 45) hx hb rfl dX12_barsGive_28 (by decide) (fun c_18 => ?_) (fun c_18 => ?_)
    · skip
      clear pp_17
      refine lv_bipush (v := (-4)) hx hb dX12_barsGive_45 (by decide) ?_
      refine lv_goto (tgt := 51) hx hb dX12_barsGive_47 (by decide) ?_
      exact zaS hQ hx hb hr hlk (by (try dsimp only); (try simp only [ti_m4]); (first | omega | (intro h9; omega) | (simp; done) | (refine ⟨?_, ?_⟩ <;> intros <;> first | trivial | omega) | (refine ⟨?_, ?_, ?_⟩ <;> intros <;> first | trivial | omega))) dX12_barsGive_51
    · skip
      replace pp_17 := pp_17 c_18
      refine lv_aload_n hx hb dX12_barsGive_31 rfl (lv_at hl 0 rfl) ?_
      refine mg_0 C hs hP ha0 hk0 wf_X12_8 dX12_barsGive_32 ?_
      refine lv_iload_n hx hb dX12_barsGive_35 rfl (lv_at hl 1 rfl) ?_
      refine lv_bipush (v := 110) hx hb dX12_barsGive_36 (by decide) ?_
      refine lv_iadd hx hb dX12_barsGive_38 ?_
      refine lv_topi (fun x_19 ex_19 => ?_)
      refine lv_iload_n hx hb dX12_barsGive_39 rfl (lv_at hl 3 rfl) ?_
      refine lv_iadd hx hb dX12_barsGive_40 ?_
      refine lv_topi (fun x_20 ex_20 => ?_)
      have hi_hr_21 : zEq x_20.toInt (x1.toInt + x3.toInt + 110) := by
        obtain ⟨f_19, l_19, u_19⟩ := z_add ex_19 rfl ti_110
        try replace f_19 : x_19.toInt = x1.toInt + 110 := by omega
        clear l_19 u_19
        have g_22 := z_rng x3
        obtain ⟨f_20, l_20, u_20⟩ := z_add ex_20 rfl rfl
        try replace f_20 : x_20.toInt = x_19.toInt + x3.toInt := by omega
        clear l_20 u_20
        show x_20.toInt = (x1.toInt + x3.toInt + 110)
        omega
      have hl_hr_21 : 110 ≤ x3.toInt + 110 ∧ x3.toInt + 110 ≤ 169 := by
        have g_23 := z_rng x3
        omega
      have hid_hr_21 : (x1.toInt + x3.toInt + 110) = x1.toInt + (x3.toInt + 110) := by simp only [Int.add_assoc, Int.add_sub_assoc]
      have hr_21 := z_cell (lo := 45) (hi := 169) hp0 hi_hr_21 hid_hr_21 hl_hr_21 (by decide)
      replace hid_hr_21 : zEq (x1.toInt + x3.toInt + 110) (x1.toInt + (x3.toInt + 110)) := hid_hr_21
      have hin_24 : vp_in x_20 (zn K (zr K a0 0)) := vp_in_iff.mpr (by rw [(hf_1.2.2 (by decide))]; exact hr_21.in)
      refine mld_40 C hs hP hf_1.1 hf_1.2.1 hin_24 dX12_barsGive_41 ?_
      have ep_25 : x_20.toNatClampNeg = (x1.toInt + x3.toInt + 110).toNat := z_posE hi_hr_21
      rw [ep_25]
      refine bz_eq (tgt := 50) hx hb rfl dX12_barsGive_42 (by decide) (fun c_26 => ?_) (fun c_26 => ?_)
      · skip
        refine lv_iconst (v := 0) hx hb dX12_barsGive_50 (by decide) ?_
        exact zaS hQ hx hb hr hlk (by (try dsimp only); (try simp only [ti_0]); (first | omega | (intro h9; omega) | (simp; done) | (refine ⟨?_, ?_⟩ <;> intros <;> first | trivial | omega) | (refine ⟨?_, ?_, ?_⟩ <;> intros <;> first | trivial | omega))) dX12_barsGive_51
      · skip
        refine lv_bipush (v := (-4)) hx hb dX12_barsGive_45 (by decide) ?_
        refine lv_goto (tgt := 51) hx hb dX12_barsGive_47 (by decide) ?_
        exact zaS hQ hx hb hr hlk (by (try dsimp only); (try simp only [ti_m4]); (first | omega | (intro h9; omega) | (simp; done) | (refine ⟨?_, ?_⟩ <;> intros <;> first | trivial | omega) | (refine ⟨?_, ?_, ?_⟩ <;> intros <;> first | trivial | omega))) dX12_barsGive_51
  · skip
    refine lv_bipush (v := (-3)) hx hb dX12_barsGive_19 (by decide) ?_
    exact zaS hQ hx hb hr hlk (by (try dsimp only); (try simp only [ti_m3]); (first | omega | (intro h9; omega) | (simp; done) | (refine ⟨?_, ?_⟩ <;> intros <;> first | trivial | omega) | (refine ⟨?_, ?_, ?_⟩ <;> intros <;> first | trivial | omega))) dX12_barsGive_21
set_option maxHeartbeats 4000000 in
set_option maxRecDepth 100000 in
theorem c_X12_canBid (l : Launch) (D : va_G) (K : zK) (hM : mK K) (f : Nat → Int32) (A : Nat → Nat → Int32) (hT : mT f A) (a0 : Nat) (ha0 : a0 ∈ zl K) (hk0 : zk K a0 = 11) (x1 : Int32) (x2 : Int32) (x3 : Int32) (x4 : Int32) (hp0 : zRow x1.toInt) (hp1 : 0 ≤ x2.toInt ∧ x2.toInt ≤ 3) : Met l yX12_canBid (zc yX12_canBid cX12_canBid 6 (some .boolean)) (rmd 1) (va_Pc [.ref a0, .int x1, .int x2, .int x3, .int x4] (zB D K (mV K f A))) (vp_Si (fun r => (r = 0 ∨ r = 1))) 0 0 (fun _ => False) := by
  refine zin (by decide) (Nat.le_of_ble_eq_true rfl) ?_
  intro p e s m args below meth c ls Q hQ C hr hlk hP hs hl
  have C : CallFix p m c cX12_canBid 6 s args zw RX12 := C
  obtain ⟨hx, hb, hml, hown, hts⟩ := id C
  have hO := hM.1
  have hS : va_S (zA K) s.heap s.heap [] := va_S.rf
  have hl : lv_has ls 6 [(0, .ref a0), (1, .int x1), (2, .int x2), (3, .int x3), (4, .int x4)] := hl
  have hb0 := hp0.lin
  refine lv_iload_n hx hb dX12_canBid_0 rfl (lv_at hl 3 rfl) ?_
  refine lv_aload_n hx hb dX12_canBid_1 rfl (lv_at hl 0 rfl) ?_
  refine mg_0 C hs hP ha0 hk0 wf_X12_8 dX12_canBid_2 ?_
  have hf_1 := hO.r (j := 0) ha0 hk0 (rfl : zX 11 0 = some (40, 47730))
  refine lv_iload_n hx hb dX12_canBid_5 rfl (lv_at hl 1 rfl) ?_
  refine lv_bipush (v := 10) hx hb dX12_canBid_6 (by decide) ?_
  refine lv_iadd hx hb dX12_canBid_8 ?_
  refine lv_topi (fun x_2 ex_2 => ?_)
  have hi_hr_3 : zEq x_2.toInt (x1.toInt + 10) := by
    have g_4 := z_rng x1
    obtain ⟨f_2, l_2, u_2⟩ := z_add ex_2 rfl ti_10
    try replace f_2 : x_2.toInt = x1.toInt + 10 := by omega
    clear l_2 u_2
    show x_2.toInt = (x1.toInt + 10)
    omega
  have hl_hr_3 : (10 : Int) ≤ 10 ∧ 10 ≤ (10 : Int) := by decide
  have hid_hr_3 : (x1.toInt + 10) = x1.toInt + (10) := by simp only [Int.add_assoc, Int.add_sub_assoc]
  have hr_3 := z_cell (lo := 10) (hi := 19) hp0 hi_hr_3 hid_hr_3 hl_hr_3 (by decide)
  replace hid_hr_3 : zEq (x1.toInt + 10) (x1.toInt + (10)) := hid_hr_3
  have hin_5 : vp_in x_2 (zn K (zr K a0 0)) := vp_in_iff.mpr (by rw [(hf_1.2.2 (by decide))]; exact hr_3.in)
  refine mld_40 C hs hP hf_1.1 hf_1.2.1 hin_5 dX12_canBid_9 ?_
  have ep_6 : x_2.toNatClampNeg = (x1.toInt + 10).toNat := z_posE hi_hr_3
  rw [ep_6]
  have J_45_21 : ∀ (y_20 : Int32) (ls : Array Slot), (y_20 = 0 ∨ y_20 = 1) → lv_has ls 6 [(0, .ref a0), (1, .int x1), (2, .int x2), (3, .int x3), (4, .int x4)] → W p l e (rmd 1) s m args below meth c s.heap [] 0 0 Q (F0 m 45 ls [.int y_20]) := by
    intro y_20 ls hb_y_20 hl
    refine lv_istore (lv' := [(5, .int y_20), (0, .ref a0), (1, .int x1), (2, .int x2), (3, .int x3), (4, .int x4)]) hx hb dX12_canBid_45 hl (by decide) rfl (fun ls hl => ?_)
    refine lv_aload_n hx hb dX12_canBid_47 rfl (lv_at hl 1 rfl) ?_
    refine mg_0 C hs hP ha0 hk0 wf_X12_8 dX12_canBid_48 ?_
    refine lv_iload_n hx hb dX12_canBid_51 rfl (lv_at hl 2 rfl) ?_
    refine lv_iconst (v := 2) hx hb dX12_canBid_52 (by decide) ?_
    refine lv_iadd hx hb dX12_canBid_53 ?_
    refine lv_topi (fun x_23 ex_23 => ?_)
    have hi_hr_24 : zEq x_23.toInt (x1.toInt + 2) := by
      have g_25 := z_rng x1
      obtain ⟨f_23, l_23, u_23⟩ := z_add ex_23 rfl ti_2
      try replace f_23 : x_23.toInt = x1.toInt + 2 := by omega
      clear l_23 u_23
      show x_23.toInt = (x1.toInt + 2)
      omega
    have hl_hr_24 : (2 : Int) ≤ 2 ∧ 2 ≤ (2 : Int) := by decide
    have hid_hr_24 : (x1.toInt + 2) = x1.toInt + (2) := by simp only [Int.add_assoc, Int.add_sub_assoc]
    have hr_24 := z_cell (lo := 2) (hi := 8) hp0 hi_hr_24 hid_hr_24 hl_hr_24 (by decide)
    replace hid_hr_24 : zEq (x1.toInt + 2) (x1.toInt + (2)) := hid_hr_24
    have hin_26 : vp_in x_23 (zn K (zr K a0 0)) := vp_in_iff.mpr (by rw [(hf_1.2.2 (by decide))]; exact hr_24.in)
    refine mld_40 C hs hP hf_1.1 hf_1.2.1 hin_26 dX12_canBid_54 ?_
    have ep_27 : x_23.toNatClampNeg = (x1.toInt + 2).toNat := z_posE hi_hr_24
    rw [ep_27]
    refine lv_iconst (v := 3) hx hb dX12_canBid_55 (by decide) ?_
    refine bi_ne (tgt := 77) hx hb rfl ti_3 dX12_canBid_56 (by decide) (fun c_28 => ?_) (fun c_28 => ?_)
    · skip
      refine lv_iconst (v := 0) hx hb dX12_canBid_77 (by decide) ?_
      exact zaSz hQ hx hb hr hlk (Or.inl rfl) (Or.inl rfl) dX12_canBid_78
    · skip
      refine lv_aload_n hx hb dX12_canBid_59 rfl (lv_at hl 1 rfl) ?_
      refine lv_iload_n hx hb dX12_canBid_60 rfl (lv_at hl 2 rfl) ?_
      refine lv_iload_n hx hb dX12_canBid_61 rfl (lv_at hl 3 rfl) ?_
      have g_29 := z_rng x1
      have g_30 := z_rng x2
      have hq_31 : 0 ≤ x2.toInt ∧ x2.toInt ≤ 3 := by (first | assumption | omega | (intros; omega))
      refine zcS (zrV (As := [.int x1, .int x2]) (b := a0) (rest := []) C hs hP hS (c_X12_isOpen l D K hM f A hT a0 ha0 hk0 x1 x2 hp0 hq_31) m_X12_isOpen wm_X12_178 (zrecv hs hP ha0 (zF_11 hk0) rfl) ⟨by decide, by decide⟩ hl.1 (Nat.le_of_ble_eq_true rfl) dX12_canBid_62) (fun x_32 p_32 => ?_)
      have pp_32 : (x_32.toInt ≠ 0 → (A 40 (x1.toInt + 5).toNat).toInt = 1 ∧ (A 40 (x1.toInt + x2.toInt + 35).toNat).toInt = 1) := p_32.2
      refine bz_eq (tgt := 77) hx hb rfl dX12_canBid_65 (by decide) (fun c_33 => ?_) (fun c_33 => ?_)
      · skip
        clear pp_32
        refine lv_iconst (v := 0) hx hb dX12_canBid_77 (by decide) ?_
        exact zaSz hQ hx hb hr hlk (Or.inl rfl) (Or.inl rfl) dX12_canBid_78
      · skip
        replace pp_32 := pp_32 c_33
        refine lv_iload hx hb dX12_canBid_68 (lv_at hl 0 rfl) ?_
        refine bz_eq (tgt := 77) hx hb rfl dX12_canBid_70 (by decide) (fun c_34 => ?_) (fun c_34 => ?_)
        · skip
          refine lv_iconst (v := 0) hx hb dX12_canBid_77 (by decide) ?_
          exact zaSz hQ hx hb hr hlk (Or.inl rfl) (Or.inl rfl) dX12_canBid_78
        · skip
          refine lv_iconst (v := 1) hx hb dX12_canBid_73 (by decide) ?_
          refine lv_goto (tgt := 78) hx hb dX12_canBid_74 (by decide) ?_
          exact zaSz hQ hx hb hr hlk (Or.inr rfl) (Or.inr rfl) dX12_canBid_78
  refine bi_gt (tgt := 40) hx hb rfl rfl dX12_canBid_10 (by decide) (fun c_7 => ?_) (fun c_7 => ?_)
  · skip
    refine lv_iconst (v := 1) hx hb dX12_canBid_40 (by decide) ?_
    refine lv_goto (tgt := 45) hx hb dX12_canBid_41 (by decide) ?_
    exact J_45_21 1 _ (Or.inr rfl) (lv_sub hl [0, 1, 2, 3, 4] rfl)
  · skip
    refine lv_iload_n hx hb dX12_canBid_13 rfl (lv_at hl 3 rfl) ?_
    refine lv_aload_n hx hb dX12_canBid_14 rfl (lv_at hl 0 rfl) ?_
    refine mg_0 C hs hP ha0 hk0 wf_X12_8 dX12_canBid_15 ?_
    refine lv_iload_n hx hb dX12_canBid_18 rfl (lv_at hl 1 rfl) ?_
    refine lv_bipush (v := 10) hx hb dX12_canBid_19 (by decide) ?_
    refine lv_iadd hx hb dX12_canBid_21 ?_
    refine lv_topi (fun x_35 ex_35 => ?_)
    have hi_hr_36 : zEq x_35.toInt (x1.toInt + 10) := by
      have g_37 := z_rng x1
      obtain ⟨f_35, l_35, u_35⟩ := z_add ex_35 rfl ti_10
      try replace f_35 : x_35.toInt = x1.toInt + 10 := by omega
      clear l_35 u_35
      show x_35.toInt = (x1.toInt + 10)
      omega
    have hl_hr_36 : (10 : Int) ≤ 10 ∧ 10 ≤ (10 : Int) := by decide
    have hid_hr_36 : (x1.toInt + 10) = x1.toInt + (10) := by simp only [Int.add_assoc, Int.add_sub_assoc]
    have hr_36 := z_cell (lo := 10) (hi := 19) hp0 hi_hr_36 hid_hr_36 hl_hr_36 (by decide)
    replace hid_hr_36 : zEq (x1.toInt + 10) (x1.toInt + (10)) := hid_hr_36
    have hin_38 : vp_in x_35 (zn K (zr K a0 0)) := vp_in_iff.mpr (by rw [(hf_1.2.2 (by decide))]; exact hr_36.in)
    refine mld_40 C hs hP hf_1.1 hf_1.2.1 hin_38 dX12_canBid_22 ?_
    have ep_39 : x_35.toNatClampNeg = (x1.toInt + 10).toNat := z_posE hi_hr_36
    rw [ep_39]
    refine bi_ne (tgt := 44) hx hb rfl rfl dX12_canBid_23 (by decide) (fun c_40 => ?_) (fun c_40 => ?_)
    · skip
      refine lv_iconst (v := 0) hx hb dX12_canBid_44 (by decide) ?_
      exact J_45_21 0 _ (Or.inl rfl) (lv_sub hl [0, 1, 2, 3, 4] rfl)
    · skip
      refine lv_iload hx hb dX12_canBid_26 (lv_at hl 4 rfl) ?_
      refine lv_aload_n hx hb dX12_canBid_28 rfl (lv_at hl 0 rfl) ?_
      refine mg_0 C hs hP ha0 hk0 wf_X12_8 dX12_canBid_29 ?_
      refine lv_iload_n hx hb dX12_canBid_32 rfl (lv_at hl 1 rfl) ?_
      refine lv_bipush (v := 11) hx hb dX12_canBid_33 (by decide) ?_
      refine lv_iadd hx hb dX12_canBid_35 ?_
      refine lv_topi (fun x_41 ex_41 => ?_)
      have hi_hr_42 : zEq x_41.toInt (x1.toInt + 11) := by
        have g_43 := z_rng x1
        obtain ⟨f_41, l_41, u_41⟩ := z_add ex_41 rfl ti_11
        try replace f_41 : x_41.toInt = x1.toInt + 11 := by omega
        clear l_41 u_41
        show x_41.toInt = (x1.toInt + 11)
        omega
      have hl_hr_42 : (11 : Int) ≤ 11 ∧ 11 ≤ (11 : Int) := by decide
      have hid_hr_42 : (x1.toInt + 11) = x1.toInt + (11) := by simp only [Int.add_assoc, Int.add_sub_assoc]
      have hr_42 := z_cell (lo := 10) (hi := 19) hp0 hi_hr_42 hid_hr_42 hl_hr_42 (by decide)
      replace hid_hr_42 : zEq (x1.toInt + 11) (x1.toInt + (11)) := hid_hr_42
      have hin_44 : vp_in x_41 (zn K (zr K a0 0)) := vp_in_iff.mpr (by rw [(hf_1.2.2 (by decide))]; exact hr_42.in)
      refine mld_40 C hs hP hf_1.1 hf_1.2.1 hin_44 dX12_canBid_36 ?_
      have ep_45 : x_41.toNatClampNeg = (x1.toInt + 11).toNat := z_posE hi_hr_42
      rw [ep_45]
      refine bi_le (tgt := 44) hx hb rfl rfl dX12_canBid_37 (by decide) (fun c_46 => ?_) (fun c_46 => ?_)
      · skip
        refine lv_iconst (v := 0) hx hb dX12_canBid_44 (by decide) ?_
        exact J_45_21 0 _ (Or.inl rfl) (lv_sub hl [0, 1, 2, 3, 4] rfl)
      · skip
        refine lv_iconst (v := 1) hx hb dX12_canBid_40 (by decide) ?_
        refine lv_goto (tgt := 45) hx hb dX12_canBid_41 (by decide) ?_
        exact J_45_21 1 _ (Or.inr rfl) (lv_sub hl [0, 1, 2, 3, 4] rfl)
set_option maxHeartbeats 4000000 in
set_option maxRecDepth 100000 in
theorem c_X12_canDouble (l : Launch) (D : va_G) (K : zK) (hM : mK K) (f : Nat → Int32) (A : Nat → Nat → Int32) (hT : mT f A) (a0 : Nat) (ha0 : a0 ∈ zl K) (hk0 : zk K a0 = 11) (x1 : Int32) (x2 : Int32) (hp0 : zRow x1.toInt) (hp1 : 0 ≤ x2.toInt ∧ x2.toInt ≤ 3) : Met l yX12_canDouble (zc yX12_canDouble cX12_canDouble 5 (some .boolean)) (rmd 1) (va_Pc [.ref a0, .int x1, .int x2] (zB D K (mV K f A))) (vp_Si (fun r => (r = 0 ∨ r = 1))) 0 0 (fun _ => False) := by
  refine zin (by decide) (Nat.le_of_ble_eq_true rfl) ?_
  intro p e s m args below meth c ls Q hQ C hr hlk hP hs hl
  have C : CallFix p m c cX12_canDouble 5 s args zw RX12 := C
  obtain ⟨hx, hb, hml, hown, hts⟩ := id C
  have hO := hM.1
  have hS : va_S (zA K) s.heap s.heap [] := va_S.rf
  have hl : lv_has ls 5 [(0, .ref a0), (1, .int x1), (2, .int x2)] := hl
  have hb0 := hp0.lin
  refine lv_aload_n hx hb dX12_canDouble_0 rfl (lv_at hl 0 rfl) ?_
  refine mg_0 C hs hP ha0 hk0 wf_X12_8 dX12_canDouble_1 ?_
  have hf_1 := hO.r (j := 0) ha0 hk0 (rfl : zX 11 0 = some (40, 47730))
  refine lv_iload_n hx hb dX12_canDouble_4 rfl (lv_at hl 1 rfl) ?_
  refine lv_bipush (v := 12) hx hb dX12_canDouble_5 (by decide) ?_
  refine lv_iadd hx hb dX12_canDouble_7 ?_
  refine lv_topi (fun x_2 ex_2 => ?_)
  have hi_hr_3 : zEq x_2.toInt (x1.toInt + 12) := by
    have g_4 := z_rng x1
    obtain ⟨f_2, l_2, u_2⟩ := z_add ex_2 rfl ti_12
    try replace f_2 : x_2.toInt = x1.toInt + 12 := by omega
    clear l_2 u_2
    show x_2.toInt = (x1.toInt + 12)
    omega
  have hl_hr_3 : (12 : Int) ≤ 12 ∧ 12 ≤ (12 : Int) := by decide
  have hid_hr_3 : (x1.toInt + 12) = x1.toInt + (12) := by simp only [Int.add_assoc, Int.add_sub_assoc]
  have hr_3 := z_cell (lo := 10) (hi := 19) hp0 hi_hr_3 hid_hr_3 hl_hr_3 (by decide)
  replace hid_hr_3 : zEq (x1.toInt + 12) (x1.toInt + (12)) := hid_hr_3
  have hin_5 : vp_in x_2 (zn K (zr K a0 0)) := vp_in_iff.mpr (by rw [(hf_1.2.2 (by decide))]; exact hr_3.in)
  refine mld_40 C hs hP hf_1.1 hf_1.2.1 hin_5 dX12_canDouble_8 ?_
  have ep_6 : x_2.toNatClampNeg = (x1.toInt + 12).toNat := z_posE hi_hr_3
  rw [ep_6]
  refine lv_iconst (v := 2) hx hb dX12_canDouble_9 (by decide) ?_
  refine lv_irem hx hb dX12_canDouble_10 (by decide) ?_
  refine lv_topi (fun x_7 ex_7 => ?_)
  refine lv_iload_n hx hb dX12_canDouble_11 rfl (lv_at hl 2 rfl) ?_
  refine lv_iconst (v := 2) hx hb dX12_canDouble_12 (by decide) ?_
  refine lv_irem hx hb dX12_canDouble_13 (by decide) ?_
  refine lv_topi (fun x_8 ex_8 => ?_)
  have J_22_11 : ∀ (y_10 : Int32) (ls : Array Slot), (y_10 = 0 ∨ y_10 = 1) → lv_has ls 5 [(0, .ref a0), (1, .int x1), (2, .int x2)] → W p l e (rmd 1) s m args below meth c s.heap [] 0 0 Q (F0 m 22 ls [.int y_10]) := by
    intro y_10 ls hb_y_10 hl
    refine lv_istore_n (lv' := [(3, .int y_10), (0, .ref a0), (1, .int x1), (2, .int x2)]) hx hb dX12_canDouble_22 rfl hl (by decide) rfl (fun ls hl => ?_)
    refine lv_aload_n hx hb dX12_canDouble_23 rfl (lv_at hl 1 rfl) ?_
    refine mg_0 C hs hP ha0 hk0 wf_X12_8 dX12_canDouble_24 ?_
    refine lv_iload_n hx hb dX12_canDouble_27 rfl (lv_at hl 2 rfl) ?_
    refine lv_bipush (v := 13) hx hb dX12_canDouble_28 (by decide) ?_
    refine lv_iadd hx hb dX12_canDouble_30 ?_
    refine lv_topi (fun x_13 ex_13 => ?_)
    have hi_hr_14 : zEq x_13.toInt (x1.toInt + 13) := by
      have g_15 := z_rng x1
      obtain ⟨f_13, l_13, u_13⟩ := z_add ex_13 rfl ti_13
      try replace f_13 : x_13.toInt = x1.toInt + 13 := by omega
      clear l_13 u_13
      show x_13.toInt = (x1.toInt + 13)
      omega
    have hl_hr_14 : (13 : Int) ≤ 13 ∧ 13 ≤ (13 : Int) := by decide
    have hid_hr_14 : (x1.toInt + 13) = x1.toInt + (13) := by simp only [Int.add_assoc, Int.add_sub_assoc]
    have hr_14 := z_cell (lo := 10) (hi := 19) hp0 hi_hr_14 hid_hr_14 hl_hr_14 (by decide)
    replace hid_hr_14 : zEq (x1.toInt + 13) (x1.toInt + (13)) := hid_hr_14
    have hin_16 : vp_in x_13 (zn K (zr K a0 0)) := vp_in_iff.mpr (by rw [(hf_1.2.2 (by decide))]; exact hr_14.in)
    refine mld_40 C hs hP hf_1.1 hf_1.2.1 hin_16 dX12_canDouble_31 ?_
    have ep_17 : x_13.toNatClampNeg = (x1.toInt + 13).toNat := z_posE hi_hr_14
    rw [ep_17]
    refine lv_istore (lv' := [(4, .int (A 40 (x1.toInt + 13).toNat)), (3, .int y_10), (0, .ref a0), (1, .int x1), (2, .int x2)]) hx hb dX12_canDouble_32 hl (by decide) rfl (fun ls hl => ?_)
    refine lv_aload_n hx hb dX12_canDouble_34 rfl (lv_at hl 2 rfl) ?_
    refine mg_0 C hs hP ha0 hk0 wf_X12_8 dX12_canDouble_35 ?_
    refine lv_iload_n hx hb dX12_canDouble_38 rfl (lv_at hl 3 rfl) ?_
    refine lv_bipush (v := 10) hx hb dX12_canDouble_39 (by decide) ?_
    refine lv_iadd hx hb dX12_canDouble_41 ?_
    refine lv_topi (fun x_18 ex_18 => ?_)
    have hi_hr_19 : zEq x_18.toInt (x1.toInt + 10) := by
      have g_20 := z_rng x1
      obtain ⟨f_18, l_18, u_18⟩ := z_add ex_18 rfl ti_10
      try replace f_18 : x_18.toInt = x1.toInt + 10 := by omega
      clear l_18 u_18
      show x_18.toInt = (x1.toInt + 10)
      omega
    have hl_hr_19 : (10 : Int) ≤ 10 ∧ 10 ≤ (10 : Int) := by decide
    have hid_hr_19 : (x1.toInt + 10) = x1.toInt + (10) := by simp only [Int.add_assoc, Int.add_sub_assoc]
    have hr_19 := z_cell (lo := 10) (hi := 19) hp0 hi_hr_19 hid_hr_19 hl_hr_19 (by decide)
    replace hid_hr_19 : zEq (x1.toInt + 10) (x1.toInt + (10)) := hid_hr_19
    have hin_21 : vp_in x_18 (zn K (zr K a0 0)) := vp_in_iff.mpr (by rw [(hf_1.2.2 (by decide))]; exact hr_19.in)
    refine mld_40 C hs hP hf_1.1 hf_1.2.1 hin_21 dX12_canDouble_42 ?_
    have ep_22 : x_18.toNatClampNeg = (x1.toInt + 10).toNat := z_posE hi_hr_19
    rw [ep_22]
    refine bz_le (tgt := 78) hx hb rfl dX12_canDouble_43 (by decide) (fun c_23 => ?_) (fun c_23 => ?_)
    · skip
      refine lv_iconst (v := 0) hx hb dX12_canDouble_78 (by decide) ?_
      exact zaSz hQ hx hb hr hlk (Or.inl rfl) (Or.inl rfl) dX12_canDouble_79
    · skip
      refine lv_aload_n hx hb dX12_canDouble_46 rfl (lv_at hl 2 rfl) ?_
      refine lv_iload_n hx hb dX12_canDouble_47 rfl (lv_at hl 3 rfl) ?_
      refine lv_iload_n hx hb dX12_canDouble_48 rfl (lv_at hl 4 rfl) ?_
      have g_24 := z_rng x1
      have g_25 := z_rng x2
      have hq_26 : 0 ≤ x2.toInt ∧ x2.toInt ≤ 3 := by (first | assumption | omega | (intros; omega))
      refine zcS (zrV (As := [.int x1, .int x2]) (b := a0) (rest := []) C hs hP hS (c_X12_isOpen l D K hM f A hT a0 ha0 hk0 x1 x2 hp0 hq_26) m_X12_isOpen wm_X12_178 (zrecv hs hP ha0 (zF_11 hk0) rfl) ⟨by decide, by decide⟩ hl.1 (Nat.le_of_ble_eq_true rfl) dX12_canDouble_49) (fun x_27 p_27 => ?_)
      have pp_27 : (x_27.toInt ≠ 0 → (A 40 (x1.toInt + 5).toNat).toInt = 1 ∧ (A 40 (x1.toInt + x2.toInt + 35).toNat).toInt = 1) := p_27.2
      refine bz_eq (tgt := 78) hx hb rfl dX12_canDouble_52 (by decide) (fun c_28 => ?_) (fun c_28 => ?_)
      · skip
        clear pp_27
        refine lv_iconst (v := 0) hx hb dX12_canDouble_78 (by decide) ?_
        exact zaSz hQ hx hb hr hlk (Or.inl rfl) (Or.inl rfl) dX12_canDouble_79
      · skip
        replace pp_27 := pp_27 c_28
        refine lv_iload hx hb dX12_canDouble_55 (lv_at hl 0 rfl) ?_
        refine bz_ne (tgt := 64) hx hb rfl dX12_canDouble_57 (by decide) (fun c_29 => ?_) (fun c_29 => ?_)
        · skip
          refine lv_iload hx hb dX12_canDouble_64 (lv_at hl 0 rfl) ?_
          refine lv_iconst (v := 1) hx hb dX12_canDouble_66 (by decide) ?_
          refine bi_ne (tgt := 78) hx hb rfl ti_1 dX12_canDouble_67 (by decide) (fun c_30 => ?_) (fun c_30 => ?_)
          · skip
            refine lv_iconst (v := 0) hx hb dX12_canDouble_78 (by decide) ?_
            exact zaSz hQ hx hb hr hlk (Or.inl rfl) (Or.inl rfl) dX12_canDouble_79
          · skip
            refine lv_iload_n hx hb dX12_canDouble_70 rfl (lv_at hl 1 rfl) ?_
            refine bz_eq (tgt := 78) hx hb rfl dX12_canDouble_71 (by decide) (fun c_31 => ?_) (fun c_31 => ?_)
            · skip
              refine lv_iconst (v := 0) hx hb dX12_canDouble_78 (by decide) ?_
              exact zaSz hQ hx hb hr hlk (Or.inl rfl) (Or.inl rfl) dX12_canDouble_79
            · skip
              refine lv_iconst (v := 1) hx hb dX12_canDouble_74 (by decide) ?_
              refine lv_goto (tgt := 79) hx hb dX12_canDouble_75 (by decide) ?_
              exact zaSz hQ hx hb hr hlk (Or.inr rfl) (Or.inr rfl) dX12_canDouble_79
        · skip
          refine lv_iload_n hx hb dX12_canDouble_60 rfl (lv_at hl 1 rfl) ?_
          refine bz_eq (tgt := 74) hx hb rfl dX12_canDouble_61 (by decide) (fun c_32 => ?_) (fun c_32 => ?_)
          · skip
            refine lv_iconst (v := 1) hx hb dX12_canDouble_74 (by decide) ?_
            refine lv_goto (tgt := 79) hx hb dX12_canDouble_75 (by decide) ?_
            exact zaSz hQ hx hb hr hlk (Or.inr rfl) (Or.inr rfl) dX12_canDouble_79
          · skip
            refine lv_iload hx hb dX12_canDouble_64 (lv_at hl 0 rfl) ?_
            refine lv_iconst (v := 1) hx hb dX12_canDouble_66 (by decide) ?_
            refine bi_ne (tgt := 78) hx hb rfl ti_1 dX12_canDouble_67 (by decide) (fun c_33 => ?_) (fun c_33 => ?_)
            · skip
              refine lv_iconst (v := 0) hx hb dX12_canDouble_78 (by decide) ?_
              exact zaSz hQ hx hb hr hlk (Or.inl rfl) (Or.inl rfl) dX12_canDouble_79
            · skip
              refine lv_iload_n hx hb dX12_canDouble_70 rfl (lv_at hl 1 rfl) ?_
              refine bz_eq (tgt := 78) hx hb rfl dX12_canDouble_71 (by decide) (fun c_34 => ?_) (fun c_34 => ?_)
              · skip
                refine lv_iconst (v := 0) hx hb dX12_canDouble_78 (by decide) ?_
                exact zaSz hQ hx hb hr hlk (Or.inl rfl) (Or.inl rfl) dX12_canDouble_79
              · skip
                refine lv_iconst (v := 1) hx hb dX12_canDouble_74 (by decide) ?_
                refine lv_goto (tgt := 79) hx hb dX12_canDouble_75 (by decide) ?_
                exact zaSz hQ hx hb hr hlk (Or.inr rfl) (Or.inr rfl) dX12_canDouble_79
  refine bi_ne (tgt := 21) hx hb rfl rfl dX12_canDouble_14 (by decide) (fun c_9 => ?_) (fun c_9 => ?_)
  · skip
    refine lv_iconst (v := 0) hx hb dX12_canDouble_21 (by decide) ?_
    exact J_22_11 0 _ (Or.inl rfl) (lv_sub hl [0, 1, 2] rfl)
  · skip
    refine lv_iconst (v := 1) hx hb dX12_canDouble_17 (by decide) ?_
    refine lv_goto (tgt := 22) hx hb dX12_canDouble_18 (by decide) ?_
    exact J_22_11 1 _ (Or.inr rfl) (lv_sub hl [0, 1, 2] rfl)
