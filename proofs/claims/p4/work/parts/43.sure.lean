set_option maxHeartbeats 4000000 in
set_option maxRecDepth 100000 in
theorem c_X12_sureAt (l : Launch) (D : va_G) (K : zK) (hM : mK K) (f : Nat → Int32) (A : Nat → Nat → Int32) (hT : mT f A) (a0 : Nat) (ha0 : a0 ∈ zl K) (hk0 : zk K a0 = 11) (x1 : Int32) (x2 : Int32) (x3 : Int32) (hp0 : zRow x2.toInt) (hp1 : h4 (A 40) x2.toInt 4) (hp2 : ((f 23).toInt = x1.toInt → aOk (A 40) x2.toInt (f 20).toInt)) (hp3 : (f 11).toInt ≤ 1950000000) : Met l yX12_sureAt (zc yX12_sureAt cX12_sureAt 4 (some .int)) (rmd 6) (va_Pc [.ref a0, .int x1, .int x2, .int x3] (zB D K (mV K f A))) (mQi D K (fun r f' A' => mT f' A' ∧ (∀ k, k ∉ ([50, 53, 55, 58, 59, 61, 62, 66, 69, 70, 71, 72, 73] : List Nat) → A' k = A k) ∧ (∀ k, k ∉ ([11, 12, 14, 16, 20, 23, 24, 25, 27, 28, 34, 35] : List Nat) → f' k = f k) ∧ (f' 11).toInt = (f 11).toInt ∧ (f' 12).toInt = (f 12).toInt ∧ aOk (A 40) x2.toInt (f' 20).toInt ∧ (f' 23).toInt = x1.toInt)) 0 0 (zA K) := by
  refine zin (by decide) (Nat.le_of_ble_eq_true rfl) ?_
  intro p e s m args below meth c ls Q hQ C hr hlk hP hs hl
  have C : CallFix p m c cX12_sureAt 4 s args zw RX12 := C
  obtain ⟨hx, hb, hml, hown, hts⟩ := id C
  have hO := hM.1
  have hS : va_S (zA K) s.heap s.heap [] := va_S.rf
  have FA : ∀ k, k ∉ ([50, 53, 55, 58, 59, 61, 62, 66, 69, 70, 71, 72, 73] : List Nat) → A k = A k := fun _ _ => rfl
  have FF : ∀ k, k ∉ ([11, 12, 14, 16, 20, 23, 24, 25, 27, 28, 34, 35] : List Nat) → f k = f k := fun _ _ => rfl
  have hl : lv_has ls 4 [(0, .ref a0), (1, .int x1), (2, .int x2), (3, .int x3)] := hl
  have hb0 := hp0.lin
  refine lv_aload_n hx hb dX12_sureAt_0 rfl (lv_at hl 0 rfl) ?_
  refine lv_iload_n hx hb dX12_sureAt_1 rfl (lv_at hl 1 rfl) ?_
  refine lv_iload_n hx hb dX12_sureAt_2 rfl (lv_at hl 2 rfl) ?_
  refine lv_iload_n hx hb dX12_sureAt_3 rfl (lv_at hl 3 rfl) ?_
  have g_1 := z_rng x1
  have g_2 := z_rng x2
  have g_3 := z_rng x3
  have hq_4 : h4 (A 40) x2.toInt 4 := by (first | assumption | omega | (intros; omega))
  have hq_5 : ((f 23).toInt = x1.toInt → aOk (A 40) x2.toInt (f 20).toInt) := by (first | assumption | omega | (intros; omega))
  have hq_6 : (f 11).toInt ≤ 1960000000 := by (first | assumption | omega | (intros; omega))
  refine mcV (zrV (As := [.int x1, .int x2, .int x3]) (b := a0) (rest := []) C hs hP hS (c_X12_solve l D K hM f A hT a0 ha0 hk0 x1 x2 x3 hp0 hq_4 hq_5 hq_6) m_X12_solve wm_X12_298 (zrecv hs hP ha0 (zF_11 hk0) rfl) ⟨by decide, by decide⟩ hl.1 (Nat.le_of_ble_eq_true rfl) dX12_sureAt_4) hS (fun f_7 A_7 H locs p_7 hP hS => ?_)
  obtain ⟨hT, hA_7, hF_7, pp_7⟩ := p_7
  have pp_7 : (f_7 11).toInt = (f 11).toInt ∧ (f_7 12).toInt = (f 12).toInt ∧ aOk (A 40) x2.toInt (f_7 20).toInt ∧ (f_7 23).toInt = x1.toInt := pp_7
  have FA := frA FA hA_7 (by decide)
  have FF := frF FF hF_7 (by decide)
  refine lv_aload_n hx hb dX12_sureAt_7 rfl (lv_at hl 0 rfl) ?_
  refine mg_0 C hs hP ha0 hk0 wf_X12_8 dX12_sureAt_8 ?_
  have hf_8 := hO.r (j := 0) ha0 hk0 (rfl : zX 11 0 = some (40, 47730))
  refine lv_iload_n hx hb dX12_sureAt_11 rfl (lv_at hl 2 rfl) ?_
  refine lv_bipush (v := 9) hx hb dX12_sureAt_12 (by decide) ?_
  refine lv_iadd hx hb dX12_sureAt_14 ?_
  refine lv_topi (fun x_9 ex_9 => ?_)
  have hi_hr_10 : zEq x_9.toInt (x2.toInt + 9) := by
    obtain ⟨f_9, l_9, u_9⟩ := z_add ex_9 rfl ti_9
    try replace f_9 : x_9.toInt = x2.toInt + 9 := by omega
    clear l_9 u_9
    show x_9.toInt = (x2.toInt + 9)
    omega
  have hl_hr_10 : (9 : Int) ≤ 9 ∧ 9 ≤ (9 : Int) := by decide
  have hid_hr_10 : (x2.toInt + 9) = x2.toInt + (9) := by simp only [Int.add_assoc, Int.add_sub_assoc]
  have hr_10 := z_cell (lo := 9) (hi := 9) hp0 hi_hr_10 hid_hr_10 hl_hr_10 (by decide)
  replace hid_hr_10 : zEq (x2.toInt + 9) (x2.toInt + (9)) := hid_hr_10
  have hin_11 : vp_in x_9 (zn K (zr K a0 0)) := vp_in_iff.mpr (by rw [(hf_8.2.2 (by decide))]; exact hr_10.in)
  refine mld_40 C hs hP hf_8.1 hf_8.2.1 hin_11 dX12_sureAt_15 ?_
  have ep_12 : x_9.toNatClampNeg = (x2.toInt + 9).toNat := z_posE hi_hr_10
  rw [ep_12]
  have ev_13 : A_7 40 (x2.toInt + 9).toNat = A 40 (x2.toInt + 9).toNat := by rw [hA_7 40 (by decide)]
  have tv_14 := rv_9 hT hr_10
  rw [ep_12] at tv_14
  rw [ev_13] at tv_14
  rw [ev_13]
  refine lv_iconst (v := (-1)) hx hb dX12_sureAt_16 (by decide) ?_
  refine bi_ne (tgt := 24) hx hb rfl ti_m1 dX12_sureAt_17 (by decide) (fun c_15 => ?_) (fun c_15 => ?_)
  · skip
    refine lv_aload_n hx hb dX12_sureAt_24 rfl (lv_at hl 0 rfl) ?_
    refine mg_21 C hs hP ha0 hk0 wf_X12_49 dX12_sureAt_25 ?_
    have hf_16 := hO.r (j := 21) ha0 hk0 (rfl : zX 11 21 = some (61, 262144))
    refine lv_iconst (v := 4) hx hb dX12_sureAt_28 (by decide) ?_
    refine lv_aload_n hx hb dX12_sureAt_29 rfl (lv_at hl 0 rfl) ?_
    refine mg_20 C hs hP ha0 hk0 wf_X12_286 dX12_sureAt_30 ?_
    have tf_17 : 0 ≤ (f_7 20).toInt ∧ (f_7 20).toInt ≤ 65535 := hT.1 20
    refine lv_imul hx hb dX12_sureAt_33 ?_
    refine lv_topi (fun x_18 ex_18 => ?_)
    refine lv_aload_n hx hb dX12_sureAt_34 rfl (lv_at hl 0 rfl) ?_
    refine mg_0 C hs hP ha0 hk0 wf_X12_8 dX12_sureAt_35 ?_
    refine lv_iload_n hx hb dX12_sureAt_38 rfl (lv_at hl 2 rfl) ?_
    refine lv_bipush (v := 9) hx hb dX12_sureAt_39 (by decide) ?_
    refine lv_iadd hx hb dX12_sureAt_41 ?_
    refine lv_topi (fun x_19 ex_19 => ?_)
    have hi_hr_20 : zEq x_19.toInt (x2.toInt + 9) := by
      obtain ⟨f_19, l_19, u_19⟩ := z_add ex_19 rfl ti_9
      try replace f_19 : x_19.toInt = x2.toInt + 9 := by omega
      clear l_19 u_19
      show x_19.toInt = (x2.toInt + 9)
      omega
    have hl_hr_20 : (9 : Int) ≤ 9 ∧ 9 ≤ (9 : Int) := by decide
    have hid_hr_20 : (x2.toInt + 9) = x2.toInt + (9) := by simp only [Int.add_assoc, Int.add_sub_assoc]
    have hr_20 := z_cell (lo := 9) (hi := 9) hp0 hi_hr_20 hid_hr_20 hl_hr_20 (by decide)
    replace hid_hr_20 : zEq (x2.toInt + 9) (x2.toInt + (9)) := hid_hr_20
    have hin_21 : vp_in x_19 (zn K (zr K a0 0)) := vp_in_iff.mpr (by rw [(hf_8.2.2 (by decide))]; exact hr_20.in)
    refine mld_40 C hs hP hf_8.1 hf_8.2.1 hin_21 dX12_sureAt_42 ?_
    have ep_22 : x_19.toNatClampNeg = (x2.toInt + 9).toNat := z_posE hi_hr_20
    rw [ep_22]
    have ev_23 : A_7 40 (x2.toInt + 9).toNat = A 40 (x2.toInt + 9).toNat := by rw [hA_7 40 (by decide)]
    rw [ev_23]
    refine lv_iadd hx hb dX12_sureAt_43 ?_
    refine lv_topi (fun x_24 ex_24 => ?_)
    have g_26 := z_rng (f_7 20)
    obtain ⟨f_18, l_18, u_18⟩ := z_mul ex_18 ti_4 rfl
    try replace f_18 : x_18.toInt = 4 * (f_7 20).toInt := by omega
    clear l_18 u_18
    have g_27 := z_rng (A 40 (x2.toInt + 9).toNat)
    obtain ⟨f_24, l_24, u_24⟩ := z_add ex_24 rfl rfl
    try replace f_24 : x_24.toInt = x_18.toInt + (A 40 (x2.toInt + 9).toNat).toInt := by omega
    clear l_24 u_24
    have hin_25 : vp_in x_24 (zn K (zr K a0 21)) := vp_in_iff.mpr (by rw [(hf_16.2.2 (by decide))]; refine ⟨?_, ?_⟩ <;> omega)
    refine mld_61 C hs hP hf_16.1 hf_16.2.1 hin_25 dX12_sureAt_44 ?_
    exact maI hQ hx hb hr hlk hP hS ⟨hT, FA, FF, pp_7⟩ dX12_sureAt_45
  · skip
    refine lv_iconst (v := 0) hx hb dX12_sureAt_20 (by decide) ?_
    refine lv_goto (tgt := 45) hx hb dX12_sureAt_21 (by decide) ?_
    exact maI hQ hx hb hr hlk hP hS ⟨hT, FA, FF, pp_7⟩ dX12_sureAt_45
