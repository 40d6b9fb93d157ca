set_option maxHeartbeats 4000000 in
set_option maxRecDepth 100000 in
theorem c_X12_toHand (l : Launch) (D : va_G) (K : zK) (hM : mK K) (f : Nat → Int32) (A : Nat → Nat → Int32) (hT : mT f A) (a0 : Nat) (ha0 : a0 ∈ zl K) (hk0 : zk K a0 = 11) (x1 : Int32) (x2 : Int32) (x3 : Int32) (hp0 : zRow x1.toInt) (hp1 : 0 ≤ x2.toInt ∧ x2.toInt ≤ 3) (hp2 : 0 ≤ x3.toInt ∧ x3.toInt < (A 40 (x1.toInt + 21).toNat).toInt) (hp3 : 0 ≤ (A 40 (x1.toInt + x2.toInt + 22).toNat).toInt ∧ (A 40 (x1.toInt + x2.toInt + 22).toNat).toInt ≤ 59) : Met l yX12_toHand (zc yX12_toHand cX12_toHand 5 none) (rmd 1) (va_Pc [.ref a0, .int x1, .int x2, .int x3] (zB D K (mV K f A))) (mQv D K (fun f' A' => mT f' A' ∧ (∀ k, k ∉ ([40] : List Nat) → A' k = A k) ∧ (∀ k, k ∉ ([] : List Nat) → f' k = f k) ∧ fC (A 40) (A' 40) x1.toInt ([(21, 21), (22, 25), (110, 169), (170, 229), (230, 469)] : List (Int × Int)) ∧ (A' 40 (x1.toInt + 21).toNat).toInt = (A 40 (x1.toInt + 21).toNat).toInt - 1 ∧ (A' 40 (x1.toInt + x2.toInt + 22).toNat).toInt = (A 40 (x1.toInt + x2.toInt + 22).toNat).toInt + 1 ∧ (∀ q : Int, 0 ≤ q → q ≤ 3 → q ≠ x2.toInt → A' 40 (x1.toInt + q + 22).toNat = A 40 (x1.toInt + q + 22).toNat) ∧ (rK (A 40) x1.toInt → rK (A' 40) x1.toInt))) 0 0 (zA K) := by
  refine zin (by decide) (Nat.le_of_ble_eq_true rfl) ?_
  intro p e s m args below meth c ls Q hQ C hr hlk hP hs hl
  have C : CallFix p m c cX12_toHand 5 s args zw RX12 := C
  obtain ⟨hx, hb, hml, hown, hts⟩ := id C
  have hO := hM.1
  have hS : va_S (zA K) s.heap s.heap [] := va_S.rf
  have FA : ∀ k, k ∉ ([40] : List Nat) → A k = A k := fun _ _ => rfl
  have FF : ∀ k, k ∉ ([] : List Nat) → f k = f k := fun _ _ => rfl
  have FC : fC (A 40) (A 40) x1.toInt ([(21, 21), (22, 25), (110, 169), (170, 229), (230, 469)] : List (Int × Int)) := fun _ _ _ => rfl
  have hl : lv_has ls 5 [(0, .ref a0), (1, .int x1), (2, .int x2), (3, .int x3)] := hl
  have hb0 := hp0.lin
  have hT0 := hT
  have hr60 : 0 ≤ (A 40 (x1.toInt + 21).toNat).toInt ∧ (A 40 (x1.toInt + 21).toNat).toInt ≤ 60 := by
    have h9 : tP ((x1.toInt + 21).toNat % 1290) (A 40 (x1.toInt + 21).toNat) := hT.2 40 (x1.toInt + 21).toNat (by show (x1.toInt + 21).toNat < 47730; omega)
    exact h9.2.2.1 (by unfold zRow at hp0; omega) (by unfold zRow at hp0; omega)
  refine lv_aload_n hx hb dX12_toHand_0 rfl (lv_at hl 0 rfl) ?_
  refine mg_0 C hs hP ha0 hk0 wf_X12_8 dX12_toHand_1 ?_
  have hf_1 := hO.r (j := 0) ha0 hk0 (rfl : zX 11 0 = some (40, 47730))
  refine lv_iload_n hx hb dX12_toHand_4 rfl (lv_at hl 1 rfl) ?_
  refine lv_sipush (v := 170) hx hb dX12_toHand_5 (by decide) ?_
  refine lv_iadd hx hb dX12_toHand_8 ?_
  refine lv_topi (fun x_2 ex_2 => ?_)
  refine lv_iload_n hx hb dX12_toHand_9 rfl (lv_at hl 3 rfl) ?_
  refine lv_iadd hx hb dX12_toHand_10 ?_
  refine lv_topi (fun x_3 ex_3 => ?_)
  have hi_hr_4 : zEq x_3.toInt (x1.toInt + x3.toInt + 170) := by
    have g_5 := z_rng x1
    obtain ⟨f_2, l_2, u_2⟩ := z_add ex_2 rfl ti_170
    try replace f_2 : x_2.toInt = x1.toInt + 170 := by omega
    clear l_2 u_2
    have g_6 := z_rng x3
    obtain ⟨f_3, l_3, u_3⟩ := z_add ex_3 rfl rfl
    try replace f_3 : x_3.toInt = x_2.toInt + x3.toInt := by omega
    clear l_3 u_3
    show x_3.toInt = (x1.toInt + x3.toInt + 170)
    omega
  have hl_hr_4 : 170 ≤ x3.toInt + 170 ∧ x3.toInt + 170 ≤ 229 := by
    have g_7 := z_rng x1
    have g_8 := z_rng x3
    omega
  have hid_hr_4 : (x1.toInt + x3.toInt + 170) = x1.toInt + (x3.toInt + 170) := by simp only [Int.add_assoc, Int.add_sub_assoc]
  have hr_4 := z_cell (lo := 170) (hi := 469) hp0 hi_hr_4 hid_hr_4 hl_hr_4 (by decide)
  replace hid_hr_4 : zEq (x1.toInt + x3.toInt + 170) (x1.toInt + (x3.toInt + 170)) := hid_hr_4
  have hin_9 : vp_in x_3 (zn K (zr K a0 0)) := vp_in_iff.mpr (by rw [(hf_1.2.2 (by decide))]; exact hr_4.in)
  refine mld_40 C hs hP hf_1.1 hf_1.2.1 hin_9 dX12_toHand_11 ?_
  have ep_10 : x_3.toNatClampNeg = (x1.toInt + x3.toInt + 170).toNat := z_posE hi_hr_4
  rw [ep_10]
  have tv_11 := rv_170 hT hr_4
  rw [ep_10] at tv_11
  refine lv_istore (lv' := [(4, .int (A 40 (x1.toInt + x3.toInt + 170).toNat)), (0, .ref a0), (1, .int x1), (2, .int x2), (3, .int x3)]) hx hb dX12_toHand_12 hl (by decide) rfl (fun ls hl => ?_)
  refine lv_aload_n hx hb dX12_toHand_14 rfl (lv_at hl 1 rfl) ?_
  refine lv_iload_n hx hb dX12_toHand_15 rfl (lv_at hl 2 rfl) ?_
  refine lv_iload_n hx hb dX12_toHand_16 rfl (lv_at hl 4 rfl) ?_
  have g_12 := z_rng x1
  have g_13 := z_rng x3
  have hq_14 : 0 ≤ x3.toInt ∧ x3.toInt < (A 40 (x1.toInt + 21).toNat).toInt := by (first | assumption | omega | (intros; omega))
  refine mcV (zrV (As := [.int x1, .int x3]) (b := a0) (rest := []) C hs hP hS (c_X12_takeRest l D K hM f A hT a0 ha0 hk0 x1 x3 hp0 hq_14) m_X12_takeRest wm_X12_150 (zrecv hs hP ha0 (zF_11 hk0) rfl) ⟨by decide, by decide⟩ hl.1 (Nat.le_of_ble_eq_true rfl) dX12_toHand_17) hS (fun f_15 A_15 H locs p_15 hP hS => ?_)
  obtain ⟨hT, hA_15, hF_15, hC_15, pp_15⟩ := p_15
  have pp_15 : (A_15 40 (x1.toInt + 21).toNat).toInt = (A 40 (x1.toInt + 21).toNat).toInt - 1 ∧ shL (A 40) (A_15 40) x1.toInt x3.toInt ((A 40 (x1.toInt + 21).toNat).toInt - 1) := pp_15
  have hff_15 : f = f_15 := funext (fun k9 => (hF_15 k9 List.not_mem_nil).symm)
  subst hff_15
  have FA := frA FA hA_15 (by decide)
  have FF := frF FF hF_15 (by decide)
  have FC := fC.tr FC hC_15 (by decide)
  refine lv_aload_n hx hb dX12_toHand_20 rfl (lv_at hl 1 rfl) ?_
  refine mg_0 C hs hP ha0 hk0 wf_X12_8 dX12_toHand_21 ?_
  refine lv_iload_n hx hb dX12_toHand_24 rfl (lv_at hl 2 rfl) ?_
  refine lv_sipush (v := 230) hx hb dX12_toHand_25 (by decide) ?_
  refine lv_iadd hx hb dX12_toHand_28 ?_
  refine lv_topi (fun x_16 ex_16 => ?_)
  refine lv_bipush (v := 60) hx hb dX12_toHand_29 (by decide) ?_
  refine lv_iload_n hx hb dX12_toHand_31 rfl (lv_at hl 3 rfl) ?_
  refine lv_imul hx hb dX12_toHand_32 ?_
  refine lv_topi (fun x_17 ex_17 => ?_)
  refine lv_iadd hx hb dX12_toHand_33 ?_
  refine lv_topi (fun x_18 ex_18 => ?_)
  refine lv_aload_n hx hb dX12_toHand_34 rfl (lv_at hl 1 rfl) ?_
  refine mg_0 C hs hP ha0 hk0 wf_X12_8 dX12_toHand_35 ?_
  refine lv_iload_n hx hb dX12_toHand_38 rfl (lv_at hl 2 rfl) ?_
  refine lv_bipush (v := 22) hx hb dX12_toHand_39 (by decide) ?_
  refine lv_iadd hx hb dX12_toHand_41 ?_
  refine lv_topi (fun x_19 ex_19 => ?_)
  refine lv_iload_n hx hb dX12_toHand_42 rfl (lv_at hl 3 rfl) ?_
  refine lv_iadd hx hb dX12_toHand_43 ?_
  refine lv_topi (fun x_20 ex_20 => ?_)
  have hi_hr_21 : zEq x_20.toInt (x1.toInt + x2.toInt + 22) := by
    obtain ⟨f_19, l_19, u_19⟩ := z_add ex_19 rfl ti_22
    try replace f_19 : x_19.toInt = x1.toInt + 22 := by omega
    clear l_19 u_19
    have g_22 := z_rng x2
    obtain ⟨f_20, l_20, u_20⟩ := z_add ex_20 rfl rfl
    try replace f_20 : x_20.toInt = x_19.toInt + x2.toInt := by omega
    clear l_20 u_20
    show x_20.toInt = (x1.toInt + x2.toInt + 22)
    omega
  have hl_hr_21 : 22 ≤ x2.toInt + 22 ∧ x2.toInt + 22 ≤ 25 := by
    have g_23 := z_rng x2
    omega
  have hid_hr_21 : (x1.toInt + x2.toInt + 22) = x1.toInt + (x2.toInt + 22) := by simp only [Int.add_assoc, Int.add_sub_assoc]
  have hr_21 := z_cell (lo := 22) (hi := 25) hp0 hi_hr_21 hid_hr_21 hl_hr_21 (by decide)
  replace hid_hr_21 : zEq (x1.toInt + x2.toInt + 22) (x1.toInt + (x2.toInt + 22)) := hid_hr_21
  have hin_24 : vp_in x_20 (zn K (zr K a0 0)) := vp_in_iff.mpr (by rw [(hf_1.2.2 (by decide))]; exact hr_21.in)
  refine mld_40 C hs hP hf_1.1 hf_1.2.1 hin_24 dX12_toHand_44 ?_
  have ep_25 : x_20.toNatClampNeg = (x1.toInt + x2.toInt + 22).toNat := z_posE hi_hr_21
  rw [ep_25]
  obtain ⟨f_19, l_19, u_19⟩ := z_add ex_19 rfl ti_22
  try replace f_19 : x_19.toInt = x1.toInt + 22 := by omega
  clear l_19 u_19
  have g_27 := z_rng x2
  obtain ⟨f_20, l_20, u_20⟩ := z_add ex_20 rfl rfl
  try replace f_20 : x_20.toInt = x_19.toInt + x2.toInt := by omega
  clear l_20 u_20
  have hc_26 := hC_15 (x1.toInt + x2.toInt + 22) (by omega) (by simp only [List.mem_cons, List.not_mem_nil, or_false, forall_eq_or_imp, forall_eq]; omega)
  have ev_28 : A_15 40 (x1.toInt + x2.toInt + 22).toNat = A 40 (x1.toInt + x2.toInt + 22).toNat := by rw [hc_26]
  have tv_29 := rv_22 hT hr_21
  rw [ep_25] at tv_29
  rw [ev_28] at tv_29
  rw [ev_28]
  refine lv_iadd hx hb dX12_toHand_45 ?_
  refine lv_topi (fun x_30 ex_30 => ?_)
  refine lv_iload hx hb dX12_toHand_46 (lv_at hl 0 rfl) ?_
  have hi_hr_31 : zEq x_30.toInt (x1.toInt + (A 40 (x1.toInt + x2.toInt + 22).toNat).toInt + 60 * x2.toInt + 230) := by
    obtain ⟨f_16, l_16, u_16⟩ := z_add ex_16 rfl ti_230
    try replace f_16 : x_16.toInt = x1.toInt + 230 := by omega
    clear l_16 u_16
    obtain ⟨f_17, l_17, u_17⟩ := z_mul ex_17 ti_60 rfl
    try replace f_17 : x_17.toInt = 60 * x2.toInt := by omega
    clear l_17 u_17
    obtain ⟨f_18, l_18, u_18⟩ := z_add ex_18 rfl rfl
    try replace f_18 : x_18.toInt = x_16.toInt + x_17.toInt := by omega
    clear l_18 u_18
    have g_32 := z_rng (A 40 (x1.toInt + x2.toInt + 22).toNat)
    obtain ⟨f_30, l_30, u_30⟩ := z_add ex_30 rfl rfl
    try replace f_30 : x_30.toInt = x_18.toInt + (A 40 (x1.toInt + x2.toInt + 22).toNat).toInt := by omega
    clear l_30 u_30
    show x_30.toInt = (x1.toInt + (A 40 (x1.toInt + x2.toInt + 22).toNat).toInt + 60 * x2.toInt + 230)
    omega
  have hl_hr_31 : 230 ≤ (A 40 (x1.toInt + x2.toInt + 22).toNat).toInt + 60 * x2.toInt + 230 ∧ (A 40 (x1.toInt + x2.toInt + 22).toNat).toInt + 60 * x2.toInt + 230 ≤ 469 := by
    have g_33 := z_rng (A 40 (x1.toInt + x2.toInt + 22).toNat)
    omega
  have hid_hr_31 : (x1.toInt + (A 40 (x1.toInt + x2.toInt + 22).toNat).toInt + 60 * x2.toInt + 230) = x1.toInt + ((A 40 (x1.toInt + x2.toInt + 22).toNat).toInt + 60 * x2.toInt + 230) := by simp only [Int.add_assoc, Int.add_sub_assoc]
  have hr_31 := z_cell (lo := 170) (hi := 469) hp0 hi_hr_31 hid_hr_31 hl_hr_31 (by decide)
  replace hid_hr_31 : zEq (x1.toInt + (A 40 (x1.toInt + x2.toInt + 22).toNat).toInt + 60 * x2.toInt + 230) (x1.toInt + ((A 40 (x1.toInt + x2.toInt + 22).toNat).toInt + 60 * x2.toInt + 230)) := hid_hr_31
  have hin_34 : vp_in x_30 (zn K (zr K a0 0)) := vp_in_iff.mpr (by rw [(hf_1.2.2 (by decide))]; exact hr_31.in)
  have g_36 := z_rng (A 40 (x1.toInt + x3.toInt + 170).toNat)
  refine mst_40 C hM hs hP hS hf_1.1 hT hf_1.2.1 hin_34 (tp_170 hr_31 (show 0 ≤ (A 40 (x1.toInt + x3.toInt + 170).toNat).toInt ∧ (A 40 (x1.toInt + x3.toInt + 170).toNat).toInt ≤ 59 from by omega)) dX12_toHand_48 (fun A_35 H locs hE_35 hT hP hS => ?_)
  have ep_37 : x_30.toNatClampNeg = (x1.toInt + (A 40 (x1.toInt + x2.toInt + 22).toNat).toInt + 60 * x2.toInt + 230).toNat := z_posE hi_hr_31
  rw [ep_37] at hE_35
  have FA := frA FA (frAu hE_35) (by decide)
  have FC := fC.tr FC (fC.st (b := x1.toInt) (lo := 230) (hi := 469) hE_35 hb0.1 (by decide) hid_hr_31 hl_hr_31) (by decide)
  refine lv_aload_n hx hb dX12_toHand_49 rfl (lv_at hl 1 rfl) ?_
  refine mg_0 C hs hP ha0 hk0 wf_X12_8 dX12_toHand_50 ?_
  refine lv_iload_n hx hb dX12_toHand_53 rfl (lv_at hl 2 rfl) ?_
  refine lv_bipush (v := 22) hx hb dX12_toHand_54 (by decide) ?_
  refine lv_iadd hx hb dX12_toHand_56 ?_
  refine lv_topi (fun x_38 ex_38 => ?_)
  refine lv_iload_n hx hb dX12_toHand_57 rfl (lv_at hl 3 rfl) ?_
  refine lv_iadd hx hb dX12_toHand_58 ?_
  refine lv_topi (fun x_39 ex_39 => ?_)
  refine lv_dup2_11 hx hb dX12_toHand_59 rfl rfl ?_
  have hi_hr_40 : zEq x_39.toInt (x1.toInt + x2.toInt + 22) := by
    obtain ⟨f_38, l_38, u_38⟩ := z_add ex_38 rfl ti_22
    try replace f_38 : x_38.toInt = x1.toInt + 22 := by omega
    clear l_38 u_38
    obtain ⟨f_39, l_39, u_39⟩ := z_add ex_39 rfl rfl
    try replace f_39 : x_39.toInt = x_38.toInt + x2.toInt := by omega
    clear l_39 u_39
    show x_39.toInt = (x1.toInt + x2.toInt + 22)
    omega
  have hl_hr_40 : 22 ≤ x2.toInt + 22 ∧ x2.toInt + 22 ≤ 25 := by
    omega
  have hid_hr_40 : (x1.toInt + x2.toInt + 22) = x1.toInt + (x2.toInt + 22) := by simp only [Int.add_assoc, Int.add_sub_assoc]
  have hr_40 := z_cell (lo := 22) (hi := 25) hp0 hi_hr_40 hid_hr_40 hl_hr_40 (by decide)
  replace hid_hr_40 : zEq (x1.toInt + x2.toInt + 22) (x1.toInt + (x2.toInt + 22)) := hid_hr_40
  have hin_41 : vp_in x_39 (zn K (zr K a0 0)) := vp_in_iff.mpr (by rw [(hf_1.2.2 (by decide))]; exact hr_40.in)
  refine mld_40 C hs hP hf_1.1 hf_1.2.1 hin_41 dX12_toHand_60 ?_
  have ep_42 : x_39.toNatClampNeg = (x1.toInt + x2.toInt + 22).toNat := z_posE hi_hr_40
  rw [ep_42]
  obtain ⟨f_38, l_38, u_38⟩ := z_add ex_38 rfl ti_22
  try replace f_38 : x_38.toInt = x1.toInt + 22 := by omega
  clear l_38 u_38
  obtain ⟨f_39, l_39, u_39⟩ := z_add ex_39 rfl rfl
  try replace f_39 : x_39.toInt = x_38.toInt + x2.toInt := by omega
  clear l_39 u_39
  obtain ⟨f_16, l_16, u_16⟩ := z_add ex_16 rfl ti_230
  try replace f_16 : x_16.toInt = x1.toInt + 230 := by omega
  clear l_16 u_16
  obtain ⟨f_17, l_17, u_17⟩ := z_mul ex_17 ti_60 rfl
  try replace f_17 : x_17.toInt = 60 * x2.toInt := by omega
  clear l_17 u_17
  obtain ⟨f_18, l_18, u_18⟩ := z_add ex_18 rfl rfl
  try replace f_18 : x_18.toInt = x_16.toInt + x_17.toInt := by omega
  clear l_18 u_18
  have g_44 := z_rng (A 40 (x1.toInt + x2.toInt + 22).toNat)
  obtain ⟨f_30, l_30, u_30⟩ := z_add ex_30 rfl rfl
  try replace f_30 : x_30.toInt = x_18.toInt + (A 40 (x1.toInt + x2.toInt + 22).toNat).toInt := by omega
  clear l_30 u_30
  have hn_43 : (x1.toInt + x2.toInt + 22).toNat ≠ (x1.toInt + (A 40 (x1.toInt + x2.toInt + 22).toNat).toInt + 60 * x2.toInt + 230).toNat := by omega
  have hc_45 := hC_15 (x1.toInt + x2.toInt + 22) (by omega) (by simp only [List.mem_cons, List.not_mem_nil, or_false, forall_eq_or_imp, forall_eq]; omega)
  have ev_46 : A_35 40 (x1.toInt + x2.toInt + 22).toNat = A 40 (x1.toInt + x2.toInt + 22).toNat := by rw [hE_35, va_up_self, pk_un hn_43, hc_45]
  rw [ev_46]
  refine lv_iconst (v := 1) hx hb dX12_toHand_61 (by decide) ?_
  refine lv_iadd hx hb dX12_toHand_62 ?_
  refine lv_topi (fun x_47 ex_47 => ?_)
  have hin_48 : vp_in x_39 (zn K (zr K a0 0)) := vp_in_iff.mpr (by rw [(hf_1.2.2 (by decide))]; exact hr_40.in)
  obtain ⟨f_47, l_47, u_47⟩ := z_add ex_47 rfl ti_1
  try replace f_47 : x_47.toInt = (A 40 (x1.toInt + x2.toInt + 22).toNat).toInt + 1 := by omega
  clear l_47 u_47
  refine mst_40 C hM hs hP hS hf_1.1 hT hf_1.2.1 hin_48 (tp_22 hr_40 (show -1 ≤ x_47.toInt ∧ x_47.toInt ≤ 60 from by omega)) dX12_toHand_63 (fun A_49 H locs hE_49 hT hP hS => ?_)
  have ep_50 : x_39.toNatClampNeg = (x1.toInt + x2.toInt + 22).toNat := z_posE hi_hr_40
  rw [ep_50] at hE_49
  have FA := frA FA (frAu hE_49) (by decide)
  have FC := fC.tr FC (fC.st (b := x1.toInt) (lo := 22) (hi := 25) hE_49 hb0.1 (by decide) hid_hr_40 hl_hr_40) (by decide)
  refine lv_aload_n hx hb dX12_toHand_64 rfl (lv_at hl 1 rfl) ?_
  refine mg_0 C hs hP ha0 hk0 wf_X12_8 dX12_toHand_65 ?_
  refine lv_iload_n hx hb dX12_toHand_68 rfl (lv_at hl 2 rfl) ?_
  refine lv_bipush (v := 110) hx hb dX12_toHand_69 (by decide) ?_
  refine lv_iadd hx hb dX12_toHand_71 ?_
  refine lv_topi (fun x_51 ex_51 => ?_)
  refine lv_iload hx hb dX12_toHand_72 (lv_at hl 0 rfl) ?_
  refine lv_iadd hx hb dX12_toHand_74 ?_
  refine lv_topi (fun x_52 ex_52 => ?_)
  refine lv_iconst (v := 1) hx hb dX12_toHand_75 (by decide) ?_
  refine lv_iload_n hx hb dX12_toHand_76 rfl (lv_at hl 3 rfl) ?_
  refine lv_iadd hx hb dX12_toHand_77 ?_
  refine lv_topi (fun x_53 ex_53 => ?_)
  have hi_hr_54 : zEq x_52.toInt (x1.toInt + (A 40 (x1.toInt + x3.toInt + 170).toNat).toInt + 110) := by
    obtain ⟨f_51, l_51, u_51⟩ := z_add ex_51 rfl ti_110
    try replace f_51 : x_51.toInt = x1.toInt + 110 := by omega
    clear l_51 u_51
    obtain ⟨f_52, l_52, u_52⟩ := z_add ex_52 rfl rfl
    try replace f_52 : x_52.toInt = x_51.toInt + (A 40 (x1.toInt + x3.toInt + 170).toNat).toInt := by omega
    clear l_52 u_52
    show x_52.toInt = (x1.toInt + (A 40 (x1.toInt + x3.toInt + 170).toNat).toInt + 110)
    omega
  have hl_hr_54 : 110 ≤ (A 40 (x1.toInt + x3.toInt + 170).toNat).toInt + 110 ∧ (A 40 (x1.toInt + x3.toInt + 170).toNat).toInt + 110 ≤ 169 := by
    omega
  have hid_hr_54 : (x1.toInt + (A 40 (x1.toInt + x3.toInt + 170).toNat).toInt + 110) = x1.toInt + ((A 40 (x1.toInt + x3.toInt + 170).toNat).toInt + 110) := by simp only [Int.add_assoc, Int.add_sub_assoc]
  have hr_54 := z_cell (lo := 45) (hi := 169) hp0 hi_hr_54 hid_hr_54 hl_hr_54 (by decide)
  replace hid_hr_54 : zEq (x1.toInt + (A 40 (x1.toInt + x3.toInt + 170).toNat).toInt + 110) (x1.toInt + ((A 40 (x1.toInt + x3.toInt + 170).toNat).toInt + 110)) := hid_hr_54
  have hin_55 : vp_in x_52 (zn K (zr K a0 0)) := vp_in_iff.mpr (by rw [(hf_1.2.2 (by decide))]; exact hr_54.in)
  refine mst_40 C hM hs hP hS hf_1.1 hT hf_1.2.1 hin_55 (tp_45 hr_54) dX12_toHand_78 (fun A_56 H locs hE_56 hT hP hS => ?_)
  have ep_57 : x_52.toNatClampNeg = (x1.toInt + (A 40 (x1.toInt + x3.toInt + 170).toNat).toInt + 110).toNat := z_posE hi_hr_54
  rw [ep_57] at hE_56
  have FA := frA FA (frAu hE_56) (by decide)
  have FC := fC.tr FC (fC.st (b := x1.toInt) (lo := 110) (hi := 169) hE_56 hb0.1 (by decide) hid_hr_54 hl_hr_54) (by decide)
  have hpk_58 : 0 ≤ (A 40 (x1.toInt + 1).toNat).toInt ∧ (A 40 (x1.toInt + 1).toNat).toInt ≤ 60 := by
    have h9 := hT0.2 40 (x1.toInt + 1).toNat (by show (x1.toInt + 1).toNat < 47730; omega)
    have h8 : tP ((x1.toInt + 1).toNat % 1290) (A 40 (x1.toInt + 1).toNat) := h9
    exact h8.1 (by unfold zRow at hp0; omega)
  obtain ⟨f_53, l_53, u_53⟩ := z_add ex_53 ti_1 rfl
  try replace f_53 : x_53.toInt = 1 + x2.toInt := by omega
  clear l_53 u_53
  have hth_58 := th_ok (C := A 40) (C1 := A_15 40) (C2 := A_56 40) (H := (A 40 (x1.toInt + x2.toInt + 22).toNat).toInt) (R := (A 40 (x1.toInt + 21).toNat).toInt) hb0.1 hp1 rfl (by omega) hp3 rfl (by omega) hC_15 pp_15.1 pp_15.2 (by rw [hE_56, va_up_self, hE_49, va_up_self, hE_35, va_up_self]) (by omega) hpk_58.2
  exact maV hQ hx hb hr hlk hP hS ⟨hT, FA, FF, FC, ⟨hth_58.1, by rw [hth_58.2.1]; omega, hth_58.2.2.1, hth_58.2.2.2⟩⟩ dX12_toHand_79
