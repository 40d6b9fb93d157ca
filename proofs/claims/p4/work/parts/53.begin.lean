set_option maxHeartbeats 4000000 in
set_option maxRecDepth 100000 in
theorem c_X12_copy (l : Launch) (D : va_G) (K : zK) (hM : mK K) (f : Nat → Int32) (A : Nat → Nat → Int32) (hT : mT f A) (a0 : Nat) (ha0 : a0 ∈ zl K) (hk0 : zk K a0 = 11) (x1 : Int32) (x2 : Int32) (hp0 : 0 ≤ x1.toInt ∧ x1.toInt ≤ 36) (hp1 : 0 ≤ x2.toInt ∧ x2.toInt ≤ 36) (hp2 : x1.toInt ≠ x2.toInt) : Met l yX12_copy (zc yX12_copy cX12_copy 4 none) (rmd 0) (va_Pc [.ref a0, .int x1, .int x2] (zB D K (mV K f A))) (mQv D K (fun f' A' => mT f' A' ∧ (∀ k, k ∉ ([40] : List Nat) → A' k = A k) ∧ (∀ k, k ∉ ([] : List Nat) → f' k = f k) ∧ fC (A 40) (A' 40) (1290 * x2.toInt) ([(0, 1289)] : List (Int × Int)) ∧ cpy (A 40) (A' 40) (1290 * x2.toInt) (1290 * x1.toInt) 1290)) 0 0 (zA K) := by
  refine zin (by decide) (Nat.le_of_ble_eq_true rfl) ?_
  intro p e s m args below meth c ls Q hQ C hr hlk hP hs hl
  have C : CallFix p m c cX12_copy 4 s args zw RX12 := C
  obtain ⟨hx, hb, hml, hown, hts⟩ := id C
  have hO := hM.1
  have hS : va_S (zA K) s.heap s.heap [] := va_S.rf
  have FA : ∀ k, k ∉ ([40] : List Nat) → A k = A k := fun _ _ => rfl
  have FF : ∀ k, k ∉ ([] : List Nat) → f k = f k := fun _ _ => rfl
  have FC : fC (A 40) (A 40) (1290 * x2.toInt) ([(0, 1289)] : List (Int × Int)) := fun _ _ _ => rfl
  have hl : lv_has ls 4 [(0, .ref a0), (1, .int x1), (2, .int x2)] := hl
  refine lv_iconst (v := 0) hx hb dX12_copy_0 (by decide) ?_
  refine lv_istore_n (lv' := [(3, .int 0), (0, .ref a0), (1, .int x1), (2, .int x2)]) hx hb dX12_copy_1 rfl hl (by decide) rfl (fun ls hl => ?_)
  have L_2_2 : ∀ (n_2 : Nat) (A_3 : Nat → Nat → Int32) (H : Heap) (locs : List Loc) (y_1 : Int32) (ls : Array Slot), (2147483648 - y_1.toInt).toNat < n_2 → 0 ≤ y_1.toInt → cpy (A 40) (A_3 40) (1290 * x2.toInt) (1290 * x1.toInt) y_1.toInt → (∀ k, k ∉ ([40] : List Nat) → A_3 k = A k) → fC (A 40) (A_3 40) (1290 * x2.toInt) ([(0, 1289)] : List (Int × Int)) → mT f A_3 → va_P D vwCl (zW K (mV K f A_3)) H → va_S (zA K) s.heap H locs → lv_has ls 4 [(3, .int y_1), (0, .ref a0), (1, .int x1), (2, .int x2)] → W p l e (rmd 0) s m args below meth c H locs 0 0 Q (F0 m 2 ls []) := by
    intro n_2
    induction n_2 with
    | zero => intro A_3 H locs y_1 ls hm_2; exact absurd hm_2 (Nat.not_lt_zero _)
    | succ n_2 ih_2 =>
      intro A_3 H locs y_1 ls hm_2 iv_3_0 iv_3_1 FA_3 FC_3 hT hP hS hl
      have FA := FA_3
      have FC := FC_3
      have FCo := FC
      refine lv_iload_n hx hb dX12_copy_2 rfl (lv_at hl 0 rfl) ?_
      refine lv_sipush (v := 1290) hx hb dX12_copy_3 (by decide) ?_
      refine bi_ge (tgt := 39) hx hb rfl ti_1290 dX12_copy_6 (by decide) (fun c_5 => ?_) (fun c_5 => ?_)
      · skip
        exact maV hQ hx hb hr hlk hP hS ⟨hT, FA, FF, FC, (fun j h1 h2 => iv_3_1 j h1 (by omega))⟩ dX12_copy_39
      · skip
        refine lv_aload_n hx hb dX12_copy_9 rfl (lv_at hl 1 rfl) ?_
        refine mg_0 C hs hP ha0 hk0 wf_X12_8 dX12_copy_10 ?_
        have hf_6 := hO.r (j := 0) ha0 hk0 (rfl : zX 11 0 = some (40, 47730))
        refine lv_sipush (v := 1290) hx hb dX12_copy_13 (by decide) ?_
        refine lv_iload_n hx hb dX12_copy_16 rfl (lv_at hl 3 rfl) ?_
        refine lv_imul hx hb dX12_copy_17 ?_
        refine lv_topi (fun x_7 ex_7 => ?_)
        refine lv_iload_n hx hb dX12_copy_18 rfl (lv_at hl 0 rfl) ?_
        refine lv_iadd hx hb dX12_copy_19 ?_
        refine lv_topi (fun x_8 ex_8 => ?_)
        refine lv_aload_n hx hb dX12_copy_20 rfl (lv_at hl 1 rfl) ?_
        refine mg_0 C hs hP ha0 hk0 wf_X12_8 dX12_copy_21 ?_
        refine lv_sipush (v := 1290) hx hb dX12_copy_24 (by decide) ?_
        refine lv_iload_n hx hb dX12_copy_27 rfl (lv_at hl 2 rfl) ?_
        refine lv_imul hx hb dX12_copy_28 ?_
        refine lv_topi (fun x_9 ex_9 => ?_)
        refine lv_iload_n hx hb dX12_copy_29 rfl (lv_at hl 0 rfl) ?_
        refine lv_iadd hx hb dX12_copy_30 ?_
        refine lv_topi (fun x_10 ex_10 => ?_)
        have g_13 := z_rng x1
        obtain ⟨f_9, l_9, u_9⟩ := z_mul ex_9 ti_1290 rfl
        try replace f_9 : x_9.toInt = 1290 * x1.toInt := by omega
        clear l_9 u_9
        have hbs_12 : zRow x_9.toInt := zRow.of (t := x1.toInt) (by omega) (by omega)
        have hbl_hbs_12 := hbs_12.lin
        have hi_hr_11 : zEq x_10.toInt (x_9.toInt + y_1.toInt) := by
          have g_14 := z_rng y_1
          obtain ⟨f_10, l_10, u_10⟩ := z_add ex_10 rfl rfl
          try replace f_10 : x_10.toInt = x_9.toInt + y_1.toInt := by omega
          clear l_10 u_10
          show x_10.toInt = (x_9.toInt + y_1.toInt)
          omega
        have hl_hr_11 : 0 ≤ y_1.toInt ∧ y_1.toInt ≤ 1289 := by
          have g_15 := z_rng y_1
          omega
        have hid_hr_11 : (x_9.toInt + y_1.toInt) = x_9.toInt + (y_1.toInt) := by simp only [Int.add_assoc, Int.add_sub_assoc]
        have hr_11 := z_cell (lo := 0) (hi := 1289) hbs_12 hi_hr_11 hid_hr_11 hl_hr_11 (by decide)
        replace hid_hr_11 : zEq (x_9.toInt + y_1.toInt) (x_9.toInt + (y_1.toInt)) := hid_hr_11
        have hin_16 : vp_in x_10 (zn K (zr K a0 0)) := vp_in_iff.mpr (by rw [(hf_6.2.2 (by decide))]; exact hr_11.in)
        refine mld_40 C hs hP hf_6.1 hf_6.2.1 hin_16 dX12_copy_31 ?_
        have ep_17 : x_10.toNatClampNeg = (x_9.toInt + y_1.toInt).toNat := z_posE hi_hr_11
        rw [ep_17]
        clear ep_17
        have g_20 := z_rng x2
        obtain ⟨f_7, l_7, u_7⟩ := z_mul ex_7 ti_1290 rfl
        try replace f_7 : x_7.toInt = 1290 * x2.toInt := by omega
        clear l_7 u_7
        have hbs_19 : zRow x_7.toInt := zRow.of (t := x2.toInt) (by omega) (by omega)
        have hbl_hbs_19 := hbs_19.lin
        have hi_hr_18 : zEq x_8.toInt (x_7.toInt + y_1.toInt) := by
          have g_21 := z_rng y_1
          obtain ⟨f_8, l_8, u_8⟩ := z_add ex_8 rfl rfl
          try replace f_8 : x_8.toInt = x_7.toInt + y_1.toInt := by omega
          clear l_8 u_8
          show x_8.toInt = (x_7.toInt + y_1.toInt)
          omega
        have hl_hr_18 : 0 ≤ y_1.toInt ∧ y_1.toInt ≤ 1289 := by
          have g_22 := z_rng y_1
          omega
        have hid_hr_18 : (x_7.toInt + y_1.toInt) = x_7.toInt + (y_1.toInt) := by simp only [Int.add_assoc, Int.add_sub_assoc]
        have hr_18 := z_cell (lo := 0) (hi := 1289) hbs_19 hi_hr_18 hid_hr_18 hl_hr_18 (by decide)
        replace hid_hr_18 : zEq (x_7.toInt + y_1.toInt) (x_7.toInt + (y_1.toInt)) := hid_hr_18
        have hin_23 : vp_in x_8 (zn K (zr K a0 0)) := vp_in_iff.mpr (by rw [(hf_6.2.2 (by decide))]; exact hr_18.in)
        refine mst_40 C hM hs hP hS hf_6.1 hT hf_6.2.1 hin_23 (tp_cp hT hbs_19 hbs_12 (by omega) hi_hr_18) dX12_copy_32 (fun A_24 H locs hE_24 hT hP hS => ?_)
        have ep_25 : x_8.toNatClampNeg = (x_7.toInt + y_1.toInt).toNat := z_posE hi_hr_18
        rw [ep_25] at hE_24
        clear ep_25
        have FA := frA FA (frAu hE_24) (by decide)
        have FC := fC.tr FC (fC.mv (fC.st (b := x_7.toInt) (lo := 0) (hi := 1289) hE_24 hbs_19.lin.1 (by decide) hid_hr_18 hl_hr_18) (by omega)) (by decide)
        obtain ⟨x_26, ex_26⟩ : ∃ y : Int32, y = y_1 + 1 := ⟨_, rfl⟩
        refine lv_iinc (v := x_26) (lv' := [(3, .int x_26), (0, .ref a0), (1, .int x1), (2, .int x2)]) hx hb dX12_copy_33 hl (k := 0) rfl (by rw [ex_26]; rfl) (by decide) rfl (fun ls hl => ?_)
        refine lv_goto (tgt := 2) hx hb dX12_copy_36 (by decide) ?_
        have g_27 := z_rng y_1
        obtain ⟨f_26, l_26, u_26⟩ := z_add ex_26 rfl ti_1
        try replace f_26 : x_26.toInt = y_1.toInt + 1 := by omega
        clear l_26 u_26
        exact ih_2 A_24 _ _ x_26 _ (by omega) (by omega) (cpy.s iv_3_1 FCo (by omega) (by omega) (by omega) hE_24 (by omega) rfl (by omega)) FA FC hT hP hS (lv_sub hl [0, 1, 2, 3] rfl)
  exact L_2_2 _ A _ _ 0 _ (Nat.lt_succ_self _) (by (try simp only [ti_0]); omega) (cpy.z (by rw [ti_0]; decide)) FA FC hT hP hS (lv_sub hl [0, 1, 2, 3] rfl)
set_option maxHeartbeats 4000000 in
set_option maxRecDepth 100000 in
theorem c_X12_begin (l : Launch) (D : va_G) (K : zK) (hM : mK K) (f : Nat → Int32) (A : Nat → Nat → Int32) (hT : mT f A) (a0 : Nat) (ha0 : a0 ∈ zl K) (hk0 : zk K a0 = 11) (x1 : Int32) (hp0 : zRow x1.toInt) : Met l yX12_begin (zc yX12_begin cX12_begin 4 none) (rmd 0) (va_Pc [.ref a0, .int x1] (zB D K (mV K f A))) (mQv D K (fun f' A' => mT f' A' ∧ (∀ k, k ∉ ([40] : List Nat) → A' k = A k) ∧ (∀ k, k ∉ ([] : List Nat) → f' k = f k) ∧ fC (A 40) (A' 40) x1.toInt ([(10, 18), (19, 21), (22, 25), (26, 26), (43, 44), (110, 169), (170, 229), (470, 529)] : List (Int × Int)) ∧ bgn (A' 40) x1.toInt)) 0 0 (zA K) := by
  refine zin (by decide) (Nat.le_of_ble_eq_true rfl) ?_
  intro p e s m args below meth c ls Q hQ C hr hlk hP hs hl
  have C : CallFix p m c cX12_begin 4 s args zw RX12 := C
  obtain ⟨hx, hb, hml, hown, hts⟩ := id C
  have hO := hM.1
  have hS : va_S (zA K) s.heap s.heap [] := va_S.rf
  have FA : ∀ k, k ∉ ([40] : List Nat) → A k = A k := fun _ _ => rfl
  have FF : ∀ k, k ∉ ([] : List Nat) → f k = f k := fun _ _ => rfl
  have FC : fC (A 40) (A 40) x1.toInt ([(10, 18), (19, 21), (22, 25), (26, 26), (43, 44), (110, 169), (170, 229), (470, 529)] : List (Int × Int)) := fun _ _ _ => rfl
  have hl : lv_has ls 4 [(0, .ref a0), (1, .int x1)] := hl
  have hb0 := hp0.lin
  refine lv_aload_n hx hb dX12_begin_0 rfl (lv_at hl 0 rfl) ?_
  refine mg_0 C hs hP ha0 hk0 wf_X12_8 dX12_begin_1 ?_
  have hf_1 := hO.r (j := 0) ha0 hk0 (rfl : zX 11 0 = some (40, 47730))
  refine lv_iload_n hx hb dX12_begin_4 rfl (lv_at hl 1 rfl) ?_
  refine lv_bipush (v := 10) hx hb dX12_begin_5 (by decide) ?_
  refine lv_iadd hx hb dX12_begin_7 ?_
  refine lv_topi (fun x_2 ex_2 => ?_)
  refine lv_iconst (v := 0) hx hb dX12_begin_8 (by decide) ?_
  have hi_hr_3 : zEq x_2.toInt (x1.toInt + 10) := by
    have g_4 := z_rng x1
    obtain ⟨f_2, l_2, u_2⟩ := z_add ex_2 rfl ti_10
    try replace f_2 : x_2.toInt = x1.toInt + 10 := by omega
    clear l_2 u_2
    show x_2.toInt = (x1.toInt + 10)
    omega
  have hl_hr_3 : (10 : Int) ≤ 10 ∧ 10 ≤ (10 : Int) := by decide
  have hid_hr_3 : (x1.toInt + 10) = x1.toInt + (10) := by simp only [Int.add_assoc, Int.add_sub_assoc]
  have hr_3 := z_cell (lo := 10) (hi := 19) hp0 hi_hr_3 hid_hr_3 hl_hr_3 (by decide)
  replace hid_hr_3 : zEq (x1.toInt + 10) (x1.toInt + (10)) := hid_hr_3
  have hin_5 : vp_in x_2 (zn K (zr K a0 0)) := vp_in_iff.mpr (by rw [(hf_1.2.2 (by decide))]; exact hr_3.in)
  refine mst_40 C hM hs hP hS hf_1.1 hT hf_1.2.1 hin_5 (tp_10 hr_3) dX12_begin_9 (fun A_6 H locs hE_6 hT hP hS => ?_)
  have ep_7 : x_2.toNatClampNeg = (x1.toInt + 10).toNat := z_posE hi_hr_3
  rw [ep_7] at hE_6
  clear ep_7
  have FA := frA FA (frAu hE_6) (by decide)
  have FC := fC.tr FC (fC.st (b := x1.toInt) (lo := 10) (hi := 10) hE_6 hb0.1 (by decide) hid_hr_3 hl_hr_3) (by decide)
  refine lv_aload_n hx hb dX12_begin_10 rfl (lv_at hl 0 rfl) ?_
  refine mg_0 C hs hP ha0 hk0 wf_X12_8 dX12_begin_11 ?_
  refine lv_iload_n hx hb dX12_begin_14 rfl (lv_at hl 1 rfl) ?_
  refine lv_bipush (v := 11) hx hb dX12_begin_15 (by decide) ?_
  refine lv_iadd hx hb dX12_begin_17 ?_
  refine lv_topi (fun x_8 ex_8 => ?_)
  refine lv_iconst (v := (-1)) hx hb dX12_begin_18 (by decide) ?_
  have hi_hr_9 : zEq x_8.toInt (x1.toInt + 11) := by
    have g_10 := z_rng x1
    obtain ⟨f_8, l_8, u_8⟩ := z_add ex_8 rfl ti_11
    try replace f_8 : x_8.toInt = x1.toInt + 11 := by omega
    clear l_8 u_8
    show x_8.toInt = (x1.toInt + 11)
    omega
  have hl_hr_9 : (11 : Int) ≤ 11 ∧ 11 ≤ (11 : Int) := by decide
  have hid_hr_9 : (x1.toInt + 11) = x1.toInt + (11) := by simp only [Int.add_assoc, Int.add_sub_assoc]
  have hr_9 := z_cell (lo := 10) (hi := 19) hp0 hi_hr_9 hid_hr_9 hl_hr_9 (by decide)
  replace hid_hr_9 : zEq (x1.toInt + 11) (x1.toInt + (11)) := hid_hr_9
  have hin_11 : vp_in x_8 (zn K (zr K a0 0)) := vp_in_iff.mpr (by rw [(hf_1.2.2 (by decide))]; exact hr_9.in)
  refine mst_40 C hM hs hP hS hf_1.1 hT hf_1.2.1 hin_11 (tp_10 hr_9) dX12_begin_19 (fun A_12 H locs hE_12 hT hP hS => ?_)
  have ep_13 : x_8.toNatClampNeg = (x1.toInt + 11).toNat := z_posE hi_hr_9
  rw [ep_13] at hE_12
  clear ep_13
  have FA := frA FA (frAu hE_12) (by decide)
  have FC := fC.tr FC (fC.st (b := x1.toInt) (lo := 11) (hi := 11) hE_12 hb0.1 (by decide) hid_hr_9 hl_hr_9) (by decide)
  refine lv_aload_n hx hb dX12_begin_20 rfl (lv_at hl 0 rfl) ?_
  refine mg_0 C hs hP ha0 hk0 wf_X12_8 dX12_begin_21 ?_
  refine lv_iload_n hx hb dX12_begin_24 rfl (lv_at hl 1 rfl) ?_
  refine lv_bipush (v := 12) hx hb dX12_begin_25 (by decide) ?_
  refine lv_iadd hx hb dX12_begin_27 ?_
  refine lv_topi (fun x_14 ex_14 => ?_)
  refine lv_iconst (v := (-1)) hx hb dX12_begin_28 (by decide) ?_
  have hi_hr_15 : zEq x_14.toInt (x1.toInt + 12) := by
    have g_16 := z_rng x1
    obtain ⟨f_14, l_14, u_14⟩ := z_add ex_14 rfl ti_12
    try replace f_14 : x_14.toInt = x1.toInt + 12 := by omega
    clear l_14 u_14
    show x_14.toInt = (x1.toInt + 12)
    omega
  have hl_hr_15 : (12 : Int) ≤ 12 ∧ 12 ≤ (12 : Int) := by decide
  have hid_hr_15 : (x1.toInt + 12) = x1.toInt + (12) := by simp only [Int.add_assoc, Int.add_sub_assoc]
  have hr_15 := z_cell (lo := 10) (hi := 19) hp0 hi_hr_15 hid_hr_15 hl_hr_15 (by decide)
  replace hid_hr_15 : zEq (x1.toInt + 12) (x1.toInt + (12)) := hid_hr_15
  have hin_17 : vp_in x_14 (zn K (zr K a0 0)) := vp_in_iff.mpr (by rw [(hf_1.2.2 (by decide))]; exact hr_15.in)
  refine mst_40 C hM hs hP hS hf_1.1 hT hf_1.2.1 hin_17 (tp_10 hr_15) dX12_begin_29 (fun A_18 H locs hE_18 hT hP hS => ?_)
  have ep_19 : x_14.toNatClampNeg = (x1.toInt + 12).toNat := z_posE hi_hr_15
  rw [ep_19] at hE_18
  clear ep_19
  have FA := frA FA (frAu hE_18) (by decide)
  have FC := fC.tr FC (fC.st (b := x1.toInt) (lo := 12) (hi := 12) hE_18 hb0.1 (by decide) hid_hr_15 hl_hr_15) (by decide)
  refine lv_aload_n hx hb dX12_begin_30 rfl (lv_at hl 0 rfl) ?_
  refine mg_0 C hs hP ha0 hk0 wf_X12_8 dX12_begin_31 ?_
  refine lv_iload_n hx hb dX12_begin_34 rfl (lv_at hl 1 rfl) ?_
  refine lv_bipush (v := 13) hx hb dX12_begin_35 (by decide) ?_
  refine lv_iadd hx hb dX12_begin_37 ?_
  refine lv_topi (fun x_20 ex_20 => ?_)
  refine lv_iconst (v := 0) hx hb dX12_begin_38 (by decide) ?_
  have hi_hr_21 : zEq x_20.toInt (x1.toInt + 13) := by
    have g_22 := z_rng x1
    obtain ⟨f_20, l_20, u_20⟩ := z_add ex_20 rfl ti_13
    try replace f_20 : x_20.toInt = x1.toInt + 13 := by omega
    clear l_20 u_20
    show x_20.toInt = (x1.toInt + 13)
    omega
  have hl_hr_21 : (13 : Int) ≤ 13 ∧ 13 ≤ (13 : Int) := by decide
  have hid_hr_21 : (x1.toInt + 13) = x1.toInt + (13) := by simp only [Int.add_assoc, Int.add_sub_assoc]
  have hr_21 := z_cell (lo := 10) (hi := 19) hp0 hi_hr_21 hid_hr_21 hl_hr_21 (by decide)
  replace hid_hr_21 : zEq (x1.toInt + 13) (x1.toInt + (13)) := hid_hr_21
  have hin_23 : vp_in x_20 (zn K (zr K a0 0)) := vp_in_iff.mpr (by rw [(hf_1.2.2 (by decide))]; exact hr_21.in)
  refine mst_40 C hM hs hP hS hf_1.1 hT hf_1.2.1 hin_23 (tp_10 hr_21) dX12_begin_39 (fun A_24 H locs hE_24 hT hP hS => ?_)
  have ep_25 : x_20.toNatClampNeg = (x1.toInt + 13).toNat := z_posE hi_hr_21
  rw [ep_25] at hE_24
  clear ep_25
  have FA := frA FA (frAu hE_24) (by decide)
  have FC := fC.tr FC (fC.st (b := x1.toInt) (lo := 13) (hi := 13) hE_24 hb0.1 (by decide) hid_hr_21 hl_hr_21) (by decide)
  refine lv_aload_n hx hb dX12_begin_40 rfl (lv_at hl 0 rfl) ?_
  refine mg_0 C hs hP ha0 hk0 wf_X12_8 dX12_begin_41 ?_
  refine lv_iload_n hx hb dX12_begin_44 rfl (lv_at hl 1 rfl) ?_
  refine lv_bipush (v := 14) hx hb dX12_begin_45 (by decide) ?_
  refine lv_iadd hx hb dX12_begin_47 ?_
  refine lv_topi (fun x_26 ex_26 => ?_)
  refine lv_iconst (v := 0) hx hb dX12_begin_48 (by decide) ?_
  have hi_hr_27 : zEq x_26.toInt (x1.toInt + 14) := by
    have g_28 := z_rng x1
    obtain ⟨f_26, l_26, u_26⟩ := z_add ex_26 rfl ti_14
    try replace f_26 : x_26.toInt = x1.toInt + 14 := by omega
    clear l_26 u_26
    show x_26.toInt = (x1.toInt + 14)
    omega
  have hl_hr_27 : (14 : Int) ≤ 14 ∧ 14 ≤ (14 : Int) := by decide
  have hid_hr_27 : (x1.toInt + 14) = x1.toInt + (14) := by simp only [Int.add_assoc, Int.add_sub_assoc]
  have hr_27 := z_cell (lo := 10) (hi := 19) hp0 hi_hr_27 hid_hr_27 hl_hr_27 (by decide)
  replace hid_hr_27 : zEq (x1.toInt + 14) (x1.toInt + (14)) := hid_hr_27
  have hin_29 : vp_in x_26 (zn K (zr K a0 0)) := vp_in_iff.mpr (by rw [(hf_1.2.2 (by decide))]; exact hr_27.in)
  refine mst_40 C hM hs hP hS hf_1.1 hT hf_1.2.1 hin_29 (tp_10 hr_27) dX12_begin_49 (fun A_30 H locs hE_30 hT hP hS => ?_)
  have ep_31 : x_26.toNatClampNeg = (x1.toInt + 14).toNat := z_posE hi_hr_27
  rw [ep_31] at hE_30
  clear ep_31
  have FA := frA FA (frAu hE_30) (by decide)
  have FC := fC.tr FC (fC.st (b := x1.toInt) (lo := 14) (hi := 14) hE_30 hb0.1 (by decide) hid_hr_27 hl_hr_27) (by decide)
  refine lv_aload_n hx hb dX12_begin_50 rfl (lv_at hl 0 rfl) ?_
  refine mg_0 C hs hP ha0 hk0 wf_X12_8 dX12_begin_51 ?_
  refine lv_iload_n hx hb dX12_begin_54 rfl (lv_at hl 1 rfl) ?_
  refine lv_bipush (v := 19) hx hb dX12_begin_55 (by decide) ?_
  refine lv_iadd hx hb dX12_begin_57 ?_
  refine lv_topi (fun x_32 ex_32 => ?_)
  refine lv_iconst (v := (-1)) hx hb dX12_begin_58 (by decide) ?_
  have hi_hr_33 : zEq x_32.toInt (x1.toInt + 19) := by
    have g_34 := z_rng x1
    obtain ⟨f_32, l_32, u_32⟩ := z_add ex_32 rfl ti_19
    try replace f_32 : x_32.toInt = x1.toInt + 19 := by omega
    clear l_32 u_32
    show x_32.toInt = (x1.toInt + 19)
    omega
  have hl_hr_33 : (19 : Int) ≤ 19 ∧ 19 ≤ (19 : Int) := by decide
  have hid_hr_33 : (x1.toInt + 19) = x1.toInt + (19) := by simp only [Int.add_assoc, Int.add_sub_assoc]
  have hr_33 := z_cell (lo := 10) (hi := 19) hp0 hi_hr_33 hid_hr_33 hl_hr_33 (by decide)
  replace hid_hr_33 : zEq (x1.toInt + 19) (x1.toInt + (19)) := hid_hr_33
  have hin_35 : vp_in x_32 (zn K (zr K a0 0)) := vp_in_iff.mpr (by rw [(hf_1.2.2 (by decide))]; exact hr_33.in)
  refine mst_40 C hM hs hP hS hf_1.1 hT hf_1.2.1 hin_35 (tp_10 hr_33) dX12_begin_59 (fun A_36 H locs hE_36 hT hP hS => ?_)
  have ep_37 : x_32.toNatClampNeg = (x1.toInt + 19).toNat := z_posE hi_hr_33
  rw [ep_37] at hE_36
  clear ep_37
  have FA := frA FA (frAu hE_36) (by decide)
  have FC := fC.tr FC (fC.st (b := x1.toInt) (lo := 19) (hi := 19) hE_36 hb0.1 (by decide) hid_hr_33 hl_hr_33) (by decide)
  refine lv_aload_n hx hb dX12_begin_60 rfl (lv_at hl 0 rfl) ?_
  refine mg_0 C hs hP ha0 hk0 wf_X12_8 dX12_begin_61 ?_
  refine lv_iload_n hx hb dX12_begin_64 rfl (lv_at hl 1 rfl) ?_
  refine lv_bipush (v := 20) hx hb dX12_begin_65 (by decide) ?_
  refine lv_iadd hx hb dX12_begin_67 ?_
  refine lv_topi (fun x_38 ex_38 => ?_)
  refine lv_iconst (v := 0) hx hb dX12_begin_68 (by decide) ?_
  have hi_hr_39 : zEq x_38.toInt (x1.toInt + 20) := by
    have g_40 := z_rng x1
    obtain ⟨f_38, l_38, u_38⟩ := z_add ex_38 rfl ti_20
    try replace f_38 : x_38.toInt = x1.toInt + 20 := by omega
    clear l_38 u_38
    show x_38.toInt = (x1.toInt + 20)
    omega
  have hl_hr_39 : (20 : Int) ≤ 20 ∧ 20 ≤ (20 : Int) := by decide
  have hid_hr_39 : (x1.toInt + 20) = x1.toInt + (20) := by simp only [Int.add_assoc, Int.add_sub_assoc]
  have hr_39 := z_cell (lo := 20) (hi := 21) hp0 hi_hr_39 hid_hr_39 hl_hr_39 (by decide)
  replace hid_hr_39 : zEq (x1.toInt + 20) (x1.toInt + (20)) := hid_hr_39
  have hin_41 : vp_in x_38 (zn K (zr K a0 0)) := vp_in_iff.mpr (by rw [(hf_1.2.2 (by decide))]; exact hr_39.in)
  refine mst_40 C hM hs hP hS hf_1.1 hT hf_1.2.1 hin_41 (tp_20 hr_39 (show 0 ≤ (0 : Int32).toInt ∧ (0 : Int32).toInt ≤ 60 from by rw [ti_0]; omega)) dX12_begin_69 (fun A_42 H locs hE_42 hT hP hS => ?_)
  have ep_43 : x_38.toNatClampNeg = (x1.toInt + 20).toNat := z_posE hi_hr_39
  rw [ep_43] at hE_42
  clear ep_43
  have FA := frA FA (frAu hE_42) (by decide)
  have FC := fC.tr FC (fC.st (b := x1.toInt) (lo := 20) (hi := 20) hE_42 hb0.1 (by decide) hid_hr_39 hl_hr_39) (by decide)
  refine lv_aload_n hx hb dX12_begin_70 rfl (lv_at hl 0 rfl) ?_
  refine mg_0 C hs hP ha0 hk0 wf_X12_8 dX12_begin_71 ?_
  refine lv_iload_n hx hb dX12_begin_74 rfl (lv_at hl 1 rfl) ?_
  refine lv_bipush (v := 26) hx hb dX12_begin_75 (by decide) ?_
  refine lv_iadd hx hb dX12_begin_77 ?_
  refine lv_topi (fun x_44 ex_44 => ?_)
  refine lv_iconst (v := 0) hx hb dX12_begin_78 (by decide) ?_
  have hi_hr_45 : zEq x_44.toInt (x1.toInt + 26) := by
    have g_46 := z_rng x1
    obtain ⟨f_44, l_44, u_44⟩ := z_add ex_44 rfl ti_26
    try replace f_44 : x_44.toInt = x1.toInt + 26 := by omega
    clear l_44 u_44
    show x_44.toInt = (x1.toInt + 26)
    omega
  have hl_hr_45 : (26 : Int) ≤ 26 ∧ 26 ≤ (26 : Int) := by decide
  have hid_hr_45 : (x1.toInt + 26) = x1.toInt + (26) := by simp only [Int.add_assoc, Int.add_sub_assoc]
  have hr_45 := z_cell (lo := 26) (hi := 26) hp0 hi_hr_45 hid_hr_45 hl_hr_45 (by decide)
  replace hid_hr_45 : zEq (x1.toInt + 26) (x1.toInt + (26)) := hid_hr_45
  have hin_47 : vp_in x_44 (zn K (zr K a0 0)) := vp_in_iff.mpr (by rw [(hf_1.2.2 (by decide))]; exact hr_45.in)
  refine mst_40 C hM hs hP hS hf_1.1 hT hf_1.2.1 hin_47 (tp_26 hr_45 (show 0 ≤ (0 : Int32).toInt ∧ (0 : Int32).toInt ≤ 4 from by rw [ti_0]; omega)) dX12_begin_79 (fun A_48 H locs hE_48 hT hP hS => ?_)
  have ep_49 : x_44.toNatClampNeg = (x1.toInt + 26).toNat := z_posE hi_hr_45
  rw [ep_49] at hE_48
  clear ep_49
  have FA := frA FA (frAu hE_48) (by decide)
  have FC := fC.tr FC (fC.st (b := x1.toInt) (lo := 26) (hi := 26) hE_48 hb0.1 (by decide) hid_hr_45 hl_hr_45) (by decide)
  refine lv_aload_n hx hb dX12_begin_80 rfl (lv_at hl 0 rfl) ?_
  refine mg_0 C hs hP ha0 hk0 wf_X12_8 dX12_begin_81 ?_
  refine lv_iload_n hx hb dX12_begin_84 rfl (lv_at hl 1 rfl) ?_
  refine lv_bipush (v := 43) hx hb dX12_begin_85 (by decide) ?_
  refine lv_iadd hx hb dX12_begin_87 ?_
  refine lv_topi (fun x_50 ex_50 => ?_)
  refine lv_iconst (v := 0) hx hb dX12_begin_88 (by decide) ?_
  have hi_hr_51 : zEq x_50.toInt (x1.toInt + 43) := by
    have g_52 := z_rng x1
    obtain ⟨f_50, l_50, u_50⟩ := z_add ex_50 rfl ti_43
    try replace f_50 : x_50.toInt = x1.toInt + 43 := by omega
    clear l_50 u_50
    show x_50.toInt = (x1.toInt + 43)
    omega
  have hl_hr_51 : (43 : Int) ≤ 43 ∧ 43 ≤ (43 : Int) := by decide
  have hid_hr_51 : (x1.toInt + 43) = x1.toInt + (43) := by simp only [Int.add_assoc, Int.add_sub_assoc]
  have hr_51 := z_cell (lo := 43) (hi := 43) hp0 hi_hr_51 hid_hr_51 hl_hr_51 (by decide)
  replace hid_hr_51 : zEq (x1.toInt + 43) (x1.toInt + (43)) := hid_hr_51
  have hin_53 : vp_in x_50 (zn K (zr K a0 0)) := vp_in_iff.mpr (by rw [(hf_1.2.2 (by decide))]; exact hr_51.in)
  refine mst_40 C hM hs hP hS hf_1.1 hT hf_1.2.1 hin_53 (tp_43 hr_51 (show 0 ≤ (0 : Int32).toInt ∧ (0 : Int32).toInt ≤ 60 from by rw [ti_0]; omega)) dX12_begin_89 (fun A_54 H locs hE_54 hT hP hS => ?_)
  have ep_55 : x_50.toNatClampNeg = (x1.toInt + 43).toNat := z_posE hi_hr_51
  rw [ep_55] at hE_54
  clear ep_55
  have FA := frA FA (frAu hE_54) (by decide)
  have FC := fC.tr FC (fC.st (b := x1.toInt) (lo := 43) (hi := 43) hE_54 hb0.1 (by decide) hid_hr_51 hl_hr_51) (by decide)
  refine lv_aload_n hx hb dX12_begin_90 rfl (lv_at hl 0 rfl) ?_
  refine mg_0 C hs hP ha0 hk0 wf_X12_8 dX12_begin_91 ?_
  refine lv_iload_n hx hb dX12_begin_94 rfl (lv_at hl 1 rfl) ?_
  refine lv_bipush (v := 44) hx hb dX12_begin_95 (by decide) ?_
  refine lv_iadd hx hb dX12_begin_97 ?_
  refine lv_topi (fun x_56 ex_56 => ?_)
  refine lv_iconst (v := 0) hx hb dX12_begin_98 (by decide) ?_
  have hi_hr_57 : zEq x_56.toInt (x1.toInt + 44) := by
    have g_58 := z_rng x1
    obtain ⟨f_56, l_56, u_56⟩ := z_add ex_56 rfl ti_44
    try replace f_56 : x_56.toInt = x1.toInt + 44 := by omega
    clear l_56 u_56
    show x_56.toInt = (x1.toInt + 44)
    omega
  have hl_hr_57 : (44 : Int) ≤ 44 ∧ 44 ≤ (44 : Int) := by decide
  have hid_hr_57 : (x1.toInt + 44) = x1.toInt + (44) := by simp only [Int.add_assoc, Int.add_sub_assoc]
  have hr_57 := z_cell (lo := 44) (hi := 44) hp0 hi_hr_57 hid_hr_57 hl_hr_57 (by decide)
  replace hid_hr_57 : zEq (x1.toInt + 44) (x1.toInt + (44)) := hid_hr_57
  have hin_59 : vp_in x_56 (zn K (zr K a0 0)) := vp_in_iff.mpr (by rw [(hf_1.2.2 (by decide))]; exact hr_57.in)
  refine mst_40 C hM hs hP hS hf_1.1 hT hf_1.2.1 hin_59 (tp_44 hr_57 (show 0 ≤ (0 : Int32).toInt from by rw [ti_0]; omega)) dX12_begin_99 (fun A_60 H locs hE_60 hT hP hS => ?_)
  have ep_61 : x_56.toNatClampNeg = (x1.toInt + 44).toNat := z_posE hi_hr_57
  rw [ep_61] at hE_60
  clear ep_61
  have FA := frA FA (frAu hE_60) (by decide)
  have FC := fC.tr FC (fC.st (b := x1.toInt) (lo := 44) (hi := 44) hE_60 hb0.1 (by decide) hid_hr_57 hl_hr_57) (by decide)
  refine lv_iconst (v := 0) hx hb dX12_begin_100 (by decide) ?_
  refine lv_istore_n (lv' := [(2, .int 0), (0, .ref a0), (1, .int x1)]) hx hb dX12_begin_101 rfl hl (by decide) rfl (fun ls hl => ?_)
  have L_102_63 : ∀ (n_63 : Nat) (A_64 : Nat → Nat → Int32) (H : Heap) (locs : List Loc) (y_62 : Int32) (ls : Array Slot), (2147483648 - y_62.toInt).toNat < n_63 → 0 ≤ y_62.toInt → z4 (A_64 40) x1.toInt → (∀ k, k ∉ ([40] : List Nat) → A_64 k = A k) → fC (A 40) (A_64 40) x1.toInt ([(10, 18), (19, 21), (22, 25), (26, 26), (43, 44), (110, 169), (170, 229), (470, 529)] : List (Int × Int)) → mT f A_64 → va_P D vwCl (zW K (mV K f A_64)) H → va_S (zA K) s.heap H locs → lv_has ls 4 [(2, .int y_62), (0, .ref a0), (1, .int x1)] → W p l e (rmd 0) s m args below meth c H locs 0 0 Q (F0 m 102 ls []) := by
    intro n_63
    induction n_63 with
    | zero => intro A_64 H locs y_62 ls hm_63; exact absurd hm_63 (Nat.not_lt_zero _)
    | succ n_63 ih_63 =>
      intro A_64 H locs y_62 ls hm_63 iv_64_0 iv_64_1 FA_64 FC_64 hT hP hS hl
      have FA := FA_64
      have FC := FC_64
      refine lv_iload_n hx hb dX12_begin_102 rfl (lv_at hl 0 rfl) ?_
      refine lv_iconst (v := 2) hx hb dX12_begin_103 (by decide) ?_
      refine bi_ge (tgt := 137) hx hb rfl ti_2 dX12_begin_104 (by decide) (fun c_66 => ?_) (fun c_66 => ?_)
      · skip
        refine lv_iconst (v := 0) hx hb dX12_begin_137 (by decide) ?_
        refine lv_istore_n (lv' := [(2, .int 0), (0, .ref a0), (1, .int x1)]) hx hb dX12_begin_138 rfl hl (by decide) rfl (fun ls hl => ?_)
        have L_139_92 : ∀ (n_92 : Nat) (A_93 : Nat → Nat → Int32) (H : Heap) (locs : List Loc) (y_91 : Int32) (ls : Array Slot), (2147483648 - y_91.toInt).toNat < n_92 → 0 ≤ y_91.toInt → y_91.toInt ≤ 4 → z4 (A_93 40) x1.toInt → hM1 (A_93 40) x1.toInt y_91.toInt → (∀ k, k ∉ ([40] : List Nat) → A_93 k = A k) → fC (A 40) (A_93 40) x1.toInt ([(10, 18), (19, 21), (22, 25), (26, 26), (43, 44), (110, 169), (170, 229), (470, 529)] : List (Int × Int)) → mT f A_93 → va_P D vwCl (zW K (mV K f A_93)) H → va_S (zA K) s.heap H locs → lv_has ls 4 [(2, .int y_91), (0, .ref a0), (1, .int x1)] → W p l e (rmd 0) s m args below meth c H locs 0 0 Q (F0 m 139 ls []) := by
          intro n_92
          induction n_92 with
          | zero => intro A_93 H locs y_91 ls hm_92; exact absurd hm_92 (Nat.not_lt_zero _)
          | succ n_92 ih_92 =>
            intro A_93 H locs y_91 ls hm_92 iv_93_0 iv_93_1 iv_93_2 iv_93_3 FA_93 FC_93 hT hP hS hl
            have FA := FA_93
            have FC := FC_93
            refine lv_iload_n hx hb dX12_begin_139 rfl (lv_at hl 0 rfl) ?_
            refine lv_iconst (v := 4) hx hb dX12_begin_140 (by decide) ?_
            refine bi_ge (tgt := 162) hx hb rfl ti_4 dX12_begin_141 (by decide) (fun c_95 => ?_) (fun c_95 => ?_)
            · skip
              refine lv_aload_n hx hb dX12_begin_162 rfl (lv_at hl 1 rfl) ?_
              refine mg_0 C hs hP ha0 hk0 wf_X12_8 dX12_begin_163 ?_
              refine lv_iload_n hx hb dX12_begin_166 rfl (lv_at hl 2 rfl) ?_
              refine lv_iconst (v := 1) hx hb dX12_begin_167 (by decide) ?_
              refine lv_iadd hx hb dX12_begin_168 ?_
              refine lv_topi (fun x_109 ex_109 => ?_)
              have hi_hr_110 : zEq x_109.toInt (x1.toInt + 1) := by
                have g_111 := z_rng x1
                obtain ⟨f_109, l_109, u_109⟩ := z_add ex_109 rfl ti_1
                try replace f_109 : x_109.toInt = x1.toInt + 1 := by omega
                clear l_109 u_109
                show x_109.toInt = (x1.toInt + 1)
                omega
              have hl_hr_110 : (1 : Int) ≤ 1 ∧ 1 ≤ (1 : Int) := by decide
              have hid_hr_110 : (x1.toInt + 1) = x1.toInt + (1) := by simp only [Int.add_assoc, Int.add_sub_assoc]
              have hr_110 := z_cell (lo := 1) (hi := 1) hp0 hi_hr_110 hid_hr_110 hl_hr_110 (by decide)
              replace hid_hr_110 : zEq (x1.toInt + 1) (x1.toInt + (1)) := hid_hr_110
              have hin_112 : vp_in x_109 (zn K (zr K a0 0)) := vp_in_iff.mpr (by rw [(hf_1.2.2 (by decide))]; exact hr_110.in)
              refine mld_40 C hs hP hf_1.1 hf_1.2.1 hin_112 dX12_begin_169 ?_
              have ep_113 : x_109.toNatClampNeg = (x1.toInt + 1).toNat := z_posE hi_hr_110
              rw [ep_113]
              have g_115 := z_rng x1
              obtain ⟨f_109, l_109, u_109⟩ := z_add ex_109 rfl ti_1
              try replace f_109 : x_109.toInt = x1.toInt + 1 := by omega
              clear l_109 u_109
              have hc_114 := FC_93.ar (by omega) (lo := 1) (hi := 1) (by decide) (x1.toInt + 1) (by decide) (by omega) (by omega)
              have ev_116 : A_93 40 (x1.toInt + 1).toNat = A 40 (x1.toInt + 1).toNat := by rw [hc_114]
              have tv_117 := rv_1 hT hr_110
              rw [ep_113] at tv_117
              rw [ev_116] at tv_117
              rw [ev_116]
              clear ep_113
              refine lv_istore_n (lv' := [(2, .int (A 40 (x1.toInt + 1).toNat)), (0, .ref a0), (1, .int x1)]) hx hb dX12_begin_170 rfl hl (by decide) rfl (fun ls hl => ?_)
              refine lv_aload_n hx hb dX12_begin_171 rfl (lv_at hl 1 rfl) ?_
              refine mg_0 C hs hP ha0 hk0 wf_X12_8 dX12_begin_172 ?_
              refine lv_iload_n hx hb dX12_begin_175 rfl (lv_at hl 2 rfl) ?_
              refine lv_bipush (v := 21) hx hb dX12_begin_176 (by decide) ?_
              refine lv_iadd hx hb dX12_begin_178 ?_
              refine lv_topi (fun x_118 ex_118 => ?_)
              refine lv_iload_n hx hb dX12_begin_179 rfl (lv_at hl 0 rfl) ?_
              have hi_hr_119 : zEq x_118.toInt (x1.toInt + 21) := by
                obtain ⟨f_118, l_118, u_118⟩ := z_add ex_118 rfl ti_21
                try replace f_118 : x_118.toInt = x1.toInt + 21 := by omega
                clear l_118 u_118
                show x_118.toInt = (x1.toInt + 21)
                omega
              have hl_hr_119 : (21 : Int) ≤ 21 ∧ 21 ≤ (21 : Int) := by decide
              have hid_hr_119 : (x1.toInt + 21) = x1.toInt + (21) := by simp only [Int.add_assoc, Int.add_sub_assoc]
              have hr_119 := z_cell (lo := 20) (hi := 21) hp0 hi_hr_119 hid_hr_119 hl_hr_119 (by decide)
              replace hid_hr_119 : zEq (x1.toInt + 21) (x1.toInt + (21)) := hid_hr_119
              have hin_120 : vp_in x_118 (zn K (zr K a0 0)) := vp_in_iff.mpr (by rw [(hf_1.2.2 (by decide))]; exact hr_119.in)
              have g_122 := z_rng (A 40 (x1.toInt + 1).toNat)
              refine mst_40 C hM hs hP hS hf_1.1 hT hf_1.2.1 hin_120 (tp_20 hr_119 (show 0 ≤ (A 40 (x1.toInt + 1).toNat).toInt ∧ (A 40 (x1.toInt + 1).toNat).toInt ≤ 60 from by omega)) dX12_begin_180 (fun A_121 H locs hE_121 hT hP hS => ?_)
              have ep_123 : x_118.toNatClampNeg = (x1.toInt + 21).toNat := z_posE hi_hr_119
              rw [ep_123] at hE_121
              clear ep_123
              have FA := frA FA (frAu hE_121) (by decide)
              have FC := fC.tr FC (fC.st (b := x1.toInt) (lo := 21) (hi := 21) hE_121 hb0.1 (by decide) hid_hr_119 hl_hr_119) (by decide)
              refine lv_iconst (v := 0) hx hb dX12_begin_181 (by decide) ?_
              refine lv_istore_n (lv' := [(3, .int 0), (2, .int (A 40 (x1.toInt + 1).toNat)), (0, .ref a0), (1, .int x1)]) hx hb dX12_begin_182 rfl hl (by decide) rfl (fun ls hl => ?_)
              have L_183_125 : ∀ (n_125 : Nat) (A_126 : Nat → Nat → Int32) (H : Heap) (locs : List Loc) (y_124 : Int32) (ls : Array Slot), (2147483648 - y_124.toInt).toNat < n_125 → 0 ≤ y_124.toInt → y_124.toInt ≤ (A 40 (x1.toInt + 1).toNat).toInt → z4 (A_126 40) x1.toInt → hM1 (A_126 40) x1.toInt 4 → (A_126 40 (x1.toInt + 21).toNat).toInt = (A 40 (x1.toInt + 1).toNat).toInt → rI (A_126 40) x1.toInt y_124.toInt → (∀ k, k ∉ ([40] : List Nat) → A_126 k = A k) → fC (A 40) (A_126 40) x1.toInt ([(10, 18), (19, 21), (22, 25), (26, 26), (43, 44), (110, 169), (170, 229), (470, 529)] : List (Int × Int)) → mT f A_126 → va_P D vwCl (zW K (mV K f A_126)) H → va_S (zA K) s.heap H locs → lv_has ls 4 [(3, .int y_124), (2, .int (A 40 (x1.toInt + 1).toNat)), (0, .ref a0), (1, .int x1)] → W p l e (rmd 0) s m args below meth c H locs 0 0 Q (F0 m 183 ls []) := by
                intro n_125
                induction n_125 with
                | zero => intro A_126 H locs y_124 ls hm_125; exact absurd hm_125 (Nat.not_lt_zero _)
                | succ n_125 ih_125 =>
                  intro A_126 H locs y_124 ls hm_125 iv_126_0 iv_126_1 iv_126_2 iv_126_3 iv_126_4 iv_126_5 FA_126 FC_126 hT hP hS hl
                  have FA := FA_126
                  have FC := FC_126
                  refine lv_iload_n hx hb dX12_begin_183 rfl (lv_at hl 0 rfl) ?_
                  refine lv_iload_n hx hb dX12_begin_184 rfl (lv_at hl 1 rfl) ?_
                  refine bi_ge (tgt := 232) hx hb rfl rfl dX12_begin_185 (by decide) (fun c_128 => ?_) (fun c_128 => ?_)
                  · skip
                    have hp_129 := FC.ar hb0.1 (lo := 1) (hi := 1) (by decide) (x1.toInt + 1) (by decide) (by omega) (by omega)
                    exact maV hQ hx hb hr hlk hP hS ⟨hT, FA, FF, FC, ⟨iv_126_2, iv_126_3, by rw [hp_129]; exact iv_126_4, rK.of iv_126_5 (by rw [hp_129]; omega) (by rw [hp_129]; exact iv_126_4)⟩⟩ dX12_begin_232
                  · skip
                    refine lv_aload_n hx hb dX12_begin_188 rfl (lv_at hl 2 rfl) ?_
                    refine mg_0 C hs hP ha0 hk0 wf_X12_8 dX12_begin_189 ?_
                    refine lv_iload_n hx hb dX12_begin_192 rfl (lv_at hl 3 rfl) ?_
                    refine lv_sipush (v := 170) hx hb dX12_begin_193 (by decide) ?_
                    refine lv_iadd hx hb dX12_begin_196 ?_
                    refine lv_topi (fun x_130 ex_130 => ?_)
                    refine lv_iload_n hx hb dX12_begin_197 rfl (lv_at hl 0 rfl) ?_
                    refine lv_iadd hx hb dX12_begin_198 ?_
                    refine lv_topi (fun x_131 ex_131 => ?_)
                    refine lv_iload_n hx hb dX12_begin_199 rfl (lv_at hl 0 rfl) ?_
                    have hi_hr_132 : zEq x_131.toInt (x1.toInt + y_124.toInt + 170) := by
                      obtain ⟨f_130, l_130, u_130⟩ := z_add ex_130 rfl ti_170
                      try replace f_130 : x_130.toInt = x1.toInt + 170 := by omega
                      clear l_130 u_130
                      have g_133 := z_rng y_124
                      obtain ⟨f_131, l_131, u_131⟩ := z_add ex_131 rfl rfl
                      try replace f_131 : x_131.toInt = x_130.toInt + y_124.toInt := by omega
                      clear l_131 u_131
                      show x_131.toInt = (x1.toInt + y_124.toInt + 170)
                      omega
                    have hl_hr_132 : 170 ≤ y_124.toInt + 170 ∧ y_124.toInt + 170 ≤ 229 := by
                      have g_134 := z_rng y_124
                      omega
                    have hid_hr_132 : (x1.toInt + y_124.toInt + 170) = x1.toInt + (y_124.toInt + 170) := by simp only [Int.add_assoc, Int.add_sub_assoc]
                    have hr_132 := z_cell (lo := 170) (hi := 469) hp0 hi_hr_132 hid_hr_132 hl_hr_132 (by decide)
                    replace hid_hr_132 : zEq (x1.toInt + y_124.toInt + 170) (x1.toInt + (y_124.toInt + 170)) := hid_hr_132
                    have hin_135 : vp_in x_131 (zn K (zr K a0 0)) := vp_in_iff.mpr (by rw [(hf_1.2.2 (by decide))]; exact hr_132.in)
                    have g_137 := z_rng y_124
                    refine mst_40 C hM hs hP hS hf_1.1 hT hf_1.2.1 hin_135 (tp_170 hr_132 (show 0 ≤ y_124.toInt ∧ y_124.toInt ≤ 59 from by omega)) dX12_begin_200 (fun A_136 H locs hE_136 hT hP hS => ?_)
                    have ep_138 : x_131.toNatClampNeg = (x1.toInt + y_124.toInt + 170).toNat := z_posE hi_hr_132
                    rw [ep_138] at hE_136
                    clear ep_138
                    have FA := frA FA (frAu hE_136) (by decide)
                    have FC := fC.tr FC (fC.st (b := x1.toInt) (lo := 170) (hi := 229) hE_136 hb0.1 (by decide) hid_hr_132 hl_hr_132) (by decide)
                    refine lv_aload_n hx hb dX12_begin_201 rfl (lv_at hl 2 rfl) ?_
                    refine mg_0 C hs hP ha0 hk0 wf_X12_8 dX12_begin_202 ?_
                    refine lv_iload_n hx hb dX12_begin_205 rfl (lv_at hl 3 rfl) ?_
                    refine lv_bipush (v := 110) hx hb dX12_begin_206 (by decide) ?_
                    refine lv_iadd hx hb dX12_begin_208 ?_
                    refine lv_topi (fun x_139 ex_139 => ?_)
                    refine lv_iload_n hx hb dX12_begin_209 rfl (lv_at hl 0 rfl) ?_
                    refine lv_iadd hx hb dX12_begin_210 ?_
                    refine lv_topi (fun x_140 ex_140 => ?_)
                    refine lv_iconst (v := 0) hx hb dX12_begin_211 (by decide) ?_
                    have hi_hr_141 : zEq x_140.toInt (x1.toInt + y_124.toInt + 110) := by
                      obtain ⟨f_139, l_139, u_139⟩ := z_add ex_139 rfl ti_110
                      try replace f_139 : x_139.toInt = x1.toInt + 110 := by omega
                      clear l_139 u_139
                      obtain ⟨f_140, l_140, u_140⟩ := z_add ex_140 rfl rfl
                      try replace f_140 : x_140.toInt = x_139.toInt + y_124.toInt := by omega
                      clear l_140 u_140
                      show x_140.toInt = (x1.toInt + y_124.toInt + 110)
                      omega
                    have hl_hr_141 : 110 ≤ y_124.toInt + 110 ∧ y_124.toInt + 110 ≤ 169 := by
                      omega
                    have hid_hr_141 : (x1.toInt + y_124.toInt + 110) = x1.toInt + (y_124.toInt + 110) := by simp only [Int.add_assoc, Int.add_sub_assoc]
                    have hr_141 := z_cell (lo := 45) (hi := 169) hp0 hi_hr_141 hid_hr_141 hl_hr_141 (by decide)
                    replace hid_hr_141 : zEq (x1.toInt + y_124.toInt + 110) (x1.toInt + (y_124.toInt + 110)) := hid_hr_141
                    have hin_142 : vp_in x_140 (zn K (zr K a0 0)) := vp_in_iff.mpr (by rw [(hf_1.2.2 (by decide))]; exact hr_141.in)
                    refine mst_40 C hM hs hP hS hf_1.1 hT hf_1.2.1 hin_142 (tp_45 hr_141) dX12_begin_212 (fun A_143 H locs hE_143 hT hP hS => ?_)
                    have ep_144 : x_140.toNatClampNeg = (x1.toInt + y_124.toInt + 110).toNat := z_posE hi_hr_141
                    rw [ep_144] at hE_143
                    clear ep_144
                    have FA := frA FA (frAu hE_143) (by decide)
                    have FC := fC.tr FC (fC.st (b := x1.toInt) (lo := 110) (hi := 169) hE_143 hb0.1 (by decide) hid_hr_141 hl_hr_141) (by decide)
                    refine lv_aload_n hx hb dX12_begin_213 rfl (lv_at hl 2 rfl) ?_
                    refine mg_0 C hs hP ha0 hk0 wf_X12_8 dX12_begin_214 ?_
                    refine lv_iload_n hx hb dX12_begin_217 rfl (lv_at hl 3 rfl) ?_
                    refine lv_sipush (v := 470) hx hb dX12_begin_218 (by decide) ?_
                    refine lv_iadd hx hb dX12_begin_221 ?_
                    refine lv_topi (fun x_145 ex_145 => ?_)
                    refine lv_iload_n hx hb dX12_begin_222 rfl (lv_at hl 0 rfl) ?_
                    refine lv_iadd hx hb dX12_begin_223 ?_
                    refine lv_topi (fun x_146 ex_146 => ?_)
                    refine lv_iconst (v := (-1)) hx hb dX12_begin_224 (by decide) ?_
                    have hi_hr_147 : zEq x_146.toInt (x1.toInt + y_124.toInt + 470) := by
                      obtain ⟨f_145, l_145, u_145⟩ := z_add ex_145 rfl ti_470
                      try replace f_145 : x_145.toInt = x1.toInt + 470 := by omega
                      clear l_145 u_145
                      obtain ⟨f_146, l_146, u_146⟩ := z_add ex_146 rfl rfl
                      try replace f_146 : x_146.toInt = x_145.toInt + y_124.toInt := by omega
                      clear l_146 u_146
                      show x_146.toInt = (x1.toInt + y_124.toInt + 470)
                      omega
                    have hl_hr_147 : 470 ≤ y_124.toInt + 470 ∧ y_124.toInt + 470 ≤ 529 := by
                      omega
                    have hid_hr_147 : (x1.toInt + y_124.toInt + 470) = x1.toInt + (y_124.toInt + 470) := by simp only [Int.add_assoc, Int.add_sub_assoc]
                    have hr_147 := z_cell (lo := 470) (hi := 769) hp0 hi_hr_147 hid_hr_147 hl_hr_147 (by decide)
                    replace hid_hr_147 : zEq (x1.toInt + y_124.toInt + 470) (x1.toInt + (y_124.toInt + 470)) := hid_hr_147
                    have hin_148 : vp_in x_146 (zn K (zr K a0 0)) := vp_in_iff.mpr (by rw [(hf_1.2.2 (by decide))]; exact hr_147.in)
                    refine mst_40 C hM hs hP hS hf_1.1 hT hf_1.2.1 hin_148 (tp_470 hr_147) dX12_begin_225 (fun A_149 H locs hE_149 hT hP hS => ?_)
                    have ep_150 : x_146.toNatClampNeg = (x1.toInt + y_124.toInt + 470).toNat := z_posE hi_hr_147
                    rw [ep_150] at hE_149
                    clear ep_150
                    have FA := frA FA (frAu hE_149) (by decide)
                    have FC := fC.tr FC (fC.st (b := x1.toInt) (lo := 470) (hi := 529) hE_149 hb0.1 (by decide) hid_hr_147 hl_hr_147) (by decide)
                    obtain ⟨x_151, ex_151⟩ : ∃ y : Int32, y = y_124 + 1 := ⟨_, rfl⟩
                    refine lv_iinc (v := x_151) (lv' := [(3, .int x_151), (2, .int (A 40 (x1.toInt + 1).toNat)), (0, .ref a0), (1, .int x1)]) hx hb dX12_begin_226 hl (k := 0) rfl (by rw [ex_151]; rfl) (by decide) rfl (fun ls hl => ?_)
                    refine lv_goto (tgt := 183) hx hb dX12_begin_229 (by decide) ?_
                    obtain ⟨f_151, l_151, u_151⟩ := z_add ex_151 rfl ti_1
                    try replace f_151 : x_151.toInt = y_124.toInt + 1 := by omega
                    clear l_151 u_151
                    have es_152 : A_149 40 (x1.toInt + 21).toNat = A_126 40 (x1.toInt + 21).toNat := by rw [hE_149, va_up_self, pk_un (show (x1.toInt + 21).toNat ≠ (x1.toInt + y_124.toInt + 470).toNat by omega), hE_143, va_up_self, pk_un (show (x1.toInt + 21).toNat ≠ (x1.toInt + y_124.toInt + 110).toNat by omega), hE_136, va_up_self, pk_un (show (x1.toInt + 21).toNat ≠ (x1.toInt + y_124.toInt + 170).toNat by omega)]
                    have hr_i153 := rI.s (n1 := y_124.toInt + 1) iv_126_5 hb0.1 (by omega) hE_136 (by omega) rfl
                    have th_154 := rI.st hr_i153 hb0.1 (by omega) hE_143 (by omega)
                    have th_155 := rI.st th_154 hb0.1 (by omega) hE_149 (by omega)
                    have th_156 := z4.st iv_126_2 hb0.1 hE_136 (by omega)
                    have th_157 := z4.st th_156 hb0.1 hE_143 (by omega)
                    have th_158 := z4.st th_157 hb0.1 hE_149 (by omega)
                    have th_159 := hM1.st iv_126_3 hb0.1 (by omega) hE_136 (by omega)
                    have th_160 := hM1.st th_159 hb0.1 (by omega) hE_143 (by omega)
                    have th_161 := hM1.st th_160 hb0.1 (by omega) hE_149 (by omega)
                    exact ih_125 A_149 _ _ x_151 _ (by omega) (by omega) (by omega) th_158 th_161 (by rw [es_152]; exact iv_126_4) (by rw [show x_151.toInt = y_124.toInt + 1 by omega]; exact th_155) FA FC hT hP hS (lv_sub hl [0, 1, 2, 3] rfl)
              have g_162 := z_rng y_91
              have es_163 : A_121 40 (x1.toInt + 21).toNat = A 40 (x1.toInt + 1).toNat := by rw [hE_121, va_up_self, pk_us]
              have hm4 : hM1 (A_93 40) x1.toInt 4 := fun q9 h1 h2 => iv_93_3 q9 h1 (by omega)
              have th_164 := z4.st iv_93_2 hb0.1 hE_121 (by omega)
              have th_165 := hM1.st hm4 hb0.1 (by omega) hE_121 (by omega)
              exact L_183_125 _ A_121 _ _ 0 _ (Nat.lt_succ_self _) (by (try simp only [ti_0]); omega) (by rw [ti_0]; omega) th_164 th_165 (by rw [es_163]) (rI.z (by rw [ti_0]; decide)) FA FC hT hP hS (lv_sub hl [0, 1, 2, 3] rfl)
            · skip
              refine lv_aload_n hx hb dX12_begin_144 rfl (lv_at hl 1 rfl) ?_
              refine mg_0 C hs hP ha0 hk0 wf_X12_8 dX12_begin_145 ?_
              refine lv_iload_n hx hb dX12_begin_148 rfl (lv_at hl 2 rfl) ?_
              refine lv_bipush (v := 22) hx hb dX12_begin_149 (by decide) ?_
              refine lv_iadd hx hb dX12_begin_151 ?_
              refine lv_topi (fun x_166 ex_166 => ?_)
              refine lv_iload_n hx hb dX12_begin_152 rfl (lv_at hl 0 rfl) ?_
              refine lv_iadd hx hb dX12_begin_153 ?_
              refine lv_topi (fun x_167 ex_167 => ?_)
              refine lv_iconst (v := (-1)) hx hb dX12_begin_154 (by decide) ?_
              have hi_hr_168 : zEq x_167.toInt (x1.toInt + y_91.toInt + 22) := by
                have g_169 := z_rng x1
                obtain ⟨f_166, l_166, u_166⟩ := z_add ex_166 rfl ti_22
                try replace f_166 : x_166.toInt = x1.toInt + 22 := by omega
                clear l_166 u_166
                have g_170 := z_rng y_91
                obtain ⟨f_167, l_167, u_167⟩ := z_add ex_167 rfl rfl
                try replace f_167 : x_167.toInt = x_166.toInt + y_91.toInt := by omega
                clear l_167 u_167
                show x_167.toInt = (x1.toInt + y_91.toInt + 22)
                omega
              have hl_hr_168 : 22 ≤ y_91.toInt + 22 ∧ y_91.toInt + 22 ≤ 25 := by
                have g_171 := z_rng x1
                have g_172 := z_rng y_91
                omega
              have hid_hr_168 : (x1.toInt + y_91.toInt + 22) = x1.toInt + (y_91.toInt + 22) := by simp only [Int.add_assoc, Int.add_sub_assoc]
              have hr_168 := z_cell (lo := 22) (hi := 25) hp0 hi_hr_168 hid_hr_168 hl_hr_168 (by decide)
              replace hid_hr_168 : zEq (x1.toInt + y_91.toInt + 22) (x1.toInt + (y_91.toInt + 22)) := hid_hr_168
              have hin_173 : vp_in x_167 (zn K (zr K a0 0)) := vp_in_iff.mpr (by rw [(hf_1.2.2 (by decide))]; exact hr_168.in)
              refine mst_40 C hM hs hP hS hf_1.1 hT hf_1.2.1 hin_173 (tp_22 hr_168 (show -1 ≤ ((-1) : Int32).toInt ∧ ((-1) : Int32).toInt ≤ 60 from by rw [ti_m1]; omega)) dX12_begin_155 (fun A_174 H locs hE_174 hT hP hS => ?_)
              have ep_175 : x_167.toNatClampNeg = (x1.toInt + y_91.toInt + 22).toNat := z_posE hi_hr_168
              rw [ep_175] at hE_174
              clear ep_175
              have FA := frA FA (frAu hE_174) (by decide)
              have FC := fC.tr FC (fC.st (b := x1.toInt) (lo := 22) (hi := 25) hE_174 hb0.1 (by decide) hid_hr_168 hl_hr_168) (by decide)
              obtain ⟨x_176, ex_176⟩ : ∃ y : Int32, y = y_91 + 1 := ⟨_, rfl⟩
              refine lv_iinc (v := x_176) (lv' := [(2, .int x_176), (0, .ref a0), (1, .int x1)]) hx hb dX12_begin_156 hl (k := 0) rfl (by rw [ex_176]; rfl) (by decide) rfl (fun ls hl => ?_)
              refine lv_goto (tgt := 139) hx hb dX12_begin_159 (by decide) ?_
              have g_177 := z_rng y_91
              obtain ⟨f_176, l_176, u_176⟩ := z_add ex_176 rfl ti_1
              try replace f_176 : x_176.toInt = y_91.toInt + 1 := by omega
              clear l_176 u_176
              have th_178 := z4.st iv_93_2 hb0.1 hE_174 (by omega)
              exact ih_92 A_174 _ _ x_176 _ (by omega) (by omega) (by omega) th_178 (hM1.s iv_93_3 hb0.1 (by omega) hE_174 (by omega) ti_m1) FA FC hT hP hS (lv_sub hl [0, 1, 2] rfl)
        have g_179 := z_rng y_62
        exact L_139_92 _ A_64 _ _ 0 _ (Nat.lt_succ_self _) (by (try simp only [ti_0]); omega) (by rw [ti_0]; decide) iv_64_1 (hM1.z (by rw [ti_0]; decide)) FA FC hT hP hS (lv_sub hl [0, 1, 2] rfl)
      · skip
        refine lv_aload_n hx hb dX12_begin_107 rfl (lv_at hl 1 rfl) ?_
        refine mg_0 C hs hP ha0 hk0 wf_X12_8 dX12_begin_108 ?_
        refine lv_iload_n hx hb dX12_begin_111 rfl (lv_at hl 2 rfl) ?_
        refine lv_bipush (v := 15) hx hb dX12_begin_112 (by decide) ?_
        refine lv_iadd hx hb dX12_begin_114 ?_
        refine lv_topi (fun x_180 ex_180 => ?_)
        refine lv_iload_n hx hb dX12_begin_115 rfl (lv_at hl 0 rfl) ?_
        refine lv_iadd hx hb dX12_begin_116 ?_
        refine lv_topi (fun x_181 ex_181 => ?_)
        refine lv_iconst (v := 0) hx hb dX12_begin_117 (by decide) ?_
        have hi_hr_182 : zEq x_181.toInt (x1.toInt + y_62.toInt + 15) := by
          have g_183 := z_rng x1
          obtain ⟨f_180, l_180, u_180⟩ := z_add ex_180 rfl ti_15
          try replace f_180 : x_180.toInt = x1.toInt + 15 := by omega
          clear l_180 u_180
          have g_184 := z_rng y_62
          obtain ⟨f_181, l_181, u_181⟩ := z_add ex_181 rfl rfl
          try replace f_181 : x_181.toInt = x_180.toInt + y_62.toInt := by omega
          clear l_181 u_181
          show x_181.toInt = (x1.toInt + y_62.toInt + 15)
          omega
        have hl_hr_182 : 15 ≤ y_62.toInt + 15 ∧ y_62.toInt + 15 ≤ 16 := by
          have g_185 := z_rng x1
          have g_186 := z_rng y_62
          omega
        have hid_hr_182 : (x1.toInt + y_62.toInt + 15) = x1.toInt + (y_62.toInt + 15) := by simp only [Int.add_assoc, Int.add_sub_assoc]
        have hr_182 := z_cell (lo := 10) (hi := 19) hp0 hi_hr_182 hid_hr_182 hl_hr_182 (by decide)
        replace hid_hr_182 : zEq (x1.toInt + y_62.toInt + 15) (x1.toInt + (y_62.toInt + 15)) := hid_hr_182
        have hin_187 : vp_in x_181 (zn K (zr K a0 0)) := vp_in_iff.mpr (by rw [(hf_1.2.2 (by decide))]; exact hr_182.in)
        refine mst_40 C hM hs hP hS hf_1.1 hT hf_1.2.1 hin_187 (tp_10 hr_182) dX12_begin_118 (fun A_188 H locs hE_188 hT hP hS => ?_)
        have ep_189 : x_181.toNatClampNeg = (x1.toInt + y_62.toInt + 15).toNat := z_posE hi_hr_182
        rw [ep_189] at hE_188
        clear ep_189
        have FA := frA FA (frAu hE_188) (by decide)
        have FC := fC.tr FC (fC.st (b := x1.toInt) (lo := 15) (hi := 16) hE_188 hb0.1 (by decide) hid_hr_182 hl_hr_182) (by decide)
        refine lv_aload_n hx hb dX12_begin_119 rfl (lv_at hl 1 rfl) ?_
        refine mg_0 C hs hP ha0 hk0 wf_X12_8 dX12_begin_120 ?_
        refine lv_iload_n hx hb dX12_begin_123 rfl (lv_at hl 2 rfl) ?_
        refine lv_bipush (v := 17) hx hb dX12_begin_124 (by decide) ?_
        refine lv_iadd hx hb dX12_begin_126 ?_
        refine lv_topi (fun x_190 ex_190 => ?_)
        refine lv_iload_n hx hb dX12_begin_127 rfl (lv_at hl 0 rfl) ?_
        refine lv_iadd hx hb dX12_begin_128 ?_
        refine lv_topi (fun x_191 ex_191 => ?_)
        refine lv_iconst (v := 0) hx hb dX12_begin_129 (by decide) ?_
        have hi_hr_192 : zEq x_191.toInt (x1.toInt + y_62.toInt + 17) := by
          have g_193 := z_rng x1
          obtain ⟨f_190, l_190, u_190⟩ := z_add ex_190 rfl ti_17
          try replace f_190 : x_190.toInt = x1.toInt + 17 := by omega
          clear l_190 u_190
          have g_194 := z_rng y_62
          obtain ⟨f_191, l_191, u_191⟩ := z_add ex_191 rfl rfl
          try replace f_191 : x_191.toInt = x_190.toInt + y_62.toInt := by omega
          clear l_191 u_191
          show x_191.toInt = (x1.toInt + y_62.toInt + 17)
          omega
        have hl_hr_192 : 17 ≤ y_62.toInt + 17 ∧ y_62.toInt + 17 ≤ 18 := by
          have g_195 := z_rng x1
          have g_196 := z_rng y_62
          omega
        have hid_hr_192 : (x1.toInt + y_62.toInt + 17) = x1.toInt + (y_62.toInt + 17) := by simp only [Int.add_assoc, Int.add_sub_assoc]
        have hr_192 := z_cell (lo := 10) (hi := 19) hp0 hi_hr_192 hid_hr_192 hl_hr_192 (by decide)
        replace hid_hr_192 : zEq (x1.toInt + y_62.toInt + 17) (x1.toInt + (y_62.toInt + 17)) := hid_hr_192
        have hin_197 : vp_in x_191 (zn K (zr K a0 0)) := vp_in_iff.mpr (by rw [(hf_1.2.2 (by decide))]; exact hr_192.in)
        refine mst_40 C hM hs hP hS hf_1.1 hT hf_1.2.1 hin_197 (tp_10 hr_192) dX12_begin_130 (fun A_198 H locs hE_198 hT hP hS => ?_)
        have ep_199 : x_191.toNatClampNeg = (x1.toInt + y_62.toInt + 17).toNat := z_posE hi_hr_192
        rw [ep_199] at hE_198
        clear ep_199
        have FA := frA FA (frAu hE_198) (by decide)
        have FC := fC.tr FC (fC.st (b := x1.toInt) (lo := 17) (hi := 18) hE_198 hb0.1 (by decide) hid_hr_192 hl_hr_192) (by decide)
        obtain ⟨x_200, ex_200⟩ : ∃ y : Int32, y = y_62 + 1 := ⟨_, rfl⟩
        refine lv_iinc (v := x_200) (lv' := [(2, .int x_200), (0, .ref a0), (1, .int x1)]) hx hb dX12_begin_131 hl (k := 0) rfl (by rw [ex_200]; rfl) (by decide) rfl (fun ls hl => ?_)
        refine lv_goto (tgt := 102) hx hb dX12_begin_134 (by decide) ?_
        have g_201 := z_rng y_62
        obtain ⟨f_200, l_200, u_200⟩ := z_add ex_200 rfl ti_1
        try replace f_200 : x_200.toInt = y_62.toInt + 1 := by omega
        clear l_200 u_200
        have th_202 := z4.st iv_64_1 hb0.1 hE_188 (by omega)
        have th_203 := z4.st th_202 hb0.1 hE_198 (by omega)
        exact ih_63 A_198 _ _ x_200 _ (by omega) (by omega) th_203 FA FC hT hP hS (lv_sub hl [0, 1, 2] rfl)
  have es_204 : A_60 40 (x1.toInt + 20).toNat = (0 : Int32) := by rw [hE_60, va_up_self, pk_un (show (x1.toInt + 20).toNat ≠ (x1.toInt + 44).toNat by omega), hE_54, va_up_self, pk_un (show (x1.toInt + 20).toNat ≠ (x1.toInt + 43).toNat by omega), hE_48, va_up_self, pk_un (show (x1.toInt + 20).toNat ≠ (x1.toInt + 26).toNat by omega), hE_42, va_up_self, pk_us]
  have es_205 : A_60 40 (x1.toInt + 26).toNat = (0 : Int32) := by rw [hE_60, va_up_self, pk_un (show (x1.toInt + 26).toNat ≠ (x1.toInt + 44).toNat by omega), hE_54, va_up_self, pk_un (show (x1.toInt + 26).toNat ≠ (x1.toInt + 43).toNat by omega), hE_48, va_up_self, pk_us]
  have es_206 : A_60 40 (x1.toInt + 43).toNat = (0 : Int32) := by rw [hE_60, va_up_self, pk_un (show (x1.toInt + 43).toNat ≠ (x1.toInt + 44).toNat by omega), hE_54, va_up_self, pk_us]
  have es_207 : A_60 40 (x1.toInt + 44).toNat = (0 : Int32) := by rw [hE_60, va_up_self, pk_us]
  have hz4_208 : z4 (A_60 40) x1.toInt := ⟨by rw [es_204]; exact ti_0, by rw [es_205]; exact ti_0, by rw [es_206]; exact ti_0, by rw [es_207]; exact ti_0⟩
  exact L_102_63 _ A_60 _ _ 0 _ (Nat.lt_succ_self _) (by (try simp only [ti_0]); omega) hz4_208 FA FC hT hP hS (lv_sub hl [0, 1, 2] rfl)
