set_option maxHeartbeats 4000000 in
set_option maxRecDepth 100000 in
theorem c_X12_doClaim (l : Launch) (D : va_G) (K : zK) (hM : mK K) (f : Nat → Int32) (A : Nat → Nat → Int32) (hT : mT f A) (a0 : Nat) (ha0 : a0 ∈ zl K) (hk0 : zk K a0 = 11) (x1 : Int32) (x2 : Int32) (x3 : Int32) (x4 : Int32) (hp0 : zRow x1.toInt) (hp1 : 0 ≤ x3.toInt ∧ x3.toInt ≤ 1) (hp2 : rowP (A 40) x1.toInt) (hp3 : (f 11).toInt ≤ 1960000000) (hp4 : (f 9).toInt ≤ 1960000000) : Met l yX12_doClaim (zc yX12_doClaim cX12_doClaim 9 none) (rmd 3) (va_Pc [.ref a0, .int x1, .int x2, .int x3, .int x4] (zB D K (mV K f A))) (mQv D K (fun f' A' => mT f' A' ∧ (∀ k, k ∉ ([40, 48, 50] : List Nat) → A' k = A k) ∧ (∀ k, k ∉ ([9, 11] : List Nat) → f' k = f k) ∧ fC (A 40) (A' 40) x1.toInt ([(5, 5), (9, 9), (15, 18), (22, 25), (39, 42), (110, 169)] : List (Int × Int)) ∧ wz (A 40) (A' 40) x1.toInt ∧ (f 9).toInt ≤ (f' 9).toInt ∧ (f' 9).toInt ≤ (f 9).toInt + 2 ∧ (f 11).toInt ≤ (f' 11).toInt ∧ (f' 11).toInt ≤ (f 11).toInt + 6 ∧ ((f 12).toInt ≠ 0 → (f' 11).toInt = (f 11).toInt) ∧ rowN (A' 40) x1.toInt)) 0 0 (zA K) := by
  refine zin (by decide) (Nat.le_of_ble_eq_true rfl) ?_
  intro p e s m args below meth c ls Q hQ C hr hlk hP hs hl
  have C : CallFix p m c cX12_doClaim 9 s args zw RX12 := C
  obtain ⟨hx, hb, hml, hown, hts⟩ := id C
  have hO := hM.1
  have hS : va_S (zA K) s.heap s.heap [] := va_S.rf
  have FA : ∀ k, k ∉ ([40, 48, 50] : List Nat) → A k = A k := fun _ _ => rfl
  have FF : ∀ k, k ∉ ([9, 11] : List Nat) → f k = f k := fun _ _ => rfl
  have FC : fC (A 40) (A 40) x1.toInt ([(5, 5), (9, 9), (15, 18), (22, 25), (39, 42), (110, 169)] : List (Int × Int)) := fun _ _ _ => rfl
  have WZ : wz (A 40) (A 40) x1.toInt := wz.rf
  have hl : lv_has ls 9 [(0, .ref a0), (1, .int x1), (2, .int x2), (3, .int x3), (4, .int x4)] := hl
  have hb0 := hp0.lin
  have tR0 := hT.row hp0
  refine lv_iconst (v := 0) hx hb dX12_doClaim_0 (by decide) ?_
  refine lv_istore (lv' := [(5, .int 0), (0, .ref a0), (1, .int x1), (2, .int x2), (3, .int x3), (4, .int x4)]) hx hb dX12_doClaim_1 hl (by decide) rfl (fun ls hl => ?_)
  refine lv_iconst (v := 0) hx hb dX12_doClaim_3 (by decide) ?_
  refine lv_istore (lv' := [(6, .int 0), (5, .int 0), (0, .ref a0), (1, .int x1), (2, .int x2), (3, .int x3), (4, .int x4)]) hx hb dX12_doClaim_4 hl (by decide) rfl (fun ls hl => ?_)
  have L_6_3 : ∀ (n_3 : Nat) (y_1 : Int32) (y_2 : Int32) (ls : Array Slot), (2147483648 - y_1.toInt).toNat < n_3 → 0 ≤ y_1.toInt → lv_has ls 9 [(6, .int y_1), (5, .int y_2), (0, .ref a0), (1, .int x1), (2, .int x2), (3, .int x3), (4, .int x4)] → W p l e (rmd 3) s m args below meth c s.heap [] 0 0 Q (F0 m 6 ls []) := by
    intro n_3
    induction n_3 with
    | zero => intro y_1 y_2 ls hm_3; exact absurd hm_3 (Nat.not_lt_zero _)
    | succ n_3 ih_3 =>
      intro y_1 y_2 ls hm_3 iv_4_0 hl
      refine lv_iload hx hb dX12_doClaim_6 (lv_at hl 0 rfl) ?_
      refine lv_iconst (v := 4) hx hb dX12_doClaim_8 (by decide) ?_
      refine bi_ge (tgt := 37) hx hb rfl ti_4 dX12_doClaim_9 (by decide) (fun c_5 => ?_) (fun c_5 => ?_)
      · skip
        refine lv_iconst (v := 1) hx hb dX12_doClaim_37 (by decide) ?_
        refine lv_iload_n hx hb dX12_doClaim_38 rfl (lv_at hl 5 rfl) ?_
        refine lv_isub hx hb dX12_doClaim_39 ?_
        refine lv_topi (fun x_22 ex_22 => ?_)
        refine lv_istore (lv' := [(6, .int x_22), (5, .int y_2), (0, .ref a0), (1, .int x1), (2, .int x2), (3, .int x3), (4, .int x4)]) hx hb dX12_doClaim_40 hl (by decide) rfl (fun ls hl => ?_)
        refine lv_aload_n hx hb dX12_doClaim_42 rfl (lv_at hl 2 rfl) ?_
        refine mg_0 C hs hP ha0 hk0 wf_X12_8 dX12_doClaim_43 ?_
        have hf_23 := hO.r (j := 0) ha0 hk0 (rfl : zX 11 0 = some (40, 47730))
        refine lv_iload_n hx hb dX12_doClaim_46 rfl (lv_at hl 3 rfl) ?_
        refine lv_bipush (v := 15) hx hb dX12_doClaim_47 (by decide) ?_
        refine lv_iadd hx hb dX12_doClaim_49 ?_
        refine lv_topi (fun x_24 ex_24 => ?_)
        refine lv_iload_n hx hb dX12_doClaim_50 rfl (lv_at hl 5 rfl) ?_
        refine lv_iadd hx hb dX12_doClaim_51 ?_
        refine lv_topi (fun x_25 ex_25 => ?_)
        refine lv_dup2_11 hx hb dX12_doClaim_52 rfl rfl ?_
        have hi_hr_26 : zEq x_25.toInt (x1.toInt + x3.toInt + 15) := by
          have g_27 := z_rng x1
          obtain ⟨f_24, l_24, u_24⟩ := z_add ex_24 rfl ti_15
          try replace f_24 : x_24.toInt = x1.toInt + 15 := by omega
          clear l_24 u_24
          have g_28 := z_rng x3
          obtain ⟨f_25, l_25, u_25⟩ := z_add ex_25 rfl rfl
          try replace f_25 : x_25.toInt = x_24.toInt + x3.toInt := by omega
          clear l_25 u_25
          show x_25.toInt = (x1.toInt + x3.toInt + 15)
          omega
        have hl_hr_26 : 15 ≤ x3.toInt + 15 ∧ x3.toInt + 15 ≤ 16 := by
          have g_29 := z_rng x1
          have g_30 := z_rng x3
          omega
        have hid_hr_26 : (x1.toInt + x3.toInt + 15) = x1.toInt + (x3.toInt + 15) := by simp only [Int.add_assoc, Int.add_sub_assoc]
        have hr_26 := z_cell (lo := 10) (hi := 19) hp0 hi_hr_26 hid_hr_26 hl_hr_26 (by decide)
        replace hid_hr_26 : zEq (x1.toInt + x3.toInt + 15) (x1.toInt + (x3.toInt + 15)) := hid_hr_26
        have hin_31 : vp_in x_25 (zn K (zr K a0 0)) := vp_in_iff.mpr (by rw [(hf_23.2.2 (by decide))]; exact hr_26.in)
        refine mld_40 C hs hP hf_23.1 hf_23.2.1 hin_31 dX12_doClaim_53 ?_
        have ep_32 : x_25.toNatClampNeg = (x1.toInt + x3.toInt + 15).toNat := z_posE hi_hr_26
        rw [ep_32]
        clear ep_32
        refine lv_iload hx hb dX12_doClaim_54 (lv_at hl 6 rfl) ?_
        refine lv_iadd hx hb dX12_doClaim_56 ?_
        refine lv_topi (fun x_33 ex_33 => ?_)
        have hin_34 : vp_in x_25 (zn K (zr K a0 0)) := vp_in_iff.mpr (by rw [(hf_23.2.2 (by decide))]; exact hr_26.in)
        refine mst_40 C hM hs hP hS hf_23.1 hT hf_23.2.1 hin_34 (tp_10 hr_26) dX12_doClaim_57 (fun A_35 H locs hE_35 hT hP hS => ?_)
        have ep_36 : x_25.toNatClampNeg = (x1.toInt + x3.toInt + 15).toNat := z_posE hi_hr_26
        rw [ep_36] at hE_35
        clear ep_36
        have FA := frA FA (frAu hE_35) (by decide)
        have FC := fC.tr FC (fC.st (b := x1.toInt) (lo := 15) (hi := 16) hE_35 hb0.1 (by decide) hid_hr_26 hl_hr_26) (by decide)
        have WZ := wz.st WZ hE_35 (Or.inr ⟨by omega, by omega, Or.inl (by omega)⟩)
        refine lv_aload_n hx hb dX12_doClaim_58 rfl (lv_at hl 2 rfl) ?_
        refine mg_0 C hs hP ha0 hk0 wf_X12_8 dX12_doClaim_59 ?_
        refine lv_iload_n hx hb dX12_doClaim_62 rfl (lv_at hl 3 rfl) ?_
        refine lv_bipush (v := 17) hx hb dX12_doClaim_63 (by decide) ?_
        refine lv_iadd hx hb dX12_doClaim_65 ?_
        refine lv_topi (fun x_37 ex_37 => ?_)
        refine lv_iload_n hx hb dX12_doClaim_66 rfl (lv_at hl 5 rfl) ?_
        refine lv_iadd hx hb dX12_doClaim_67 ?_
        refine lv_topi (fun x_38 ex_38 => ?_)
        refine lv_dup2_11 hx hb dX12_doClaim_68 rfl rfl ?_
        have hi_hr_39 : zEq x_38.toInt (x1.toInt + x3.toInt + 17) := by
          have g_40 := z_rng x1
          obtain ⟨f_37, l_37, u_37⟩ := z_add ex_37 rfl ti_17
          try replace f_37 : x_37.toInt = x1.toInt + 17 := by omega
          clear l_37 u_37
          have g_41 := z_rng x3
          obtain ⟨f_38, l_38, u_38⟩ := z_add ex_38 rfl rfl
          try replace f_38 : x_38.toInt = x_37.toInt + x3.toInt := by omega
          clear l_38 u_38
          show x_38.toInt = (x1.toInt + x3.toInt + 17)
          omega
        have hl_hr_39 : 17 ≤ x3.toInt + 17 ∧ x3.toInt + 17 ≤ 18 := by
          have g_42 := z_rng x1
          have g_43 := z_rng x3
          omega
        have hid_hr_39 : (x1.toInt + x3.toInt + 17) = x1.toInt + (x3.toInt + 17) := by simp only [Int.add_assoc, Int.add_sub_assoc]
        have hr_39 := z_cell (lo := 10) (hi := 19) hp0 hi_hr_39 hid_hr_39 hl_hr_39 (by decide)
        replace hid_hr_39 : zEq (x1.toInt + x3.toInt + 17) (x1.toInt + (x3.toInt + 17)) := hid_hr_39
        have hin_44 : vp_in x_38 (zn K (zr K a0 0)) := vp_in_iff.mpr (by rw [(hf_23.2.2 (by decide))]; exact hr_39.in)
        refine mld_40 C hs hP hf_23.1 hf_23.2.1 hin_44 dX12_doClaim_69 ?_
        have ep_45 : x_38.toNatClampNeg = (x1.toInt + x3.toInt + 17).toNat := z_posE hi_hr_39
        rw [ep_45]
        have g_47 := z_rng x1
        obtain ⟨f_37, l_37, u_37⟩ := z_add ex_37 rfl ti_17
        try replace f_37 : x_37.toInt = x1.toInt + 17 := by omega
        clear l_37 u_37
        have g_48 := z_rng x3
        obtain ⟨f_38, l_38, u_38⟩ := z_add ex_38 rfl rfl
        try replace f_38 : x_38.toInt = x_37.toInt + x3.toInt := by omega
        clear l_38 u_38
        obtain ⟨f_24, l_24, u_24⟩ := z_add ex_24 rfl ti_15
        try replace f_24 : x_24.toInt = x1.toInt + 15 := by omega
        clear l_24 u_24
        obtain ⟨f_25, l_25, u_25⟩ := z_add ex_25 rfl rfl
        try replace f_25 : x_25.toInt = x_24.toInt + x3.toInt := by omega
        clear l_25 u_25
        have hn_46 : (x1.toInt + x3.toInt + 17).toNat ≠ (x1.toInt + x3.toInt + 15).toNat := zNe (by omega) (by omega) (by omega)
        have ev_49 : A_35 40 (x1.toInt + x3.toInt + 17).toNat = A 40 (x1.toInt + x3.toInt + 17).toNat := by rw [hE_35, va_up_self, pk_un hn_46]
        clear hn_46
        rw [ev_49]
        clear ep_45
        refine lv_iload hx hb dX12_doClaim_70 (lv_at hl 6 rfl) ?_
        refine lv_iadd hx hb dX12_doClaim_72 ?_
        refine lv_topi (fun x_50 ex_50 => ?_)
        have hin_51 : vp_in x_38 (zn K (zr K a0 0)) := vp_in_iff.mpr (by rw [(hf_23.2.2 (by decide))]; exact hr_39.in)
        refine mst_40 C hM hs hP hS hf_23.1 hT hf_23.2.1 hin_51 (tp_10 hr_39) dX12_doClaim_73 (fun A_52 H locs hE_52 hT hP hS => ?_)
        have ep_53 : x_38.toNatClampNeg = (x1.toInt + x3.toInt + 17).toNat := z_posE hi_hr_39
        rw [ep_53] at hE_52
        clear ep_53
        have FA := frA FA (frAu hE_52) (by decide)
        have FC := fC.tr FC (fC.st (b := x1.toInt) (lo := 17) (hi := 18) hE_52 hb0.1 (by decide) hid_hr_39 hl_hr_39) (by decide)
        have WZ := wz.st WZ hE_52 (Or.inr ⟨by omega, by omega, Or.inl (by omega)⟩)
        refine lv_aload_n hx hb dX12_doClaim_74 rfl (lv_at hl 2 rfl) ?_
        refine mg_0 C hs hP ha0 hk0 wf_X12_8 dX12_doClaim_75 ?_
        refine lv_iload_n hx hb dX12_doClaim_78 rfl (lv_at hl 3 rfl) ?_
        refine lv_bipush (v := 15) hx hb dX12_doClaim_79 (by decide) ?_
        refine lv_iadd hx hb dX12_doClaim_81 ?_
        refine lv_topi (fun x_54 ex_54 => ?_)
        refine lv_iload hx hb dX12_doClaim_82 (lv_at hl 0 rfl) ?_
        refine lv_iadd hx hb dX12_doClaim_84 ?_
        refine lv_topi (fun x_55 ex_55 => ?_)
        refine lv_dup2_11 hx hb dX12_doClaim_85 rfl rfl ?_
        have hi_hr_56 : zEq x_55.toInt (x1.toInt + -1 * x3.toInt + 16) := by
          obtain ⟨f_54, l_54, u_54⟩ := z_add ex_54 rfl ti_15
          try replace f_54 : x_54.toInt = x1.toInt + 15 := by omega
          clear l_54 u_54
          obtain ⟨f_22, l_22, u_22⟩ := z_sub ex_22 ti_1 rfl
          try replace f_22 : x_22.toInt = 1 - x3.toInt := by omega
          clear l_22 u_22
          obtain ⟨f_55, l_55, u_55⟩ := z_add ex_55 rfl rfl
          try replace f_55 : x_55.toInt = x_54.toInt + x_22.toInt := by omega
          clear l_55 u_55
          show x_55.toInt = (x1.toInt + -1 * x3.toInt + 16)
          omega
        have hl_hr_56 : 15 ≤ -1 * x3.toInt + 16 ∧ -1 * x3.toInt + 16 ≤ 16 := by
          omega
        have hid_hr_56 : (x1.toInt + -1 * x3.toInt + 16) = x1.toInt + (-1 * x3.toInt + 16) := by simp only [Int.add_assoc, Int.add_sub_assoc]
        have hr_56 := z_cell (lo := 10) (hi := 19) hp0 hi_hr_56 hid_hr_56 hl_hr_56 (by decide)
        replace hid_hr_56 : zEq (x1.toInt + -1 * x3.toInt + 16) (x1.toInt + (-1 * x3.toInt + 16)) := hid_hr_56
        have hin_57 : vp_in x_55 (zn K (zr K a0 0)) := vp_in_iff.mpr (by rw [(hf_23.2.2 (by decide))]; exact hr_56.in)
        refine mld_40 C hs hP hf_23.1 hf_23.2.1 hin_57 dX12_doClaim_86 ?_
        have ep_58 : x_55.toNatClampNeg = (x1.toInt + -1 * x3.toInt + 16).toNat := z_posE hi_hr_56
        rw [ep_58]
        clear ep_58
        refine lv_iload hx hb dX12_doClaim_87 (lv_at hl 1 rfl) ?_
        refine lv_iload hx hb dX12_doClaim_89 (lv_at hl 6 rfl) ?_
        refine lv_isub hx hb dX12_doClaim_91 ?_
        refine lv_topi (fun x_59 ex_59 => ?_)
        refine lv_iadd hx hb dX12_doClaim_92 ?_
        refine lv_topi (fun x_60 ex_60 => ?_)
        have hin_61 : vp_in x_55 (zn K (zr K a0 0)) := vp_in_iff.mpr (by rw [(hf_23.2.2 (by decide))]; exact hr_56.in)
        refine mst_40 C hM hs hP hS hf_23.1 hT hf_23.2.1 hin_61 (tp_10 hr_56) dX12_doClaim_93 (fun A_62 H locs hE_62 hT hP hS => ?_)
        have ep_63 : x_55.toNatClampNeg = (x1.toInt + -1 * x3.toInt + 16).toNat := z_posE hi_hr_56
        rw [ep_63] at hE_62
        clear ep_63
        have FA := frA FA (frAu hE_62) (by decide)
        have FC := fC.tr FC (fC.st (b := x1.toInt) (lo := 15) (hi := 16) hE_62 hb0.1 (by decide) hid_hr_56 hl_hr_56) (by decide)
        have WZ := wz.st WZ hE_62 (Or.inr ⟨by omega, by omega, Or.inl (by omega)⟩)
        refine lv_aload_n hx hb dX12_doClaim_94 rfl (lv_at hl 2 rfl) ?_
        refine mg_0 C hs hP ha0 hk0 wf_X12_8 dX12_doClaim_95 ?_
        refine lv_iload_n hx hb dX12_doClaim_98 rfl (lv_at hl 3 rfl) ?_
        refine lv_bipush (v := 17) hx hb dX12_doClaim_99 (by decide) ?_
        refine lv_iadd hx hb dX12_doClaim_101 ?_
        refine lv_topi (fun x_64 ex_64 => ?_)
        refine lv_iload hx hb dX12_doClaim_102 (lv_at hl 0 rfl) ?_
        refine lv_iadd hx hb dX12_doClaim_104 ?_
        refine lv_topi (fun x_65 ex_65 => ?_)
        refine lv_dup2_11 hx hb dX12_doClaim_105 rfl rfl ?_
        have hi_hr_66 : zEq x_65.toInt (x1.toInt + -1 * x3.toInt + 18) := by
          obtain ⟨f_64, l_64, u_64⟩ := z_add ex_64 rfl ti_17
          try replace f_64 : x_64.toInt = x1.toInt + 17 := by omega
          clear l_64 u_64
          obtain ⟨f_22, l_22, u_22⟩ := z_sub ex_22 ti_1 rfl
          try replace f_22 : x_22.toInt = 1 - x3.toInt := by omega
          clear l_22 u_22
          obtain ⟨f_65, l_65, u_65⟩ := z_add ex_65 rfl rfl
          try replace f_65 : x_65.toInt = x_64.toInt + x_22.toInt := by omega
          clear l_65 u_65
          show x_65.toInt = (x1.toInt + -1 * x3.toInt + 18)
          omega
        have hl_hr_66 : 17 ≤ -1 * x3.toInt + 18 ∧ -1 * x3.toInt + 18 ≤ 18 := by
          omega
        have hid_hr_66 : (x1.toInt + -1 * x3.toInt + 18) = x1.toInt + (-1 * x3.toInt + 18) := by simp only [Int.add_assoc, Int.add_sub_assoc]
        have hr_66 := z_cell (lo := 10) (hi := 19) hp0 hi_hr_66 hid_hr_66 hl_hr_66 (by decide)
        replace hid_hr_66 : zEq (x1.toInt + -1 * x3.toInt + 18) (x1.toInt + (-1 * x3.toInt + 18)) := hid_hr_66
        have hin_67 : vp_in x_65 (zn K (zr K a0 0)) := vp_in_iff.mpr (by rw [(hf_23.2.2 (by decide))]; exact hr_66.in)
        refine mld_40 C hs hP hf_23.1 hf_23.2.1 hin_67 dX12_doClaim_106 ?_
        have ep_68 : x_65.toNatClampNeg = (x1.toInt + -1 * x3.toInt + 18).toNat := z_posE hi_hr_66
        rw [ep_68]
        obtain ⟨f_64, l_64, u_64⟩ := z_add ex_64 rfl ti_17
        try replace f_64 : x_64.toInt = x1.toInt + 17 := by omega
        clear l_64 u_64
        obtain ⟨f_22, l_22, u_22⟩ := z_sub ex_22 ti_1 rfl
        try replace f_22 : x_22.toInt = 1 - x3.toInt := by omega
        clear l_22 u_22
        obtain ⟨f_65, l_65, u_65⟩ := z_add ex_65 rfl rfl
        try replace f_65 : x_65.toInt = x_64.toInt + x_22.toInt := by omega
        clear l_65 u_65
        obtain ⟨f_54, l_54, u_54⟩ := z_add ex_54 rfl ti_15
        try replace f_54 : x_54.toInt = x1.toInt + 15 := by omega
        clear l_54 u_54
        obtain ⟨f_55, l_55, u_55⟩ := z_add ex_55 rfl rfl
        try replace f_55 : x_55.toInt = x_54.toInt + x_22.toInt := by omega
        clear l_55 u_55
        have hn_69 : (x1.toInt + -1 * x3.toInt + 18).toNat ≠ (x1.toInt + -1 * x3.toInt + 16).toNat := zNe (by omega) (by omega) (by omega)
        have ev_70 : A_62 40 (x1.toInt + -1 * x3.toInt + 18).toNat = A_52 40 (x1.toInt + -1 * x3.toInt + 18).toNat := by rw [hE_62, va_up_self, pk_un hn_69]
        clear hn_69
        rw [ev_70]
        clear ep_68
        refine lv_iload hx hb dX12_doClaim_107 (lv_at hl 1 rfl) ?_
        refine lv_iload hx hb dX12_doClaim_109 (lv_at hl 6 rfl) ?_
        refine lv_isub hx hb dX12_doClaim_111 ?_
        refine lv_topi (fun x_71 ex_71 => ?_)
        refine lv_iadd hx hb dX12_doClaim_112 ?_
        refine lv_topi (fun x_72 ex_72 => ?_)
        have hin_73 : vp_in x_65 (zn K (zr K a0 0)) := vp_in_iff.mpr (by rw [(hf_23.2.2 (by decide))]; exact hr_66.in)
        refine mst_40 C hM hs hP hS hf_23.1 hT hf_23.2.1 hin_73 (tp_10 hr_66) dX12_doClaim_113 (fun A_74 H locs hE_74 hT hP hS => ?_)
        have ep_75 : x_65.toNatClampNeg = (x1.toInt + -1 * x3.toInt + 18).toNat := z_posE hi_hr_66
        rw [ep_75] at hE_74
        clear ep_75
        have FA := frA FA (frAu hE_74) (by decide)
        have FC := fC.tr FC (fC.st (b := x1.toInt) (lo := 17) (hi := 18) hE_74 hb0.1 (by decide) hid_hr_66 hl_hr_66) (by decide)
        have WZ := wz.st WZ hE_74 (Or.inr ⟨by omega, by omega, Or.inl (by omega)⟩)
        refine lv_iconst (v := 0) hx hb dX12_doClaim_114 (by decide) ?_
        refine lv_istore (lv' := [(7, .int 0), (6, .int x_22), (5, .int y_2), (0, .ref a0), (1, .int x1), (2, .int x2), (3, .int x3), (4, .int x4)]) hx hb dX12_doClaim_115 hl (by decide) rfl (fun ls hl => ?_)
        have L_117_77 : ∀ (n_77 : Nat) (A_78 : Nat → Nat → Int32) (H : Heap) (locs : List Loc) (y_76 : Int32) (ls : Array Slot), (2147483648 - y_76.toInt).toNat < n_77 → 0 ≤ y_76.toInt → fC (A 40) (A_78 40) x1.toInt ([(15, 18), (22, 25), (110, 169)] : List (Int × Int)) → (∀ q : Int, 0 ≤ q → q ≤ 3 → (A_78 40 (x1.toInt + q + 22).toNat).toInt ≤ (A 40 (x1.toInt + q + 22).toNat).toInt) → (∀ k, k ∉ ([40, 48, 50] : List Nat) → A_78 k = A k) → fC (A 40) (A_78 40) x1.toInt ([(5, 5), (9, 9), (15, 18), (22, 25), (39, 42), (110, 169)] : List (Int × Int)) → wz (A 40) (A_78 40) x1.toInt → mT f A_78 → va_P D vwCl (zW K (mV K f A_78)) H → va_S (zA K) s.heap H locs → lv_has ls 9 [(7, .int y_76), (6, .int x_22), (5, .int y_2), (0, .ref a0), (1, .int x1), (2, .int x2), (3, .int x3), (4, .int x4)] → W p l e (rmd 3) s m args below meth c H locs 0 0 Q (F0 m 117 ls []) := by
          intro n_77
          induction n_77 with
          | zero => intro A_78 H locs y_76 ls hm_77; exact absurd hm_77 (Nat.not_lt_zero _)
          | succ n_77 ih_77 =>
            intro A_78 H locs y_76 ls hm_77 iv_78_0 iv_78_1 iv_78_2 FA_78 FC_78 WZ_78 hT hP hS hl
            have FA := FA_78
            have FC := FC_78
            have WZ := WZ_78
            have FCc := FC
            have WZc := WZ
            refine lv_iload hx hb dX12_doClaim_117 (lv_at hl 0 rfl) ?_
            refine lv_iconst (v := 4) hx hb dX12_doClaim_119 (by decide) ?_
            refine bi_ge (tgt := 216) hx hb rfl ti_4 dX12_doClaim_120 (by decide) (fun c_80 => ?_) (fun c_80 => ?_)
            · skip
              refine lv_aload_n hx hb dX12_doClaim_216 rfl (lv_at hl 3 rfl) ?_
              refine lv_iload_n hx hb dX12_doClaim_217 rfl (lv_at hl 4 rfl) ?_
              refine lv_iload_n hx hb dX12_doClaim_218 rfl (lv_at hl 5 rfl) ?_
              have g_81 := z_rng x2
              have hq_82 : (f 11).toInt ≤ 1970000000 := by (first | assumption | omega | (intros; omega))
              have hq_83 : (f 9).toInt ≤ 1970000000 := by (first | assumption | omega | (intros; omega))
              refine mcV (zrV (As := [.int x1, .int x2]) (b := a0) (rest := []) C hs hP hS (c_X12_endDeal l D K hM f A_78 hT a0 ha0 hk0 x1 x2 hp0 hq_82 hq_83) m_X12_endDeal wm_X12_226 (zrecv hs hP ha0 (zF_11 hk0) rfl) ⟨by decide, by decide⟩ hl.1 (Nat.le_of_ble_eq_true rfl) dX12_doClaim_219) hS (fun f_84 A_84 H locs p_84 hP hS => ?_)
              obtain ⟨hT, hA_84, hF_84, hC_84, pp_84⟩ := p_84
              have pp_84 : (f 9).toInt ≤ (f_84 9).toInt ∧ (f_84 9).toInt ≤ (f 9).toInt + 2 ∧ (f 11).toInt ≤ (f_84 11).toInt ∧ (f_84 11).toInt ≤ (f 11).toInt + 6 ∧ ((f 12).toInt ≠ 0 → (f_84 11).toInt = (f 11).toInt) ∧ (rowP (A_78 40) x1.toInt → rowN (A_84 40) x1.toInt) := pp_84
              have pp0_84 := zHid.mk pp_84
              have pc_84 := pp_84.1
              have pd_84 := pp_84.2.1
              have pa_84 := pp_84.2.2.1
              have pb_84 := pp_84.2.2.2.1
              have qq_84 := zHid.mk pp_84.2.2.2.2.1
              replace pp_84 := pp_84.2.2.2.2.2
              have FA := frA FA hA_84 (by decide)
              have FF := frF FF hF_84 (by decide)
              have FC := fC.tr FC hC_84 (by decide)
              have WZ := wz.fC WZ hC_84 (by omega) (by decide)
              have hRN := pp0_84.2.2.2.2.2 (rowP.cl hp2 tR0 hb0.1 FCc WZc iv_78_2 (by decide) (by decide) (by decide) (by decide) (by decide) (by decide) (by decide))
              exact maV hQ hx hb hr hlk hP hS ⟨hT, FA, FF, FC, WZ, ⟨by omega, by omega, by omega, by omega, fun h9 => by have hq0 := qq_84 h9; omega, hRN⟩⟩ dX12_doClaim_222
            · skip
              refine lv_iconst (v := 0) hx hb dX12_doClaim_123 (by decide) ?_
              refine lv_istore (lv' := [(8, .int 0), (7, .int y_76), (6, .int x_22), (5, .int y_2), (0, .ref a0), (1, .int x1), (2, .int x2), (3, .int x3), (4, .int x4)]) hx hb dX12_doClaim_124 hl (by decide) rfl (fun ls hl => ?_)
              have L_126_86 : ∀ (n_86 : Nat) (A_87 : Nat → Nat → Int32) (H : Heap) (locs : List Loc) (y_85 : Int32) (ls : Array Slot), (2147483648 - y_85.toInt).toNat < n_86 → 0 ≤ y_85.toInt → fC (A 40) (A_87 40) x1.toInt ([(15, 18), (22, 25), (110, 169)] : List (Int × Int)) → (∀ q : Int, 0 ≤ q → q ≤ 3 → (A_87 40 (x1.toInt + q + 22).toNat).toInt ≤ (A 40 (x1.toInt + q + 22).toNat).toInt) → (∀ k, k ∉ ([40, 48, 50] : List Nat) → A_87 k = A k) → fC (A 40) (A_87 40) x1.toInt ([(5, 5), (9, 9), (15, 18), (22, 25), (39, 42), (110, 169)] : List (Int × Int)) → wz (A 40) (A_87 40) x1.toInt → mT f A_87 → va_P D vwCl (zW K (mV K f A_87)) H → va_S (zA K) s.heap H locs → lv_has ls 9 [(8, .int y_85), (7, .int y_76), (6, .int x_22), (5, .int y_2), (0, .ref a0), (1, .int x1), (2, .int x2), (3, .int x3), (4, .int x4)] → W p l e (rmd 3) s m args below meth c H locs 0 0 Q (F0 m 126 ls []) := by
                intro n_86
                induction n_86 with
                | zero => intro A_87 H locs y_85 ls hm_86; exact absurd hm_86 (Nat.not_lt_zero _)
                | succ n_86 ih_86 =>
                  intro A_87 H locs y_85 ls hm_86 iv_87_0 iv_87_1 iv_87_2 FA_87 FC_87 WZ_87 hT hP hS hl
                  have FA := FA_87
                  have FC := FC_87
                  have WZ := WZ_87
                  refine lv_iload hx hb dX12_doClaim_126 (lv_at hl 0 rfl) ?_
                  refine lv_aload_n hx hb dX12_doClaim_128 rfl (lv_at hl 4 rfl) ?_
                  refine mg_0 C hs hP ha0 hk0 wf_X12_8 dX12_doClaim_129 ?_
                  refine lv_iload_n hx hb dX12_doClaim_132 rfl (lv_at hl 5 rfl) ?_
                  refine lv_bipush (v := 22) hx hb dX12_doClaim_133 (by decide) ?_
                  refine lv_iadd hx hb dX12_doClaim_135 ?_
                  refine lv_topi (fun x_89 ex_89 => ?_)
                  refine lv_iload hx hb dX12_doClaim_136 (lv_at hl 1 rfl) ?_
                  refine lv_iadd hx hb dX12_doClaim_138 ?_
                  refine lv_topi (fun x_90 ex_90 => ?_)
                  have hi_hr_91 : zEq x_90.toInt (x1.toInt + y_76.toInt + 22) := by
                    obtain ⟨f_89, l_89, u_89⟩ := z_add ex_89 rfl ti_22
                    try replace f_89 : x_89.toInt = x1.toInt + 22 := by omega
                    clear l_89 u_89
                    have g_92 := z_rng y_76
                    obtain ⟨f_90, l_90, u_90⟩ := z_add ex_90 rfl rfl
                    try replace f_90 : x_90.toInt = x_89.toInt + y_76.toInt := by omega
                    clear l_90 u_90
                    show x_90.toInt = (x1.toInt + y_76.toInt + 22)
                    omega
                  have hl_hr_91 : 22 ≤ y_76.toInt + 22 ∧ y_76.toInt + 22 ≤ 25 := by
                    have g_93 := z_rng y_76
                    omega
                  have hid_hr_91 : (x1.toInt + y_76.toInt + 22) = x1.toInt + (y_76.toInt + 22) := by simp only [Int.add_assoc, Int.add_sub_assoc]
                  have hr_91 := z_cell (lo := 22) (hi := 25) hp0 hi_hr_91 hid_hr_91 hl_hr_91 (by decide)
                  replace hid_hr_91 : zEq (x1.toInt + y_76.toInt + 22) (x1.toInt + (y_76.toInt + 22)) := hid_hr_91
                  have hin_94 : vp_in x_90 (zn K (zr K a0 0)) := vp_in_iff.mpr (by rw [(hf_23.2.2 (by decide))]; exact hr_91.in)
                  refine mld_40 C hs hP hf_23.1 hf_23.2.1 hin_94 dX12_doClaim_139 ?_
                  have ep_95 : x_90.toNatClampNeg = (x1.toInt + y_76.toInt + 22).toNat := z_posE hi_hr_91
                  rw [ep_95]
                  have tv_96 := rv_22 hT hr_91
                  rw [ep_95] at tv_96
                  clear ep_95
                  refine bi_ge (tgt := 182) hx hb rfl rfl dX12_doClaim_140 (by decide) (fun c_97 => ?_) (fun c_97 => ?_)
                  · skip
                    refine lv_aload_n hx hb dX12_doClaim_182 rfl (lv_at hl 4 rfl) ?_
                    refine mg_0 C hs hP ha0 hk0 wf_X12_8 dX12_doClaim_183 ?_
                    refine lv_iload_n hx hb dX12_doClaim_186 rfl (lv_at hl 5 rfl) ?_
                    refine lv_bipush (v := 22) hx hb dX12_doClaim_187 (by decide) ?_
                    refine lv_iadd hx hb dX12_doClaim_189 ?_
                    refine lv_topi (fun x_128 ex_128 => ?_)
                    refine lv_iload hx hb dX12_doClaim_190 (lv_at hl 1 rfl) ?_
                    refine lv_iadd hx hb dX12_doClaim_192 ?_
                    refine lv_topi (fun x_129 ex_129 => ?_)
                    refine lv_aload_n hx hb dX12_doClaim_193 rfl (lv_at hl 4 rfl) ?_
                    refine mg_0 C hs hP ha0 hk0 wf_X12_8 dX12_doClaim_194 ?_
                    refine lv_iload_n hx hb dX12_doClaim_197 rfl (lv_at hl 5 rfl) ?_
                    refine lv_bipush (v := 22) hx hb dX12_doClaim_198 (by decide) ?_
                    refine lv_iadd hx hb dX12_doClaim_200 ?_
                    refine lv_topi (fun x_130 ex_130 => ?_)
                    refine lv_iload hx hb dX12_doClaim_201 (lv_at hl 1 rfl) ?_
                    refine lv_iadd hx hb dX12_doClaim_203 ?_
                    refine lv_topi (fun x_131 ex_131 => ?_)
                    have hi_hr_132 : zEq x_131.toInt (x1.toInt + y_76.toInt + 22) := by
                      obtain ⟨f_130, l_130, u_130⟩ := z_add ex_130 rfl ti_22
                      try replace f_130 : x_130.toInt = x1.toInt + 22 := by omega
                      clear l_130 u_130
                      have g_133 := z_rng y_76
                      obtain ⟨f_131, l_131, u_131⟩ := z_add ex_131 rfl rfl
                      try replace f_131 : x_131.toInt = x_130.toInt + y_76.toInt := by omega
                      clear l_131 u_131
                      show x_131.toInt = (x1.toInt + y_76.toInt + 22)
                      omega
                    have hl_hr_132 : 22 ≤ y_76.toInt + 22 ∧ y_76.toInt + 22 ≤ 25 := by
                      have g_134 := z_rng y_76
                      omega
                    have hid_hr_132 : (x1.toInt + y_76.toInt + 22) = x1.toInt + (y_76.toInt + 22) := by simp only [Int.add_assoc, Int.add_sub_assoc]
                    have hr_132 := z_cell (lo := 22) (hi := 25) hp0 hi_hr_132 hid_hr_132 hl_hr_132 (by decide)
                    replace hid_hr_132 : zEq (x1.toInt + y_76.toInt + 22) (x1.toInt + (y_76.toInt + 22)) := hid_hr_132
                    have hin_135 : vp_in x_131 (zn K (zr K a0 0)) := vp_in_iff.mpr (by rw [(hf_23.2.2 (by decide))]; exact hr_132.in)
                    refine mld_40 C hs hP hf_23.1 hf_23.2.1 hin_135 dX12_doClaim_204 ?_
                    have ep_136 : x_131.toNatClampNeg = (x1.toInt + y_76.toInt + 22).toNat := z_posE hi_hr_132
                    rw [ep_136]
                    clear ep_136
                    refine lv_iconst (v := 0) hx hb dX12_doClaim_205 (by decide) ?_
                    refine zcS (zrS (As := [.int (A_87 40 (x1.toInt + y_76.toInt + 22).toNat), .int 0]) (rest := [.int x_129, .ref (zr K a0 0)]) C hs hP hS (c_X12_least l D K hM f A_87 hT (A_87 40 (x1.toInt + y_76.toInt + 22).toNat) 0) m_X12_least wm_X12_250 ⟨by decide, by decide⟩ hl.1 (Nat.le_of_ble_eq_true rfl) dX12_doClaim_206) (fun x_137 p_137 => ?_)
                    have pp_137 : x_137.toInt ≤ (A_87 40 (x1.toInt + y_76.toInt + 22).toNat).toInt ∧ x_137.toInt ≤ (0 : Int32).toInt ∧ (x_137.toInt = (A_87 40 (x1.toInt + y_76.toInt + 22).toNat).toInt ∨ x_137.toInt = (0 : Int32).toInt) := p_137
                    try simp only [ti_0] at pp_137
                    have g_138 := z_rng (A_87 40 (x1.toInt + y_76.toInt + 22).toNat)
                    have hi_hr_139 : zEq x_129.toInt (x1.toInt + y_76.toInt + 22) := by
                      obtain ⟨f_128, l_128, u_128⟩ := z_add ex_128 rfl ti_22
                      try replace f_128 : x_128.toInt = x1.toInt + 22 := by omega
                      clear l_128 u_128
                      have g_140 := z_rng y_76
                      obtain ⟨f_129, l_129, u_129⟩ := z_add ex_129 rfl rfl
                      try replace f_129 : x_129.toInt = x_128.toInt + y_76.toInt := by omega
                      clear l_129 u_129
                      show x_129.toInt = (x1.toInt + y_76.toInt + 22)
                      omega
                    have hl_hr_139 : 22 ≤ y_76.toInt + 22 ∧ y_76.toInt + 22 ≤ 25 := by
                      have g_141 := z_rng y_76
                      omega
                    have hid_hr_139 : (x1.toInt + y_76.toInt + 22) = x1.toInt + (y_76.toInt + 22) := by simp only [Int.add_assoc, Int.add_sub_assoc]
                    have hr_139 := z_cell (lo := 22) (hi := 25) hp0 hi_hr_139 hid_hr_139 hl_hr_139 (by decide)
                    replace hid_hr_139 : zEq (x1.toInt + y_76.toInt + 22) (x1.toInt + (y_76.toInt + 22)) := hid_hr_139
                    have hin_142 : vp_in x_129 (zn K (zr K a0 0)) := vp_in_iff.mpr (by rw [(hf_23.2.2 (by decide))]; exact hr_139.in)
                    have g_144 := z_rng x_137
                    refine mst_40 C hM hs hP hS hf_23.1 hT hf_23.2.1 hin_142 (tp_22 hr_139 (show -1 ≤ x_137.toInt ∧ x_137.toInt ≤ 60 from by omega)) dX12_doClaim_209 (fun A_143 H locs hE_143 hT hP hS => ?_)
                    have ep_145 : x_129.toNatClampNeg = (x1.toInt + y_76.toInt + 22).toNat := z_posE hi_hr_139
                    rw [ep_145] at hE_143
                    clear ep_145
                    have FA := frA FA (frAu hE_143) (by decide)
                    have FC := fC.tr FC (fC.st (b := x1.toInt) (lo := 22) (hi := 25) hE_143 hb0.1 (by decide) hid_hr_139 hl_hr_139) (by decide)
                    have WZ := wz.st WZ hE_143 (Or.inr ⟨by omega, by omega, Or.inl (by omega)⟩)
                    obtain ⟨x_146, ex_146⟩ : ∃ y : Int32, y = y_76 + 1 := ⟨_, rfl⟩
                    refine lv_iinc (v := x_146) (lv' := [(7, .int x_146), (8, .int y_85), (6, .int x_22), (5, .int y_2), (0, .ref a0), (1, .int x1), (2, .int x2), (3, .int x3), (4, .int x4)]) hx hb dX12_doClaim_210 hl (k := 1) rfl (by rw [ex_146]; rfl) (by decide) rfl (fun ls hl => ?_)
                    refine lv_goto (tgt := 117) hx hb dX12_doClaim_213 (by decide) ?_
                    have g_147 := z_rng y_76
                    obtain ⟨f_146, l_146, u_146⟩ := z_add ex_146 rfl ti_1
                    try replace f_146 : x_146.toInt = y_76.toInt + 1 := by omega
                    clear l_146 u_146
                    have g_148 := z_rng y_85
                    have fq_149 : fC (A 40) (A_143 40) x1.toInt ([(15, 18), (22, 25), (110, 169)] : List (Int × Int)) := fC.tr iv_87_1 (fC.s2 (lo := 22) (hi := 25) hE_143 hb0.1 (by decide) ⟨by omega, by omega⟩) (by decide)
                    have hq_150 : ∀ q9 : Int, 0 ≤ q9 → q9 ≤ 3 → (A_143 40 (x1.toInt + q9 + 22).toNat).toInt ≤ (A 40 (x1.toInt + q9 + 22).toNat).toInt := fun q9 h1 h2 => by
                      have h8 := iv_87_2 q9 h1 h2
                      by_cases h9 : q9 = y_76.toInt
                      · subst h9; rw [hE_143, va_up_self, pk_us]; omega
                      · rw [hE_143, va_up_self, pk_un (zNe (by omega) (by omega) (by omega))]; exact h8
                    exact ih_77 A_143 _ _ x_146 _ (by omega) (by omega) fq_149 hq_150 FA FC WZ hT hP hS (lv_sub hl [0, 2, 3, 4, 5, 6, 7, 8] rfl)
                  · skip
                    refine lv_aload_n hx hb dX12_doClaim_143 rfl (lv_at hl 4 rfl) ?_
                    refine mg_0 C hs hP ha0 hk0 wf_X12_8 dX12_doClaim_144 ?_
                    refine lv_iload_n hx hb dX12_doClaim_147 rfl (lv_at hl 5 rfl) ?_
                    refine lv_bipush (v := 110) hx hb dX12_doClaim_148 (by decide) ?_
                    refine lv_iadd hx hb dX12_doClaim_150 ?_
                    refine lv_topi (fun x_151 ex_151 => ?_)
                    refine lv_aload_n hx hb dX12_doClaim_151 rfl (lv_at hl 4 rfl) ?_
                    refine mg_0 C hs hP ha0 hk0 wf_X12_8 dX12_doClaim_152 ?_
                    refine lv_iload_n hx hb dX12_doClaim_155 rfl (lv_at hl 5 rfl) ?_
                    refine lv_sipush (v := 230) hx hb dX12_doClaim_156 (by decide) ?_
                    refine lv_iadd hx hb dX12_doClaim_159 ?_
                    refine lv_topi (fun x_152 ex_152 => ?_)
                    refine lv_bipush (v := 60) hx hb dX12_doClaim_160 (by decide) ?_
                    refine lv_iload hx hb dX12_doClaim_162 (lv_at hl 1 rfl) ?_
                    refine lv_imul hx hb dX12_doClaim_164 ?_
                    refine lv_topi (fun x_153 ex_153 => ?_)
                    refine lv_iadd hx hb dX12_doClaim_165 ?_
                    refine lv_topi (fun x_154 ex_154 => ?_)
                    refine lv_iload hx hb dX12_doClaim_166 (lv_at hl 0 rfl) ?_
                    refine lv_iadd hx hb dX12_doClaim_168 ?_
                    refine lv_topi (fun x_155 ex_155 => ?_)
                    have hi_hr_156 : zEq x_155.toInt (x1.toInt + 60 * y_76.toInt + y_85.toInt + 230) := by
                      obtain ⟨f_152, l_152, u_152⟩ := z_add ex_152 rfl ti_230
                      try replace f_152 : x_152.toInt = x1.toInt + 230 := by omega
                      clear l_152 u_152
                      have g_157 := z_rng y_76
                      obtain ⟨f_153, l_153, u_153⟩ := z_mul ex_153 ti_60 rfl
                      try replace f_153 : x_153.toInt = 60 * y_76.toInt := by omega
                      clear l_153 u_153
                      obtain ⟨f_154, l_154, u_154⟩ := z_add ex_154 rfl rfl
                      try replace f_154 : x_154.toInt = x_152.toInt + x_153.toInt := by omega
                      clear l_154 u_154
                      have g_158 := z_rng y_85
                      obtain ⟨f_155, l_155, u_155⟩ := z_add ex_155 rfl rfl
                      try replace f_155 : x_155.toInt = x_154.toInt + y_85.toInt := by omega
                      clear l_155 u_155
                      show x_155.toInt = (x1.toInt + 60 * y_76.toInt + y_85.toInt + 230)
                      omega
                    have hl_hr_156 : 230 ≤ 60 * y_76.toInt + y_85.toInt + 230 ∧ 60 * y_76.toInt + y_85.toInt + 230 ≤ 469 := by
                      have g_159 := z_rng y_76
                      have g_160 := z_rng y_85
                      omega
                    have hid_hr_156 : (x1.toInt + 60 * y_76.toInt + y_85.toInt + 230) = x1.toInt + (60 * y_76.toInt + y_85.toInt + 230) := by simp only [Int.add_assoc, Int.add_sub_assoc]
                    have hr_156 := z_cell (lo := 170) (hi := 469) hp0 hi_hr_156 hid_hr_156 hl_hr_156 (by decide)
                    replace hid_hr_156 : zEq (x1.toInt + 60 * y_76.toInt + y_85.toInt + 230) (x1.toInt + (60 * y_76.toInt + y_85.toInt + 230)) := hid_hr_156
                    have hin_161 : vp_in x_155 (zn K (zr K a0 0)) := vp_in_iff.mpr (by rw [(hf_23.2.2 (by decide))]; exact hr_156.in)
                    refine mld_40 C hs hP hf_23.1 hf_23.2.1 hin_161 dX12_doClaim_169 ?_
                    have ep_162 : x_155.toNatClampNeg = (x1.toInt + 60 * y_76.toInt + y_85.toInt + 230).toNat := z_posE hi_hr_156
                    rw [ep_162]
                    obtain ⟨f_152, l_152, u_152⟩ := z_add ex_152 rfl ti_230
                    try replace f_152 : x_152.toInt = x1.toInt + 230 := by omega
                    clear l_152 u_152
                    have g_164 := z_rng y_76
                    obtain ⟨f_153, l_153, u_153⟩ := z_mul ex_153 ti_60 rfl
                    try replace f_153 : x_153.toInt = 60 * y_76.toInt := by omega
                    clear l_153 u_153
                    obtain ⟨f_154, l_154, u_154⟩ := z_add ex_154 rfl rfl
                    try replace f_154 : x_154.toInt = x_152.toInt + x_153.toInt := by omega
                    clear l_154 u_154
                    have g_165 := z_rng y_85
                    obtain ⟨f_155, l_155, u_155⟩ := z_add ex_155 rfl rfl
                    try replace f_155 : x_155.toInt = x_154.toInt + y_85.toInt := by omega
                    clear l_155 u_155
                    have hc_163 := FC_87.ar (by omega) (lo := 230) (hi := 469) (by decide) (x1.toInt + 60 * y_76.toInt + y_85.toInt + 230) (by decide) (by omega) (by omega)
                    have ev_166 : A_87 40 (x1.toInt + 60 * y_76.toInt + y_85.toInt + 230).toNat = A 40 (x1.toInt + 60 * y_76.toInt + y_85.toInt + 230).toNat := by rw [hc_163]
                    have tv_167 := rv_170 hT hr_156
                    rw [ep_162] at tv_167
                    rw [ev_166] at tv_167
                    rw [ev_166]
                    clear ep_162
                    refine lv_iadd hx hb dX12_doClaim_170 ?_
                    refine lv_topi (fun x_168 ex_168 => ?_)
                    refine lv_bipush (v := 6) hx hb dX12_doClaim_171 (by decide) ?_
                    refine lv_iload_n hx hb dX12_doClaim_173 rfl (lv_at hl 7 rfl) ?_
                    refine lv_iadd hx hb dX12_doClaim_174 ?_
                    refine lv_topi (fun x_169 ex_169 => ?_)
                    have hi_hr_170 : zEq x_168.toInt (x1.toInt + (A 40 (x1.toInt + 60 * y_76.toInt + y_85.toInt + 230).toNat).toInt + 110) := by
                      obtain ⟨f_151, l_151, u_151⟩ := z_add ex_151 rfl ti_110
                      try replace f_151 : x_151.toInt = x1.toInt + 110 := by omega
                      clear l_151 u_151
                      have g_171 := z_rng (A 40 (x1.toInt + 60 * y_76.toInt + y_85.toInt + 230).toNat)
                      obtain ⟨f_168, l_168, u_168⟩ := z_add ex_168 rfl rfl
                      try replace f_168 : x_168.toInt = x_151.toInt + (A 40 (x1.toInt + 60 * y_76.toInt + y_85.toInt + 230).toNat).toInt := by omega
                      clear l_168 u_168
                      show x_168.toInt = (x1.toInt + (A 40 (x1.toInt + 60 * y_76.toInt + y_85.toInt + 230).toNat).toInt + 110)
                      omega
                    have hl_hr_170 : 110 ≤ (A 40 (x1.toInt + 60 * y_76.toInt + y_85.toInt + 230).toNat).toInt + 110 ∧ (A 40 (x1.toInt + 60 * y_76.toInt + y_85.toInt + 230).toNat).toInt + 110 ≤ 169 := by
                      have g_172 := z_rng (A 40 (x1.toInt + 60 * y_76.toInt + y_85.toInt + 230).toNat)
                      omega
                    have hid_hr_170 : (x1.toInt + (A 40 (x1.toInt + 60 * y_76.toInt + y_85.toInt + 230).toNat).toInt + 110) = x1.toInt + ((A 40 (x1.toInt + 60 * y_76.toInt + y_85.toInt + 230).toNat).toInt + 110) := by simp only [Int.add_assoc, Int.add_sub_assoc]
                    have hr_170 := z_cell (lo := 45) (hi := 169) hp0 hi_hr_170 hid_hr_170 hl_hr_170 (by decide)
                    replace hid_hr_170 : zEq (x1.toInt + (A 40 (x1.toInt + 60 * y_76.toInt + y_85.toInt + 230).toNat).toInt + 110) (x1.toInt + ((A 40 (x1.toInt + 60 * y_76.toInt + y_85.toInt + 230).toNat).toInt + 110)) := hid_hr_170
                    have hin_173 : vp_in x_168 (zn K (zr K a0 0)) := vp_in_iff.mpr (by rw [(hf_23.2.2 (by decide))]; exact hr_170.in)
                    refine mst_40 C hM hs hP hS hf_23.1 hT hf_23.2.1 hin_173 (tp_45 hr_170) dX12_doClaim_175 (fun A_174 H locs hE_174 hT hP hS => ?_)
                    have ep_175 : x_168.toNatClampNeg = (x1.toInt + (A 40 (x1.toInt + 60 * y_76.toInt + y_85.toInt + 230).toNat).toInt + 110).toNat := z_posE hi_hr_170
                    rw [ep_175] at hE_174
                    clear ep_175
                    have FA := frA FA (frAu hE_174) (by decide)
                    have FC := fC.tr FC (fC.st (b := x1.toInt) (lo := 110) (hi := 169) hE_174 hb0.1 (by decide) hid_hr_170 hl_hr_170) (by decide)
                    obtain ⟨f_169, l_169, u_169⟩ := z_add ex_169 ti_6 rfl
                    try replace f_169 : x_169.toInt = 6 + x3.toInt := by omega
                    clear l_169 u_169
                    have WZ := wz.st WZ hE_174 (Or.inl (by omega))
                    obtain ⟨x_176, ex_176⟩ : ∃ y : Int32, y = y_85 + 1 := ⟨_, rfl⟩
                    refine lv_iinc (v := x_176) (lv' := [(8, .int x_176), (7, .int y_76), (6, .int x_22), (5, .int y_2), (0, .ref a0), (1, .int x1), (2, .int x2), (3, .int x3), (4, .int x4)]) hx hb dX12_doClaim_176 hl (k := 0) rfl (by rw [ex_176]; rfl) (by decide) rfl (fun ls hl => ?_)
                    refine lv_goto (tgt := 126) hx hb dX12_doClaim_179 (by decide) ?_
                    obtain ⟨f_176, l_176, u_176⟩ := z_add ex_176 rfl ti_1
                    try replace f_176 : x_176.toInt = y_85.toInt + 1 := by omega
                    clear l_176 u_176
                    have g_177 := z_rng (A_87 40 (x1.toInt + y_76.toInt + 22).toNat)
                    have g_179 := z_rng (A 40 (x1.toInt + 60 * y_76.toInt + y_85.toInt + 230).toNat)
                    have fq_178 : fC (A 40) (A_174 40) x1.toInt ([(15, 18), (22, 25), (110, 169)] : List (Int × Int)) := fC.tr iv_87_1 (fC.s2 (lo := 110) (hi := 169) hE_174 hb0.1 (by decide) ⟨by omega, by omega⟩) (by decide)
                    have fq_181 : fC (A_87 40) (A_174 40) x1.toInt ([(110, 169)] : List (Int × Int)) := fC.tr fC.rf (fC.s2 (lo := 110) (hi := 169) hE_174 hb0.1 (by decide) ⟨by omega, by omega⟩) (by decide)
                    have rq_180 : ∀ j : Int, x1.toInt + 22 ≤ j → j ≤ x1.toInt + 25 → A_174 40 j.toNat = A_87 40 j.toNat := fun j h1 h2 => fC.ar fq_181 hb0.1 (lo := 22) (hi := 25) (by decide) j (by decide) h1 h2
                    exact ih_86 A_174 _ _ x_176 _ (by omega) (by omega) fq_178 (fun q9 h1 h2 => by rw [rq_180 (x1.toInt + q9 + 22) (by omega) (by omega)]; exact iv_87_2 q9 h1 h2) FA FC WZ hT hP hS (lv_sub hl [0, 1, 2, 3, 4, 5, 6, 7, 8] rfl)
              have g_182 := z_rng y_76
              exact L_126_86 _ A_78 _ _ 0 _ (Nat.lt_succ_self _) (by (try simp only [ti_0]); omega) iv_78_1 iv_78_2 FA FC WZ hT hP hS (lv_sub hl [0, 1, 2, 3, 4, 5, 6, 7, 8] rfl)
        have g_183 := z_rng y_1
        have fq_184 : fC (A 40) (A_35 40) x1.toInt ([(15, 18), (22, 25), (110, 169)] : List (Int × Int)) := fC.tr fC.rf (fC.s2 (lo := 15) (hi := 16) hE_35 hb0.1 (by decide) ⟨by omega, by omega⟩) (by decide)
        have fq_185 : fC (A 40) (A_52 40) x1.toInt ([(15, 18), (22, 25), (110, 169)] : List (Int × Int)) := fC.tr fq_184 (fC.s2 (lo := 17) (hi := 18) hE_52 hb0.1 (by decide) ⟨by omega, by omega⟩) (by decide)
        have fq_186 : fC (A 40) (A_62 40) x1.toInt ([(15, 18), (22, 25), (110, 169)] : List (Int × Int)) := fC.tr fq_185 (fC.s2 (lo := 15) (hi := 16) hE_62 hb0.1 (by decide) ⟨by omega, by omega⟩) (by decide)
        have fq_187 : fC (A 40) (A_74 40) x1.toInt ([(15, 18), (22, 25), (110, 169)] : List (Int × Int)) := fC.tr fq_186 (fC.s2 (lo := 17) (hi := 18) hE_74 hb0.1 (by decide) ⟨by omega, by omega⟩) (by decide)
        have fq_189 : fC (A 40) (A_35 40) x1.toInt ([(15, 16), (17, 18)] : List (Int × Int)) := fC.tr fC.rf (fC.s2 (lo := 15) (hi := 16) hE_35 hb0.1 (by decide) ⟨by omega, by omega⟩) (by decide)
        have fq_190 : fC (A 40) (A_52 40) x1.toInt ([(15, 16), (17, 18)] : List (Int × Int)) := fC.tr fq_189 (fC.s2 (lo := 17) (hi := 18) hE_52 hb0.1 (by decide) ⟨by omega, by omega⟩) (by decide)
        have fq_191 : fC (A 40) (A_62 40) x1.toInt ([(15, 16), (17, 18)] : List (Int × Int)) := fC.tr fq_190 (fC.s2 (lo := 15) (hi := 16) hE_62 hb0.1 (by decide) ⟨by omega, by omega⟩) (by decide)
        have fq_192 : fC (A 40) (A_74 40) x1.toInt ([(15, 16), (17, 18)] : List (Int × Int)) := fC.tr fq_191 (fC.s2 (lo := 17) (hi := 18) hE_74 hb0.1 (by decide) ⟨by omega, by omega⟩) (by decide)
        have rq_188 : ∀ j : Int, x1.toInt + 22 ≤ j → j ≤ x1.toInt + 25 → A_74 40 j.toNat = A 40 j.toNat := fun j h1 h2 => fC.ar fq_192 hb0.1 (lo := 22) (hi := 25) (by decide) j (by decide) h1 h2
        exact L_117_77 _ A_74 _ _ 0 _ (Nat.lt_succ_self _) (by (try simp only [ti_0]); omega) fq_187 (fun q9 h1 h2 => by rw [rq_188 (x1.toInt + q9 + 22) (by omega) (by omega)]; exact Int.le_refl _) FA FC WZ hT hP hS (lv_sub hl [0, 1, 2, 3, 4, 5, 6, 7] rfl)
      · skip
        refine lv_iload hx hb dX12_doClaim_12 (lv_at hl 1 rfl) ?_
        refine lv_aload_n hx hb dX12_doClaim_14 rfl (lv_at hl 2 rfl) ?_
        refine mg_0 C hs hP ha0 hk0 wf_X12_8 dX12_doClaim_15 ?_
        have hf_193 := hO.r (j := 0) ha0 hk0 (rfl : zX 11 0 = some (40, 47730))
        refine lv_iload_n hx hb dX12_doClaim_18 rfl (lv_at hl 3 rfl) ?_
        refine lv_bipush (v := 22) hx hb dX12_doClaim_19 (by decide) ?_
        refine lv_iadd hx hb dX12_doClaim_21 ?_
        refine lv_topi (fun x_194 ex_194 => ?_)
        refine lv_iload hx hb dX12_doClaim_22 (lv_at hl 0 rfl) ?_
        refine lv_iadd hx hb dX12_doClaim_24 ?_
        refine lv_topi (fun x_195 ex_195 => ?_)
        have hi_hr_196 : zEq x_195.toInt (x1.toInt + y_1.toInt + 22) := by
          have g_197 := z_rng x1
          obtain ⟨f_194, l_194, u_194⟩ := z_add ex_194 rfl ti_22
          try replace f_194 : x_194.toInt = x1.toInt + 22 := by omega
          clear l_194 u_194
          have g_198 := z_rng y_1
          obtain ⟨f_195, l_195, u_195⟩ := z_add ex_195 rfl rfl
          try replace f_195 : x_195.toInt = x_194.toInt + y_1.toInt := by omega
          clear l_195 u_195
          show x_195.toInt = (x1.toInt + y_1.toInt + 22)
          omega
        have hl_hr_196 : 22 ≤ y_1.toInt + 22 ∧ y_1.toInt + 22 ≤ 25 := by
          have g_199 := z_rng x1
          have g_200 := z_rng y_1
          omega
        have hid_hr_196 : (x1.toInt + y_1.toInt + 22) = x1.toInt + (y_1.toInt + 22) := by simp only [Int.add_assoc, Int.add_sub_assoc]
        have hr_196 := z_cell (lo := 22) (hi := 25) hp0 hi_hr_196 hid_hr_196 hl_hr_196 (by decide)
        replace hid_hr_196 : zEq (x1.toInt + y_1.toInt + 22) (x1.toInt + (y_1.toInt + 22)) := hid_hr_196
        have hin_201 : vp_in x_195 (zn K (zr K a0 0)) := vp_in_iff.mpr (by rw [(hf_193.2.2 (by decide))]; exact hr_196.in)
        refine mld_40 C hs hP hf_193.1 hf_193.2.1 hin_201 dX12_doClaim_25 ?_
        have ep_202 : x_195.toNatClampNeg = (x1.toInt + y_1.toInt + 22).toNat := z_posE hi_hr_196
        rw [ep_202]
        have tv_203 := rv_22 hT hr_196
        rw [ep_202] at tv_203
        clear ep_202
        refine zcS (zrS (As := [.int y_2, .int (A 40 (x1.toInt + y_1.toInt + 22).toNat)]) (rest := []) C hs hP hS (c_X12_most l D K hM f A hT y_2 (A 40 (x1.toInt + y_1.toInt + 22).toNat)) m_X12_most wm_X12_247 ⟨by decide, by decide⟩ hl.1 (Nat.le_of_ble_eq_true rfl) dX12_doClaim_26) (fun x_204 p_204 => ?_)
        have pp_204 : y_2.toInt ≤ x_204.toInt ∧ (A 40 (x1.toInt + y_1.toInt + 22).toNat).toInt ≤ x_204.toInt ∧ (x_204.toInt = y_2.toInt ∨ x_204.toInt = (A 40 (x1.toInt + y_1.toInt + 22).toNat).toInt) := p_204
        have g_205 := z_rng y_2
        have g_206 := z_rng (A 40 (x1.toInt + y_1.toInt + 22).toNat)
        refine lv_istore (lv' := [(5, .int x_204), (6, .int y_1), (0, .ref a0), (1, .int x1), (2, .int x2), (3, .int x3), (4, .int x4)]) hx hb dX12_doClaim_29 hl (by decide) rfl (fun ls hl => ?_)
        obtain ⟨x_207, ex_207⟩ : ∃ y : Int32, y = y_1 + 1 := ⟨_, rfl⟩
        refine lv_iinc (v := x_207) (lv' := [(6, .int x_207), (5, .int x_204), (0, .ref a0), (1, .int x1), (2, .int x2), (3, .int x3), (4, .int x4)]) hx hb dX12_doClaim_31 hl (k := 1) rfl (by rw [ex_207]; rfl) (by decide) rfl (fun ls hl => ?_)
        refine lv_goto (tgt := 6) hx hb dX12_doClaim_34 (by decide) ?_
        have g_208 := z_rng y_1
        obtain ⟨f_207, l_207, u_207⟩ := z_add ex_207 rfl ti_1
        try replace f_207 : x_207.toInt = y_1.toInt + 1 := by omega
        clear l_207 u_207
        exact ih_3 x_207 x_204 _ (by omega) (by omega) (lv_sub hl [0, 1, 2, 3, 4, 5, 6] rfl)
  exact L_6_3 _ 0 0 _ (Nat.lt_succ_self _) (by (try simp only [ti_0]); omega) (lv_sub hl [0, 1, 2, 3, 4, 5, 6] rfl)
