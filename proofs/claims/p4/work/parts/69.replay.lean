set_option maxHeartbeats 4000000 in
set_option maxRecDepth 100000 in
theorem c_X12_replay (l : Launch) (D : va_G) (K : zK) (hM : mK K) (f : Nat → Int32) (A : Nat → Nat → Int32) (hT : mT f A) (N : Int) (a0 : Nat) (ha0 : a0 ∈ zl K) (hk0 : zk K a0 = 11) (x1 : Int32) (hp0 : okk N f A) (hp1 : 0 ≤ N ∧ N ≤ 600) : Met l yX12_replay (zc yX12_replay cX12_replay 7 (some .int)) (rmd 8) (va_Pc [.ref a0, .int x1] (zB D K (mV K f A))) (mQi D K (fun r f' A' => mT f' A' ∧ (∀ k, k ∉ ([40, 48, 50, 53, 55, 58, 59, 61, 62, 66, 69, 70, 71, 72, 73] : List Nat) → A' k = A k) ∧ (∀ k, k ∉ ([9, 11, 12, 14, 16, 17, 20, 23, 24, 25, 27, 28, 34, 35] : List Nat) → f' k = f k) ∧ okk (N + 1) f' A')) 0 0 (zA K) := by
  refine zin (by decide) (Nat.le_of_ble_eq_true rfl) ?_
  intro p e s m args below meth c ls Q hQ C hr hlk hP hs hl
  have C : CallFix p m c cX12_replay 7 s args zw RX12 := C
  obtain ⟨hx, hb, hml, hown, hts⟩ := id C
  have hO := hM.1
  have hS : va_S (zA K) s.heap s.heap [] := va_S.rf
  have FA : ∀ k, k ∉ ([40, 48, 50, 53, 55, 58, 59, 61, 62, 66, 69, 70, 71, 72, 73] : List Nat) → A k = A k := fun _ _ => rfl
  have FF : ∀ k, k ∉ ([9, 11, 12, 14, 16, 17, 20, 23, 24, 25, 27, 28, 34, 35] : List Nat) → f k = f k := fun _ _ => rfl
  have hl : lv_has ls 7 [(0, .ref a0), (1, .int x1)] := hl
  have aRc := hp0.1
  have hbud := hp0.2.2
  refine lv_aload_n hx hb dX12_replay_0 rfl (lv_at hl 0 rfl) ?_
  refine lv_iload_n hx hb dX12_replay_1 rfl (lv_at hl 1 rfl) ?_
  have hTo := hT
  refine zcS (zrV (As := [.int x1]) (b := a0) (rest := []) C hs hP hS (c_X12_isTable l D K hM f A hT a0 ha0 hk0 x1) m_X12_isTable wm_X12_107 (zrecv hs hP ha0 (zF_11 hk0) rfl) ⟨by decide, by decide⟩ hl.1 (Nat.le_of_ble_eq_true rfl) dX12_replay_2) (fun x_1 p_1 => ?_)
  have pp_1 : (x_1.toInt ≠ 0 → 0 ≤ x1.toInt ∧ x1.toInt ≤ 3) := p_1.2
  have g_2 := z_rng x1
  refine bz_ne (tgt := 11) hx hb rfl dX12_replay_5 (by decide) (fun c_3 => ?_) (fun c_3 => ?_)
  · skip
    replace pp_1 := pp_1 c_3
    refine lv_sipush (v := 1290) hx hb dX12_replay_11 (by decide) ?_
    refine lv_iload_n hx hb dX12_replay_14 rfl (lv_at hl 1 rfl) ?_
    refine lv_imul hx hb dX12_replay_15 ?_
    refine lv_topi (fun x_4 ex_4 => ?_)
    refine lv_istore_n (lv' := [(2, .int x_4), (0, .ref a0), (1, .int x1)]) hx hb dX12_replay_16 rfl hl (by decide) rfl (fun ls hl => ?_)
    refine lv_aload_n hx hb dX12_replay_17 rfl (lv_at hl 1 rfl) ?_
    refine mg_0 C hs hP ha0 hk0 wf_X12_8 dX12_replay_18 ?_
    have hf_5 := hO.r (j := 0) ha0 hk0 (rfl : zX 11 0 = some (40, 47730))
    refine lv_iload_n hx hb dX12_replay_21 rfl (lv_at hl 0 rfl) ?_
    refine lv_iconst (v := 5) hx hb dX12_replay_22 (by decide) ?_
    refine lv_iadd hx hb dX12_replay_23 ?_
    refine lv_topi (fun x_6 ex_6 => ?_)
    obtain ⟨f_4, l_4, u_4⟩ := z_mul ex_4 ti_1290 rfl
    try replace f_4 : x_4.toInt = 1290 * x1.toInt := by omega
    clear l_4 u_4
    have hbs_8 : zRow x_4.toInt := zRow.of (t := x1.toInt) (by omega) (by omega)
    have hbl_hbs_8 := hbs_8.lin
    have hi_hr_7 : zEq x_6.toInt (x_4.toInt + 5) := by
      obtain ⟨f_6, l_6, u_6⟩ := z_add ex_6 rfl ti_5
      try replace f_6 : x_6.toInt = x_4.toInt + 5 := by omega
      clear l_6 u_6
      show x_6.toInt = (x_4.toInt + 5)
      omega
    have hl_hr_7 : (5 : Int) ≤ 5 ∧ 5 ≤ (5 : Int) := by decide
    have hid_hr_7 : (x_4.toInt + 5) = x_4.toInt + (5) := by simp only [Int.add_assoc, Int.add_sub_assoc]
    have hr_7 := z_cell (lo := 2) (hi := 8) hbs_8 hi_hr_7 hid_hr_7 hl_hr_7 (by decide)
    replace hid_hr_7 : zEq (x_4.toInt + 5) (x_4.toInt + (5)) := hid_hr_7
    have hin_9 : vp_in x_6 (zn K (zr K a0 0)) := vp_in_iff.mpr (by rw [(hf_5.2.2 (by decide))]; exact hr_7.in)
    refine mld_40 C hs hP hf_5.1 hf_5.2.1 hin_9 dX12_replay_24 ?_
    have ep_10 : x_6.toNatClampNeg = (x_4.toInt + 5).toNat := z_posE hi_hr_7
    rw [ep_10]
    clear ep_10
    refine bz_ne (tgt := 31) hx hb rfl dX12_replay_25 (by decide) (fun c_11 => ?_) (fun c_11 => ?_)
    · skip
      refine lv_aload_n hx hb dX12_replay_31 rfl (lv_at hl 1 rfl) ?_
      refine mg_0 C hs hP ha0 hk0 wf_X12_8 dX12_replay_32 ?_
      refine lv_iload_n hx hb dX12_replay_35 rfl (lv_at hl 0 rfl) ?_
      refine lv_bipush (v := 44) hx hb dX12_replay_36 (by decide) ?_
      refine lv_iadd hx hb dX12_replay_38 ?_
      refine lv_topi (fun x_12 ex_12 => ?_)
      have hi_hr_13 : zEq x_12.toInt (x_4.toInt + 44) := by
        obtain ⟨f_12, l_12, u_12⟩ := z_add ex_12 rfl ti_44
        try replace f_12 : x_12.toInt = x_4.toInt + 44 := by omega
        clear l_12 u_12
        show x_12.toInt = (x_4.toInt + 44)
        omega
      have hl_hr_13 : (44 : Int) ≤ 44 ∧ 44 ≤ (44 : Int) := by decide
      have hid_hr_13 : (x_4.toInt + 44) = x_4.toInt + (44) := by simp only [Int.add_assoc, Int.add_sub_assoc]
      have hr_13 := z_cell (lo := 44) (hi := 44) hbs_8 hi_hr_13 hid_hr_13 hl_hr_13 (by decide)
      replace hid_hr_13 : zEq (x_4.toInt + 44) (x_4.toInt + (44)) := hid_hr_13
      have hin_14 : vp_in x_12 (zn K (zr K a0 0)) := vp_in_iff.mpr (by rw [(hf_5.2.2 (by decide))]; exact hr_13.in)
      refine mld_40 C hs hP hf_5.1 hf_5.2.1 hin_14 dX12_replay_39 ?_
      have ep_15 : x_12.toNatClampNeg = (x_4.toInt + 44).toNat := z_posE hi_hr_13
      rw [ep_15]
      have tv_16 := rv_44 hT hr_13
      rw [ep_15] at tv_16
      clear ep_15
      refine lv_bipush (v := 100) hx hb dX12_replay_40 (by decide) ?_
      refine bi_le (tgt := 47) hx hb rfl ti_100 dX12_replay_42 (by decide) (fun c_17 => ?_) (fun c_17 => ?_)
      · skip
        refine lv_aload_n hx hb dX12_replay_47 rfl (lv_at hl 1 rfl) ?_
        refine lv_iload_n hx hb dX12_replay_48 rfl (lv_at hl 2 rfl) ?_
        refine lv_iconst (v := 4) hx hb dX12_replay_49 (by decide) ?_
        have hTo := hT
        have hq_18 : 0 ≤ x1.toInt ∧ x1.toInt ≤ 36 := by ((try simp only [ti_4]); first | assumption | omega | (intros; omega))
        have hq_19 : 0 ≤ (4 : Int32).toInt ∧ (4 : Int32).toInt ≤ 36 := by ((try simp only [ti_4]); first | assumption | omega | (intros; omega))
        have hq_20 : x1.toInt ≠ (4 : Int32).toInt := by ((try simp only [ti_4]); first | assumption | omega | (intros; omega))
        refine mcV (zrV (As := [.int x1, .int 4]) (b := a0) (rest := []) C hs hP hS (c_X12_copy l D K hM f A hT a0 ha0 hk0 x1 4 hq_18 hq_19 hq_20) m_X12_copy wm_X12_95 (zrecv hs hP ha0 (zF_11 hk0) rfl) ⟨by decide, by decide⟩ hl.1 (Nat.le_of_ble_eq_true rfl) dX12_replay_50) hS (fun f_21 A_21 H locs p_21 hP hS => ?_)
        obtain ⟨hT, hA_21, hF_21, hC_21, pp_21⟩ := p_21
        have pp_21 : cpy (A 40) (A_21 40) (1290 * (4 : Int32).toInt) (1290 * x1.toInt) 1290 := pp_21
        have pp0_21 := zHid.mk pp_21
        try simp only [ti_4] at pp_21
        have hff_21 : f = f_21 := funext (fun k9 => (hF_21 k9 List.not_mem_nil).symm)
        subst hff_21
        have FA := frA FA hA_21 (by decide)
        have FF := frF FF hF_21 (by decide)
        have hC4 : fC (A 40) (A_21 40) (1290 * 4) [(0, 1289)] := by have h9 := hC_21; rw [ti_4] at h9; exact h9
        have hY4 : cpy (A 40) (A_21 40) (1290 * 4) (1290 * x1.toInt) 1290 := by have h9 := pp0_21; rw [ti_4] at h9; exact h9
        have aRc := aR.cp (t := 4) (s := x1.toInt) aRc hTo (by decide) (by omega) hC4 hY4
        refine lv_aload_n hx hb dX12_replay_53 rfl (lv_at hl 1 rfl) ?_
        refine lv_iconst (v := 1) hx hb dX12_replay_54 (by decide) ?_
        refine mp_12 C hM hs hP hS ha0 hT hk0 wf_X12_78 (Or.inr rfl) (show 0 ≤ (1 : Int32).toInt ∧ (1 : Int32).toInt ≤ 1 from by rw [ti_1]; omega) dX12_replay_55 (fun f_22 H locs hE_22 hT hP hS => ?_)
        have FF := frF FF (frFu hE_22) (by decide)
        refine lv_iconst (v := 0) hx hb dX12_replay_58 (by decide) ?_
        refine lv_istore_n (lv' := [(3, .int 0), (2, .int x_4), (0, .ref a0), (1, .int x1)]) hx hb dX12_replay_59 rfl hl (by decide) rfl (fun ls hl => ?_)
        have L_60_24 : ∀ (n_24 : Nat) (f_25 : Nat → Int32) (A_25 : Nat → Nat → Int32) (H : Heap) (locs : List Loc) (y_23 : Int32) (ls : Array Slot), (2147483648 - y_23.toInt).toNat < n_24 → 0 ≤ y_23.toInt → y_23.toInt ≤ 100 → aR (A_25 40) N → (f_25 11).toInt = (f 11).toInt → (f_25 12).toInt = 1 → (f 9).toInt ≤ (f_25 9).toInt → (f_25 9).toInt ≤ (f 9).toInt + 2 * y_23.toInt → (A_25 40 (x_4.toInt + 44).toNat).toInt = (A 40 (x_4.toInt + 44).toNat).toInt → (A_25 40 ((5160 : Int) + 1).toNat).toInt = (A_25 40 (x_4.toInt + 1).toNat).toInt → (∀ k, k ∉ ([40, 48, 50, 53, 55, 58, 59, 61, 62, 66, 69, 70, 71, 72, 73] : List Nat) → A_25 k = A k) → (∀ k, k ∉ ([9, 11, 12, 14, 16, 17, 20, 23, 24, 25, 27, 28, 34, 35] : List Nat) → f_25 k = f k) → mT f_25 A_25 → va_P D vwCl (zW K (mV K f_25 A_25)) H → va_S (zA K) s.heap H locs → lv_has ls 7 [(3, .int y_23), (2, .int x_4), (0, .ref a0), (1, .int x1)] → W p l e (rmd 8) s m args below meth c H locs 0 0 Q (F0 m 60 ls []) := by
          intro n_24
          induction n_24 with
          | zero => intro f_25 A_25 H locs y_23 ls hm_24; exact absurd hm_24 (Nat.not_lt_zero _)
          | succ n_24 ih_24 =>
            intro f_25 A_25 H locs y_23 ls hm_24 iv_25_0 iv_25_1 iv_25_2 iv_25_3 iv_25_4 iv_25_5 iv_25_6 iv_25_7 iv_25_8 FA_25 FF_25 hT hP hS hl
            have FA := FA_25
            have FF := FF_25
            have aRc := iv_25_2
            refine lv_iload_n hx hb dX12_replay_60 rfl (lv_at hl 0 rfl) ?_
            refine lv_aload_n hx hb dX12_replay_61 rfl (lv_at hl 2 rfl) ?_
            refine mg_0 C hs hP ha0 hk0 wf_X12_8 dX12_replay_62 ?_
            refine lv_iload_n hx hb dX12_replay_65 rfl (lv_at hl 1 rfl) ?_
            refine lv_bipush (v := 44) hx hb dX12_replay_66 (by decide) ?_
            refine lv_iadd hx hb dX12_replay_68 ?_
            refine lv_topi (fun x_27 ex_27 => ?_)
            have hi_hr_28 : zEq x_27.toInt (x_4.toInt + 44) := by
              obtain ⟨f_27, l_27, u_27⟩ := z_add ex_27 rfl ti_44
              try replace f_27 : x_27.toInt = x_4.toInt + 44 := by omega
              clear l_27 u_27
              show x_27.toInt = (x_4.toInt + 44)
              omega
            have hl_hr_28 : (44 : Int) ≤ 44 ∧ 44 ≤ (44 : Int) := by decide
            have hid_hr_28 : (x_4.toInt + 44) = x_4.toInt + (44) := by simp only [Int.add_assoc, Int.add_sub_assoc]
            have hr_28 := z_cell (lo := 44) (hi := 44) hbs_8 hi_hr_28 hid_hr_28 hl_hr_28 (by decide)
            replace hid_hr_28 : zEq (x_4.toInt + 44) (x_4.toInt + (44)) := hid_hr_28
            have hin_29 : vp_in x_27 (zn K (zr K a0 0)) := vp_in_iff.mpr (by rw [(hf_5.2.2 (by decide))]; exact hr_28.in)
            refine mld_40 C hs hP hf_5.1 hf_5.2.1 hin_29 dX12_replay_69 ?_
            have ep_30 : x_27.toNatClampNeg = (x_4.toInt + 44).toNat := z_posE hi_hr_28
            rw [ep_30]
            have tv_31 := rv_44 hT hr_28
            rw [ep_30] at tv_31
            clear ep_30
            refine bi_ge (tgt := 128) hx hb rfl rfl dX12_replay_70 (by decide) (fun c_32 => ?_) (fun c_32 => ?_)
            · skip
              refine lv_aload_n hx hb dX12_replay_128 rfl (lv_at hl 2 rfl) ?_
              refine lv_iconst (v := 0) hx hb dX12_replay_129 (by decide) ?_
              refine mp_12 C hM hs hP hS ha0 hT hk0 wf_X12_78 (Or.inl rfl) (show 0 ≤ (0 : Int32).toInt ∧ (0 : Int32).toInt ≤ 1 from by rw [ti_0]; omega) dX12_replay_130 (fun f_74 H locs hE_74 hT hP hS => ?_)
              have FF := frF FF (frFu hE_74) (by decide)
              refine lv_aload_n hx hb dX12_replay_133 rfl (lv_at hl 2 rfl) ?_
              refine lv_iconst (v := (-1)) hx hb dX12_replay_134 (by decide) ?_
              refine mp_23 C hM hs hP hS ha0 hT hk0 wf_X12_56 trivial dX12_replay_135 (fun f_75 H locs hE_75 hT hP hS => ?_)
              have FF := frF FF (frFu hE_75) (by decide)
              refine lv_sipush (v := 5160) hx hb dX12_replay_138 (by decide) ?_
              refine lv_topi (fun x_76 ex_76 => ?_)
              refine lv_istore_n (lv' := [(3, .int x_76), (2, .int x_4), (0, .ref a0), (1, .int x1)]) hx hb dX12_replay_141 rfl hl (by decide) rfl (fun ls hl => ?_)
              refine lv_aload_n hx hb dX12_replay_142 rfl (lv_at hl 2 rfl) ?_
              refine mg_0 C hs hP ha0 hk0 wf_X12_8 dX12_replay_143 ?_
              refine lv_iload_n hx hb dX12_replay_146 rfl (lv_at hl 1 rfl) ?_
              refine lv_bipush (v := 21) hx hb dX12_replay_147 (by decide) ?_
              refine lv_iadd hx hb dX12_replay_149 ?_
              refine lv_topi (fun x_77 ex_77 => ?_)
              have hi_hr_78 : zEq x_77.toInt (x_4.toInt + 21) := by
                obtain ⟨f_77, l_77, u_77⟩ := z_add ex_77 rfl ti_21
                try replace f_77 : x_77.toInt = x_4.toInt + 21 := by omega
                clear l_77 u_77
                show x_77.toInt = (x_4.toInt + 21)
                omega
              have hl_hr_78 : (21 : Int) ≤ 21 ∧ 21 ≤ (21 : Int) := by decide
              have hid_hr_78 : (x_4.toInt + 21) = x_4.toInt + (21) := by simp only [Int.add_assoc, Int.add_sub_assoc]
              have hr_78 := z_cell (lo := 20) (hi := 21) hbs_8 hi_hr_78 hid_hr_78 hl_hr_78 (by decide)
              replace hid_hr_78 : zEq (x_4.toInt + 21) (x_4.toInt + (21)) := hid_hr_78
              have hin_79 : vp_in x_77 (zn K (zr K a0 0)) := vp_in_iff.mpr (by rw [(hf_5.2.2 (by decide))]; exact hr_78.in)
              refine mld_40 C hs hP hf_5.1 hf_5.2.1 hin_79 dX12_replay_150 ?_
              have ep_80 : x_77.toNatClampNeg = (x_4.toInt + 21).toNat := z_posE hi_hr_78
              rw [ep_80]
              have tv_81 := rv_20 hT hr_78
              rw [ep_80] at tv_81
              clear ep_80
              refine lv_aload_n hx hb dX12_replay_151 rfl (lv_at hl 2 rfl) ?_
              refine mg_0 C hs hP ha0 hk0 wf_X12_8 dX12_replay_152 ?_
              refine lv_iload_n hx hb dX12_replay_155 rfl (lv_at hl 0 rfl) ?_
              refine lv_bipush (v := 21) hx hb dX12_replay_156 (by decide) ?_
              refine lv_iadd hx hb dX12_replay_158 ?_
              refine lv_topi (fun x_82 ex_82 => ?_)
              have f_d76 : x_76.toInt = 5160 := by rw [ex_76]; exact ti_5160
              have hbs_84 : zRow x_76.toInt := zRow.of (t := 4) (by omega) (by omega)
              have hbl_hbs_84 := hbs_84.lin
              have hi_hr_83 : zEq x_82.toInt (x_76.toInt + 21) := by
                obtain ⟨f_82, l_82, u_82⟩ := z_add ex_82 rfl ti_21
                try replace f_82 : x_82.toInt = x_76.toInt + 21 := by omega
                clear l_82 u_82
                show x_82.toInt = (x_76.toInt + 21)
                omega
              have hl_hr_83 : (21 : Int) ≤ 21 ∧ 21 ≤ (21 : Int) := by decide
              have hid_hr_83 : (x_76.toInt + 21) = x_76.toInt + (21) := by simp only [Int.add_assoc, Int.add_sub_assoc]
              have hr_83 := z_cell (lo := 20) (hi := 21) hbs_84 hi_hr_83 hid_hr_83 hl_hr_83 (by decide)
              replace hid_hr_83 : zEq (x_76.toInt + 21) (x_76.toInt + (21)) := hid_hr_83
              have hin_85 : vp_in x_82 (zn K (zr K a0 0)) := vp_in_iff.mpr (by rw [(hf_5.2.2 (by decide))]; exact hr_83.in)
              refine mld_40 C hs hP hf_5.1 hf_5.2.1 hin_85 dX12_replay_159 ?_
              have ep_86 : x_82.toNatClampNeg = (x_76.toInt + 21).toNat := z_posE hi_hr_83
              rw [ep_86]
              have tv_87 := rv_20 hT hr_83
              rw [ep_86] at tv_87
              clear ep_86
              have J_168_90 : ∀ (y_89 : Int32) (ls : Array Slot), (y_89 = 0 ∨ y_89 = 1) → lv_has ls 7 [(0, .ref a0), (1, .int x1), (2, .int x_4), (3, .int x_76)] → W p l e (rmd 8) s m args below meth c H locs 0 0 Q (F0 m 168 ls [.int y_89]) := by
                intro y_89 ls hb_y_89 hl
                refine lv_istore (lv' := [(4, .int y_89), (0, .ref a0), (1, .int x1), (2, .int x_4), (3, .int x_76)]) hx hb dX12_replay_168 hl (by decide) rfl (fun ls hl => ?_)
                refine lv_iconst (v := 0) hx hb dX12_replay_170 (by decide) ?_
                refine lv_istore (lv' := [(5, .int 0), (4, .int y_89), (0, .ref a0), (1, .int x1), (2, .int x_4), (3, .int x_76)]) hx hb dX12_replay_171 hl (by decide) rfl (fun ls hl => ?_)
                have L_173_94 : ∀ (n_94 : Nat) (y_92 : Int32) (y_93 : Int32) (ls : Array Slot), (2147483648 - y_92.toInt).toNat < n_94 → (y_93 = 0 ∨ y_93 = 1) → 0 ≤ y_92.toInt → lv_has ls 7 [(5, .int y_92), (4, .int y_93), (0, .ref a0), (1, .int x1), (2, .int x_4), (3, .int x_76)] → W p l e (rmd 8) s m args below meth c H locs 0 0 Q (F0 m 173 ls []) := by
                  intro n_94
                  induction n_94 with
                  | zero => intro y_92 y_93 ls hm_94; exact absurd hm_94 (Nat.not_lt_zero _)
                  | succ n_94 ih_94 =>
                    intro y_92 y_93 ls hm_94 hb_y_93 iv_95_0 hl
                    refine lv_iload hx hb dX12_replay_173 (lv_at hl 0 rfl) ?_
                    refine lv_iconst (v := 2) hx hb dX12_replay_175 (by decide) ?_
                    refine bi_ge (tgt := 251) hx hb rfl ti_2 dX12_replay_176 (by decide) (fun c_96 => ?_) (fun c_96 => ?_)
                    · skip
                      refine lv_iconst (v := 0) hx hb dX12_replay_251 (by decide) ?_
                      refine lv_istore (lv' := [(5, .int 0), (4, .int y_93), (0, .ref a0), (1, .int x1), (2, .int x_4), (3, .int x_76)]) hx hb dX12_replay_252 hl (by decide) rfl (fun ls hl => ?_)
                      have L_254_165 : ∀ (n_165 : Nat) (y_163 : Int32) (y_164 : Int32) (ls : Array Slot), (2147483648 - y_163.toInt).toNat < n_165 → (y_164 = 0 ∨ y_164 = 1) → 0 ≤ y_163.toInt → lv_has ls 7 [(5, .int y_163), (4, .int y_164), (0, .ref a0), (1, .int x1), (2, .int x_4), (3, .int x_76)] → W p l e (rmd 8) s m args below meth c H locs 0 0 Q (F0 m 254 ls []) := by
                        intro n_165
                        induction n_165 with
                        | zero => intro y_163 y_164 ls hm_165; exact absurd hm_165 (Nat.not_lt_zero _)
                        | succ n_165 ih_165 =>
                          intro y_163 y_164 ls hm_165 hb_y_164 iv_166_0 hl
                          refine lv_iload hx hb dX12_replay_254 (lv_at hl 1 rfl) ?_
                          have J_315_196 : ∀ (ls : Array Slot), lv_has ls 7 [(0, .ref a0), (1, .int x1), (2, .int x_4), (3, .int x_76), (4, .int y_164), (5, .int y_163)] → W p l e (rmd 8) s m args below meth c H locs 0 0 Q (F0 m 315 ls []) := by
                            intro ls hl
                            refine lv_iconst (v := 0) hx hb dX12_replay_315 (by decide) ?_
                            refine lv_istore (lv' := [(5, .int 0), (0, .ref a0), (1, .int x1), (2, .int x_4), (3, .int x_76), (4, .int y_164)]) hx hb dX12_replay_316 hl (by decide) rfl (fun ls hl => ?_)
                            have L_318_200 : ∀ (n_200 : Nat) (y_198 : Int32) (y_199 : Int32) (ls : Array Slot), (2147483648 - y_198.toInt).toNat < n_200 → (y_199 = 0 ∨ y_199 = 1) → 0 ≤ y_198.toInt → lv_has ls 7 [(5, .int y_198), (0, .ref a0), (1, .int x1), (2, .int x_4), (3, .int x_76), (4, .int y_199)] → W p l e (rmd 8) s m args below meth c H locs 0 0 Q (F0 m 318 ls []) := by
                              intro n_200
                              induction n_200 with
                              | zero => intro y_198 y_199 ls hm_200; exact absurd hm_200 (Nat.not_lt_zero _)
                              | succ n_200 ih_200 =>
                                intro y_198 y_199 ls hm_200 hb_y_199 iv_201_0 hl
                                refine lv_iload hx hb dX12_replay_318 (lv_at hl 0 rfl) ?_
                                refine lv_iconst (v := 4) hx hb dX12_replay_320 (by decide) ?_
                                refine bi_ge (tgt := 448) hx hb rfl ti_4 dX12_replay_321 (by decide) (fun c_202 => ?_) (fun c_202 => ?_)
                                · skip
                                  refine lv_iload hx hb dX12_replay_448 (lv_at hl 5 rfl) ?_
                                  refine bz_eq (tgt := 457) hx hb rfl dX12_replay_450 (by decide) (fun c_203 => ?_) (fun c_203 => ?_)
                                  · skip
                                    refine lv_iconst (v := 0) hx hb dX12_replay_457 (by decide) ?_
                                    have ev_204 : f_75 11 = f_25 11 := by rw [hE_75, pk_un (show 11 ≠ 23 by decide), hE_74, pk_un (show 11 ≠ 12 by decide)]
                                    have ev_205 : f_75 9 = f_25 9 := by rw [hE_75, pk_un (show 9 ≠ 23 by decide), hE_74, pk_un (show 9 ≠ 12 by decide)]
                                    have ev_206 : f_75 23 = ((-1) : Int32) := by rw [hE_75, pk_us]
                                    have ev_206_i : (f_75 23).toInt = -1 := by rw [ev_206, ti_m1]
                                    exact maI hQ hx hb hr hlk hP hS ⟨hT, FA, FF, ⟨(aRc.mono (by omega)), (cOk.m1 (by rw [ev_206]; exact ti_m1)), by rw [ev_204] <;> omega, by rw [ev_205] <;> omega⟩⟩ dX12_replay_458
                                  · skip
                                    refine lv_iconst (v := 1) hx hb dX12_replay_453 (by decide) ?_
                                    refine lv_goto (tgt := 458) hx hb dX12_replay_454 (by decide) ?_
                                    have ev_207 : f_75 11 = f_25 11 := by rw [hE_75, pk_un (show 11 ≠ 23 by decide), hE_74, pk_un (show 11 ≠ 12 by decide)]
                                    have ev_208 : f_75 9 = f_25 9 := by rw [hE_75, pk_un (show 9 ≠ 23 by decide), hE_74, pk_un (show 9 ≠ 12 by decide)]
                                    have ev_209 : f_75 23 = ((-1) : Int32) := by rw [hE_75, pk_us]
                                    have ev_209_i : (f_75 23).toInt = -1 := by rw [ev_209, ti_m1]
                                    exact maI hQ hx hb hr hlk hP hS ⟨hT, FA, FF, ⟨(aRc.mono (by omega)), (cOk.m1 (by rw [ev_209]; exact ti_m1)), by rw [ev_207] <;> omega, by rw [ev_208] <;> omega⟩⟩ dX12_replay_458
                                · skip
                                  refine lv_iload hx hb dX12_replay_324 (lv_at hl 5 rfl) ?_
                                  have J_361_229 : ∀ (y_228 : Int32) (ls : Array Slot), (y_228 = 0 ∨ y_228 = 1) → lv_has ls 7 [(0, .ref a0), (1, .int x1), (2, .int x_4), (3, .int x_76), (4, .int y_199), (5, .int y_198)] → W p l e (rmd 8) s m args below meth c H locs 0 0 Q (F0 m 361 ls [.int y_228]) := by
                                    intro y_228 ls hb_y_228 hl
                                    refine lv_istore (lv' := [(4, .int y_228), (0, .ref a0), (1, .int x1), (2, .int x_4), (3, .int x_76), (5, .int y_198)]) hx hb dX12_replay_361 hl (by decide) rfl (fun ls hl => ?_)
                                    refine lv_iconst (v := 0) hx hb dX12_replay_363 (by decide) ?_
                                    refine lv_istore (lv' := [(6, .int 0), (4, .int y_228), (0, .ref a0), (1, .int x1), (2, .int x_4), (3, .int x_76), (5, .int y_198)]) hx hb dX12_replay_364 hl (by decide) rfl (fun ls hl => ?_)
                                    have L_366_233 : ∀ (n_233 : Nat) (y_231 : Int32) (y_232 : Int32) (ls : Array Slot), (2147483648 - y_231.toInt).toNat < n_233 → (y_232 = 0 ∨ y_232 = 1) → 0 ≤ y_231.toInt → lv_has ls 7 [(6, .int y_231), (4, .int y_232), (0, .ref a0), (1, .int x1), (2, .int x_4), (3, .int x_76), (5, .int y_198)] → W p l e (rmd 8) s m args below meth c H locs 0 0 Q (F0 m 366 ls []) := by
                                      intro n_233
                                      induction n_233 with
                                      | zero => intro y_231 y_232 ls hm_233; exact absurd hm_233 (Nat.not_lt_zero _)
                                      | succ n_233 ih_233 =>
                                        intro y_231 y_232 ls hm_233 hb_y_232 iv_234_0 hl
                                        refine lv_iload hx hb dX12_replay_366 (lv_at hl 1 rfl) ?_
                                        have J_442_276 : ∀ (ls : Array Slot), lv_has ls 7 [(0, .ref a0), (1, .int x1), (2, .int x_4), (3, .int x_76), (4, .int y_232), (5, .int y_198), (6, .int y_231)] → W p l e (rmd 8) s m args below meth c H locs 0 0 Q (F0 m 442 ls []) := by
                                          intro ls hl
                                          obtain ⟨x_278, ex_278⟩ : ∃ y : Int32, y = y_198 + 1 := ⟨_, rfl⟩
                                          refine lv_iinc (v := x_278) (lv' := [(5, .int x_278), (0, .ref a0), (1, .int x1), (2, .int x_4), (3, .int x_76), (4, .int y_232), (6, .int y_231)]) hx hb dX12_replay_442 hl (k := 5) rfl (by rw [ex_278]; rfl) (by decide) rfl (fun ls hl => ?_)
                                          refine lv_goto (tgt := 318) hx hb dX12_replay_445 (by decide) ?_
                                          have g_279 := z_rng y_198
                                          obtain ⟨f_278, l_278, u_278⟩ := z_add ex_278 rfl ti_1
                                          try replace f_278 : x_278.toInt = y_198.toInt + 1 := by omega
                                          clear l_278 u_278
                                          exact ih_200 x_278 y_232 _ (by omega) hb_y_232 (by omega) (lv_sub hl [0, 1, 2, 3, 4, 5] rfl)
                                        refine bz_eq (tgt := 442) hx hb rfl dX12_replay_368 (by decide) (fun c_235 => ?_) (fun c_235 => ?_)
                                        · skip
                                          exact J_442_276 _ (lv_sub hl [2, 3, 4, 5, 1, 6, 0] rfl)
                                        · skip
                                          refine lv_iload hx hb dX12_replay_371 (lv_at hl 0 rfl) ?_
                                          refine lv_aload_n hx hb dX12_replay_373 rfl (lv_at hl 2 rfl) ?_
                                          refine mg_0 C hs hP ha0 hk0 wf_X12_8 dX12_replay_374 ?_
                                          refine lv_iload_n hx hb dX12_replay_377 rfl (lv_at hl 4 rfl) ?_
                                          refine lv_bipush (v := 22) hx hb dX12_replay_378 (by decide) ?_
                                          refine lv_iadd hx hb dX12_replay_380 ?_
                                          refine lv_topi (fun x_280 ex_280 => ?_)
                                          refine lv_iload hx hb dX12_replay_381 (lv_at hl 6 rfl) ?_
                                          refine lv_iadd hx hb dX12_replay_383 ?_
                                          refine lv_topi (fun x_281 ex_281 => ?_)
                                          have hi_hr_282 : zEq x_281.toInt (x_4.toInt + y_198.toInt + 22) := by
                                            obtain ⟨f_280, l_280, u_280⟩ := z_add ex_280 rfl ti_22
                                            try replace f_280 : x_280.toInt = x_4.toInt + 22 := by omega
                                            clear l_280 u_280
                                            have g_283 := z_rng y_198
                                            obtain ⟨f_281, l_281, u_281⟩ := z_add ex_281 rfl rfl
                                            try replace f_281 : x_281.toInt = x_280.toInt + y_198.toInt := by omega
                                            clear l_281 u_281
                                            show x_281.toInt = (x_4.toInt + y_198.toInt + 22)
                                            omega
                                          have hl_hr_282 : 22 ≤ y_198.toInt + 22 ∧ y_198.toInt + 22 ≤ 25 := by
                                            have g_284 := z_rng y_198
                                            omega
                                          have hid_hr_282 : (x_4.toInt + y_198.toInt + 22) = x_4.toInt + (y_198.toInt + 22) := by simp only [Int.add_assoc, Int.add_sub_assoc]
                                          have hr_282 := z_cell (lo := 22) (hi := 25) hbs_8 hi_hr_282 hid_hr_282 hl_hr_282 (by decide)
                                          replace hid_hr_282 : zEq (x_4.toInt + y_198.toInt + 22) (x_4.toInt + (y_198.toInt + 22)) := hid_hr_282
                                          have hin_285 : vp_in x_281 (zn K (zr K a0 0)) := vp_in_iff.mpr (by rw [(hf_5.2.2 (by decide))]; exact hr_282.in)
                                          refine mld_40 C hs hP hf_5.1 hf_5.2.1 hin_285 dX12_replay_384 ?_
                                          have ep_286 : x_281.toNatClampNeg = (x_4.toInt + y_198.toInt + 22).toNat := z_posE hi_hr_282
                                          rw [ep_286]
                                          have tv_287 := rv_22 hT hr_282
                                          rw [ep_286] at tv_287
                                          clear ep_286
                                          refine bi_ge (tgt := 442) hx hb rfl rfl dX12_replay_385 (by decide) (fun c_288 => ?_) (fun c_288 => ?_)
                                          · skip
                                            exact J_442_276 _ (lv_sub hl [2, 3, 4, 5, 1, 6, 0] rfl)
                                          · skip
                                            refine lv_aload_n hx hb dX12_replay_388 rfl (lv_at hl 2 rfl) ?_
                                            refine mg_0 C hs hP ha0 hk0 wf_X12_8 dX12_replay_389 ?_
                                            refine lv_iload_n hx hb dX12_replay_392 rfl (lv_at hl 4 rfl) ?_
                                            refine lv_sipush (v := 230) hx hb dX12_replay_393 (by decide) ?_
                                            refine lv_iadd hx hb dX12_replay_396 ?_
                                            refine lv_topi (fun x_289 ex_289 => ?_)
                                            refine lv_bipush (v := 60) hx hb dX12_replay_397 (by decide) ?_
                                            refine lv_iload hx hb dX12_replay_399 (lv_at hl 6 rfl) ?_
                                            refine lv_imul hx hb dX12_replay_401 ?_
                                            refine lv_topi (fun x_290 ex_290 => ?_)
                                            refine lv_iadd hx hb dX12_replay_402 ?_
                                            refine lv_topi (fun x_291 ex_291 => ?_)
                                            refine lv_iload hx hb dX12_replay_403 (lv_at hl 0 rfl) ?_
                                            refine lv_iadd hx hb dX12_replay_405 ?_
                                            refine lv_topi (fun x_292 ex_292 => ?_)
                                            have hi_hr_293 : zEq x_292.toInt (x_4.toInt + 60 * y_198.toInt + y_231.toInt + 230) := by
                                              obtain ⟨f_289, l_289, u_289⟩ := z_add ex_289 rfl ti_230
                                              try replace f_289 : x_289.toInt = x_4.toInt + 230 := by omega
                                              clear l_289 u_289
                                              have g_294 := z_rng y_198
                                              obtain ⟨f_290, l_290, u_290⟩ := z_mul ex_290 ti_60 rfl
                                              try replace f_290 : x_290.toInt = 60 * y_198.toInt := by omega
                                              clear l_290 u_290
                                              obtain ⟨f_291, l_291, u_291⟩ := z_add ex_291 rfl rfl
                                              try replace f_291 : x_291.toInt = x_289.toInt + x_290.toInt := by omega
                                              clear l_291 u_291
                                              have g_295 := z_rng y_231
                                              obtain ⟨f_292, l_292, u_292⟩ := z_add ex_292 rfl rfl
                                              try replace f_292 : x_292.toInt = x_291.toInt + y_231.toInt := by omega
                                              clear l_292 u_292
                                              show x_292.toInt = (x_4.toInt + 60 * y_198.toInt + y_231.toInt + 230)
                                              omega
                                            have hl_hr_293 : 230 ≤ 60 * y_198.toInt + y_231.toInt + 230 ∧ 60 * y_198.toInt + y_231.toInt + 230 ≤ 469 := by
                                              have g_296 := z_rng y_198
                                              have g_297 := z_rng y_231
                                              omega
                                            have hid_hr_293 : (x_4.toInt + 60 * y_198.toInt + y_231.toInt + 230) = x_4.toInt + (60 * y_198.toInt + y_231.toInt + 230) := by simp only [Int.add_assoc, Int.add_sub_assoc]
                                            have hr_293 := z_cell (lo := 170) (hi := 469) hbs_8 hi_hr_293 hid_hr_293 hl_hr_293 (by decide)
                                            replace hid_hr_293 : zEq (x_4.toInt + 60 * y_198.toInt + y_231.toInt + 230) (x_4.toInt + (60 * y_198.toInt + y_231.toInt + 230)) := hid_hr_293
                                            have hin_298 : vp_in x_292 (zn K (zr K a0 0)) := vp_in_iff.mpr (by rw [(hf_5.2.2 (by decide))]; exact hr_293.in)
                                            refine mld_40 C hs hP hf_5.1 hf_5.2.1 hin_298 dX12_replay_406 ?_
                                            have ep_299 : x_292.toNatClampNeg = (x_4.toInt + 60 * y_198.toInt + y_231.toInt + 230).toNat := z_posE hi_hr_293
                                            rw [ep_299]
                                            have tv_300 := rv_170 hT hr_293
                                            rw [ep_299] at tv_300
                                            clear ep_299
                                            refine lv_aload_n hx hb dX12_replay_407 rfl (lv_at hl 2 rfl) ?_
                                            refine mg_0 C hs hP ha0 hk0 wf_X12_8 dX12_replay_408 ?_
                                            refine lv_iload_n hx hb dX12_replay_411 rfl (lv_at hl 5 rfl) ?_
                                            refine lv_sipush (v := 230) hx hb dX12_replay_412 (by decide) ?_
                                            refine lv_iadd hx hb dX12_replay_415 ?_
                                            refine lv_topi (fun x_301 ex_301 => ?_)
                                            refine lv_bipush (v := 60) hx hb dX12_replay_416 (by decide) ?_
                                            refine lv_iload hx hb dX12_replay_418 (lv_at hl 6 rfl) ?_
                                            refine lv_imul hx hb dX12_replay_420 ?_
                                            refine lv_topi (fun x_302 ex_302 => ?_)
                                            refine lv_iadd hx hb dX12_replay_421 ?_
                                            refine lv_topi (fun x_303 ex_303 => ?_)
                                            refine lv_iload hx hb dX12_replay_422 (lv_at hl 0 rfl) ?_
                                            refine lv_iadd hx hb dX12_replay_424 ?_
                                            refine lv_topi (fun x_304 ex_304 => ?_)
                                            have hi_hr_305 : zEq x_304.toInt (x_76.toInt + 60 * y_198.toInt + y_231.toInt + 230) := by
                                              obtain ⟨f_301, l_301, u_301⟩ := z_add ex_301 rfl ti_230
                                              try replace f_301 : x_301.toInt = x_76.toInt + 230 := by omega
                                              clear l_301 u_301
                                              have g_306 := z_rng y_198
                                              obtain ⟨f_302, l_302, u_302⟩ := z_mul ex_302 ti_60 rfl
                                              try replace f_302 : x_302.toInt = 60 * y_198.toInt := by omega
                                              clear l_302 u_302
                                              obtain ⟨f_303, l_303, u_303⟩ := z_add ex_303 rfl rfl
                                              try replace f_303 : x_303.toInt = x_301.toInt + x_302.toInt := by omega
                                              clear l_303 u_303
                                              have g_307 := z_rng y_231
                                              obtain ⟨f_304, l_304, u_304⟩ := z_add ex_304 rfl rfl
                                              try replace f_304 : x_304.toInt = x_303.toInt + y_231.toInt := by omega
                                              clear l_304 u_304
                                              show x_304.toInt = (x_76.toInt + 60 * y_198.toInt + y_231.toInt + 230)
                                              omega
                                            have hl_hr_305 : 230 ≤ 60 * y_198.toInt + y_231.toInt + 230 ∧ 60 * y_198.toInt + y_231.toInt + 230 ≤ 469 := by
                                              have g_308 := z_rng y_198
                                              have g_309 := z_rng y_231
                                              omega
                                            have hid_hr_305 : (x_76.toInt + 60 * y_198.toInt + y_231.toInt + 230) = x_76.toInt + (60 * y_198.toInt + y_231.toInt + 230) := by simp only [Int.add_assoc, Int.add_sub_assoc]
                                            have hr_305 := z_cell (lo := 170) (hi := 469) hbs_84 hi_hr_305 hid_hr_305 hl_hr_305 (by decide)
                                            replace hid_hr_305 : zEq (x_76.toInt + 60 * y_198.toInt + y_231.toInt + 230) (x_76.toInt + (60 * y_198.toInt + y_231.toInt + 230)) := hid_hr_305
                                            have hin_310 : vp_in x_304 (zn K (zr K a0 0)) := vp_in_iff.mpr (by rw [(hf_5.2.2 (by decide))]; exact hr_305.in)
                                            refine mld_40 C hs hP hf_5.1 hf_5.2.1 hin_310 dX12_replay_425 ?_
                                            have ep_311 : x_304.toNatClampNeg = (x_76.toInt + 60 * y_198.toInt + y_231.toInt + 230).toNat := z_posE hi_hr_305
                                            rw [ep_311]
                                            have tv_312 := rv_170 hT hr_305
                                            rw [ep_311] at tv_312
                                            clear ep_311
                                            have J_434_315 : ∀ (y_314 : Int32) (ls : Array Slot), (y_314 = 0 ∨ y_314 = 1) → lv_has ls 7 [(0, .ref a0), (1, .int x1), (2, .int x_4), (3, .int x_76), (4, .int y_232), (5, .int y_198), (6, .int y_231)] → W p l e (rmd 8) s m args below meth c H locs 0 0 Q (F0 m 434 ls [.int y_314]) := by
                                              intro y_314 ls hb_y_314 hl
                                              refine lv_istore (lv' := [(4, .int y_314), (0, .ref a0), (1, .int x1), (2, .int x_4), (3, .int x_76), (5, .int y_198), (6, .int y_231)]) hx hb dX12_replay_434 hl (by decide) rfl (fun ls hl => ?_)
                                              obtain ⟨x_317, ex_317⟩ : ∃ y : Int32, y = y_231 + 1 := ⟨_, rfl⟩
                                              refine lv_iinc (v := x_317) (lv' := [(6, .int x_317), (4, .int y_314), (0, .ref a0), (1, .int x1), (2, .int x_4), (3, .int x_76), (5, .int y_198)]) hx hb dX12_replay_436 hl (k := 6) rfl (by rw [ex_317]; rfl) (by decide) rfl (fun ls hl => ?_)
                                              refine lv_goto (tgt := 366) hx hb dX12_replay_439 (by decide) ?_
                                              have g_318 := z_rng y_231
                                              obtain ⟨f_317, l_317, u_317⟩ := z_add ex_317 rfl ti_1
                                              try replace f_317 : x_317.toInt = y_231.toInt + 1 := by omega
                                              clear l_317 u_317
                                              have g_319 := z_rng (A_25 40 (x_4.toInt + y_198.toInt + 22).toNat)
                                              have g_320 := z_rng y_232
                                              exact ih_233 x_317 y_314 _ (by omega) hb_y_314 (by omega) (lv_sub hl [0, 1, 2, 3, 4, 5, 6] rfl)
                                            refine bi_ne (tgt := 433) hx hb rfl rfl dX12_replay_426 (by decide) (fun c_313 => ?_) (fun c_313 => ?_)
                                            · skip
                                              refine lv_iconst (v := 0) hx hb dX12_replay_433 (by decide) ?_
                                              exact J_434_315 0 _ (Or.inl rfl) (lv_sub hl [2, 3, 4, 5, 1, 6, 0] rfl)
                                            · skip
                                              refine lv_iconst (v := 1) hx hb dX12_replay_429 (by decide) ?_
                                              refine lv_goto (tgt := 434) hx hb dX12_replay_430 (by decide) ?_
                                              exact J_434_315 1 _ (Or.inr rfl) (lv_sub hl [2, 3, 4, 5, 1, 6, 0] rfl)
                                    have g_321 := z_rng y_198
                                    exact L_366_233 _ 0 y_228 _ (Nat.lt_succ_self _) hb_y_228 (by (try simp only [ti_0]); omega) (lv_sub hl [0, 1, 2, 3, 4, 5, 6] rfl)
                                  refine bz_eq (tgt := 360) hx hb rfl dX12_replay_326 (by decide) (fun c_210 => ?_) (fun c_210 => ?_)
                                  · skip
                                    refine lv_iconst (v := 0) hx hb dX12_replay_360 (by decide) ?_
                                    exact J_361_229 0 _ (Or.inl rfl) (lv_sub hl [1, 2, 3, 4, 5, 0] rfl)
                                  · skip
                                    refine lv_aload_n hx hb dX12_replay_329 rfl (lv_at hl 1 rfl) ?_
                                    refine mg_0 C hs hP ha0 hk0 wf_X12_8 dX12_replay_330 ?_
                                    refine lv_iload_n hx hb dX12_replay_333 rfl (lv_at hl 3 rfl) ?_
                                    refine lv_bipush (v := 22) hx hb dX12_replay_334 (by decide) ?_
                                    refine lv_iadd hx hb dX12_replay_336 ?_
                                    refine lv_topi (fun x_322 ex_322 => ?_)
                                    refine lv_iload hx hb dX12_replay_337 (lv_at hl 0 rfl) ?_
                                    refine lv_iadd hx hb dX12_replay_339 ?_
                                    refine lv_topi (fun x_323 ex_323 => ?_)
                                    have hi_hr_324 : zEq x_323.toInt (x_4.toInt + y_198.toInt + 22) := by
                                      obtain ⟨f_322, l_322, u_322⟩ := z_add ex_322 rfl ti_22
                                      try replace f_322 : x_322.toInt = x_4.toInt + 22 := by omega
                                      clear l_322 u_322
                                      have g_325 := z_rng y_198
                                      obtain ⟨f_323, l_323, u_323⟩ := z_add ex_323 rfl rfl
                                      try replace f_323 : x_323.toInt = x_322.toInt + y_198.toInt := by omega
                                      clear l_323 u_323
                                      show x_323.toInt = (x_4.toInt + y_198.toInt + 22)
                                      omega
                                    have hl_hr_324 : 22 ≤ y_198.toInt + 22 ∧ y_198.toInt + 22 ≤ 25 := by
                                      have g_326 := z_rng y_198
                                      omega
                                    have hid_hr_324 : (x_4.toInt + y_198.toInt + 22) = x_4.toInt + (y_198.toInt + 22) := by simp only [Int.add_assoc, Int.add_sub_assoc]
                                    have hr_324 := z_cell (lo := 22) (hi := 25) hbs_8 hi_hr_324 hid_hr_324 hl_hr_324 (by decide)
                                    replace hid_hr_324 : zEq (x_4.toInt + y_198.toInt + 22) (x_4.toInt + (y_198.toInt + 22)) := hid_hr_324
                                    have hin_327 : vp_in x_323 (zn K (zr K a0 0)) := vp_in_iff.mpr (by rw [(hf_5.2.2 (by decide))]; exact hr_324.in)
                                    refine mld_40 C hs hP hf_5.1 hf_5.2.1 hin_327 dX12_replay_340 ?_
                                    have ep_328 : x_323.toNatClampNeg = (x_4.toInt + y_198.toInt + 22).toNat := z_posE hi_hr_324
                                    rw [ep_328]
                                    have tv_329 := rv_22 hT hr_324
                                    rw [ep_328] at tv_329
                                    clear ep_328
                                    refine lv_aload_n hx hb dX12_replay_341 rfl (lv_at hl 1 rfl) ?_
                                    refine mg_0 C hs hP ha0 hk0 wf_X12_8 dX12_replay_342 ?_
                                    refine lv_iload_n hx hb dX12_replay_345 rfl (lv_at hl 4 rfl) ?_
                                    refine lv_bipush (v := 22) hx hb dX12_replay_346 (by decide) ?_
                                    refine lv_iadd hx hb dX12_replay_348 ?_
                                    refine lv_topi (fun x_330 ex_330 => ?_)
                                    refine lv_iload hx hb dX12_replay_349 (lv_at hl 0 rfl) ?_
                                    refine lv_iadd hx hb dX12_replay_351 ?_
                                    refine lv_topi (fun x_331 ex_331 => ?_)
                                    have hi_hr_332 : zEq x_331.toInt (x_76.toInt + y_198.toInt + 22) := by
                                      obtain ⟨f_330, l_330, u_330⟩ := z_add ex_330 rfl ti_22
                                      try replace f_330 : x_330.toInt = x_76.toInt + 22 := by omega
                                      clear l_330 u_330
                                      have g_333 := z_rng y_198
                                      obtain ⟨f_331, l_331, u_331⟩ := z_add ex_331 rfl rfl
                                      try replace f_331 : x_331.toInt = x_330.toInt + y_198.toInt := by omega
                                      clear l_331 u_331
                                      show x_331.toInt = (x_76.toInt + y_198.toInt + 22)
                                      omega
                                    have hl_hr_332 : 22 ≤ y_198.toInt + 22 ∧ y_198.toInt + 22 ≤ 25 := by
                                      have g_334 := z_rng y_198
                                      omega
                                    have hid_hr_332 : (x_76.toInt + y_198.toInt + 22) = x_76.toInt + (y_198.toInt + 22) := by simp only [Int.add_assoc, Int.add_sub_assoc]
                                    have hr_332 := z_cell (lo := 22) (hi := 25) hbs_84 hi_hr_332 hid_hr_332 hl_hr_332 (by decide)
                                    replace hid_hr_332 : zEq (x_76.toInt + y_198.toInt + 22) (x_76.toInt + (y_198.toInt + 22)) := hid_hr_332
                                    have hin_335 : vp_in x_331 (zn K (zr K a0 0)) := vp_in_iff.mpr (by rw [(hf_5.2.2 (by decide))]; exact hr_332.in)
                                    refine mld_40 C hs hP hf_5.1 hf_5.2.1 hin_335 dX12_replay_352 ?_
                                    have ep_336 : x_331.toNatClampNeg = (x_76.toInt + y_198.toInt + 22).toNat := z_posE hi_hr_332
                                    rw [ep_336]
                                    have tv_337 := rv_22 hT hr_332
                                    rw [ep_336] at tv_337
                                    clear ep_336
                                    refine bi_ne (tgt := 360) hx hb rfl rfl dX12_replay_353 (by decide) (fun c_338 => ?_) (fun c_338 => ?_)
                                    · skip
                                      refine lv_iconst (v := 0) hx hb dX12_replay_360 (by decide) ?_
                                      exact J_361_229 0 _ (Or.inl rfl) (lv_sub hl [1, 2, 3, 4, 5, 0] rfl)
                                    · skip
                                      refine lv_iconst (v := 1) hx hb dX12_replay_356 (by decide) ?_
                                      refine lv_goto (tgt := 361) hx hb dX12_replay_357 (by decide) ?_
                                      exact J_361_229 1 _ (Or.inr rfl) (lv_sub hl [1, 2, 3, 4, 5, 0] rfl)
                            exact L_318_200 _ 0 y_164 _ (Nat.lt_succ_self _) hb_y_164 (by (try simp only [ti_0]); omega) (lv_sub hl [0, 1, 2, 3, 4, 5] rfl)
                          refine bz_eq (tgt := 315) hx hb rfl dX12_replay_256 (by decide) (fun c_167 => ?_) (fun c_167 => ?_)
                          · skip
                            exact J_315_196 _ (lv_sub hl [2, 3, 4, 5, 1, 0] rfl)
                          · skip
                            refine lv_iload hx hb dX12_replay_259 (lv_at hl 0 rfl) ?_
                            refine lv_aload_n hx hb dX12_replay_261 rfl (lv_at hl 2 rfl) ?_
                            refine mg_0 C hs hP ha0 hk0 wf_X12_8 dX12_replay_262 ?_
                            refine lv_iload_n hx hb dX12_replay_265 rfl (lv_at hl 4 rfl) ?_
                            refine lv_bipush (v := 21) hx hb dX12_replay_266 (by decide) ?_
                            refine lv_iadd hx hb dX12_replay_268 ?_
                            refine lv_topi (fun x_339 ex_339 => ?_)
                            have hi_hr_340 : zEq x_339.toInt (x_4.toInt + 21) := by
                              obtain ⟨f_339, l_339, u_339⟩ := z_add ex_339 rfl ti_21
                              try replace f_339 : x_339.toInt = x_4.toInt + 21 := by omega
                              clear l_339 u_339
                              show x_339.toInt = (x_4.toInt + 21)
                              omega
                            have hl_hr_340 : (21 : Int) ≤ 21 ∧ 21 ≤ (21 : Int) := by decide
                            have hid_hr_340 : (x_4.toInt + 21) = x_4.toInt + (21) := by simp only [Int.add_assoc, Int.add_sub_assoc]
                            have hr_340 := z_cell (lo := 20) (hi := 21) hbs_8 hi_hr_340 hid_hr_340 hl_hr_340 (by decide)
                            replace hid_hr_340 : zEq (x_4.toInt + 21) (x_4.toInt + (21)) := hid_hr_340
                            have hin_341 : vp_in x_339 (zn K (zr K a0 0)) := vp_in_iff.mpr (by rw [(hf_5.2.2 (by decide))]; exact hr_340.in)
                            refine mld_40 C hs hP hf_5.1 hf_5.2.1 hin_341 dX12_replay_269 ?_
                            have ep_342 : x_339.toNatClampNeg = (x_4.toInt + 21).toNat := z_posE hi_hr_340
                            rw [ep_342]
                            clear ep_342
                            refine bi_ge (tgt := 315) hx hb rfl rfl dX12_replay_270 (by decide) (fun c_343 => ?_) (fun c_343 => ?_)
                            · skip
                              exact J_315_196 _ (lv_sub hl [2, 3, 4, 5, 1, 0] rfl)
                            · skip
                              refine lv_aload_n hx hb dX12_replay_273 rfl (lv_at hl 2 rfl) ?_
                              refine mg_0 C hs hP ha0 hk0 wf_X12_8 dX12_replay_274 ?_
                              refine lv_iload_n hx hb dX12_replay_277 rfl (lv_at hl 4 rfl) ?_
                              refine lv_sipush (v := 170) hx hb dX12_replay_278 (by decide) ?_
                              refine lv_iadd hx hb dX12_replay_281 ?_
                              refine lv_topi (fun x_344 ex_344 => ?_)
                              refine lv_iload hx hb dX12_replay_282 (lv_at hl 0 rfl) ?_
                              refine lv_iadd hx hb dX12_replay_284 ?_
                              refine lv_topi (fun x_345 ex_345 => ?_)
                              have hi_hr_346 : zEq x_345.toInt (x_4.toInt + y_163.toInt + 170) := by
                                obtain ⟨f_344, l_344, u_344⟩ := z_add ex_344 rfl ti_170
                                try replace f_344 : x_344.toInt = x_4.toInt + 170 := by omega
                                clear l_344 u_344
                                have g_347 := z_rng y_163
                                obtain ⟨f_345, l_345, u_345⟩ := z_add ex_345 rfl rfl
                                try replace f_345 : x_345.toInt = x_344.toInt + y_163.toInt := by omega
                                clear l_345 u_345
                                show x_345.toInt = (x_4.toInt + y_163.toInt + 170)
                                omega
                              have hl_hr_346 : 170 ≤ y_163.toInt + 170 ∧ y_163.toInt + 170 ≤ 229 := by
                                have g_348 := z_rng y_163
                                omega
                              have hid_hr_346 : (x_4.toInt + y_163.toInt + 170) = x_4.toInt + (y_163.toInt + 170) := by simp only [Int.add_assoc, Int.add_sub_assoc]
                              have hr_346 := z_cell (lo := 170) (hi := 469) hbs_8 hi_hr_346 hid_hr_346 hl_hr_346 (by decide)
                              replace hid_hr_346 : zEq (x_4.toInt + y_163.toInt + 170) (x_4.toInt + (y_163.toInt + 170)) := hid_hr_346
                              have hin_349 : vp_in x_345 (zn K (zr K a0 0)) := vp_in_iff.mpr (by rw [(hf_5.2.2 (by decide))]; exact hr_346.in)
                              refine mld_40 C hs hP hf_5.1 hf_5.2.1 hin_349 dX12_replay_285 ?_
                              have ep_350 : x_345.toNatClampNeg = (x_4.toInt + y_163.toInt + 170).toNat := z_posE hi_hr_346
                              rw [ep_350]
                              have tv_351 := rv_170 hT hr_346
                              rw [ep_350] at tv_351
                              clear ep_350
                              refine lv_aload_n hx hb dX12_replay_286 rfl (lv_at hl 2 rfl) ?_
                              refine mg_0 C hs hP ha0 hk0 wf_X12_8 dX12_replay_287 ?_
                              refine lv_iload_n hx hb dX12_replay_290 rfl (lv_at hl 5 rfl) ?_
                              refine lv_sipush (v := 170) hx hb dX12_replay_291 (by decide) ?_
                              refine lv_iadd hx hb dX12_replay_294 ?_
                              refine lv_topi (fun x_352 ex_352 => ?_)
                              refine lv_iload hx hb dX12_replay_295 (lv_at hl 0 rfl) ?_
                              refine lv_iadd hx hb dX12_replay_297 ?_
                              refine lv_topi (fun x_353 ex_353 => ?_)
                              have hi_hr_354 : zEq x_353.toInt (x_76.toInt + y_163.toInt + 170) := by
                                obtain ⟨f_352, l_352, u_352⟩ := z_add ex_352 rfl ti_170
                                try replace f_352 : x_352.toInt = x_76.toInt + 170 := by omega
                                clear l_352 u_352
                                have g_355 := z_rng y_163
                                obtain ⟨f_353, l_353, u_353⟩ := z_add ex_353 rfl rfl
                                try replace f_353 : x_353.toInt = x_352.toInt + y_163.toInt := by omega
                                clear l_353 u_353
                                show x_353.toInt = (x_76.toInt + y_163.toInt + 170)
                                omega
                              have hl_hr_354 : 170 ≤ y_163.toInt + 170 ∧ y_163.toInt + 170 ≤ 229 := by
                                have g_356 := z_rng y_163
                                omega
                              have hid_hr_354 : (x_76.toInt + y_163.toInt + 170) = x_76.toInt + (y_163.toInt + 170) := by simp only [Int.add_assoc, Int.add_sub_assoc]
                              have hr_354 := z_cell (lo := 170) (hi := 469) hbs_84 hi_hr_354 hid_hr_354 hl_hr_354 (by decide)
                              replace hid_hr_354 : zEq (x_76.toInt + y_163.toInt + 170) (x_76.toInt + (y_163.toInt + 170)) := hid_hr_354
                              have hin_357 : vp_in x_353 (zn K (zr K a0 0)) := vp_in_iff.mpr (by rw [(hf_5.2.2 (by decide))]; exact hr_354.in)
                              refine mld_40 C hs hP hf_5.1 hf_5.2.1 hin_357 dX12_replay_298 ?_
                              have ep_358 : x_353.toNatClampNeg = (x_76.toInt + y_163.toInt + 170).toNat := z_posE hi_hr_354
                              rw [ep_358]
                              have tv_359 := rv_170 hT hr_354
                              rw [ep_358] at tv_359
                              clear ep_358
                              have J_307_362 : ∀ (y_361 : Int32) (ls : Array Slot), (y_361 = 0 ∨ y_361 = 1) → lv_has ls 7 [(0, .ref a0), (1, .int x1), (2, .int x_4), (3, .int x_76), (4, .int y_164), (5, .int y_163)] → W p l e (rmd 8) s m args below meth c H locs 0 0 Q (F0 m 307 ls [.int y_361]) := by
                                intro y_361 ls hb_y_361 hl
                                refine lv_istore (lv' := [(4, .int y_361), (0, .ref a0), (1, .int x1), (2, .int x_4), (3, .int x_76), (5, .int y_163)]) hx hb dX12_replay_307 hl (by decide) rfl (fun ls hl => ?_)
                                obtain ⟨x_364, ex_364⟩ : ∃ y : Int32, y = y_163 + 1 := ⟨_, rfl⟩
                                refine lv_iinc (v := x_364) (lv' := [(5, .int x_364), (4, .int y_361), (0, .ref a0), (1, .int x1), (2, .int x_4), (3, .int x_76)]) hx hb dX12_replay_309 hl (k := 5) rfl (by rw [ex_364]; rfl) (by decide) rfl (fun ls hl => ?_)
                                refine lv_goto (tgt := 254) hx hb dX12_replay_312 (by decide) ?_
                                have g_365 := z_rng y_163
                                obtain ⟨f_364, l_364, u_364⟩ := z_add ex_364 rfl ti_1
                                try replace f_364 : x_364.toInt = y_163.toInt + 1 := by omega
                                clear l_364 u_364
                                have g_366 := z_rng (A_25 40 (x_4.toInt + 21).toNat)
                                have g_367 := z_rng y_164
                                exact ih_165 x_364 y_361 _ (by omega) hb_y_361 (by omega) (lv_sub hl [0, 1, 2, 3, 4, 5] rfl)
                              refine bi_ne (tgt := 306) hx hb rfl rfl dX12_replay_299 (by decide) (fun c_360 => ?_) (fun c_360 => ?_)
                              · skip
                                refine lv_iconst (v := 0) hx hb dX12_replay_306 (by decide) ?_
                                exact J_307_362 0 _ (Or.inl rfl) (lv_sub hl [2, 3, 4, 5, 1, 0] rfl)
                              · skip
                                refine lv_iconst (v := 1) hx hb dX12_replay_302 (by decide) ?_
                                refine lv_goto (tgt := 307) hx hb dX12_replay_303 (by decide) ?_
                                exact J_307_362 1 _ (Or.inr rfl) (lv_sub hl [2, 3, 4, 5, 1, 0] rfl)
                      have g_368 := z_rng y_92
                      exact L_254_165 _ 0 y_93 _ (Nat.lt_succ_self _) hb_y_93 (by (try simp only [ti_0]); omega) (lv_sub hl [0, 1, 2, 3, 4, 5] rfl)
                    · skip
                      refine lv_iload hx hb dX12_replay_179 (lv_at hl 1 rfl) ?_
                      have J_243_401 : ∀ (y_400 : Int32) (ls : Array Slot), (y_400 = 0 ∨ y_400 = 1) → lv_has ls 7 [(0, .ref a0), (1, .int x1), (2, .int x_4), (3, .int x_76), (4, .int y_93), (5, .int y_92)] → W p l e (rmd 8) s m args below meth c H locs 0 0 Q (F0 m 243 ls [.int y_400]) := by
                        intro y_400 ls hb_y_400 hl
                        refine lv_istore (lv' := [(4, .int y_400), (0, .ref a0), (1, .int x1), (2, .int x_4), (3, .int x_76), (5, .int y_92)]) hx hb dX12_replay_243 hl (by decide) rfl (fun ls hl => ?_)
                        obtain ⟨x_403, ex_403⟩ : ∃ y : Int32, y = y_92 + 1 := ⟨_, rfl⟩
                        refine lv_iinc (v := x_403) (lv' := [(5, .int x_403), (4, .int y_400), (0, .ref a0), (1, .int x1), (2, .int x_4), (3, .int x_76)]) hx hb dX12_replay_245 hl (k := 5) rfl (by rw [ex_403]; rfl) (by decide) rfl (fun ls hl => ?_)
                        refine lv_goto (tgt := 173) hx hb dX12_replay_248 (by decide) ?_
                        have g_404 := z_rng y_92
                        obtain ⟨f_403, l_403, u_403⟩ := z_add ex_403 rfl ti_1
                        try replace f_403 : x_403.toInt = y_92.toInt + 1 := by omega
                        clear l_403 u_403
                        exact ih_94 x_403 y_400 _ (by omega) hb_y_400 (by omega) (lv_sub hl [0, 1, 2, 3, 4, 5] rfl)
                      refine bz_eq (tgt := 242) hx hb rfl dX12_replay_181 (by decide) (fun c_369 => ?_) (fun c_369 => ?_)
                      · skip
                        refine lv_iconst (v := 0) hx hb dX12_replay_242 (by decide) ?_
                        exact J_243_401 0 _ (Or.inl rfl) (lv_sub hl [2, 3, 4, 5, 1, 0] rfl)
                      · skip
                        refine lv_aload_n hx hb dX12_replay_184 rfl (lv_at hl 2 rfl) ?_
                        refine mg_0 C hs hP ha0 hk0 wf_X12_8 dX12_replay_185 ?_
                        refine lv_iload_n hx hb dX12_replay_188 rfl (lv_at hl 4 rfl) ?_
                        refine lv_bipush (v := 15) hx hb dX12_replay_189 (by decide) ?_
                        refine lv_iadd hx hb dX12_replay_191 ?_
                        refine lv_topi (fun x_405 ex_405 => ?_)
                        refine lv_iload hx hb dX12_replay_192 (lv_at hl 0 rfl) ?_
                        refine lv_iadd hx hb dX12_replay_194 ?_
                        refine lv_topi (fun x_406 ex_406 => ?_)
                        have hi_hr_407 : zEq x_406.toInt (x_4.toInt + y_92.toInt + 15) := by
                          obtain ⟨f_405, l_405, u_405⟩ := z_add ex_405 rfl ti_15
                          try replace f_405 : x_405.toInt = x_4.toInt + 15 := by omega
                          clear l_405 u_405
                          have g_408 := z_rng y_92
                          obtain ⟨f_406, l_406, u_406⟩ := z_add ex_406 rfl rfl
                          try replace f_406 : x_406.toInt = x_405.toInt + y_92.toInt := by omega
                          clear l_406 u_406
                          show x_406.toInt = (x_4.toInt + y_92.toInt + 15)
                          omega
                        have hl_hr_407 : 15 ≤ y_92.toInt + 15 ∧ y_92.toInt + 15 ≤ 16 := by
                          have g_409 := z_rng y_92
                          omega
                        have hid_hr_407 : (x_4.toInt + y_92.toInt + 15) = x_4.toInt + (y_92.toInt + 15) := by simp only [Int.add_assoc, Int.add_sub_assoc]
                        have hr_407 := z_cell (lo := 10) (hi := 19) hbs_8 hi_hr_407 hid_hr_407 hl_hr_407 (by decide)
                        replace hid_hr_407 : zEq (x_4.toInt + y_92.toInt + 15) (x_4.toInt + (y_92.toInt + 15)) := hid_hr_407
                        have hin_410 : vp_in x_406 (zn K (zr K a0 0)) := vp_in_iff.mpr (by rw [(hf_5.2.2 (by decide))]; exact hr_407.in)
                        refine mld_40 C hs hP hf_5.1 hf_5.2.1 hin_410 dX12_replay_195 ?_
                        have ep_411 : x_406.toNatClampNeg = (x_4.toInt + y_92.toInt + 15).toNat := z_posE hi_hr_407
                        rw [ep_411]
                        clear ep_411
                        refine lv_aload_n hx hb dX12_replay_196 rfl (lv_at hl 2 rfl) ?_
                        refine mg_0 C hs hP ha0 hk0 wf_X12_8 dX12_replay_197 ?_
                        refine lv_iload_n hx hb dX12_replay_200 rfl (lv_at hl 5 rfl) ?_
                        refine lv_bipush (v := 15) hx hb dX12_replay_201 (by decide) ?_
                        refine lv_iadd hx hb dX12_replay_203 ?_
                        refine lv_topi (fun x_412 ex_412 => ?_)
                        refine lv_iload hx hb dX12_replay_204 (lv_at hl 0 rfl) ?_
                        refine lv_iadd hx hb dX12_replay_206 ?_
                        refine lv_topi (fun x_413 ex_413 => ?_)
                        have hi_hr_414 : zEq x_413.toInt (x_76.toInt + y_92.toInt + 15) := by
                          obtain ⟨f_412, l_412, u_412⟩ := z_add ex_412 rfl ti_15
                          try replace f_412 : x_412.toInt = x_76.toInt + 15 := by omega
                          clear l_412 u_412
                          have g_415 := z_rng y_92
                          obtain ⟨f_413, l_413, u_413⟩ := z_add ex_413 rfl rfl
                          try replace f_413 : x_413.toInt = x_412.toInt + y_92.toInt := by omega
                          clear l_413 u_413
                          show x_413.toInt = (x_76.toInt + y_92.toInt + 15)
                          omega
                        have hl_hr_414 : 15 ≤ y_92.toInt + 15 ∧ y_92.toInt + 15 ≤ 16 := by
                          have g_416 := z_rng y_92
                          omega
                        have hid_hr_414 : (x_76.toInt + y_92.toInt + 15) = x_76.toInt + (y_92.toInt + 15) := by simp only [Int.add_assoc, Int.add_sub_assoc]
                        have hr_414 := z_cell (lo := 10) (hi := 19) hbs_84 hi_hr_414 hid_hr_414 hl_hr_414 (by decide)
                        replace hid_hr_414 : zEq (x_76.toInt + y_92.toInt + 15) (x_76.toInt + (y_92.toInt + 15)) := hid_hr_414
                        have hin_417 : vp_in x_413 (zn K (zr K a0 0)) := vp_in_iff.mpr (by rw [(hf_5.2.2 (by decide))]; exact hr_414.in)
                        refine mld_40 C hs hP hf_5.1 hf_5.2.1 hin_417 dX12_replay_207 ?_
                        have ep_418 : x_413.toNatClampNeg = (x_76.toInt + y_92.toInt + 15).toNat := z_posE hi_hr_414
                        rw [ep_418]
                        clear ep_418
                        refine bi_ne (tgt := 242) hx hb rfl rfl dX12_replay_208 (by decide) (fun c_419 => ?_) (fun c_419 => ?_)
                        · skip
                          refine lv_iconst (v := 0) hx hb dX12_replay_242 (by decide) ?_
                          exact J_243_401 0 _ (Or.inl rfl) (lv_sub hl [2, 3, 4, 5, 1, 0] rfl)
                        · skip
                          refine lv_aload_n hx hb dX12_replay_211 rfl (lv_at hl 2 rfl) ?_
                          refine mg_0 C hs hP ha0 hk0 wf_X12_8 dX12_replay_212 ?_
                          refine lv_iload_n hx hb dX12_replay_215 rfl (lv_at hl 4 rfl) ?_
                          refine lv_bipush (v := 17) hx hb dX12_replay_216 (by decide) ?_
                          refine lv_iadd hx hb dX12_replay_218 ?_
                          refine lv_topi (fun x_420 ex_420 => ?_)
                          refine lv_iload hx hb dX12_replay_219 (lv_at hl 0 rfl) ?_
                          refine lv_iadd hx hb dX12_replay_221 ?_
                          refine lv_topi (fun x_421 ex_421 => ?_)
                          have hi_hr_422 : zEq x_421.toInt (x_4.toInt + y_92.toInt + 17) := by
                            obtain ⟨f_420, l_420, u_420⟩ := z_add ex_420 rfl ti_17
                            try replace f_420 : x_420.toInt = x_4.toInt + 17 := by omega
                            clear l_420 u_420
                            have g_423 := z_rng y_92
                            obtain ⟨f_421, l_421, u_421⟩ := z_add ex_421 rfl rfl
                            try replace f_421 : x_421.toInt = x_420.toInt + y_92.toInt := by omega
                            clear l_421 u_421
                            show x_421.toInt = (x_4.toInt + y_92.toInt + 17)
                            omega
                          have hl_hr_422 : 17 ≤ y_92.toInt + 17 ∧ y_92.toInt + 17 ≤ 18 := by
                            have g_424 := z_rng y_92
                            omega
                          have hid_hr_422 : (x_4.toInt + y_92.toInt + 17) = x_4.toInt + (y_92.toInt + 17) := by simp only [Int.add_assoc, Int.add_sub_assoc]
                          have hr_422 := z_cell (lo := 10) (hi := 19) hbs_8 hi_hr_422 hid_hr_422 hl_hr_422 (by decide)
                          replace hid_hr_422 : zEq (x_4.toInt + y_92.toInt + 17) (x_4.toInt + (y_92.toInt + 17)) := hid_hr_422
                          have hin_425 : vp_in x_421 (zn K (zr K a0 0)) := vp_in_iff.mpr (by rw [(hf_5.2.2 (by decide))]; exact hr_422.in)
                          refine mld_40 C hs hP hf_5.1 hf_5.2.1 hin_425 dX12_replay_222 ?_
                          have ep_426 : x_421.toNatClampNeg = (x_4.toInt + y_92.toInt + 17).toNat := z_posE hi_hr_422
                          rw [ep_426]
                          clear ep_426
                          refine lv_aload_n hx hb dX12_replay_223 rfl (lv_at hl 2 rfl) ?_
                          refine mg_0 C hs hP ha0 hk0 wf_X12_8 dX12_replay_224 ?_
                          refine lv_iload_n hx hb dX12_replay_227 rfl (lv_at hl 5 rfl) ?_
                          refine lv_bipush (v := 17) hx hb dX12_replay_228 (by decide) ?_
                          refine lv_iadd hx hb dX12_replay_230 ?_
                          refine lv_topi (fun x_427 ex_427 => ?_)
                          refine lv_iload hx hb dX12_replay_231 (lv_at hl 0 rfl) ?_
                          refine lv_iadd hx hb dX12_replay_233 ?_
                          refine lv_topi (fun x_428 ex_428 => ?_)
                          have hi_hr_429 : zEq x_428.toInt (x_76.toInt + y_92.toInt + 17) := by
                            obtain ⟨f_427, l_427, u_427⟩ := z_add ex_427 rfl ti_17
                            try replace f_427 : x_427.toInt = x_76.toInt + 17 := by omega
                            clear l_427 u_427
                            have g_430 := z_rng y_92
                            obtain ⟨f_428, l_428, u_428⟩ := z_add ex_428 rfl rfl
                            try replace f_428 : x_428.toInt = x_427.toInt + y_92.toInt := by omega
                            clear l_428 u_428
                            show x_428.toInt = (x_76.toInt + y_92.toInt + 17)
                            omega
                          have hl_hr_429 : 17 ≤ y_92.toInt + 17 ∧ y_92.toInt + 17 ≤ 18 := by
                            have g_431 := z_rng y_92
                            omega
                          have hid_hr_429 : (x_76.toInt + y_92.toInt + 17) = x_76.toInt + (y_92.toInt + 17) := by simp only [Int.add_assoc, Int.add_sub_assoc]
                          have hr_429 := z_cell (lo := 10) (hi := 19) hbs_84 hi_hr_429 hid_hr_429 hl_hr_429 (by decide)
                          replace hid_hr_429 : zEq (x_76.toInt + y_92.toInt + 17) (x_76.toInt + (y_92.toInt + 17)) := hid_hr_429
                          have hin_432 : vp_in x_428 (zn K (zr K a0 0)) := vp_in_iff.mpr (by rw [(hf_5.2.2 (by decide))]; exact hr_429.in)
                          refine mld_40 C hs hP hf_5.1 hf_5.2.1 hin_432 dX12_replay_234 ?_
                          have ep_433 : x_428.toNatClampNeg = (x_76.toInt + y_92.toInt + 17).toNat := z_posE hi_hr_429
                          rw [ep_433]
                          clear ep_433
                          refine bi_ne (tgt := 242) hx hb rfl rfl dX12_replay_235 (by decide) (fun c_434 => ?_) (fun c_434 => ?_)
                          · skip
                            refine lv_iconst (v := 0) hx hb dX12_replay_242 (by decide) ?_
                            exact J_243_401 0 _ (Or.inl rfl) (lv_sub hl [2, 3, 4, 5, 1, 0] rfl)
                          · skip
                            refine lv_iconst (v := 1) hx hb dX12_replay_238 (by decide) ?_
                            refine lv_goto (tgt := 243) hx hb dX12_replay_239 (by decide) ?_
                            exact J_243_401 1 _ (Or.inr rfl) (lv_sub hl [2, 3, 4, 5, 1, 0] rfl)
                have g_435 := z_rng (A_25 40 (x_4.toInt + 44).toNat)
                have g_436 := z_rng y_23
                exact L_173_94 _ 0 y_89 _ (Nat.lt_succ_self _) hb_y_89 (by (try simp only [ti_0]); omega) (lv_sub hl [0, 1, 2, 3, 4, 5] rfl)
              refine bi_ne (tgt := 167) hx hb rfl rfl dX12_replay_160 (by decide) (fun c_88 => ?_) (fun c_88 => ?_)
              · skip
                refine lv_iconst (v := 0) hx hb dX12_replay_167 (by decide) ?_
                exact J_168_90 0 _ (Or.inl rfl) (lv_sub hl [2, 3, 1, 0] rfl)
              · skip
                refine lv_iconst (v := 1) hx hb dX12_replay_163 (by decide) ?_
                refine lv_goto (tgt := 168) hx hb dX12_replay_164 (by decide) ?_
                exact J_168_90 1 _ (Or.inr rfl) (lv_sub hl [2, 3, 1, 0] rfl)
            · skip
              refine lv_iload_n hx hb dX12_replay_73 rfl (lv_at hl 1 rfl) ?_
              refine lv_sipush (v := 890) hx hb dX12_replay_74 (by decide) ?_
              refine lv_iadd hx hb dX12_replay_77 ?_
              refine lv_topi (fun x_437 ex_437 => ?_)
              refine lv_iconst (v := 4) hx hb dX12_replay_78 (by decide) ?_
              refine lv_iload_n hx hb dX12_replay_79 rfl (lv_at hl 0 rfl) ?_
              refine lv_imul hx hb dX12_replay_80 ?_
              refine lv_topi (fun x_438 ex_438 => ?_)
              refine lv_iadd hx hb dX12_replay_81 ?_
              refine lv_topi (fun x_439 ex_439 => ?_)
              refine lv_istore (lv' := [(4, .int x_439), (3, .int y_23), (2, .int x_4), (0, .ref a0), (1, .int x1)]) hx hb dX12_replay_82 hl (by decide) rfl (fun ls hl => ?_)
              refine lv_aload_n hx hb dX12_replay_84 rfl (lv_at hl 3 rfl) ?_
              refine lv_aload_n hx hb dX12_replay_85 rfl (lv_at hl 3 rfl) ?_
              refine mg_0 C hs hP ha0 hk0 wf_X12_8 dX12_replay_86 ?_
              refine lv_iload hx hb dX12_replay_89 (lv_at hl 0 rfl) ?_
              have hi_hr_440 : zEq x_439.toInt (x_4.toInt + 4 * y_23.toInt + 890) := by
                obtain ⟨f_437, l_437, u_437⟩ := z_add ex_437 rfl ti_890
                try replace f_437 : x_437.toInt = x_4.toInt + 890 := by omega
                clear l_437 u_437
                have g_441 := z_rng y_23
                obtain ⟨f_438, l_438, u_438⟩ := z_mul ex_438 ti_4 rfl
                try replace f_438 : x_438.toInt = 4 * y_23.toInt := by omega
                clear l_438 u_438
                obtain ⟨f_439, l_439, u_439⟩ := z_add ex_439 rfl rfl
                try replace f_439 : x_439.toInt = x_437.toInt + x_438.toInt := by omega
                clear l_439 u_439
                show x_439.toInt = (x_4.toInt + 4 * y_23.toInt + 890)
                omega
              have hl_hr_440 : 890 ≤ 4 * y_23.toInt + 890 ∧ 4 * y_23.toInt + 890 ≤ 1289 := by
                have g_442 := z_rng y_23
                omega
              have hid_hr_440 : (x_4.toInt + 4 * y_23.toInt + 890) = x_4.toInt + (4 * y_23.toInt + 890) := by simp only [Int.add_assoc, Int.add_sub_assoc]
              have hr_440 := z_cell (lo := 830) (hi := 1289) hbs_8 hi_hr_440 hid_hr_440 hl_hr_440 (by decide)
              replace hid_hr_440 : zEq (x_4.toInt + 4 * y_23.toInt + 890) (x_4.toInt + (4 * y_23.toInt + 890)) := hid_hr_440
              have hin_443 : vp_in x_439 (zn K (zr K a0 0)) := vp_in_iff.mpr (by rw [(hf_5.2.2 (by decide))]; exact hr_440.in)
              refine mld_40 C hs hP hf_5.1 hf_5.2.1 hin_443 dX12_replay_91 ?_
              have ep_444 : x_439.toNatClampNeg = (x_4.toInt + 4 * y_23.toInt + 890).toNat := z_posE hi_hr_440
              rw [ep_444]
              clear ep_444
              refine lv_aload_n hx hb dX12_replay_92 rfl (lv_at hl 3 rfl) ?_
              refine mg_0 C hs hP ha0 hk0 wf_X12_8 dX12_replay_93 ?_
              refine lv_iload hx hb dX12_replay_96 (lv_at hl 0 rfl) ?_
              refine lv_iconst (v := 1) hx hb dX12_replay_98 (by decide) ?_
              refine lv_iadd hx hb dX12_replay_99 ?_
              refine lv_topi (fun x_445 ex_445 => ?_)
              have hi_hr_446 : zEq x_445.toInt (x_4.toInt + 4 * y_23.toInt + 891) := by
                obtain ⟨f_437, l_437, u_437⟩ := z_add ex_437 rfl ti_890
                try replace f_437 : x_437.toInt = x_4.toInt + 890 := by omega
                clear l_437 u_437
                have g_447 := z_rng y_23
                obtain ⟨f_438, l_438, u_438⟩ := z_mul ex_438 ti_4 rfl
                try replace f_438 : x_438.toInt = 4 * y_23.toInt := by omega
                clear l_438 u_438
                obtain ⟨f_439, l_439, u_439⟩ := z_add ex_439 rfl rfl
                try replace f_439 : x_439.toInt = x_437.toInt + x_438.toInt := by omega
                clear l_439 u_439
                obtain ⟨f_445, l_445, u_445⟩ := z_add ex_445 rfl ti_1
                try replace f_445 : x_445.toInt = x_439.toInt + 1 := by omega
                clear l_445 u_445
                show x_445.toInt = (x_4.toInt + 4 * y_23.toInt + 891)
                omega
              have hl_hr_446 : 890 ≤ 4 * y_23.toInt + 891 ∧ 4 * y_23.toInt + 891 ≤ 1289 := by
                have g_448 := z_rng y_23
                omega
              have hid_hr_446 : (x_4.toInt + 4 * y_23.toInt + 891) = x_4.toInt + (4 * y_23.toInt + 891) := by simp only [Int.add_assoc, Int.add_sub_assoc]
              have hr_446 := z_cell (lo := 830) (hi := 1289) hbs_8 hi_hr_446 hid_hr_446 hl_hr_446 (by decide)
              replace hid_hr_446 : zEq (x_4.toInt + 4 * y_23.toInt + 891) (x_4.toInt + (4 * y_23.toInt + 891)) := hid_hr_446
              have hin_449 : vp_in x_445 (zn K (zr K a0 0)) := vp_in_iff.mpr (by rw [(hf_5.2.2 (by decide))]; exact hr_446.in)
              refine mld_40 C hs hP hf_5.1 hf_5.2.1 hin_449 dX12_replay_100 ?_
              have ep_450 : x_445.toNatClampNeg = (x_4.toInt + 4 * y_23.toInt + 891).toNat := z_posE hi_hr_446
              rw [ep_450]
              clear ep_450
              refine lv_aload_n hx hb dX12_replay_101 rfl (lv_at hl 3 rfl) ?_
              refine mg_0 C hs hP ha0 hk0 wf_X12_8 dX12_replay_102 ?_
              refine lv_iload hx hb dX12_replay_105 (lv_at hl 0 rfl) ?_
              refine lv_iconst (v := 2) hx hb dX12_replay_107 (by decide) ?_
              refine lv_iadd hx hb dX12_replay_108 ?_
              refine lv_topi (fun x_451 ex_451 => ?_)
              have hi_hr_452 : zEq x_451.toInt (x_4.toInt + 4 * y_23.toInt + 892) := by
                obtain ⟨f_437, l_437, u_437⟩ := z_add ex_437 rfl ti_890
                try replace f_437 : x_437.toInt = x_4.toInt + 890 := by omega
                clear l_437 u_437
                have g_453 := z_rng y_23
                obtain ⟨f_438, l_438, u_438⟩ := z_mul ex_438 ti_4 rfl
                try replace f_438 : x_438.toInt = 4 * y_23.toInt := by omega
                clear l_438 u_438
                obtain ⟨f_439, l_439, u_439⟩ := z_add ex_439 rfl rfl
                try replace f_439 : x_439.toInt = x_437.toInt + x_438.toInt := by omega
                clear l_439 u_439
                obtain ⟨f_451, l_451, u_451⟩ := z_add ex_451 rfl ti_2
                try replace f_451 : x_451.toInt = x_439.toInt + 2 := by omega
                clear l_451 u_451
                show x_451.toInt = (x_4.toInt + 4 * y_23.toInt + 892)
                omega
              have hl_hr_452 : 890 ≤ 4 * y_23.toInt + 892 ∧ 4 * y_23.toInt + 892 ≤ 1289 := by
                have g_454 := z_rng y_23
                omega
              have hid_hr_452 : (x_4.toInt + 4 * y_23.toInt + 892) = x_4.toInt + (4 * y_23.toInt + 892) := by simp only [Int.add_assoc, Int.add_sub_assoc]
              have hr_452 := z_cell (lo := 830) (hi := 1289) hbs_8 hi_hr_452 hid_hr_452 hl_hr_452 (by decide)
              replace hid_hr_452 : zEq (x_4.toInt + 4 * y_23.toInt + 892) (x_4.toInt + (4 * y_23.toInt + 892)) := hid_hr_452
              have hin_455 : vp_in x_451 (zn K (zr K a0 0)) := vp_in_iff.mpr (by rw [(hf_5.2.2 (by decide))]; exact hr_452.in)
              refine mld_40 C hs hP hf_5.1 hf_5.2.1 hin_455 dX12_replay_109 ?_
              have ep_456 : x_451.toNatClampNeg = (x_4.toInt + 4 * y_23.toInt + 892).toNat := z_posE hi_hr_452
              rw [ep_456]
              clear ep_456
              refine lv_aload_n hx hb dX12_replay_110 rfl (lv_at hl 3 rfl) ?_
              refine mg_0 C hs hP ha0 hk0 wf_X12_8 dX12_replay_111 ?_
              refine lv_iload hx hb dX12_replay_114 (lv_at hl 0 rfl) ?_
              refine lv_iconst (v := 3) hx hb dX12_replay_116 (by decide) ?_
              refine lv_iadd hx hb dX12_replay_117 ?_
              refine lv_topi (fun x_457 ex_457 => ?_)
              have hi_hr_458 : zEq x_457.toInt (x_4.toInt + 4 * y_23.toInt + 893) := by
                obtain ⟨f_437, l_437, u_437⟩ := z_add ex_437 rfl ti_890
                try replace f_437 : x_437.toInt = x_4.toInt + 890 := by omega
                clear l_437 u_437
                have g_459 := z_rng y_23
                obtain ⟨f_438, l_438, u_438⟩ := z_mul ex_438 ti_4 rfl
                try replace f_438 : x_438.toInt = 4 * y_23.toInt := by omega
                clear l_438 u_438
                obtain ⟨f_439, l_439, u_439⟩ := z_add ex_439 rfl rfl
                try replace f_439 : x_439.toInt = x_437.toInt + x_438.toInt := by omega
                clear l_439 u_439
                obtain ⟨f_457, l_457, u_457⟩ := z_add ex_457 rfl ti_3
                try replace f_457 : x_457.toInt = x_439.toInt + 3 := by omega
                clear l_457 u_457
                show x_457.toInt = (x_4.toInt + 4 * y_23.toInt + 893)
                omega
              have hl_hr_458 : 890 ≤ 4 * y_23.toInt + 893 ∧ 4 * y_23.toInt + 893 ≤ 1289 := by
                have g_460 := z_rng y_23
                omega
              have hid_hr_458 : (x_4.toInt + 4 * y_23.toInt + 893) = x_4.toInt + (4 * y_23.toInt + 893) := by simp only [Int.add_assoc, Int.add_sub_assoc]
              have hr_458 := z_cell (lo := 830) (hi := 1289) hbs_8 hi_hr_458 hid_hr_458 hl_hr_458 (by decide)
              replace hid_hr_458 : zEq (x_4.toInt + 4 * y_23.toInt + 893) (x_4.toInt + (4 * y_23.toInt + 893)) := hid_hr_458
              have hin_461 : vp_in x_457 (zn K (zr K a0 0)) := vp_in_iff.mpr (by rw [(hf_5.2.2 (by decide))]; exact hr_458.in)
              refine mld_40 C hs hP hf_5.1 hf_5.2.1 hin_461 dX12_replay_118 ?_
              have ep_462 : x_457.toNatClampNeg = (x_4.toInt + 4 * y_23.toInt + 893).toNat := z_posE hi_hr_458
              rw [ep_462]
              clear ep_462
              have hTo := hT
              have g_463 := z_rng (A_25 40 (x_4.toInt + 4 * y_23.toInt + 890).toNat)
              have g_464 := z_rng (A_25 40 (x_4.toInt + 4 * y_23.toInt + 891).toNat)
              have g_465 := z_rng (A_25 40 (x_4.toInt + 4 * y_23.toInt + 892).toNat)
              have g_466 := z_rng (A_25 40 (x_4.toInt + 4 * y_23.toInt + 893).toNat)
              have hto := (aRc x1.toInt (by omega) (by omega)).2.1 y_23.toInt (by omega) (by omega)
              have hbo_468 : x_4.toInt = 1290 * x1.toInt := by omega
              rw [← hbo_468] at hto
              have hto := zHid.mk hto
              have hq_467 : rowN (A_25 40) 5160 := by (have h9 := (aRc 4 (by decide) (by decide)).1; rwa [show (1290 * 4 : Int) = 5160 from rfl] at h9)
              have hq_469 : ((A_25 40 (x_4.toInt + 4 * y_23.toInt + 890).toNat).toInt ≠ 0 → 0 ≤ (A_25 40 (x_4.toInt + 4 * y_23.toInt + 891).toNat).toInt ∧ (A_25 40 (x_4.toInt + 4 * y_23.toInt + 891).toNat).toInt ≤ 3) := by exact hto.1
              have hq_470 : ((A_25 40 (x_4.toInt + 4 * y_23.toInt + 890).toNat).toInt = 1 → 0 ≤ (A_25 40 (x_4.toInt + 4 * y_23.toInt + 892).toNat).toInt ∧ (A_25 40 (x_4.toInt + 4 * y_23.toInt + 892).toNat).toInt < (A_25 40 ((5160 : Int) + 1).toNat).toInt) := by (intro h9; rw [iv_25_8]; exact hto.2.1 h9)
              have hq_471 : ((A_25 40 (x_4.toInt + 4 * y_23.toInt + 890).toNat).toInt = 6 → (A_25 40 (x_4.toInt + 4 * y_23.toInt + 891).toNat).toInt ≤ 1) := by exact hto.2.2
              have hq_472 : (f_25 12).toInt ≠ 0 := by (first | assumption | omega | (intros; omega))
              have hq_473 : (f_25 11).toInt ≤ 1900000000 := by (first | assumption | omega | (intros; omega))
              have hq_474 : (f_25 9).toInt ≤ 1900000000 := by (first | assumption | omega | (intros; omega))
              refine mcV (zrV (As := [.int (A_25 40 (x_4.toInt + 4 * y_23.toInt + 890).toNat), .int (A_25 40 (x_4.toInt + 4 * y_23.toInt + 891).toNat), .int (A_25 40 (x_4.toInt + 4 * y_23.toInt + 892).toNat), .int (A_25 40 (x_4.toInt + 4 * y_23.toInt + 893).toNat)]) (b := a0) (rest := []) C hs hP hS (c_X12_again l D K hM f_25 A_25 hT a0 ha0 hk0 (A_25 40 (x_4.toInt + 4 * y_23.toInt + 890).toNat) (A_25 40 (x_4.toInt + 4 * y_23.toInt + 891).toNat) (A_25 40 (x_4.toInt + 4 * y_23.toInt + 892).toNat) (A_25 40 (x_4.toInt + 4 * y_23.toInt + 893).toNat) hq_467 hq_469 hq_470 hq_471 hq_472 hq_473 hq_474) m_X12_again wm_X12_313 (zrecv hs hP ha0 (zF_11 hk0) rfl) ⟨by decide, by decide⟩ hl.1 (Nat.le_of_ble_eq_true rfl) dX12_replay_119) hS (fun f_475 A_475 H locs p_475 hP hS => ?_)
              obtain ⟨hT, hA_475, hF_475, hC_475, pp_475⟩ := p_475
              have pp_475 : rowN (A_475 40) 5160 ∧ (f_475 11).toInt = (f_25 11).toInt ∧ (f_475 12).toInt = (f_25 12).toInt ∧ (f_25 9).toInt ≤ (f_475 9).toInt ∧ (f_475 9).toInt ≤ (f_25 9).toInt + 2 ∧ (A_475 40 ((5160 : Int) + 44).toNat).toInt ≤ (A_25 40 ((5160 : Int) + 44).toNat).toInt := pp_475
              have pp0_475 := zHid.mk pp_475
              have FA := frA FA hA_475 (by decide)
              have FF := frF FF hF_475 (by decide)
              have aRc : aR (A_475 40) N := aR.ag aRc hTo hC_475 (by decide) pp0_475.1 pp0_475.2.2.2.2.2 (by decide) (by decide)
              have p11_475 := pp_475.2.1
              have p12_475 := pp_475.2.2.1
              have p9a_475 := pp_475.2.2.2.1
              have p9b_475 := pp_475.2.2.2.2.1
              clear pp_475
              obtain ⟨x_476, ex_476⟩ : ∃ y : Int32, y = y_23 + 1 := ⟨_, rfl⟩
              refine lv_iinc (v := x_476) (lv' := [(3, .int x_476), (4, .int x_439), (2, .int x_4), (0, .ref a0), (1, .int x1)]) hx hb dX12_replay_122 hl (k := 1) rfl (by rw [ex_476]; rfl) (by decide) rfl (fun ls hl => ?_)
              refine lv_goto (tgt := 60) hx hb dX12_replay_125 (by decide) ?_
              have g_477 := z_rng y_23
              obtain ⟨f_476, l_476, u_476⟩ := z_add ex_476 rfl ti_1
              try replace f_476 : x_476.toInt = y_23.toInt + 1 := by omega
              clear l_476 u_476
              have g_478 := z_rng (A_25 40 (x_4.toInt + 44).toNat)
              have hq44 := congrArg Int32.toInt (fC.lo hC_475 (by decide) (i := x_4.toInt + 44) ⟨by omega, by omega⟩)
              have hq1 := congrArg Int32.toInt (fC.lo hC_475 (by decide) (i := x_4.toInt + 1) ⟨by omega, by omega⟩)
              have hy1 := congrArg Int32.toInt (hC_475.ar (by decide) (lo := 1) (hi := 1) (by decide) (5160 + 1) (by decide) (by decide) (by decide))
              exact ih_24 f_475 A_475 _ _ x_476 _ (by omega) (by omega) (by omega) aRc (by omega) (by omega) (by omega) (by omega) (by omega) (by omega) FA FF hT hP hS (lv_sub hl [0, 2, 3, 4] rfl)
        have g_479 := z_rng (A 40 (x_4.toInt + 44).toNat)
        have g_480 := z_rng (A 40 (x_4.toInt + 5).toNat)
        have g_481 := z_rng x_1
        have ev_482 : f_22 11 = f 11 := by rw [hE_22, pk_un (show 11 ≠ 12 by decide)]
        have ev_483 : f_22 12 = (1 : Int32) := by rw [hE_22, pk_us]
        have ev_483_i : (f_22 12).toInt = 1 := by rw [ev_483, ti_1]
        have ev_484 : f_22 9 = f 9 := by rw [hE_22, pk_un (show 9 ≠ 12 by decide)]
        have hbo_485 : x_4.toInt = 1290 * x1.toInt := by omega
        have hq44 := congrArg Int32.toInt (fC.lo hC4 (by decide) (i := x_4.toInt + 44) ⟨by omega, by omega⟩)
        have hq1 := congrArg Int32.toInt (fC.lo hC4 (by decide) (i := x_4.toInt + 1) ⟨by omega, by omega⟩)
        have hy1 := congrArg Int32.toInt (hY4 1 (by decide) (by decide))
        rw [← hbo_485, show (1290 * 4 + 1 : Int) = 5160 + 1 from rfl] at hy1
        exact L_60_24 _ f_22 A_21 _ _ 0 _ (Nat.lt_succ_self _) (by (try simp only [ti_0]); omega) (by rw [ti_0]; decide) aRc (by rw [ev_482] <;> rfl) (by rw [ev_483] <;> exact ti_1) (by rw [ev_484] <;> exact Int.le_refl _) (by rw [ti_0]; rw [ev_484] <;> omega) hq44 (by omega) FA FF hT hP hS (lv_sub hl [0, 1, 2, 3] rfl)
      · skip
        refine lv_iconst (v := 0) hx hb dX12_replay_45 (by decide) ?_
        exact maI hQ hx hb hr hlk hP hS ⟨hT, FA, FF, ⟨(aRc.mono (by omega)), hp0.2.1, by omega, by omega⟩⟩ dX12_replay_46
    · skip
      refine lv_bipush (v := (-4)) hx hb dX12_replay_28 (by decide) ?_
      exact maI hQ hx hb hr hlk hP hS ⟨hT, FA, FF, ⟨(aRc.mono (by omega)), hp0.2.1, by omega, by omega⟩⟩ dX12_replay_30
  · skip
    clear pp_1
    refine lv_bipush (v := (-2)) hx hb dX12_replay_8 (by decide) ?_
    exact maI hQ hx hb hr hlk hP hS ⟨hT, FA, FF, ⟨(aRc.mono (by omega)), hp0.2.1, by omega, by omega⟩⟩ dX12_replay_10
