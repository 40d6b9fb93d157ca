set_option maxHeartbeats 4000000 in
set_option maxRecDepth 100000 in
theorem c_X12_dealOut (l : Launch) (D : va_G) (K : zK) (hM : mK K) (f : Nat → Int32) (A : Nat → Nat → Int32) (hT : mT f A) (a0 : Nat) (ha0 : a0 ∈ zl K) (hk0 : zk K a0 = 11) (x1 : Int32) (x2 : Int32) (x3 : Int32) (hp0 : zRow x1.toInt) (hp1 : (f 11).toInt ≤ 1990000000) : Met l yX12_dealOut (zc yX12_dealOut cX12_dealOut 8 none) (rmd 2) (va_Pc [.ref a0, .int x1, .int x2, .int x3] (zB D K (mV K f A))) (mQv D K (fun f' A' => mT f' A' ∧ (∀ k, k ∉ ([40, 50] : List Nat) → A' k = A k) ∧ (∀ k, k ∉ ([11] : List Nat) → f' k = f k) ∧ fC (A 40) (A' 40) x1.toInt ([(5, 5), (9, 9), (10, 18), (19, 21), (22, 25), (26, 26), (43, 44), (110, 169), (170, 229), (230, 469), (470, 529)] : List (Int × Int)) ∧ (f 11).toInt ≤ (f' 11).toInt ∧ (f' 11).toInt ≤ (f 11).toInt + 1 ∧ ((f 12).toInt ≠ 0 → (f' 11).toInt = (f 11).toInt) ∧ rowN (A' 40) x1.toInt ∧ (A' 40 (x1.toInt + 44).toNat).toInt = 0)) 0 0 (zA K) := by
  refine zin (by decide) (Nat.le_of_ble_eq_true rfl) ?_
  intro p e s m args below meth c ls Q hQ C hr hlk hP hs hl
  have C : CallFix p m c cX12_dealOut 8 s args zw RX12 := C
  obtain ⟨hx, hb, hml, hown, hts⟩ := id C
  have hO := hM.1
  have hS : va_S (zA K) s.heap s.heap [] := va_S.rf
  have FA : ∀ k, k ∉ ([40, 50] : List Nat) → A k = A k := fun _ _ => rfl
  have FF : ∀ k, k ∉ ([11] : List Nat) → f k = f k := fun _ _ => rfl
  have FC : fC (A 40) (A 40) x1.toInt ([(5, 5), (9, 9), (10, 18), (19, 21), (22, 25), (26, 26), (43, 44), (110, 169), (170, 229), (230, 469), (470, 529)] : List (Int × Int)) := fun _ _ _ => rfl
  have hl : lv_has ls 8 [(0, .ref a0), (1, .int x1), (2, .int x2), (3, .int x3)] := hl
  have hb0 := hp0.lin
  have tR0 := hT.row hp0
  refine lv_aload_n hx hb dX12_dealOut_0 rfl (lv_at hl 0 rfl) ?_
  refine lv_iload_n hx hb dX12_dealOut_1 rfl (lv_at hl 1 rfl) ?_
  refine mcV (zrV (As := [.int x1]) (b := a0) (rest := []) C hs hP hS (c_X12_begin l D K hM f A hT a0 ha0 hk0 x1 hp0) m_X12_begin wm_X12_103 (zrecv hs hP ha0 (zF_11 hk0) rfl) ⟨by decide, by decide⟩ hl.1 (Nat.le_of_ble_eq_true rfl) dX12_dealOut_2) hS (fun f_1 A_1 H locs p_1 hP hS => ?_)
  obtain ⟨hT, hA_1, hF_1, hC_1, pp_1⟩ := p_1
  have pp_1 : bgn (A_1 40) x1.toInt := pp_1
  have pp0_1 := zHid.mk pp_1
  have g_2 := z_rng x1
  have hff_1 : f = f_1 := funext (fun k9 => (hF_1 k9 List.not_mem_nil).symm)
  subst hff_1
  have FA := frA FA hA_1 (by decide)
  have FF := frF FF hF_1 (by decide)
  have FC := fC.tr FC hC_1 (by decide)
  refine lv_aload_n hx hb dX12_dealOut_5 rfl (lv_at hl 0 rfl) ?_
  refine lv_aload_n hx hb dX12_dealOut_6 rfl (lv_at hl 0 rfl) ?_
  refine mg_0 C hs hP ha0 hk0 wf_X12_8 dX12_dealOut_7 ?_
  have hf_3 := hO.r (j := 0) ha0 hk0 (rfl : zX 11 0 = some (40, 47730))
  refine lv_iload_n hx hb dX12_dealOut_10 rfl (lv_at hl 1 rfl) ?_
  refine lv_iconst (v := 2) hx hb dX12_dealOut_11 (by decide) ?_
  refine lv_iadd hx hb dX12_dealOut_12 ?_
  refine lv_topi (fun x_4 ex_4 => ?_)
  have hi_hr_5 : zEq x_4.toInt (x1.toInt + 2) := by
    obtain ⟨f_4, l_4, u_4⟩ := z_add ex_4 rfl ti_2
    try replace f_4 : x_4.toInt = x1.toInt + 2 := by omega
    clear l_4 u_4
    show x_4.toInt = (x1.toInt + 2)
    omega
  have hl_hr_5 : (2 : Int) ≤ 2 ∧ 2 ≤ (2 : Int) := by decide
  have hid_hr_5 : (x1.toInt + 2) = x1.toInt + (2) := by simp only [Int.add_assoc, Int.add_sub_assoc]
  have hr_5 := z_cell (lo := 2) (hi := 8) hp0 hi_hr_5 hid_hr_5 hl_hr_5 (by decide)
  replace hid_hr_5 : zEq (x1.toInt + 2) (x1.toInt + (2)) := hid_hr_5
  have hin_6 : vp_in x_4 (zn K (zr K a0 0)) := vp_in_iff.mpr (by rw [(hf_3.2.2 (by decide))]; exact hr_5.in)
  refine mld_40 C hs hP hf_3.1 hf_3.2.1 hin_6 dX12_dealOut_13 ?_
  have ep_7 : x_4.toNatClampNeg = (x1.toInt + 2).toNat := z_posE hi_hr_5
  rw [ep_7]
  obtain ⟨f_4, l_4, u_4⟩ := z_add ex_4 rfl ti_2
  try replace f_4 : x_4.toInt = x1.toInt + 2 := by omega
  clear l_4 u_4
  have hc_8 := hC_1.ar (by omega) (lo := 2) (hi := 2) (by decide) (x1.toInt + 2) (by decide) (by omega) (by omega)
  have ev_9 : A_1 40 (x1.toInt + 2).toNat = A 40 (x1.toInt + 2).toNat := by rw [hc_8]
  rw [ev_9]
  clear ep_7
  refine lv_iconst (v := 4) hx hb dX12_dealOut_14 (by decide) ?_
  have J_25_12 : ∀ (y_11 : Int32) (ls : Array Slot), lv_has ls 8 [(0, .ref a0), (1, .int x1), (2, .int x2), (3, .int x3)] → W p l e (rmd 2) s m args below meth c H locs 0 0 Q (F0 m 25 ls [.int y_11, .ref a0]) := by
    intro y_11 ls hl
    have g_14 := z_rng y_11
    have hq_15 : (f 11).toInt ≤ 2000000000 := by (first | assumption | omega | (intros; omega))
    refine mcV (zrV (As := [.int y_11]) (b := a0) (rest := []) C hs hP hS (c_X12_body l D K hM f A_1 hT a0 ha0 hk0 y_11 hq_15) m_X12_body wm_X12_124 (zrecv hs hP ha0 (zF_11 hk0) rfl) ⟨by decide, by decide⟩ hl.1 (Nat.le_of_ble_eq_true rfl) dX12_dealOut_25) hS (fun f_16 A_16 H locs p_16 hP hS => ?_)
    obtain ⟨hT, hA_16, hF_16, pp_16⟩ := p_16
    have pp_16 : (f 11).toInt ≤ (f_16 11).toInt ∧ (f_16 11).toInt ≤ (f 11).toInt + 1 ∧ ((f 12).toInt ≠ 0 → (f_16 11).toInt = (f 11).toInt) := pp_16
    have pp0_16 := zHid.mk pp_16
    have pa_16 := pp_16.1
    have pb_16 := pp_16.2.1
    have qq_16 := zHid.mk pp_16.2.2
    clear pp_16
    have FA := frA FA hA_16 (by decide)
    have FF := frF FF hF_16 (by decide)
    have FC := fC.eq FC (hA_16 40 (by decide))
    refine lv_iload_n hx hb dX12_dealOut_28 rfl (lv_at hl 2 rfl) ?_
    refine lv_istore (lv' := [(4, .int x2), (0, .ref a0), (1, .int x1), (2, .int x2), (3, .int x3)]) hx hb dX12_dealOut_29 hl (by decide) rfl (fun ls hl => ?_)
    refine lv_aload_n hx hb dX12_dealOut_31 rfl (lv_at hl 1 rfl) ?_
    refine mg_0 C hs hP ha0 hk0 wf_X12_8 dX12_dealOut_32 ?_
    refine lv_iload_n hx hb dX12_dealOut_35 rfl (lv_at hl 2 rfl) ?_
    refine lv_iconst (v := 1) hx hb dX12_dealOut_36 (by decide) ?_
    refine lv_iadd hx hb dX12_dealOut_37 ?_
    refine lv_topi (fun x_17 ex_17 => ?_)
    have hi_hr_18 : zEq x_17.toInt (x1.toInt + 1) := by
      obtain ⟨f_17, l_17, u_17⟩ := z_add ex_17 rfl ti_1
      try replace f_17 : x_17.toInt = x1.toInt + 1 := by omega
      clear l_17 u_17
      show x_17.toInt = (x1.toInt + 1)
      omega
    have hl_hr_18 : (1 : Int) ≤ 1 ∧ 1 ≤ (1 : Int) := by decide
    have hid_hr_18 : (x1.toInt + 1) = x1.toInt + (1) := by simp only [Int.add_assoc, Int.add_sub_assoc]
    have hr_18 := z_cell (lo := 1) (hi := 1) hp0 hi_hr_18 hid_hr_18 hl_hr_18 (by decide)
    replace hid_hr_18 : zEq (x1.toInt + 1) (x1.toInt + (1)) := hid_hr_18
    have hin_19 : vp_in x_17 (zn K (zr K a0 0)) := vp_in_iff.mpr (by rw [(hf_3.2.2 (by decide))]; exact hr_18.in)
    refine mld_40 C hs hP hf_3.1 hf_3.2.1 hin_19 dX12_dealOut_38 ?_
    have ep_20 : x_17.toNatClampNeg = (x1.toInt + 1).toNat := z_posE hi_hr_18
    rw [ep_20]
    obtain ⟨f_17, l_17, u_17⟩ := z_add ex_17 rfl ti_1
    try replace f_17 : x_17.toInt = x1.toInt + 1 := by omega
    clear l_17 u_17
    have hc_21 := hC_1.ar (by omega) (lo := 1) (hi := 1) (by decide) (x1.toInt + 1) (by decide) (by omega) (by omega)
    have ev_22 : A_16 40 (x1.toInt + 1).toNat = A 40 (x1.toInt + 1).toNat := by rw [hA_16 40 (by decide), hc_21]
    have tv_23 := rv_1 hT hr_18
    rw [ep_20] at tv_23
    rw [ev_22] at tv_23
    rw [ev_22]
    clear ep_20
    refine lv_iconst (v := 1) hx hb dX12_dealOut_39 (by decide) ?_
    refine lv_isub hx hb dX12_dealOut_40 ?_
    refine lv_topi (fun x_24 ex_24 => ?_)
    refine lv_istore (lv' := [(5, .int x_24), (4, .int x2), (0, .ref a0), (1, .int x1), (2, .int x2), (3, .int x3)]) hx hb dX12_dealOut_41 hl (by decide) rfl (fun ls hl => ?_)
    have L_43_27 : ∀ (n_27 : Nat) (A_28 : Nat → Nat → Int32) (H : Heap) (locs : List Loc) (y_25 : Int32) (y_26 : Int32) (ls : Array Slot), y_25.toInt.toNat < n_27 → y_25.toInt < (A 40 (x1.toInt + 1).toNat).toInt → bgn (A_28 40) x1.toInt → (∀ k, k ∉ ([40, 50] : List Nat) → A_28 k = A k) → fC (A 40) (A_28 40) x1.toInt ([(5, 5), (9, 9), (10, 18), (19, 21), (22, 25), (26, 26), (43, 44), (110, 169), (170, 229), (230, 469), (470, 529)] : List (Int × Int)) → mT f_16 A_28 → va_P D vwCl (zW K (mV K f_16 A_28)) H → va_S (zA K) s.heap H locs → lv_has ls 8 [(5, .int y_25), (4, .int y_26), (0, .ref a0), (1, .int x1), (2, .int x2), (3, .int x3)] → W p l e (rmd 2) s m args below meth c H locs 0 0 Q (F0 m 43 ls []) := by
      intro n_27
      induction n_27 with
      | zero => intro A_28 H locs y_25 y_26 ls hm_27; exact absurd hm_27 (Nat.not_lt_zero _)
      | succ n_27 ih_27 =>
        intro A_28 H locs y_25 y_26 ls hm_27 iv_28_0 iv_28_1 FA_28 FC_28 hT hP hS hl
        have FA := FA_28
        have FC := FC_28
        have hpk := FC.ar hb0.1 (lo := 1) (hi := 1) (by decide) (x1.toInt + 1) (by decide) (by omega) (by omega)
        refine lv_iload hx hb dX12_dealOut_43 (lv_at hl 0 rfl) ?_
        refine bz_le (tgt := 132) hx hb rfl dX12_dealOut_45 (by decide) (fun c_30 => ?_) (fun c_30 => ?_)
        · skip
          refine lv_iload_n hx hb dX12_dealOut_132 rfl (lv_at hl 5 rfl) ?_
          refine lv_iconst (v := (-1)) hx hb dX12_dealOut_133 (by decide) ?_
          have J_146_68 : ∀ (y_67 : Int32) (ls : Array Slot), lv_has ls 8 [(0, .ref a0), (1, .int x1), (2, .int x2), (3, .int x3), (4, .int y_26), (5, .int y_25)] → W p l e (rmd 2) s m args below meth c H locs 0 0 Q (F0 m 146 ls [.int y_67]) := by
            intro y_67 ls hl
            refine lv_istore (lv' := [(5, .int y_67), (0, .ref a0), (1, .int x1), (2, .int x2), (3, .int x3), (4, .int y_26)]) hx hb dX12_dealOut_146 hl (by decide) rfl (fun ls hl => ?_)
            refine lv_iconst (v := 0) hx hb dX12_dealOut_148 (by decide) ?_
            refine lv_istore (lv' := [(6, .int 0), (5, .int y_67), (0, .ref a0), (1, .int x1), (2, .int x2), (3, .int x3), (4, .int y_26)]) hx hb dX12_dealOut_149 hl (by decide) rfl (fun ls hl => ?_)
            have L_151_71 : ∀ (n_71 : Nat) (A_72 : Nat → Nat → Int32) (H : Heap) (locs : List Loc) (y_70 : Int32) (ls : Array Slot), (2147483648 - y_70.toInt).toNat < n_71 → 0 ≤ y_70.toInt → rowP (A_72 40) x1.toInt → (A_72 40 (x1.toInt + 44).toNat).toInt = 0 → (∀ k, k ∉ ([40, 50] : List Nat) → A_72 k = A k) → fC (A 40) (A_72 40) x1.toInt ([(5, 5), (9, 9), (10, 18), (19, 21), (22, 25), (26, 26), (43, 44), (110, 169), (170, 229), (230, 469), (470, 529)] : List (Int × Int)) → mT f_16 A_72 → va_P D vwCl (zW K (mV K f_16 A_72)) H → va_S (zA K) s.heap H locs → lv_has ls 8 [(6, .int y_70), (5, .int y_67), (0, .ref a0), (1, .int x1), (2, .int x2), (3, .int x3), (4, .int y_26)] → W p l e (rmd 2) s m args below meth c H locs 0 0 Q (F0 m 151 ls []) := by
              intro n_71
              induction n_71 with
              | zero => intro A_72 H locs y_70 ls hm_71; exact absurd hm_71 (Nat.not_lt_zero _)
              | succ n_71 ih_71 =>
                intro A_72 H locs y_70 ls hm_71 iv_72_0 iv_72_1 iv_72_2 FA_72 FC_72 hT hP hS hl
                have FA := FA_72
                have FC := FC_72
                have tR2 := hT.row hp0
                refine lv_iload hx hb dX12_dealOut_151 (lv_at hl 0 rfl) ?_
                refine lv_iconst (v := 4) hx hb dX12_dealOut_153 (by decide) ?_
                refine bi_ge (tgt := 228) hx hb rfl ti_4 dX12_dealOut_154 (by decide) (fun c_74 => ?_) (fun c_74 => ?_)
                · skip
                  refine lv_aload_n hx hb dX12_dealOut_228 rfl (lv_at hl 2 rfl) ?_
                  refine mg_0 C hs hP ha0 hk0 wf_X12_8 dX12_dealOut_229 ?_
                  refine lv_iload_n hx hb dX12_dealOut_232 rfl (lv_at hl 3 rfl) ?_
                  refine lv_iconst (v := 5) hx hb dX12_dealOut_233 (by decide) ?_
                  refine lv_iadd hx hb dX12_dealOut_234 ?_
                  refine lv_topi (fun x_123 ex_123 => ?_)
                  refine lv_iconst (v := 1) hx hb dX12_dealOut_235 (by decide) ?_
                  have hi_hr_124 : zEq x_123.toInt (x1.toInt + 5) := by
                    obtain ⟨f_123, l_123, u_123⟩ := z_add ex_123 rfl ti_5
                    try replace f_123 : x_123.toInt = x1.toInt + 5 := by omega
                    clear l_123 u_123
                    show x_123.toInt = (x1.toInt + 5)
                    omega
                  have hl_hr_124 : (5 : Int) ≤ 5 ∧ 5 ≤ (5 : Int) := by decide
                  have hid_hr_124 : (x1.toInt + 5) = x1.toInt + (5) := by simp only [Int.add_assoc, Int.add_sub_assoc]
                  have hr_124 := z_cell (lo := 2) (hi := 8) hp0 hi_hr_124 hid_hr_124 hl_hr_124 (by decide)
                  replace hid_hr_124 : zEq (x1.toInt + 5) (x1.toInt + (5)) := hid_hr_124
                  have hin_125 : vp_in x_123 (zn K (zr K a0 0)) := vp_in_iff.mpr (by rw [(hf_3.2.2 (by decide))]; exact hr_124.in)
                  refine mst_40 C hM hs hP hS hf_3.1 hT hf_3.2.1 hin_125 (tp_2 hr_124) dX12_dealOut_236 (fun A_126 H locs hE_126 hT hP hS => ?_)
                  have ep_127 : x_123.toNatClampNeg = (x1.toInt + 5).toNat := z_posE hi_hr_124
                  rw [ep_127] at hE_126
                  clear ep_127
                  have FA := frA FA (frAu hE_126) (by decide)
                  have FC := fC.tr FC (fC.st (b := x1.toInt) (lo := 5) (hi := 5) hE_126 hb0.1 (by decide) hid_hr_124 hl_hr_124) (by decide)
                  have rP5 := rowP.s5 iv_72_1 tR2 hb0.1 hE_126
                  refine lv_aload_n hx hb dX12_dealOut_237 rfl (lv_at hl 2 rfl) ?_
                  refine mg_0 C hs hP ha0 hk0 wf_X12_8 dX12_dealOut_238 ?_
                  refine lv_iload_n hx hb dX12_dealOut_241 rfl (lv_at hl 3 rfl) ?_
                  refine lv_bipush (v := 9) hx hb dX12_dealOut_242 (by decide) ?_
                  refine lv_iadd hx hb dX12_dealOut_244 ?_
                  refine lv_topi (fun x_128 ex_128 => ?_)
                  refine lv_aload_n hx hb dX12_dealOut_245 rfl (lv_at hl 2 rfl) ?_
                  refine lv_iload_n hx hb dX12_dealOut_246 rfl (lv_at hl 3 rfl) ?_
                  refine lv_iconst (v := 0) hx hb dX12_dealOut_247 (by decide) ?_
                  have hq_129 : 0 ≤ (0 : Int32).toInt ∧ (0 : Int32).toInt ≤ 4 := by ((try simp only [ti_0]); first | assumption | omega | (intros; omega))
                  refine zcS (zrV (As := [.int x1, .int 0]) (b := a0) (rest := [.int x_128, .ref (zr K a0 0)]) C hs hP hS (c_X12_seatFrom l D K hM f_16 A_126 hT a0 ha0 hk0 x1 0 hp0 hq_129) m_X12_seatFrom wm_X12_162 (zrecv hs hP ha0 (zF_11 hk0) rfl) ⟨by decide, by decide⟩ hl.1 (Nat.le_of_ble_eq_true rfl) dX12_dealOut_248) (fun x_130 p_130 => ?_)
                  have pp_130 : (x_130.toInt = -1 ∨ (0 ≤ x_130.toInt ∧ x_130.toInt ≤ 3 ∧ 1 ≤ (A_126 40 (x1.toInt + x_130.toInt + 22).toNat).toInt ∧ nL (A_126 40) x1.toInt x_130.toInt (A_126 40 (x1.toInt + 26).toNat).toInt)) := p_130
                  try simp only [ti_0] at pp_130
                  have tRs := hT.row hp0
                  have sfp_130 := zHid.mk pp_130
                  clear pp_130
                  have FCs := FC
                  have hi_hr_131 : zEq x_128.toInt (x1.toInt + 9) := by
                    obtain ⟨f_128, l_128, u_128⟩ := z_add ex_128 rfl ti_9
                    try replace f_128 : x_128.toInt = x1.toInt + 9 := by omega
                    clear l_128 u_128
                    show x_128.toInt = (x1.toInt + 9)
                    omega
                  have hl_hr_131 : (9 : Int) ≤ 9 ∧ 9 ≤ (9 : Int) := by decide
                  have hid_hr_131 : (x1.toInt + 9) = x1.toInt + (9) := by simp only [Int.add_assoc, Int.add_sub_assoc]
                  have hr_131 := z_cell (lo := 9) (hi := 9) hp0 hi_hr_131 hid_hr_131 hl_hr_131 (by decide)
                  replace hid_hr_131 : zEq (x1.toInt + 9) (x1.toInt + (9)) := hid_hr_131
                  have hin_132 : vp_in x_128 (zn K (zr K a0 0)) := vp_in_iff.mpr (by rw [(hf_3.2.2 (by decide))]; exact hr_131.in)
                  have g_134 := z_rng x_130
                  refine mst_40 C hM hs hP hS hf_3.1 hT hf_3.2.1 hin_132 (tp_9 hr_131 (show -1 ≤ x_130.toInt ∧ x_130.toInt ≤ 3 from by omega)) dX12_dealOut_251 (fun A_133 H locs hE_133 hT hP hS => ?_)
                  have ep_135 : x_128.toNatClampNeg = (x1.toInt + 9).toNat := z_posE hi_hr_131
                  rw [ep_135] at hE_133
                  clear ep_135
                  have FA := frA FA (frAu hE_133) (by decide)
                  have FC := fC.tr FC (fC.st (b := x1.toInt) (lo := 9) (hi := 9) hE_133 hb0.1 (by decide) hid_hr_131 hl_hr_131) (by decide)
                  have hRN := rowN.nx rP5 tRs hb0.1 hE_133 sfp_130
                  obtain ⟨f_128, l_128, u_128⟩ := z_add ex_128 rfl ti_9
                  try replace f_128 : x_128.toInt = x1.toInt + 9 := by omega
                  clear l_128 u_128
                  obtain ⟨f_123, l_123, u_123⟩ := z_add ex_123 rfl ti_5
                  try replace f_123 : x_123.toInt = x1.toInt + 5 := by omega
                  clear l_123 u_123
                  have es_136 : A_133 40 (x1.toInt + 44).toNat = A_72 40 (x1.toInt + 44).toNat := by rw [hE_133, va_up_self, pk_un (zNe (i := (x1.toInt + 44)) (j := (x1.toInt + 9)) (by omega) (by omega) (by omega)), hE_126, va_up_self, pk_un (zNe (i := (x1.toInt + 44)) (j := (x1.toInt + 5)) (by omega) (by omega) (by omega))]
                  exact maV hQ hx hb hr hlk hP hS ⟨hT, FA, FF, FC, ⟨by omega, by omega, fun h9 => by have hq0 := qq_16 h9; omega, hRN, by rw [es_136]; exact iv_72_2⟩⟩ dX12_dealOut_252
                · skip
                  refine lv_aload_n hx hb dX12_dealOut_157 rfl (lv_at hl 2 rfl) ?_
                  refine mg_0 C hs hP ha0 hk0 wf_X12_8 dX12_dealOut_158 ?_
                  refine lv_iload_n hx hb dX12_dealOut_161 rfl (lv_at hl 3 rfl) ?_
                  refine lv_bipush (v := 35) hx hb dX12_dealOut_162 (by decide) ?_
                  refine lv_iadd hx hb dX12_dealOut_164 ?_
                  refine lv_topi (fun x_137 ex_137 => ?_)
                  refine lv_iload hx hb dX12_dealOut_165 (lv_at hl 0 rfl) ?_
                  refine lv_iadd hx hb dX12_dealOut_167 ?_
                  refine lv_topi (fun x_138 ex_138 => ?_)
                  have hi_hr_139 : zEq x_138.toInt (x1.toInt + y_70.toInt + 35) := by
                    obtain ⟨f_137, l_137, u_137⟩ := z_add ex_137 rfl ti_35
                    try replace f_137 : x_137.toInt = x1.toInt + 35 := by omega
                    clear l_137 u_137
                    have g_140 := z_rng y_70
                    obtain ⟨f_138, l_138, u_138⟩ := z_add ex_138 rfl rfl
                    try replace f_138 : x_138.toInt = x_137.toInt + y_70.toInt := by omega
                    clear l_138 u_138
                    show x_138.toInt = (x1.toInt + y_70.toInt + 35)
                    omega
                  have hl_hr_139 : 35 ≤ y_70.toInt + 35 ∧ y_70.toInt + 35 ≤ 38 := by
                    have g_141 := z_rng y_70
                    omega
                  have hid_hr_139 : (x1.toInt + y_70.toInt + 35) = x1.toInt + (y_70.toInt + 35) := by simp only [Int.add_assoc, Int.add_sub_assoc]
                  have hr_139 := z_cell (lo := 35) (hi := 38) hp0 hi_hr_139 hid_hr_139 hl_hr_139 (by decide)
                  replace hid_hr_139 : zEq (x1.toInt + y_70.toInt + 35) (x1.toInt + (y_70.toInt + 35)) := hid_hr_139
                  have hin_142 : vp_in x_138 (zn K (zr K a0 0)) := vp_in_iff.mpr (by rw [(hf_3.2.2 (by decide))]; exact hr_139.in)
                  refine mld_40 C hs hP hf_3.1 hf_3.2.1 hin_142 dX12_dealOut_168 ?_
                  have ep_143 : x_138.toNatClampNeg = (x1.toInt + y_70.toInt + 35).toNat := z_posE hi_hr_139
                  rw [ep_143]
                  obtain ⟨f_137, l_137, u_137⟩ := z_add ex_137 rfl ti_35
                  try replace f_137 : x_137.toInt = x1.toInt + 35 := by omega
                  clear l_137 u_137
                  have g_145 := z_rng y_70
                  obtain ⟨f_138, l_138, u_138⟩ := z_add ex_138 rfl rfl
                  try replace f_138 : x_138.toInt = x_137.toInt + y_70.toInt := by omega
                  clear l_138 u_138
                  have hc_144 := FC_72.ar (by omega) (lo := 35) (hi := 38) (by decide) (x1.toInt + y_70.toInt + 35) (by decide) (by omega) (by omega)
                  have ev_146 : A_72 40 (x1.toInt + y_70.toInt + 35).toNat = A 40 (x1.toInt + y_70.toInt + 35).toNat := by rw [hc_144]
                  have tv_147 := rv_35 hT hr_139
                  rw [ep_143] at tv_147
                  rw [ev_146] at tv_147
                  rw [ev_146]
                  clear ep_143
                  refine lv_iconst (v := 1) hx hb dX12_dealOut_169 (by decide) ?_
                  refine bi_ne (tgt := 222) hx hb rfl ti_1 dX12_dealOut_170 (by decide) (fun c_148 => ?_) (fun c_148 => ?_)
                  · skip
                    obtain ⟨x_149, ex_149⟩ : ∃ y : Int32, y = y_70 + 1 := ⟨_, rfl⟩
                    refine lv_iinc (v := x_149) (lv' := [(6, .int x_149), (5, .int y_67), (0, .ref a0), (1, .int x1), (2, .int x2), (3, .int x3), (4, .int y_26)]) hx hb dX12_dealOut_222 hl (k := 0) rfl (by rw [ex_149]; rfl) (by decide) rfl (fun ls hl => ?_)
                    refine lv_goto (tgt := 151) hx hb dX12_dealOut_225 (by decide) ?_
                    obtain ⟨f_149, l_149, u_149⟩ := z_add ex_149 rfl ti_1
                    try replace f_149 : x_149.toInt = y_70.toInt + 1 := by omega
                    clear l_149 u_149
                    have g_150 := z_rng (A 40 (x1.toInt + y_70.toInt + 35).toNat)
                    exact ih_71 A_72 _ _ x_149 _ (by omega) (by omega) iv_72_1 iv_72_2 FA FC hT hP hS (lv_sub hl [0, 1, 2, 3, 4, 5, 6] rfl)
                  · skip
                    refine lv_aload_n hx hb dX12_dealOut_173 rfl (lv_at hl 2 rfl) ?_
                    refine mg_0 C hs hP ha0 hk0 wf_X12_8 dX12_dealOut_174 ?_
                    refine lv_iload_n hx hb dX12_dealOut_177 rfl (lv_at hl 3 rfl) ?_
                    refine lv_bipush (v := 22) hx hb dX12_dealOut_178 (by decide) ?_
                    refine lv_iadd hx hb dX12_dealOut_180 ?_
                    refine lv_topi (fun x_151 ex_151 => ?_)
                    refine lv_iload hx hb dX12_dealOut_181 (lv_at hl 0 rfl) ?_
                    refine lv_iadd hx hb dX12_dealOut_183 ?_
                    refine lv_topi (fun x_152 ex_152 => ?_)
                    refine lv_iconst (v := 0) hx hb dX12_dealOut_184 (by decide) ?_
                    have hi_hr_153 : zEq x_152.toInt (x1.toInt + y_70.toInt + 22) := by
                      obtain ⟨f_151, l_151, u_151⟩ := z_add ex_151 rfl ti_22
                      try replace f_151 : x_151.toInt = x1.toInt + 22 := by omega
                      clear l_151 u_151
                      obtain ⟨f_152, l_152, u_152⟩ := z_add ex_152 rfl rfl
                      try replace f_152 : x_152.toInt = x_151.toInt + y_70.toInt := by omega
                      clear l_152 u_152
                      show x_152.toInt = (x1.toInt + y_70.toInt + 22)
                      omega
                    have hl_hr_153 : 22 ≤ y_70.toInt + 22 ∧ y_70.toInt + 22 ≤ 25 := by
                      omega
                    have hid_hr_153 : (x1.toInt + y_70.toInt + 22) = x1.toInt + (y_70.toInt + 22) := by simp only [Int.add_assoc, Int.add_sub_assoc]
                    have hr_153 := z_cell (lo := 22) (hi := 25) hp0 hi_hr_153 hid_hr_153 hl_hr_153 (by decide)
                    replace hid_hr_153 : zEq (x1.toInt + y_70.toInt + 22) (x1.toInt + (y_70.toInt + 22)) := hid_hr_153
                    have hin_154 : vp_in x_152 (zn K (zr K a0 0)) := vp_in_iff.mpr (by rw [(hf_3.2.2 (by decide))]; exact hr_153.in)
                    refine mst_40 C hM hs hP hS hf_3.1 hT hf_3.2.1 hin_154 (tp_22 hr_153 (show -1 ≤ (0 : Int32).toInt ∧ (0 : Int32).toInt ≤ 60 from by rw [ti_0]; omega)) dX12_dealOut_185 (fun A_155 H locs hE_155 hT hP hS => ?_)
                    have ep_156 : x_152.toNatClampNeg = (x1.toInt + y_70.toInt + 22).toNat := z_posE hi_hr_153
                    rw [ep_156] at hE_155
                    clear ep_156
                    have FA := frA FA (frAu hE_155) (by decide)
                    have FC := fC.tr FC (fC.st (b := x1.toInt) (lo := 22) (hi := 25) hE_155 hb0.1 (by decide) hid_hr_153 hl_hr_153) (by decide)
                    refine lv_iconst (v := 0) hx hb dX12_dealOut_186 (by decide) ?_
                    refine lv_istore (lv' := [(7, .int 0), (6, .int y_70), (5, .int y_67), (0, .ref a0), (1, .int x1), (2, .int x2), (3, .int x3), (4, .int y_26)]) hx hb dX12_dealOut_187 hl (by decide) rfl (fun ls hl => ?_)
                    have L_189_158 : ∀ (n_158 : Nat) (A_159 : Nat → Nat → Int32) (H : Heap) (locs : List Loc) (y_157 : Int32) (ls : Array Slot), (2147483648 - y_157.toInt).toNat < n_158 → 0 ≤ y_157.toInt → rowP (A_159 40) x1.toInt → (A_159 40 (x1.toInt + 44).toNat).toInt = 0 → 0 ≤ (A_159 40 (x1.toInt + y_70.toInt + 22).toNat).toInt → (∀ k, k ∉ ([40, 50] : List Nat) → A_159 k = A k) → fC (A 40) (A_159 40) x1.toInt ([(5, 5), (9, 9), (10, 18), (19, 21), (22, 25), (26, 26), (43, 44), (110, 169), (170, 229), (230, 469), (470, 529)] : List (Int × Int)) → mT f_16 A_159 → va_P D vwCl (zW K (mV K f_16 A_159)) H → va_S (zA K) s.heap H locs → lv_has ls 8 [(7, .int y_157), (6, .int y_70), (5, .int y_67), (0, .ref a0), (1, .int x1), (2, .int x2), (3, .int x3), (4, .int y_26)] → W p l e (rmd 2) s m args below meth c H locs 0 0 Q (F0 m 189 ls []) := by
                      intro n_158
                      induction n_158 with
                      | zero => intro A_159 H locs y_157 ls hm_158; exact absurd hm_158 (Nat.not_lt_zero _)
                      | succ n_158 ih_158 =>
                        intro A_159 H locs y_157 ls hm_158 iv_159_0 iv_159_1 iv_159_2 iv_159_3 FA_159 FC_159 hT hP hS hl
                        have FA := FA_159
                        have FC := FC_159
                        have tR3 := hT.row hp0
                        refine lv_iload hx hb dX12_dealOut_189 (lv_at hl 0 rfl) ?_
                        refine lv_iload hx hb dX12_dealOut_191 (lv_at hl 2 rfl) ?_
                        refine bi_ge (tgt := 222) hx hb rfl rfl dX12_dealOut_193 (by decide) (fun c_161 => ?_) (fun c_161 => ?_)
                        · skip
                          obtain ⟨x_162, ex_162⟩ : ∃ y : Int32, y = y_70 + 1 := ⟨_, rfl⟩
                          refine lv_iinc (v := x_162) (lv' := [(6, .int x_162), (7, .int y_157), (5, .int y_67), (0, .ref a0), (1, .int x1), (2, .int x2), (3, .int x3), (4, .int y_26)]) hx hb dX12_dealOut_222 hl (k := 1) rfl (by rw [ex_162]; rfl) (by decide) rfl (fun ls hl => ?_)
                          refine lv_goto (tgt := 151) hx hb dX12_dealOut_225 (by decide) ?_
                          obtain ⟨f_162, l_162, u_162⟩ := z_add ex_162 rfl ti_1
                          try replace f_162 : x_162.toInt = y_70.toInt + 1 := by omega
                          clear l_162 u_162
                          have g_163 := z_rng y_157
                          have g_164 := z_rng y_67
                          exact ih_71 A_159 _ _ x_162 _ (by omega) (by omega) iv_159_1 iv_159_2 FA FC hT hP hS (lv_sub hl [0, 2, 3, 4, 5, 6, 7] rfl)
                        · skip
                          refine lv_aload_n hx hb dX12_dealOut_196 rfl (lv_at hl 3 rfl) ?_
                          refine mg_0 C hs hP ha0 hk0 wf_X12_8 dX12_dealOut_197 ?_
                          refine lv_iload_n hx hb dX12_dealOut_200 rfl (lv_at hl 4 rfl) ?_
                          refine lv_bipush (v := 21) hx hb dX12_dealOut_201 (by decide) ?_
                          refine lv_iadd hx hb dX12_dealOut_203 ?_
                          refine lv_topi (fun x_165 ex_165 => ?_)
                          have hi_hr_166 : zEq x_165.toInt (x1.toInt + 21) := by
                            obtain ⟨f_165, l_165, u_165⟩ := z_add ex_165 rfl ti_21
                            try replace f_165 : x_165.toInt = x1.toInt + 21 := by omega
                            clear l_165 u_165
                            show x_165.toInt = (x1.toInt + 21)
                            omega
                          have hl_hr_166 : (21 : Int) ≤ 21 ∧ 21 ≤ (21 : Int) := by decide
                          have hid_hr_166 : (x1.toInt + 21) = x1.toInt + (21) := by simp only [Int.add_assoc, Int.add_sub_assoc]
                          have hr_166 := z_cell (lo := 20) (hi := 21) hp0 hi_hr_166 hid_hr_166 hl_hr_166 (by decide)
                          replace hid_hr_166 : zEq (x1.toInt + 21) (x1.toInt + (21)) := hid_hr_166
                          have hin_167 : vp_in x_165 (zn K (zr K a0 0)) := vp_in_iff.mpr (by rw [(hf_3.2.2 (by decide))]; exact hr_166.in)
                          refine mld_40 C hs hP hf_3.1 hf_3.2.1 hin_167 dX12_dealOut_204 ?_
                          have ep_168 : x_165.toNatClampNeg = (x1.toInt + 21).toNat := z_posE hi_hr_166
                          rw [ep_168]
                          have tv_169 := rv_20 hT hr_166
                          rw [ep_168] at tv_169
                          clear ep_168
                          refine bz_le (tgt := 222) hx hb rfl dX12_dealOut_205 (by decide) (fun c_170 => ?_) (fun c_170 => ?_)
                          · skip
                            obtain ⟨x_171, ex_171⟩ : ∃ y : Int32, y = y_70 + 1 := ⟨_, rfl⟩
                            refine lv_iinc (v := x_171) (lv' := [(6, .int x_171), (7, .int y_157), (5, .int y_67), (0, .ref a0), (1, .int x1), (2, .int x2), (3, .int x3), (4, .int y_26)]) hx hb dX12_dealOut_222 hl (k := 1) rfl (by rw [ex_171]; rfl) (by decide) rfl (fun ls hl => ?_)
                            refine lv_goto (tgt := 151) hx hb dX12_dealOut_225 (by decide) ?_
                            obtain ⟨f_171, l_171, u_171⟩ := z_add ex_171 rfl ti_1
                            try replace f_171 : x_171.toInt = y_70.toInt + 1 := by omega
                            clear l_171 u_171
                            have g_172 := z_rng (A_159 40 (x1.toInt + 21).toNat)
                            have g_173 := z_rng y_157
                            have g_174 := z_rng y_67
                            exact ih_71 A_159 _ _ x_171 _ (by omega) (by omega) iv_159_1 iv_159_2 FA FC hT hP hS (lv_sub hl [0, 2, 3, 4, 5, 6, 7] rfl)
                          · skip
                            refine lv_aload_n hx hb dX12_dealOut_208 rfl (lv_at hl 3 rfl) ?_
                            refine lv_iload_n hx hb dX12_dealOut_209 rfl (lv_at hl 4 rfl) ?_
                            refine lv_iload hx hb dX12_dealOut_210 (lv_at hl 1 rfl) ?_
                            refine lv_iconst (v := 0) hx hb dX12_dealOut_212 (by decide) ?_
                            have hq_175 : 0 ≤ y_70.toInt ∧ y_70.toInt ≤ 3 := by ((try simp only [ti_0]); first | assumption | omega | (intros; omega))
                            have hq_176 : 0 ≤ (0 : Int32).toInt ∧ (0 : Int32).toInt < (A_159 40 (x1.toInt + 21).toNat).toInt := by ((try simp only [ti_0]); first | assumption | omega | (intros; omega))
                            have hq_177 : 0 ≤ (A_159 40 (x1.toInt + y_70.toInt + 22).toNat).toInt ∧ (A_159 40 (x1.toInt + y_70.toInt + 22).toNat).toInt ≤ 59 := by ((try simp only [ti_0]); exact ⟨iv_159_3, rowP.h59 iv_159_1 tR3 (by omega) (by omega)⟩)
                            refine mcV (zrV (As := [.int x1, .int y_70, .int 0]) (b := a0) (rest := []) C hs hP hS (c_X12_toHand l D K hM f_16 A_159 hT a0 ha0 hk0 x1 y_70 0 hp0 hq_175 hq_176 hq_177) m_X12_toHand wm_X12_158 (zrecv hs hP ha0 (zF_11 hk0) rfl) ⟨by decide, by decide⟩ hl.1 (Nat.le_of_ble_eq_true rfl) dX12_dealOut_213) hS (fun f_178 A_178 H locs p_178 hP hS => ?_)
                            obtain ⟨hT, hA_178, hF_178, hC_178, pp_178⟩ := p_178
                            have pp_178 : (A_178 40 (x1.toInt + 21).toNat).toInt = (A_159 40 (x1.toInt + 21).toNat).toInt - 1 ∧ (A_178 40 (x1.toInt + y_70.toInt + 22).toNat).toInt = (A_159 40 (x1.toInt + y_70.toInt + 22).toNat).toInt + 1 ∧ (∀ q : Int, 0 ≤ q → q ≤ 3 → q ≠ y_70.toInt → A_178 40 (x1.toInt + q + 22).toNat = A_159 40 (x1.toInt + q + 22).toNat) ∧ (rK (A_159 40) x1.toInt → rK (A_178 40) x1.toInt) := pp_178
                            have pp0_178 := zHid.mk pp_178
                            try simp only [ti_0] at pp_178
                            have hff_178 : f_16 = f_178 := funext (fun k9 => (hF_178 k9 List.not_mem_nil).symm)
                            subst hff_178
                            have FA := frA FA hA_178 (by decide)
                            have FF := frF FF hF_178 (by decide)
                            have FC := fC.tr FC hC_178 (by decide)
                            obtain ⟨x_179, ex_179⟩ : ∃ y : Int32, y = y_157 + 1 := ⟨_, rfl⟩
                            refine lv_iinc (v := x_179) (lv' := [(7, .int x_179), (6, .int y_70), (5, .int y_67), (0, .ref a0), (1, .int x1), (2, .int x2), (3, .int x3), (4, .int y_26)]) hx hb dX12_dealOut_216 hl (k := 0) rfl (by rw [ex_179]; rfl) (by decide) rfl (fun ls hl => ?_)
                            refine lv_goto (tgt := 189) hx hb dX12_dealOut_219 (by decide) ?_
                            have g_180 := z_rng y_157
                            obtain ⟨f_179, l_179, u_179⟩ := z_add ex_179 rfl ti_1
                            try replace f_179 : x_179.toInt = y_157.toInt + 1 := by omega
                            clear l_179 u_179
                            have g_181 := z_rng (A_159 40 (x1.toInt + 21).toNat)
                            have g_182 := z_rng y_67
                            have h44_178 := hC_178.ar hb0.1 (lo := 44) (hi := 44) (by decide) (x1.toInt + 44) (by decide) (by omega) (by omega)
                            exact ih_158 A_178 _ _ x_179 _ (by omega) (by omega) (rowP.th iv_159_1 tR3 hb0.1 (by omega) iv_159_3 hC_178 pp_178.1 pp_178.2.1 pp_178.2.2.1 pp_178.2.2.2) (by rw [h44_178]; exact iv_159_2) (by have h9 := pp_178.2.1; omega) FA FC hT hP hS (lv_sub hl [0, 1, 2, 3, 4, 5, 6, 7] rfl)
                    have g_183 := z_rng (A 40 (x1.toInt + y_70.toInt + 35).toNat)
                    obtain ⟨f_151, l_151, u_151⟩ := z_add ex_151 rfl ti_22
                    try replace f_151 : x_151.toInt = x1.toInt + 22 := by omega
                    clear l_151 u_151
                    obtain ⟨f_152, l_152, u_152⟩ := z_add ex_152 rfl rfl
                    try replace f_152 : x_152.toInt = x_151.toInt + y_70.toInt := by omega
                    clear l_152 u_152
                    have es_184 : A_155 40 (x1.toInt + 44).toNat = A_72 40 (x1.toInt + 44).toNat := by rw [hE_155, va_up_self, pk_un (zNe (i := (x1.toInt + 44)) (j := (x1.toInt + y_70.toInt + 22)) (by omega) (by omega) (by omega))]
                    exact L_189_158 _ A_155 _ _ 0 _ (Nat.lt_succ_self _) (by (try simp only [ti_0]); omega) (rowP.hv iv_72_1 tR2 hb0.1 (by omega) hE_155 (by rw [ti_0, mx_0 (Int.le_refl 0)]; exact mx_nn _)) (by rw [es_184]; exact iv_72_2) (by rw [hE_155, va_up_self, pk_us, ti_0]; decide) FA FC hT hP hS (lv_sub hl [0, 1, 2, 3, 4, 5, 6, 7] rfl)
            have g_185 := z_rng y_25
            exact L_151_71 _ A_28 _ _ 0 _ (Nat.lt_succ_self _) (by (try simp only [ti_0]); omega) (bgn.row iv_28_1 (by rw [hpk]; exact tR0.p1.2)) iv_28_1.1.2.2.2 FA FC hT hP hS (lv_sub hl [0, 1, 2, 3, 4, 5, 6] rfl)
          refine bi_ne (tgt := 145) hx hb rfl ti_m1 dX12_dealOut_134 (by decide) (fun c_65 => ?_) (fun c_65 => ?_)
          · skip
            refine lv_iload_n hx hb dX12_dealOut_145 rfl (lv_at hl 5 rfl) ?_
            exact J_146_68 x3 _ (lv_sub hl [2, 3, 4, 5, 1, 0] rfl)
          · skip
            refine lv_aload_n hx hb dX12_dealOut_137 rfl (lv_at hl 2 rfl) ?_
            refine lv_iload_n hx hb dX12_dealOut_138 rfl (lv_at hl 3 rfl) ?_
            refine zcS (zrV (As := [.int x1]) (b := a0) (rest := []) C hs hP hS (c_X12_sizeOf l D K hM f_16 A_28 hT a0 ha0 hk0 x1 hp0) m_X12_sizeOf wm_X12_155 (zrecv hs hP ha0 (zF_11 hk0) rfl) ⟨by decide, by decide⟩ hl.1 (Nat.le_of_ble_eq_true rfl) dX12_dealOut_139) (fun x_186 p_186 => ?_)
            have pp_186 : 0 ≤ x_186.toInt ∧ x_186.toInt ≤ 15 := p_186
            refine lv_goto (tgt := 146) hx hb dX12_dealOut_142 (by decide) ?_
            exact J_146_68 x_186 _ (lv_sub hl [2, 3, 4, 5, 1, 0] rfl)
        · skip
          refine lv_iload hx hb dX12_dealOut_48 (lv_at hl 1 rfl) ?_
          refine lv_ldc (v := 1664525) hx hb hown (hts _ wz_X12_153) dX12_dealOut_50 ?_
          refine lv_imul hx hb dX12_dealOut_52 ?_
          refine lv_topi (fun x_187 ex_187 => ?_)
          refine lv_ldc (v := 1013904223) hx hb hown (hts _ wz_X12_154) dX12_dealOut_53 ?_
          refine lv_iadd hx hb dX12_dealOut_55 ?_
          refine lv_topi (fun x_188 ex_188 => ?_)
          refine lv_istore (lv' := [(4, .int x_188), (5, .int y_25), (0, .ref a0), (1, .int x1), (2, .int x2), (3, .int x3)]) hx hb dX12_dealOut_56 hl (by decide) rfl (fun ls hl => ?_)
          refine lv_iload hx hb dX12_dealOut_58 (lv_at hl 0 rfl) ?_
          refine lv_bipush (v := 8) hx hb dX12_dealOut_60 (by decide) ?_
          refine lv_iushr hx hb dX12_dealOut_62 rfl ?_
          refine lv_topi (fun x_189 ex_189 => ?_)
          refine lv_iload hx hb dX12_dealOut_63 (lv_at hl 1 rfl) ?_
          refine lv_iconst (v := 1) hx hb dX12_dealOut_65 (by decide) ?_
          refine lv_iadd hx hb dX12_dealOut_66 ?_
          refine lv_topi (fun x_190 ex_190 => ?_)
          have g_191 := z_rng y_25
          obtain ⟨f_190, l_190, u_190⟩ := z_add ex_190 rfl ti_1
          try replace f_190 : x_190.toInt = y_25.toInt + 1 := by omega
          clear l_190 u_190
          have hz_192 : ¬ x_190 = 0 := fun h9 => by have h8 := congrArg Int32.toInt h9; rw [ti_0] at h8; omega
          refine lv_irem hx hb dX12_dealOut_67 hz_192 ?_
          refine lv_topi (fun x_193 ex_193 => ?_)
          refine lv_istore (lv' := [(6, .int x_193), (4, .int x_188), (5, .int y_25), (0, .ref a0), (1, .int x1), (2, .int x2), (3, .int x3)]) hx hb dX12_dealOut_68 hl (by decide) rfl (fun ls hl => ?_)
          refine lv_aload_n hx hb dX12_dealOut_70 rfl (lv_at hl 3 rfl) ?_
          refine mg_0 C hs hP ha0 hk0 wf_X12_8 dX12_dealOut_71 ?_
          refine lv_iload_n hx hb dX12_dealOut_74 rfl (lv_at hl 4 rfl) ?_
          refine lv_sipush (v := 170) hx hb dX12_dealOut_75 (by decide) ?_
          refine lv_iadd hx hb dX12_dealOut_78 ?_
          refine lv_topi (fun x_194 ex_194 => ?_)
          refine lv_iload hx hb dX12_dealOut_79 (lv_at hl 2 rfl) ?_
          refine lv_iadd hx hb dX12_dealOut_81 ?_
          refine lv_topi (fun x_195 ex_195 => ?_)
          have hi_hr_196 : zEq x_195.toInt (x1.toInt + y_25.toInt + 170) := by
            obtain ⟨f_194, l_194, u_194⟩ := z_add ex_194 rfl ti_170
            try replace f_194 : x_194.toInt = x1.toInt + 170 := by omega
            clear l_194 u_194
            obtain ⟨f_195, l_195, u_195⟩ := z_add ex_195 rfl rfl
            try replace f_195 : x_195.toInt = x_194.toInt + y_25.toInt := by omega
            clear l_195 u_195
            show x_195.toInt = (x1.toInt + y_25.toInt + 170)
            omega
          have hl_hr_196 : 170 ≤ y_25.toInt + 170 ∧ y_25.toInt + 170 ≤ 229 := by
            omega
          have hid_hr_196 : (x1.toInt + y_25.toInt + 170) = x1.toInt + (y_25.toInt + 170) := by simp only [Int.add_assoc, Int.add_sub_assoc]
          have hr_196 := z_cell (lo := 170) (hi := 469) hp0 hi_hr_196 hid_hr_196 hl_hr_196 (by decide)
          replace hid_hr_196 : zEq (x1.toInt + y_25.toInt + 170) (x1.toInt + (y_25.toInt + 170)) := hid_hr_196
          have hin_197 : vp_in x_195 (zn K (zr K a0 0)) := vp_in_iff.mpr (by rw [(hf_3.2.2 (by decide))]; exact hr_196.in)
          refine mld_40 C hs hP hf_3.1 hf_3.2.1 hin_197 dX12_dealOut_82 ?_
          have ep_198 : x_195.toNatClampNeg = (x1.toInt + y_25.toInt + 170).toNat := z_posE hi_hr_196
          rw [ep_198]
          have tv_199 := rv_170 hT hr_196
          rw [ep_198] at tv_199
          clear ep_198
          refine lv_istore (lv' := [(7, .int (A_28 40 (x1.toInt + y_25.toInt + 170).toNat)), (6, .int x_193), (4, .int x_188), (5, .int y_25), (0, .ref a0), (1, .int x1), (2, .int x2), (3, .int x3)]) hx hb dX12_dealOut_83 hl (by decide) rfl (fun ls hl => ?_)
          refine lv_aload_n hx hb dX12_dealOut_85 rfl (lv_at hl 4 rfl) ?_
          refine mg_0 C hs hP ha0 hk0 wf_X12_8 dX12_dealOut_86 ?_
          refine lv_iload_n hx hb dX12_dealOut_89 rfl (lv_at hl 5 rfl) ?_
          refine lv_sipush (v := 170) hx hb dX12_dealOut_90 (by decide) ?_
          refine lv_iadd hx hb dX12_dealOut_93 ?_
          refine lv_topi (fun x_200 ex_200 => ?_)
          refine lv_iload hx hb dX12_dealOut_94 (lv_at hl 3 rfl) ?_
          refine lv_iadd hx hb dX12_dealOut_96 ?_
          refine lv_topi (fun x_201 ex_201 => ?_)
          refine lv_aload_n hx hb dX12_dealOut_97 rfl (lv_at hl 4 rfl) ?_
          refine mg_0 C hs hP ha0 hk0 wf_X12_8 dX12_dealOut_98 ?_
          refine lv_iload_n hx hb dX12_dealOut_101 rfl (lv_at hl 5 rfl) ?_
          refine lv_sipush (v := 170) hx hb dX12_dealOut_102 (by decide) ?_
          refine lv_iadd hx hb dX12_dealOut_105 ?_
          refine lv_topi (fun x_202 ex_202 => ?_)
          refine lv_iload hx hb dX12_dealOut_106 (lv_at hl 1 rfl) ?_
          refine lv_iadd hx hb dX12_dealOut_108 ?_
          refine lv_topi (fun x_203 ex_203 => ?_)
          have hi_hr_204 : zEq x_203.toInt (x1.toInt + x_193.toInt + 170) := by
            obtain ⟨f_202, l_202, u_202⟩ := z_add ex_202 rfl ti_170
            try replace f_202 : x_202.toInt = x1.toInt + 170 := by omega
            clear l_202 u_202
            have f_189 := z_ushr8 ex_189
            have f_d193 := z_remP ex_193 rfl rfl (by omega) (by omega)
            obtain ⟨f_203, l_203, u_203⟩ := z_add ex_203 rfl rfl
            try replace f_203 : x_203.toInt = x_202.toInt + x_193.toInt := by omega
            clear l_203 u_203
            show x_203.toInt = (x1.toInt + x_193.toInt + 170)
            omega
          have hl_hr_204 : 170 ≤ x_193.toInt + 170 ∧ x_193.toInt + 170 ≤ 229 := by
            have f_189 := z_ushr8 ex_189
            have f_d193 := z_remP ex_193 rfl rfl (by omega) (by omega)
            omega
          have hid_hr_204 : (x1.toInt + x_193.toInt + 170) = x1.toInt + (x_193.toInt + 170) := by simp only [Int.add_assoc, Int.add_sub_assoc]
          have hr_204 := z_cell (lo := 170) (hi := 469) hp0 hi_hr_204 hid_hr_204 hl_hr_204 (by decide)
          replace hid_hr_204 : zEq (x1.toInt + x_193.toInt + 170) (x1.toInt + (x_193.toInt + 170)) := hid_hr_204
          have hin_205 : vp_in x_203 (zn K (zr K a0 0)) := vp_in_iff.mpr (by rw [(hf_3.2.2 (by decide))]; exact hr_204.in)
          refine mld_40 C hs hP hf_3.1 hf_3.2.1 hin_205 dX12_dealOut_109 ?_
          have ep_206 : x_203.toNatClampNeg = (x1.toInt + x_193.toInt + 170).toNat := z_posE hi_hr_204
          rw [ep_206]
          have tv_207 := rv_170 hT hr_204
          rw [ep_206] at tv_207
          clear ep_206
          have hi_hr_208 : zEq x_201.toInt (x1.toInt + y_25.toInt + 170) := by
            obtain ⟨f_200, l_200, u_200⟩ := z_add ex_200 rfl ti_170
            try replace f_200 : x_200.toInt = x1.toInt + 170 := by omega
            clear l_200 u_200
            obtain ⟨f_201, l_201, u_201⟩ := z_add ex_201 rfl rfl
            try replace f_201 : x_201.toInt = x_200.toInt + y_25.toInt := by omega
            clear l_201 u_201
            show x_201.toInt = (x1.toInt + y_25.toInt + 170)
            omega
          have hl_hr_208 : 170 ≤ y_25.toInt + 170 ∧ y_25.toInt + 170 ≤ 229 := by
            omega
          have hid_hr_208 : (x1.toInt + y_25.toInt + 170) = x1.toInt + (y_25.toInt + 170) := by simp only [Int.add_assoc, Int.add_sub_assoc]
          have hr_208 := z_cell (lo := 170) (hi := 469) hp0 hi_hr_208 hid_hr_208 hl_hr_208 (by decide)
          replace hid_hr_208 : zEq (x1.toInt + y_25.toInt + 170) (x1.toInt + (y_25.toInt + 170)) := hid_hr_208
          have hin_209 : vp_in x_201 (zn K (zr K a0 0)) := vp_in_iff.mpr (by rw [(hf_3.2.2 (by decide))]; exact hr_208.in)
          have g_211 := z_rng (A_28 40 (x1.toInt + x_193.toInt + 170).toNat)
          refine mst_40 C hM hs hP hS hf_3.1 hT hf_3.2.1 hin_209 (tp_170 hr_208 (show 0 ≤ (A_28 40 (x1.toInt + x_193.toInt + 170).toNat).toInt ∧ (A_28 40 (x1.toInt + x_193.toInt + 170).toNat).toInt ≤ 59 from by omega)) dX12_dealOut_110 (fun A_210 H locs hE_210 hT hP hS => ?_)
          have ep_212 : x_201.toNatClampNeg = (x1.toInt + y_25.toInt + 170).toNat := z_posE hi_hr_208
          rw [ep_212] at hE_210
          clear ep_212
          have FA := frA FA (frAu hE_210) (by decide)
          have FC := fC.tr FC (fC.st (b := x1.toInt) (lo := 170) (hi := 229) hE_210 hb0.1 (by decide) hid_hr_208 hl_hr_208) (by decide)
          refine lv_aload_n hx hb dX12_dealOut_111 rfl (lv_at hl 4 rfl) ?_
          refine mg_0 C hs hP ha0 hk0 wf_X12_8 dX12_dealOut_112 ?_
          refine lv_iload_n hx hb dX12_dealOut_115 rfl (lv_at hl 5 rfl) ?_
          refine lv_sipush (v := 170) hx hb dX12_dealOut_116 (by decide) ?_
          refine lv_iadd hx hb dX12_dealOut_119 ?_
          refine lv_topi (fun x_213 ex_213 => ?_)
          refine lv_iload hx hb dX12_dealOut_120 (lv_at hl 1 rfl) ?_
          refine lv_iadd hx hb dX12_dealOut_122 ?_
          refine lv_topi (fun x_214 ex_214 => ?_)
          refine lv_iload hx hb dX12_dealOut_123 (lv_at hl 0 rfl) ?_
          have hi_hr_215 : zEq x_214.toInt (x1.toInt + x_193.toInt + 170) := by
            obtain ⟨f_213, l_213, u_213⟩ := z_add ex_213 rfl ti_170
            try replace f_213 : x_213.toInt = x1.toInt + 170 := by omega
            clear l_213 u_213
            have f_189 := z_ushr8 ex_189
            have f_d193 := z_remP ex_193 rfl rfl (by omega) (by omega)
            obtain ⟨f_214, l_214, u_214⟩ := z_add ex_214 rfl rfl
            try replace f_214 : x_214.toInt = x_213.toInt + x_193.toInt := by omega
            clear l_214 u_214
            show x_214.toInt = (x1.toInt + x_193.toInt + 170)
            omega
          have hl_hr_215 : 170 ≤ x_193.toInt + 170 ∧ x_193.toInt + 170 ≤ 229 := by
            have f_189 := z_ushr8 ex_189
            have f_d193 := z_remP ex_193 rfl rfl (by omega) (by omega)
            omega
          have hid_hr_215 : (x1.toInt + x_193.toInt + 170) = x1.toInt + (x_193.toInt + 170) := by simp only [Int.add_assoc, Int.add_sub_assoc]
          have hr_215 := z_cell (lo := 170) (hi := 469) hp0 hi_hr_215 hid_hr_215 hl_hr_215 (by decide)
          replace hid_hr_215 : zEq (x1.toInt + x_193.toInt + 170) (x1.toInt + (x_193.toInt + 170)) := hid_hr_215
          have hin_216 : vp_in x_214 (zn K (zr K a0 0)) := vp_in_iff.mpr (by rw [(hf_3.2.2 (by decide))]; exact hr_215.in)
          have g_218 := z_rng (A_28 40 (x1.toInt + y_25.toInt + 170).toNat)
          refine mst_40 C hM hs hP hS hf_3.1 hT hf_3.2.1 hin_216 (tp_170 hr_215 (show 0 ≤ (A_28 40 (x1.toInt + y_25.toInt + 170).toNat).toInt ∧ (A_28 40 (x1.toInt + y_25.toInt + 170).toNat).toInt ≤ 59 from by omega)) dX12_dealOut_125 (fun A_217 H locs hE_217 hT hP hS => ?_)
          have ep_219 : x_214.toNatClampNeg = (x1.toInt + x_193.toInt + 170).toNat := z_posE hi_hr_215
          rw [ep_219] at hE_217
          clear ep_219
          have FA := frA FA (frAu hE_217) (by decide)
          have FC := fC.tr FC (fC.st (b := x1.toInt) (lo := 170) (hi := 229) hE_217 hb0.1 (by decide) hid_hr_215 hl_hr_215) (by decide)
          obtain ⟨x_220, ex_220⟩ : ∃ y : Int32, y = y_25 + (-1) := ⟨_, rfl⟩
          refine lv_iinc (v := x_220) (lv' := [(5, .int x_220), (7, .int (A_28 40 (x1.toInt + y_25.toInt + 170).toNat)), (6, .int x_193), (4, .int x_188), (0, .ref a0), (1, .int x1), (2, .int x2), (3, .int x3)]) hx hb dX12_dealOut_126 hl (k := 3) rfl (by rw [ex_220]; rfl) (by decide) rfl (fun ls hl => ?_)
          refine lv_goto (tgt := 43) hx hb dX12_dealOut_129 (by decide) ?_
          obtain ⟨f_220, l_220, u_220⟩ := z_add ex_220 rfl ti_m1
          try replace f_220 : x_220.toInt = y_25.toInt + (-1) := by omega
          clear l_220 u_220
          have f_189 := z_ushr8 ex_189
          have f_d193 := z_remP ex_193 rfl rfl (by omega) (by omega)
          exact ih_27 A_217 _ _ x_220 x_188 _ (by omega) (by omega) (bgn.sw (p := (A 40 (x1.toInt + 1).toNat).toInt) iv_28_1 hb0.1 (by rw [hpk]) tR0.p1.2 (by omega) (by omega) hE_210 hE_217 rfl rfl) FA FC hT hP hS (lv_sub hl [0, 3, 4, 5, 6, 7] rfl)
    have g_221 := z_rng (A 40 (x1.toInt + 1).toNat)
    obtain ⟨f_24, l_24, u_24⟩ := z_sub ex_24 rfl ti_1
    try replace f_24 : x_24.toInt = (A 40 (x1.toInt + 1).toNat).toInt - 1 := by omega
    clear l_24 u_24
    have ev_222 : A_16 40 = A_1 40 := by rw [hA_16 40 (by decide)]
    exact L_43_27 _ A_16 _ _ x_24 x2 _ (Nat.lt_succ_self _) (by omega) (by rw [ev_222]; exact pp_1) FA FC hT hP hS (lv_sub hl [0, 1, 2, 3, 4, 5] rfl)
  refine bi_ne (tgt := 23) hx hb rfl ti_4 dX12_dealOut_15 (by decide) (fun c_10 => ?_) (fun c_10 => ?_)
  · skip
    refine lv_bipush (v := 11) hx hb dX12_dealOut_23 (by decide) ?_
    exact J_25_12 11 _ (lv_sub hl [0, 1, 2, 3] rfl)
  · skip
    refine lv_bipush (v := 12) hx hb dX12_dealOut_18 (by decide) ?_
    refine lv_goto (tgt := 25) hx hb dX12_dealOut_20 (by decide) ?_
    exact J_25_12 12 _ (lv_sub hl [0, 1, 2, 3] rfl)
set_option maxHeartbeats 4000000 in
set_option maxRecDepth 100000 in
theorem c_X12_doGive (l : Launch) (D : va_G) (K : zK) (hM : mK K) (f : Nat → Int32) (A : Nat → Nat → Int32) (hT : mT f A) (a0 : Nat) (ha0 : a0 ∈ zl K) (hk0 : zk K a0 = 11) (x1 : Int32) (x2 : Int32) (x3 : Int32) (hp0 : zRow x1.toInt) (hp1 : 0 ≤ x2.toInt ∧ x2.toInt ≤ 3) (hp2 : 0 ≤ x3.toInt ∧ x3.toInt ≤ 59 ∧ x3.toInt < (A 40 (x1.toInt + 1).toNat).toInt) (hp3 : (A 40 (x1.toInt + x3.toInt + 110).toNat).toInt = 0) (hp4 : (A 40 (x1.toInt + x2.toInt + 22).toNat).toInt ≤ 59) (hp5 : rowN (A 40) x1.toInt) : Met l yX12_doGive (zc yX12_doGive cX12_doGive 5 none) (rmd 2) (va_Pc [.ref a0, .int x1, .int x2, .int x3] (zB D K (mV K f A))) (mQv D K (fun f' A' => mT f' A' ∧ (∀ k, k ∉ ([40] : List Nat) → A' k = A k) ∧ (∀ k, k ∉ ([] : List Nat) → f' k = f k) ∧ fC (A 40) (A' 40) x1.toInt ([(9, 9), (21, 21), (22, 25), (110, 169), (170, 229), (230, 469)] : List (Int × Int)) ∧ rowN (A' 40) x1.toInt)) 0 0 (zA K) := by
  refine zin (by decide) (Nat.le_of_ble_eq_true rfl) ?_
  intro p e s m args below meth c ls Q hQ C hr hlk hP hs hl
  have C : CallFix p m c cX12_doGive 5 s args zw RX12 := C
  obtain ⟨hx, hb, hml, hown, hts⟩ := id C
  have hO := hM.1
  have hS : va_S (zA K) s.heap s.heap [] := va_S.rf
  have FA : ∀ k, k ∉ ([40] : List Nat) → A k = A k := fun _ _ => rfl
  have FF : ∀ k, k ∉ ([] : List Nat) → f k = f k := fun _ _ => rfl
  have FC : fC (A 40) (A 40) x1.toInt ([(9, 9), (21, 21), (22, 25), (110, 169), (170, 229), (230, 469)] : List (Int × Int)) := fun _ _ _ => rfl
  have hl : lv_has ls 5 [(0, .ref a0), (1, .int x1), (2, .int x2), (3, .int x3)] := hl
  have hb0 := hp0.lin
  have tR0 := hT.row hp0
  refine lv_aload_n hx hb dX12_doGive_0 rfl (lv_at hl 0 rfl) ?_
  refine mg_0 C hs hP ha0 hk0 wf_X12_8 dX12_doGive_1 ?_
  have hf_1 := hO.r (j := 0) ha0 hk0 (rfl : zX 11 0 = some (40, 47730))
  refine lv_iload_n hx hb dX12_doGive_4 rfl (lv_at hl 1 rfl) ?_
  refine lv_bipush (v := 22) hx hb dX12_doGive_5 (by decide) ?_
  refine lv_iadd hx hb dX12_doGive_7 ?_
  refine lv_topi (fun x_2 ex_2 => ?_)
  refine lv_iload_n hx hb dX12_doGive_8 rfl (lv_at hl 2 rfl) ?_
  refine lv_iadd hx hb dX12_doGive_9 ?_
  refine lv_topi (fun x_3 ex_3 => ?_)
  refine lv_aload_n hx hb dX12_doGive_10 rfl (lv_at hl 0 rfl) ?_
  refine mg_0 C hs hP ha0 hk0 wf_X12_8 dX12_doGive_11 ?_
  refine lv_iload_n hx hb dX12_doGive_14 rfl (lv_at hl 1 rfl) ?_
  refine lv_bipush (v := 22) hx hb dX12_doGive_15 (by decide) ?_
  refine lv_iadd hx hb dX12_doGive_17 ?_
  refine lv_topi (fun x_4 ex_4 => ?_)
  refine lv_iload_n hx hb dX12_doGive_18 rfl (lv_at hl 2 rfl) ?_
  refine lv_iadd hx hb dX12_doGive_19 ?_
  refine lv_topi (fun x_5 ex_5 => ?_)
  have hi_hr_6 : zEq x_5.toInt (x1.toInt + x2.toInt + 22) := by
    have g_7 := z_rng x1
    obtain ⟨f_4, l_4, u_4⟩ := z_add ex_4 rfl ti_22
    try replace f_4 : x_4.toInt = x1.toInt + 22 := by omega
    clear l_4 u_4
    have g_8 := z_rng x2
    obtain ⟨f_5, l_5, u_5⟩ := z_add ex_5 rfl rfl
    try replace f_5 : x_5.toInt = x_4.toInt + x2.toInt := by omega
    clear l_5 u_5
    show x_5.toInt = (x1.toInt + x2.toInt + 22)
    omega
  have hl_hr_6 : 22 ≤ x2.toInt + 22 ∧ x2.toInt + 22 ≤ 25 := by
    have g_9 := z_rng x1
    have g_10 := z_rng x2
    omega
  have hid_hr_6 : (x1.toInt + x2.toInt + 22) = x1.toInt + (x2.toInt + 22) := by simp only [Int.add_assoc, Int.add_sub_assoc]
  have hr_6 := z_cell (lo := 22) (hi := 25) hp0 hi_hr_6 hid_hr_6 hl_hr_6 (by decide)
  replace hid_hr_6 : zEq (x1.toInt + x2.toInt + 22) (x1.toInt + (x2.toInt + 22)) := hid_hr_6
  have hin_11 : vp_in x_5 (zn K (zr K a0 0)) := vp_in_iff.mpr (by rw [(hf_1.2.2 (by decide))]; exact hr_6.in)
  refine mld_40 C hs hP hf_1.1 hf_1.2.1 hin_11 dX12_doGive_20 ?_
  have ep_12 : x_5.toNatClampNeg = (x1.toInt + x2.toInt + 22).toNat := z_posE hi_hr_6
  rw [ep_12]
  have tv_13 := rv_22 hT hr_6
  rw [ep_12] at tv_13
  clear ep_12
  refine lv_iconst (v := (-1)) hx hb dX12_doGive_21 (by decide) ?_
  refine bi_ne (tgt := 29) hx hb rfl ti_m1 dX12_doGive_22 (by decide) (fun c_14 => ?_) (fun c_14 => ?_)
  · skip
    refine lv_aload_n hx hb dX12_doGive_29 rfl (lv_at hl 0 rfl) ?_
    refine mg_0 C hs hP ha0 hk0 wf_X12_8 dX12_doGive_30 ?_
    refine lv_iload_n hx hb dX12_doGive_33 rfl (lv_at hl 1 rfl) ?_
    refine lv_bipush (v := 22) hx hb dX12_doGive_34 (by decide) ?_
    refine lv_iadd hx hb dX12_doGive_36 ?_
    refine lv_topi (fun x_15 ex_15 => ?_)
    refine lv_iload_n hx hb dX12_doGive_37 rfl (lv_at hl 2 rfl) ?_
    refine lv_iadd hx hb dX12_doGive_38 ?_
    refine lv_topi (fun x_16 ex_16 => ?_)
    have hi_hr_17 : zEq x_16.toInt (x1.toInt + x2.toInt + 22) := by
      have g_18 := z_rng x1
      obtain ⟨f_15, l_15, u_15⟩ := z_add ex_15 rfl ti_22
      try replace f_15 : x_15.toInt = x1.toInt + 22 := by omega
      clear l_15 u_15
      have g_19 := z_rng x2
      obtain ⟨f_16, l_16, u_16⟩ := z_add ex_16 rfl rfl
      try replace f_16 : x_16.toInt = x_15.toInt + x2.toInt := by omega
      clear l_16 u_16
      show x_16.toInt = (x1.toInt + x2.toInt + 22)
      omega
    have hl_hr_17 : 22 ≤ x2.toInt + 22 ∧ x2.toInt + 22 ≤ 25 := by
      have g_20 := z_rng x1
      have g_21 := z_rng x2
      omega
    have hid_hr_17 : (x1.toInt + x2.toInt + 22) = x1.toInt + (x2.toInt + 22) := by simp only [Int.add_assoc, Int.add_sub_assoc]
    have hr_17 := z_cell (lo := 22) (hi := 25) hp0 hi_hr_17 hid_hr_17 hl_hr_17 (by decide)
    replace hid_hr_17 : zEq (x1.toInt + x2.toInt + 22) (x1.toInt + (x2.toInt + 22)) := hid_hr_17
    have hin_22 : vp_in x_16 (zn K (zr K a0 0)) := vp_in_iff.mpr (by rw [(hf_1.2.2 (by decide))]; exact hr_17.in)
    refine mld_40 C hs hP hf_1.1 hf_1.2.1 hin_22 dX12_doGive_39 ?_
    have ep_23 : x_16.toNatClampNeg = (x1.toInt + x2.toInt + 22).toNat := z_posE hi_hr_17
    rw [ep_23]
    clear ep_23
    have hi_hr_24 : zEq x_3.toInt (x1.toInt + x2.toInt + 22) := by
      have g_25 := z_rng x1
      obtain ⟨f_2, l_2, u_2⟩ := z_add ex_2 rfl ti_22
      try replace f_2 : x_2.toInt = x1.toInt + 22 := by omega
      clear l_2 u_2
      have g_26 := z_rng x2
      obtain ⟨f_3, l_3, u_3⟩ := z_add ex_3 rfl rfl
      try replace f_3 : x_3.toInt = x_2.toInt + x2.toInt := by omega
      clear l_3 u_3
      show x_3.toInt = (x1.toInt + x2.toInt + 22)
      omega
    have hl_hr_24 : 22 ≤ x2.toInt + 22 ∧ x2.toInt + 22 ≤ 25 := by
      have g_27 := z_rng x1
      have g_28 := z_rng x2
      omega
    have hid_hr_24 : (x1.toInt + x2.toInt + 22) = x1.toInt + (x2.toInt + 22) := by simp only [Int.add_assoc, Int.add_sub_assoc]
    have hr_24 := z_cell (lo := 22) (hi := 25) hp0 hi_hr_24 hid_hr_24 hl_hr_24 (by decide)
    replace hid_hr_24 : zEq (x1.toInt + x2.toInt + 22) (x1.toInt + (x2.toInt + 22)) := hid_hr_24
    have hin_29 : vp_in x_3 (zn K (zr K a0 0)) := vp_in_iff.mpr (by rw [(hf_1.2.2 (by decide))]; exact hr_24.in)
    have g_31 := z_rng (A 40 (x1.toInt + x2.toInt + 22).toNat)
    refine mst_40 C hM hs hP hS hf_1.1 hT hf_1.2.1 hin_29 (tp_22 hr_24 (show -1 ≤ (A 40 (x1.toInt + x2.toInt + 22).toNat).toInt ∧ (A 40 (x1.toInt + x2.toInt + 22).toNat).toInt ≤ 60 from by omega)) dX12_doGive_40 (fun A_30 H locs hE_30 hT hP hS => ?_)
    have ep_32 : x_3.toNatClampNeg = (x1.toInt + x2.toInt + 22).toNat := z_posE hi_hr_24
    rw [ep_32] at hE_30
    clear ep_32
    have FA := frA FA (frAu hE_30) (by decide)
    have FC := fC.tr FC (fC.st (b := x1.toInt) (lo := 22) (hi := 25) hE_30 hb0.1 (by decide) hid_hr_24 hl_hr_24) (by decide)
    have rP1 := rowP.hv hp5.1 tR0 hb0.1 (by omega) hE_30 (Int.le_refl _)
    have tR1 := hT.row hp0
    have es_33 : A_30 40 (x1.toInt + x2.toInt + 22).toNat = A 40 (x1.toInt + x2.toInt + 22).toNat := by rw [hE_30, va_up_self, pk_us]
    have hh1 : 0 ≤ (A_30 40 (x1.toInt + x2.toInt + 22).toNat).toInt ∧ (A_30 40 (x1.toInt + x2.toInt + 22).toNat).toInt ≤ 59 := by rw [es_33]; omega
    have hex := hp5.1.2.2 x3.toInt (by omega) (by omega) (by omega)
    refine lv_iconst (v := 0) hx hb dX12_doGive_41 (by decide) ?_
    refine lv_istore (lv' := [(4, .int 0), (0, .ref a0), (1, .int x1), (2, .int x2), (3, .int x3)]) hx hb dX12_doGive_42 hl (by decide) rfl (fun ls hl => ?_)
    have L_44_35 : ∀ (n_35 : Nat) (y_34 : Int32) (ls : Array Slot), (2147483648 - y_34.toInt).toNat < n_35 → 0 ≤ y_34.toInt → (∃ k : Int, y_34.toInt ≤ k ∧ k < (A 40 (x1.toInt + 21).toNat).toInt ∧ (A 40 (x1.toInt + k + 170).toNat).toInt = x3.toInt) → lv_has ls 5 [(4, .int y_34), (0, .ref a0), (1, .int x1), (2, .int x2), (3, .int x3)] → W p l e (rmd 2) s m args below meth c H locs 0 0 Q (F0 m 44 ls []) := by
      intro n_35
      induction n_35 with
      | zero => intro y_34 ls hm_35; exact absurd hm_35 (Nat.not_lt_zero _)
      | succ n_35 ih_35 =>
        intro y_34 ls hm_35 iv_36_0 iv_36_1 hl
        obtain ⟨k9, k91, k92, k93⟩ := iv_36_1
        have t21 := tR0.p21
        refine lv_aload_n hx hb dX12_doGive_44 rfl (lv_at hl 1 rfl) ?_
        refine mg_0 C hs hP ha0 hk0 wf_X12_8 dX12_doGive_45 ?_
        refine lv_iload_n hx hb dX12_doGive_48 rfl (lv_at hl 2 rfl) ?_
        refine lv_sipush (v := 170) hx hb dX12_doGive_49 (by decide) ?_
        refine lv_iadd hx hb dX12_doGive_52 ?_
        refine lv_topi (fun x_37 ex_37 => ?_)
        refine lv_iload hx hb dX12_doGive_53 (lv_at hl 0 rfl) ?_
        refine lv_iadd hx hb dX12_doGive_55 ?_
        refine lv_topi (fun x_38 ex_38 => ?_)
        have hi_hr_39 : zEq x_38.toInt (x1.toInt + y_34.toInt + 170) := by
          have g_40 := z_rng x1
          obtain ⟨f_37, l_37, u_37⟩ := z_add ex_37 rfl ti_170
          try replace f_37 : x_37.toInt = x1.toInt + 170 := by omega
          clear l_37 u_37
          have g_41 := z_rng y_34
          obtain ⟨f_38, l_38, u_38⟩ := z_add ex_38 rfl rfl
          try replace f_38 : x_38.toInt = x_37.toInt + y_34.toInt := by omega
          clear l_38 u_38
          show x_38.toInt = (x1.toInt + y_34.toInt + 170)
          omega
        have hl_hr_39 : 170 ≤ y_34.toInt + 170 ∧ y_34.toInt + 170 ≤ 229 := by
          have g_42 := z_rng x1
          have g_43 := z_rng y_34
          omega
        have hid_hr_39 : (x1.toInt + y_34.toInt + 170) = x1.toInt + (y_34.toInt + 170) := by simp only [Int.add_assoc, Int.add_sub_assoc]
        have hr_39 := z_cell (lo := 170) (hi := 469) hp0 hi_hr_39 hid_hr_39 hl_hr_39 (by decide)
        replace hid_hr_39 : zEq (x1.toInt + y_34.toInt + 170) (x1.toInt + (y_34.toInt + 170)) := hid_hr_39
        have hin_44 : vp_in x_38 (zn K (zr K a0 0)) := vp_in_iff.mpr (by rw [(hf_1.2.2 (by decide))]; exact hr_39.in)
        refine mld_40 C hs hP hf_1.1 hf_1.2.1 hin_44 dX12_doGive_56 ?_
        have ep_45 : x_38.toNatClampNeg = (x1.toInt + y_34.toInt + 170).toNat := z_posE hi_hr_39
        rw [ep_45]
        have g_47 := z_rng x1
        obtain ⟨f_37, l_37, u_37⟩ := z_add ex_37 rfl ti_170
        try replace f_37 : x_37.toInt = x1.toInt + 170 := by omega
        clear l_37 u_37
        have g_48 := z_rng y_34
        obtain ⟨f_38, l_38, u_38⟩ := z_add ex_38 rfl rfl
        try replace f_38 : x_38.toInt = x_37.toInt + y_34.toInt := by omega
        clear l_38 u_38
        obtain ⟨f_2, l_2, u_2⟩ := z_add ex_2 rfl ti_22
        try replace f_2 : x_2.toInt = x1.toInt + 22 := by omega
        clear l_2 u_2
        have g_49 := z_rng x2
        obtain ⟨f_3, l_3, u_3⟩ := z_add ex_3 rfl rfl
        try replace f_3 : x_3.toInt = x_2.toInt + x2.toInt := by omega
        clear l_3 u_3
        have hn_46 : (x1.toInt + y_34.toInt + 170).toNat ≠ (x1.toInt + x2.toInt + 22).toNat := zNe (by omega) (by omega) (by omega)
        have ev_50 : A_30 40 (x1.toInt + y_34.toInt + 170).toNat = A 40 (x1.toInt + y_34.toInt + 170).toNat := by rw [hE_30, va_up_self, pk_un hn_46]
        clear hn_46
        have tv_51 := rv_170 hT hr_39
        rw [ep_45] at tv_51
        rw [ev_50] at tv_51
        rw [ev_50]
        clear ep_45
        refine lv_iload_n hx hb dX12_doGive_57 rfl (lv_at hl 4 rfl) ?_
        refine bi_eq (tgt := 67) hx hb rfl rfl dX12_doGive_58 (by decide) (fun c_52 => ?_) (fun c_52 => ?_)
        · skip
          refine lv_aload_n hx hb dX12_doGive_67 rfl (lv_at hl 1 rfl) ?_
          refine lv_iload_n hx hb dX12_doGive_68 rfl (lv_at hl 2 rfl) ?_
          refine lv_iload_n hx hb dX12_doGive_69 rfl (lv_at hl 3 rfl) ?_
          refine lv_iload hx hb dX12_doGive_70 (lv_at hl 0 rfl) ?_
          have hq_54 : 0 ≤ x2.toInt ∧ x2.toInt ≤ 3 := by (first | assumption | omega | (intros; omega))
          have es_56 : A_30 40 (x1.toInt + 21).toNat = A 40 (x1.toInt + 21).toNat := by rw [hE_30, va_up_self, pk_un (zNe (i := (x1.toInt + 21)) (j := (x1.toInt + x2.toInt + 22)) (by omega) (by omega) (by omega))]
          have hq_55 : 0 ≤ y_34.toInt ∧ y_34.toInt < (A_30 40 (x1.toInt + 21).toNat).toInt := by rw [es_56] <;> (first | assumption | omega | (intros; omega))
          have es_58 : A_30 40 (x1.toInt + x2.toInt + 22).toNat = A 40 (x1.toInt + x2.toInt + 22).toNat := by rw [hE_30, va_up_self, pk_us]
          have hq_57 : 0 ≤ (A_30 40 (x1.toInt + x2.toInt + 22).toNat).toInt ∧ (A_30 40 (x1.toInt + x2.toInt + 22).toNat).toInt ≤ 59 := by exact hh1
          refine mcV (zrV (As := [.int x1, .int x2, .int y_34]) (b := a0) (rest := []) C hs hP hS (c_X12_toHand l D K hM f A_30 hT a0 ha0 hk0 x1 x2 y_34 hp0 hq_54 hq_55 hq_57) m_X12_toHand wm_X12_158 (zrecv hs hP ha0 (zF_11 hk0) rfl) ⟨by decide, by decide⟩ hl.1 (Nat.le_of_ble_eq_true rfl) dX12_doGive_72) hS (fun f_59 A_59 H locs p_59 hP hS => ?_)
          obtain ⟨hT, hA_59, hF_59, hC_59, pp_59⟩ := p_59
          have pp_59 : (A_59 40 (x1.toInt + 21).toNat).toInt = (A_30 40 (x1.toInt + 21).toNat).toInt - 1 ∧ (A_59 40 (x1.toInt + x2.toInt + 22).toNat).toInt = (A_30 40 (x1.toInt + x2.toInt + 22).toNat).toInt + 1 ∧ (∀ q : Int, 0 ≤ q → q ≤ 3 → q ≠ x2.toInt → A_59 40 (x1.toInt + q + 22).toNat = A_30 40 (x1.toInt + q + 22).toNat) ∧ (rK (A_30 40) x1.toInt → rK (A_59 40) x1.toInt) := pp_59
          have pp0_59 := zHid.mk pp_59
          have hff_59 : f = f_59 := funext (fun k9 => (hF_59 k9 List.not_mem_nil).symm)
          subst hff_59
          have FA := frA FA hA_59 (by decide)
          have FF := frF FF hF_59 (by decide)
          have FC := fC.tr FC hC_59 (by decide)
          have rP2 := rowP.th rP1 tR1 hb0.1 (by omega) hh1.1 hC_59 pp0_59.1 pp0_59.2.1 pp0_59.2.2.1 pp0_59.2.2.2
          refine lv_aload_n hx hb dX12_doGive_75 rfl (lv_at hl 1 rfl) ?_
          refine mg_0 C hs hP ha0 hk0 wf_X12_8 dX12_doGive_76 ?_
          refine lv_iload_n hx hb dX12_doGive_79 rfl (lv_at hl 2 rfl) ?_
          refine lv_bipush (v := 9) hx hb dX12_doGive_80 (by decide) ?_
          refine lv_iadd hx hb dX12_doGive_82 ?_
          refine lv_topi (fun x_60 ex_60 => ?_)
          refine lv_aload_n hx hb dX12_doGive_83 rfl (lv_at hl 1 rfl) ?_
          refine lv_iload_n hx hb dX12_doGive_84 rfl (lv_at hl 2 rfl) ?_
          refine lv_iconst (v := 0) hx hb dX12_doGive_85 (by decide) ?_
          have hq_61 : 0 ≤ (0 : Int32).toInt ∧ (0 : Int32).toInt ≤ 4 := by ((try simp only [ti_0]); first | assumption | omega | (intros; omega))
          refine zcS (zrV (As := [.int x1, .int 0]) (b := a0) (rest := [.int x_60, .ref (zr K a0 0)]) C hs hP hS (c_X12_seatFrom l D K hM f A_59 hT a0 ha0 hk0 x1 0 hp0 hq_61) m_X12_seatFrom wm_X12_162 (zrecv hs hP ha0 (zF_11 hk0) rfl) ⟨by decide, by decide⟩ hl.1 (Nat.le_of_ble_eq_true rfl) dX12_doGive_86) (fun x_62 p_62 => ?_)
          have pp_62 : (x_62.toInt = -1 ∨ (0 ≤ x_62.toInt ∧ x_62.toInt ≤ 3 ∧ 1 ≤ (A_59 40 (x1.toInt + x_62.toInt + 22).toNat).toInt ∧ nL (A_59 40) x1.toInt x_62.toInt (A_59 40 (x1.toInt + 26).toNat).toInt)) := p_62
          try simp only [ti_0] at pp_62
          have tRs := hT.row hp0
          have sfp_62 := zHid.mk pp_62
          clear pp_62
          have FCs := FC
          have hi_hr_63 : zEq x_60.toInt (x1.toInt + 9) := by
            obtain ⟨f_60, l_60, u_60⟩ := z_add ex_60 rfl ti_9
            try replace f_60 : x_60.toInt = x1.toInt + 9 := by omega
            clear l_60 u_60
            show x_60.toInt = (x1.toInt + 9)
            omega
          have hl_hr_63 : (9 : Int) ≤ 9 ∧ 9 ≤ (9 : Int) := by decide
          have hid_hr_63 : (x1.toInt + 9) = x1.toInt + (9) := by simp only [Int.add_assoc, Int.add_sub_assoc]
          have hr_63 := z_cell (lo := 9) (hi := 9) hp0 hi_hr_63 hid_hr_63 hl_hr_63 (by decide)
          replace hid_hr_63 : zEq (x1.toInt + 9) (x1.toInt + (9)) := hid_hr_63
          have hin_64 : vp_in x_60 (zn K (zr K a0 0)) := vp_in_iff.mpr (by rw [(hf_1.2.2 (by decide))]; exact hr_63.in)
          have g_66 := z_rng x_62
          refine mst_40 C hM hs hP hS hf_1.1 hT hf_1.2.1 hin_64 (tp_9 hr_63 (show -1 ≤ x_62.toInt ∧ x_62.toInt ≤ 3 from by omega)) dX12_doGive_89 (fun A_65 H locs hE_65 hT hP hS => ?_)
          have ep_67 : x_60.toNatClampNeg = (x1.toInt + 9).toNat := z_posE hi_hr_63
          rw [ep_67] at hE_65
          clear ep_67
          have FA := frA FA (frAu hE_65) (by decide)
          have FC := fC.tr FC (fC.st (b := x1.toInt) (lo := 9) (hi := 9) hE_65 hb0.1 (by decide) hid_hr_63 hl_hr_63) (by decide)
          have hRN := rowN.nx rP2 tRs hb0.1 hE_65 sfp_62
          exact maV hQ hx hb hr hlk hP hS ⟨hT, FA, FF, FC, hRN⟩ dX12_doGive_90
        · skip
          obtain ⟨x_68, ex_68⟩ : ∃ y : Int32, y = y_34 + 1 := ⟨_, rfl⟩
          refine lv_iinc (v := x_68) (lv' := [(4, .int x_68), (0, .ref a0), (1, .int x1), (2, .int x2), (3, .int x3)]) hx hb dX12_doGive_61 hl (k := 0) rfl (by rw [ex_68]; rfl) (by decide) rfl (fun ls hl => ?_)
          refine lv_goto (tgt := 44) hx hb dX12_doGive_64 (by decide) ?_
          obtain ⟨f_68, l_68, u_68⟩ := z_add ex_68 rfl ti_1
          try replace f_68 : x_68.toInt = y_34.toInt + 1 := by omega
          clear l_68 u_68
          have g_69 := z_rng (A 40 (x1.toInt + y_34.toInt + 170).toNat)
          have g_70 := z_rng x3
          exact ih_35 x_68 _ (by omega) (by omega) ⟨k9, by rcases (by omega : y_34.toInt = k9 ∨ y_34.toInt < k9) with h9 | h9 <;> first | omega | (exfalso; rw [← h9] at k93; omega), k92, k93⟩ (lv_sub hl [0, 1, 2, 3, 4] rfl)
    exact L_44_35 _ 0 _ (Nat.lt_succ_self _) (by (try simp only [ti_0]); omega) (by obtain ⟨k9, k91, k92, k93⟩ := hex; exact ⟨k9, by rw [ti_0]; exact k91, k92, k93⟩) (lv_sub hl [0, 1, 2, 3, 4] rfl)
  · skip
    refine lv_iconst (v := 0) hx hb dX12_doGive_25 (by decide) ?_
    refine lv_goto (tgt := 40) hx hb dX12_doGive_26 (by decide) ?_
    have hi_hr_71 : zEq x_3.toInt (x1.toInt + x2.toInt + 22) := by
      have g_72 := z_rng x1
      obtain ⟨f_2, l_2, u_2⟩ := z_add ex_2 rfl ti_22
      try replace f_2 : x_2.toInt = x1.toInt + 22 := by omega
      clear l_2 u_2
      have g_73 := z_rng x2
      obtain ⟨f_3, l_3, u_3⟩ := z_add ex_3 rfl rfl
      try replace f_3 : x_3.toInt = x_2.toInt + x2.toInt := by omega
      clear l_3 u_3
      show x_3.toInt = (x1.toInt + x2.toInt + 22)
      omega
    have hl_hr_71 : 22 ≤ x2.toInt + 22 ∧ x2.toInt + 22 ≤ 25 := by
      have g_74 := z_rng x1
      have g_75 := z_rng x2
      omega
    have hid_hr_71 : (x1.toInt + x2.toInt + 22) = x1.toInt + (x2.toInt + 22) := by simp only [Int.add_assoc, Int.add_sub_assoc]
    have hr_71 := z_cell (lo := 22) (hi := 25) hp0 hi_hr_71 hid_hr_71 hl_hr_71 (by decide)
    replace hid_hr_71 : zEq (x1.toInt + x2.toInt + 22) (x1.toInt + (x2.toInt + 22)) := hid_hr_71
    have hin_76 : vp_in x_3 (zn K (zr K a0 0)) := vp_in_iff.mpr (by rw [(hf_1.2.2 (by decide))]; exact hr_71.in)
    refine mst_40 C hM hs hP hS hf_1.1 hT hf_1.2.1 hin_76 (tp_22 hr_71 (show -1 ≤ (0 : Int32).toInt ∧ (0 : Int32).toInt ≤ 60 from by rw [ti_0]; omega)) dX12_doGive_40 (fun A_77 H locs hE_77 hT hP hS => ?_)
    have ep_78 : x_3.toNatClampNeg = (x1.toInt + x2.toInt + 22).toNat := z_posE hi_hr_71
    rw [ep_78] at hE_77
    clear ep_78
    have FA := frA FA (frAu hE_77) (by decide)
    have FC := fC.tr FC (fC.st (b := x1.toInt) (lo := 22) (hi := 25) hE_77 hb0.1 (by decide) hid_hr_71 hl_hr_71) (by decide)
    have rP1 := rowP.hv hp5.1 tR0 hb0.1 (by omega) hE_77 (by rw [ti_0, mx_0 (Int.le_refl 0)]; exact mx_nn _)
    have tR1 := hT.row hp0
    have es_79 : A_77 40 (x1.toInt + x2.toInt + 22).toNat = (0 : Int32) := by rw [hE_77, va_up_self, pk_us]
    have hh1 : 0 ≤ (A_77 40 (x1.toInt + x2.toInt + 22).toNat).toInt ∧ (A_77 40 (x1.toInt + x2.toInt + 22).toNat).toInt ≤ 59 := by rw [es_79]; rw [ti_0]; omega
    have hex := hp5.1.2.2 x3.toInt (by omega) (by omega) (by omega)
    refine lv_iconst (v := 0) hx hb dX12_doGive_41 (by decide) ?_
    refine lv_istore (lv' := [(4, .int 0), (0, .ref a0), (1, .int x1), (2, .int x2), (3, .int x3)]) hx hb dX12_doGive_42 hl (by decide) rfl (fun ls hl => ?_)
    have L_44_81 : ∀ (n_81 : Nat) (y_80 : Int32) (ls : Array Slot), (2147483648 - y_80.toInt).toNat < n_81 → 0 ≤ y_80.toInt → (∃ k : Int, y_80.toInt ≤ k ∧ k < (A 40 (x1.toInt + 21).toNat).toInt ∧ (A 40 (x1.toInt + k + 170).toNat).toInt = x3.toInt) → lv_has ls 5 [(4, .int y_80), (0, .ref a0), (1, .int x1), (2, .int x2), (3, .int x3)] → W p l e (rmd 2) s m args below meth c H locs 0 0 Q (F0 m 44 ls []) := by
      intro n_81
      induction n_81 with
      | zero => intro y_80 ls hm_81; exact absurd hm_81 (Nat.not_lt_zero _)
      | succ n_81 ih_81 =>
        intro y_80 ls hm_81 iv_82_0 iv_82_1 hl
        obtain ⟨k9, k91, k92, k93⟩ := iv_82_1
        have t21 := tR0.p21
        refine lv_aload_n hx hb dX12_doGive_44 rfl (lv_at hl 1 rfl) ?_
        refine mg_0 C hs hP ha0 hk0 wf_X12_8 dX12_doGive_45 ?_
        refine lv_iload_n hx hb dX12_doGive_48 rfl (lv_at hl 2 rfl) ?_
        refine lv_sipush (v := 170) hx hb dX12_doGive_49 (by decide) ?_
        refine lv_iadd hx hb dX12_doGive_52 ?_
        refine lv_topi (fun x_83 ex_83 => ?_)
        refine lv_iload hx hb dX12_doGive_53 (lv_at hl 0 rfl) ?_
        refine lv_iadd hx hb dX12_doGive_55 ?_
        refine lv_topi (fun x_84 ex_84 => ?_)
        have hi_hr_85 : zEq x_84.toInt (x1.toInt + y_80.toInt + 170) := by
          have g_86 := z_rng x1
          obtain ⟨f_83, l_83, u_83⟩ := z_add ex_83 rfl ti_170
          try replace f_83 : x_83.toInt = x1.toInt + 170 := by omega
          clear l_83 u_83
          have g_87 := z_rng y_80
          obtain ⟨f_84, l_84, u_84⟩ := z_add ex_84 rfl rfl
          try replace f_84 : x_84.toInt = x_83.toInt + y_80.toInt := by omega
          clear l_84 u_84
          show x_84.toInt = (x1.toInt + y_80.toInt + 170)
          omega
        have hl_hr_85 : 170 ≤ y_80.toInt + 170 ∧ y_80.toInt + 170 ≤ 229 := by
          have g_88 := z_rng x1
          have g_89 := z_rng y_80
          omega
        have hid_hr_85 : (x1.toInt + y_80.toInt + 170) = x1.toInt + (y_80.toInt + 170) := by simp only [Int.add_assoc, Int.add_sub_assoc]
        have hr_85 := z_cell (lo := 170) (hi := 469) hp0 hi_hr_85 hid_hr_85 hl_hr_85 (by decide)
        replace hid_hr_85 : zEq (x1.toInt + y_80.toInt + 170) (x1.toInt + (y_80.toInt + 170)) := hid_hr_85
        have hin_90 : vp_in x_84 (zn K (zr K a0 0)) := vp_in_iff.mpr (by rw [(hf_1.2.2 (by decide))]; exact hr_85.in)
        refine mld_40 C hs hP hf_1.1 hf_1.2.1 hin_90 dX12_doGive_56 ?_
        have ep_91 : x_84.toNatClampNeg = (x1.toInt + y_80.toInt + 170).toNat := z_posE hi_hr_85
        rw [ep_91]
        have g_93 := z_rng x1
        obtain ⟨f_83, l_83, u_83⟩ := z_add ex_83 rfl ti_170
        try replace f_83 : x_83.toInt = x1.toInt + 170 := by omega
        clear l_83 u_83
        have g_94 := z_rng y_80
        obtain ⟨f_84, l_84, u_84⟩ := z_add ex_84 rfl rfl
        try replace f_84 : x_84.toInt = x_83.toInt + y_80.toInt := by omega
        clear l_84 u_84
        obtain ⟨f_2, l_2, u_2⟩ := z_add ex_2 rfl ti_22
        try replace f_2 : x_2.toInt = x1.toInt + 22 := by omega
        clear l_2 u_2
        have g_95 := z_rng x2
        obtain ⟨f_3, l_3, u_3⟩ := z_add ex_3 rfl rfl
        try replace f_3 : x_3.toInt = x_2.toInt + x2.toInt := by omega
        clear l_3 u_3
        have hn_92 : (x1.toInt + y_80.toInt + 170).toNat ≠ (x1.toInt + x2.toInt + 22).toNat := zNe (by omega) (by omega) (by omega)
        have ev_96 : A_77 40 (x1.toInt + y_80.toInt + 170).toNat = A 40 (x1.toInt + y_80.toInt + 170).toNat := by rw [hE_77, va_up_self, pk_un hn_92]
        clear hn_92
        have tv_97 := rv_170 hT hr_85
        rw [ep_91] at tv_97
        rw [ev_96] at tv_97
        rw [ev_96]
        clear ep_91
        refine lv_iload_n hx hb dX12_doGive_57 rfl (lv_at hl 4 rfl) ?_
        refine bi_eq (tgt := 67) hx hb rfl rfl dX12_doGive_58 (by decide) (fun c_98 => ?_) (fun c_98 => ?_)
        · skip
          refine lv_aload_n hx hb dX12_doGive_67 rfl (lv_at hl 1 rfl) ?_
          refine lv_iload_n hx hb dX12_doGive_68 rfl (lv_at hl 2 rfl) ?_
          refine lv_iload_n hx hb dX12_doGive_69 rfl (lv_at hl 3 rfl) ?_
          refine lv_iload hx hb dX12_doGive_70 (lv_at hl 0 rfl) ?_
          have hq_100 : 0 ≤ x2.toInt ∧ x2.toInt ≤ 3 := by (first | assumption | omega | (intros; omega))
          have es_102 : A_77 40 (x1.toInt + 21).toNat = A 40 (x1.toInt + 21).toNat := by rw [hE_77, va_up_self, pk_un (zNe (i := (x1.toInt + 21)) (j := (x1.toInt + x2.toInt + 22)) (by omega) (by omega) (by omega))]
          have hq_101 : 0 ≤ y_80.toInt ∧ y_80.toInt < (A_77 40 (x1.toInt + 21).toNat).toInt := by rw [es_102] <;> (first | assumption | omega | (intros; omega))
          have es_104 : A_77 40 (x1.toInt + x2.toInt + 22).toNat = (0 : Int32) := by rw [hE_77, va_up_self, pk_us]
          have hq_103 : 0 ≤ (A_77 40 (x1.toInt + x2.toInt + 22).toNat).toInt ∧ (A_77 40 (x1.toInt + x2.toInt + 22).toNat).toInt ≤ 59 := by exact hh1
          refine mcV (zrV (As := [.int x1, .int x2, .int y_80]) (b := a0) (rest := []) C hs hP hS (c_X12_toHand l D K hM f A_77 hT a0 ha0 hk0 x1 x2 y_80 hp0 hq_100 hq_101 hq_103) m_X12_toHand wm_X12_158 (zrecv hs hP ha0 (zF_11 hk0) rfl) ⟨by decide, by decide⟩ hl.1 (Nat.le_of_ble_eq_true rfl) dX12_doGive_72) hS (fun f_105 A_105 H locs p_105 hP hS => ?_)
          obtain ⟨hT, hA_105, hF_105, hC_105, pp_105⟩ := p_105
          have pp_105 : (A_105 40 (x1.toInt + 21).toNat).toInt = (A_77 40 (x1.toInt + 21).toNat).toInt - 1 ∧ (A_105 40 (x1.toInt + x2.toInt + 22).toNat).toInt = (A_77 40 (x1.toInt + x2.toInt + 22).toNat).toInt + 1 ∧ (∀ q : Int, 0 ≤ q → q ≤ 3 → q ≠ x2.toInt → A_105 40 (x1.toInt + q + 22).toNat = A_77 40 (x1.toInt + q + 22).toNat) ∧ (rK (A_77 40) x1.toInt → rK (A_105 40) x1.toInt) := pp_105
          have pp0_105 := zHid.mk pp_105
          have hff_105 : f = f_105 := funext (fun k9 => (hF_105 k9 List.not_mem_nil).symm)
          subst hff_105
          have FA := frA FA hA_105 (by decide)
          have FF := frF FF hF_105 (by decide)
          have FC := fC.tr FC hC_105 (by decide)
          have rP2 := rowP.th rP1 tR1 hb0.1 (by omega) hh1.1 hC_105 pp0_105.1 pp0_105.2.1 pp0_105.2.2.1 pp0_105.2.2.2
          refine lv_aload_n hx hb dX12_doGive_75 rfl (lv_at hl 1 rfl) ?_
          refine mg_0 C hs hP ha0 hk0 wf_X12_8 dX12_doGive_76 ?_
          refine lv_iload_n hx hb dX12_doGive_79 rfl (lv_at hl 2 rfl) ?_
          refine lv_bipush (v := 9) hx hb dX12_doGive_80 (by decide) ?_
          refine lv_iadd hx hb dX12_doGive_82 ?_
          refine lv_topi (fun x_106 ex_106 => ?_)
          refine lv_aload_n hx hb dX12_doGive_83 rfl (lv_at hl 1 rfl) ?_
          refine lv_iload_n hx hb dX12_doGive_84 rfl (lv_at hl 2 rfl) ?_
          refine lv_iconst (v := 0) hx hb dX12_doGive_85 (by decide) ?_
          have hq_107 : 0 ≤ (0 : Int32).toInt ∧ (0 : Int32).toInt ≤ 4 := by ((try simp only [ti_0]); first | assumption | omega | (intros; omega))
          refine zcS (zrV (As := [.int x1, .int 0]) (b := a0) (rest := [.int x_106, .ref (zr K a0 0)]) C hs hP hS (c_X12_seatFrom l D K hM f A_105 hT a0 ha0 hk0 x1 0 hp0 hq_107) m_X12_seatFrom wm_X12_162 (zrecv hs hP ha0 (zF_11 hk0) rfl) ⟨by decide, by decide⟩ hl.1 (Nat.le_of_ble_eq_true rfl) dX12_doGive_86) (fun x_108 p_108 => ?_)
          have pp_108 : (x_108.toInt = -1 ∨ (0 ≤ x_108.toInt ∧ x_108.toInt ≤ 3 ∧ 1 ≤ (A_105 40 (x1.toInt + x_108.toInt + 22).toNat).toInt ∧ nL (A_105 40) x1.toInt x_108.toInt (A_105 40 (x1.toInt + 26).toNat).toInt)) := p_108
          try simp only [ti_0] at pp_108
          have tRs := hT.row hp0
          have sfp_108 := zHid.mk pp_108
          clear pp_108
          have FCs := FC
          have hi_hr_109 : zEq x_106.toInt (x1.toInt + 9) := by
            obtain ⟨f_106, l_106, u_106⟩ := z_add ex_106 rfl ti_9
            try replace f_106 : x_106.toInt = x1.toInt + 9 := by omega
            clear l_106 u_106
            show x_106.toInt = (x1.toInt + 9)
            omega
          have hl_hr_109 : (9 : Int) ≤ 9 ∧ 9 ≤ (9 : Int) := by decide
          have hid_hr_109 : (x1.toInt + 9) = x1.toInt + (9) := by simp only [Int.add_assoc, Int.add_sub_assoc]
          have hr_109 := z_cell (lo := 9) (hi := 9) hp0 hi_hr_109 hid_hr_109 hl_hr_109 (by decide)
          replace hid_hr_109 : zEq (x1.toInt + 9) (x1.toInt + (9)) := hid_hr_109
          have hin_110 : vp_in x_106 (zn K (zr K a0 0)) := vp_in_iff.mpr (by rw [(hf_1.2.2 (by decide))]; exact hr_109.in)
          have g_112 := z_rng x_108
          refine mst_40 C hM hs hP hS hf_1.1 hT hf_1.2.1 hin_110 (tp_9 hr_109 (show -1 ≤ x_108.toInt ∧ x_108.toInt ≤ 3 from by omega)) dX12_doGive_89 (fun A_111 H locs hE_111 hT hP hS => ?_)
          have ep_113 : x_106.toNatClampNeg = (x1.toInt + 9).toNat := z_posE hi_hr_109
          rw [ep_113] at hE_111
          clear ep_113
          have FA := frA FA (frAu hE_111) (by decide)
          have FC := fC.tr FC (fC.st (b := x1.toInt) (lo := 9) (hi := 9) hE_111 hb0.1 (by decide) hid_hr_109 hl_hr_109) (by decide)
          have hRN := rowN.nx rP2 tRs hb0.1 hE_111 sfp_108
          exact maV hQ hx hb hr hlk hP hS ⟨hT, FA, FF, FC, hRN⟩ dX12_doGive_90
        · skip
          obtain ⟨x_114, ex_114⟩ : ∃ y : Int32, y = y_80 + 1 := ⟨_, rfl⟩
          refine lv_iinc (v := x_114) (lv' := [(4, .int x_114), (0, .ref a0), (1, .int x1), (2, .int x2), (3, .int x3)]) hx hb dX12_doGive_61 hl (k := 0) rfl (by rw [ex_114]; rfl) (by decide) rfl (fun ls hl => ?_)
          refine lv_goto (tgt := 44) hx hb dX12_doGive_64 (by decide) ?_
          obtain ⟨f_114, l_114, u_114⟩ := z_add ex_114 rfl ti_1
          try replace f_114 : x_114.toInt = y_80.toInt + 1 := by omega
          clear l_114 u_114
          have g_115 := z_rng (A 40 (x1.toInt + y_80.toInt + 170).toNat)
          have g_116 := z_rng x3
          exact ih_81 x_114 _ (by omega) (by omega) ⟨k9, by rcases (by omega : y_80.toInt = k9 ∨ y_80.toInt < k9) with h9 | h9 <;> first | omega | (exfalso; rw [← h9] at k93; omega), k92, k93⟩ (lv_sub hl [0, 1, 2, 3, 4] rfl)
    have g_117 := z_rng (A 40 (x1.toInt + x2.toInt + 22).toNat)
    exact L_44_81 _ 0 _ (Nat.lt_succ_self _) (by (try simp only [ti_0]); omega) (by obtain ⟨k9, k91, k92, k93⟩ := hex; exact ⟨k9, by rw [ti_0]; exact k91, k92, k93⟩) (lv_sub hl [0, 1, 2, 3, 4] rfl)
