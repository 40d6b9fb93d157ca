set_option maxHeartbeats 4000000 in
set_option maxRecDepth 100000 in
theorem c_X12_dealOut (l : Launch) (D : va_G) (K : zK) (hM : mK K) (f : Nat → Int32) (A : Nat → Nat → Int32) (hT : mT f A) (a0 : Nat) (ha0 : a0 ∈ zl K) (hk0 : zk K a0 = 11) (x1 : Int32) (x2 : Int32) (x3 : Int32) (hp0 : zRow x1.toInt) (hp1 : (f 11).toInt ≤ 1990000000) : Met l yX12_dealOut (zc yX12_dealOut cX12_dealOut 8 none) (rmd 2) (va_Pc [.ref a0, .int x1, .int x2, .int x3] (zB D K (mV K f A))) (mQv D K (fun f' A' => mT f' A' ∧ (∀ k, k ∉ ([40, 50] : List Nat) → A' k = A k) ∧ (∀ k, k ∉ ([11] : List Nat) → f' k = f k) ∧ fC (A 40) (A' 40) x1.toInt ([(5, 5), (9, 9), (10, 18), (19, 21), (22, 25), (26, 26), (43, 44), (110, 169), (170, 229), (230, 469), (470, 529)] : List (Int × Int)) ∧ (f 11).toInt ≤ (f' 11).toInt ∧ (f' 11).toInt ≤ (f 11).toInt + 1 ∧ ((f 12).toInt ≠ 0 → (f' 11).toInt = (f 11).toInt) ∧ rowN (A' 40) x1.toInt ∧ (A' 40 (x1.toInt + 44).toNat).toInt = 0)) 0 0 (zA K) := by
  refine zin (by decide) (Nat.le_of_ble_eq_true rfl) ?_
  intro p e s m args below meth c ls Q hQ C hr hlk hP hs hl
  have C : CallFix p m c cX12_dealOut 8 s args zw RX12 := C
  obtain ⟨hx, hb, hml, hown, hts⟩ := id C
  have hO := hM.1
  have hS : va_S (zA K) s.heap s.heap [] := va_S.rf
  have FA : ∀ k, k ∉ ([40, 50] : List Nat) → A k = A k := fun _ _ => rfl
  have FF : ∀ k, k ∉ ([11] : List Nat) → f k = f k := fun _ _ => rfl
  have FC : fC (A 40) (A 40) x1.toInt ([(5, 5), (9, 9), (10, 18), (19, 21), (22, 25), (26, 26), (43, 44), (110, 169), (170, 229), (230, 469), (470, 529)] : List (Int × Int)) := fun _ _ _ => rfl
  have hl : lv_has ls 8 [(0, .ref a0), (1, .int x1), (2, .int x2), (3, .int x3)] := hl
  have hb0 := hp0.lin
  have tR0 := hT.row hp0
  refine lv_aload_n hx hb dX12_dealOut_0 rfl (lv_at hl 0 rfl) ?_
  refine lv_iload_n hx hb dX12_dealOut_1 rfl (lv_at hl 1 rfl) ?_
  refine mcV (zrV (As := [.int x1]) (b := a0) (rest := []) C hs hP hS (c_X12_begin l D K hM f A hT a0 ha0 hk0 x1 hp0) m_X12_begin wm_X12_103 (zrecv hs hP ha0 (zF_11 hk0) rfl) ⟨by decide, by decide⟩ hl.1 (Nat.le_of_ble_eq_true rfl) dX12_dealOut_2) hS (fun f_1 A_1 H locs p_1 hP hS => ?_)
  obtain ⟨hT, hA_1, hF_1, hC_1, pp_1⟩ := p_1
  have pp_1 : bgn (A_1 40) x1.toInt := pp_1
  have pp0_1 := pp_1
  have g_2 := z_rng x1
  have FA := frA FA hA_1 (by decide)
  have FF := frF FF hF_1 (by decide)
  have FC := fC.tr FC hC_1 (by decide)
  refine lv_aload_n hx hb dX12_dealOut_5 rfl (lv_at hl 0 rfl) ?_
  refine lv_aload_n hx hb dX12_dealOut_6 rfl (lv_at hl 0 rfl) ?_
  refine mg_0 C hs hP ha0 hk0 wf_X12_8 dX12_dealOut_7 ?_
  have hf_3 := hO.r (j := 0) ha0 hk0 (rfl : zX 11 0 = some (40, 47730))
  refine lv_iload_n hx hb dX12_dealOut_10 rfl (lv_at hl 1 rfl) ?_
  refine lv_iconst (v := 2) hx hb dX12_dealOut_11 (by decide) ?_
  refine lv_iadd hx hb dX12_dealOut_12 ?_
  refine lv_topi (fun x_4 ex_4 => ?_)
  have hi_hr_5 : zEq x_4.toInt (x1.toInt + 2) := by
    obtain ⟨f_4, l_4, u_4⟩ := z_add ex_4 rfl ti_2
    try replace f_4 : x_4.toInt = x1.toInt + 2 := by omega
    clear l_4 u_4
    show x_4.toInt = (x1.toInt + 2)
    omega
  have hl_hr_5 : (2 : Int) ≤ 2 ∧ 2 ≤ (2 : Int) := by decide
  have hid_hr_5 : (x1.toInt + 2) = x1.toInt + (2) := by simp only [Int.add_assoc, Int.add_sub_assoc]
  have hr_5 := z_cell (lo := 2) (hi := 8) hp0 hi_hr_5 hid_hr_5 hl_hr_5 (by decide)
  replace hid_hr_5 : zEq (x1.toInt + 2) (x1.toInt + (2)) := hid_hr_5
  have hin_6 : vp_in x_4 (zn K (zr K a0 0)) := vp_in_iff.mpr (by rw [(hf_3.2.2 (by decide))]; exact hr_5.in)
  refine mld_40 C hs hP hf_3.1 hf_3.2.1 hin_6 dX12_dealOut_13 ?_
  have ep_7 : x_4.toNatClampNeg = (x1.toInt + 2).toNat := z_posE hi_hr_5
  rw [ep_7]
  obtain ⟨f_4, l_4, u_4⟩ := z_add ex_4 rfl ti_2
  try replace f_4 : x_4.toInt = x1.toInt + 2 := by omega
  clear l_4 u_4
  have hc_8 := hC_1 (x1.toInt + 2) (by omega) (by simp only [List.mem_cons, List.not_mem_nil, or_false, forall_eq_or_imp, forall_eq]; omega)
  have ev_9 : A_1 40 (x1.toInt + 2).toNat = A 40 (x1.toInt + 2).toNat := by rw [hc_8]
  rw [ev_9]
  refine lv_iconst (v := 4) hx hb dX12_dealOut_14 (by decide) ?_
  have J_25_12 : ∀ (y_11 : Int32) (ls : Array Slot), lv_has ls 8 [(0, .ref a0), (1, .int x1), (2, .int x2), (3, .int x3)] → W p l e (rmd 2) s m args below meth c H locs 0 0 Q (F0 m 25 ls [.int y_11, .ref a0]) := by
    intro y_11 ls hl
    have g_14 := z_rng y_11
    have ev_16 : f_1 11 = f 11 := by rw [hF_1 11 (by decide)]
    have hq_15 : (f_1 11).toInt ≤ 2000000000 := by rw [ev_16] <;> (first | assumption | omega | (intros; omega))
    refine mcV (zrV (As := [.int y_11]) (b := a0) (rest := []) C hs hP hS (c_X12_body l D K hM f_1 A_1 hT a0 ha0 hk0 y_11 hq_15) m_X12_body wm_X12_124 (zrecv hs hP ha0 (zF_11 hk0) rfl) ⟨by decide, by decide⟩ hl.1 (Nat.le_of_ble_eq_true rfl) dX12_dealOut_25) hS (fun f_17 A_17 H locs p_17 hP hS => ?_)
    obtain ⟨hT, hA_17, hF_17, pp_17⟩ := p_17
    have pp_17 : (f_1 11).toInt ≤ (f_17 11).toInt ∧ (f_17 11).toInt ≤ (f_1 11).toInt + 1 ∧ ((f_1 12).toInt ≠ 0 → (f_17 11).toInt = (f_1 11).toInt) := pp_17
    have pp0_17 := pp_17
    have ev_18 : f_1 11 = f 11 := by rw [hF_1 11 (by decide)]
    have ev_19 : f_1 12 = f 12 := by rw [hF_1 12 (by decide)]
    rw [ev_18, ev_19] at pp_17
    have FA := frA FA hA_17 (by decide)
    have FF := frF FF hF_17 (by decide)
    have FC := fC.eq FC (hA_17 40 (by decide))
    refine lv_iload_n hx hb dX12_dealOut_28 rfl (lv_at hl 2 rfl) ?_
    refine lv_istore (lv' := [(4, .int x2), (0, .ref a0), (1, .int x1), (2, .int x2), (3, .int x3)]) hx hb dX12_dealOut_29 hl (by decide) rfl (fun ls hl => ?_)
    refine lv_aload_n hx hb dX12_dealOut_31 rfl (lv_at hl 1 rfl) ?_
    refine mg_0 C hs hP ha0 hk0 wf_X12_8 dX12_dealOut_32 ?_
    refine lv_iload_n hx hb dX12_dealOut_35 rfl (lv_at hl 2 rfl) ?_
    refine lv_iconst (v := 1) hx hb dX12_dealOut_36 (by decide) ?_
    refine lv_iadd hx hb dX12_dealOut_37 ?_
    refine lv_topi (fun x_20 ex_20 => ?_)
    have hi_hr_21 : zEq x_20.toInt (x1.toInt + 1) := by
      obtain ⟨f_20, l_20, u_20⟩ := z_add ex_20 rfl ti_1
      try replace f_20 : x_20.toInt = x1.toInt + 1 := by omega
      clear l_20 u_20
      show x_20.toInt = (x1.toInt + 1)
      omega
    have hl_hr_21 : (1 : Int) ≤ 1 ∧ 1 ≤ (1 : Int) := by decide
    have hid_hr_21 : (x1.toInt + 1) = x1.toInt + (1) := by simp only [Int.add_assoc, Int.add_sub_assoc]
    have hr_21 := z_cell (lo := 1) (hi := 1) hp0 hi_hr_21 hid_hr_21 hl_hr_21 (by decide)
    replace hid_hr_21 : zEq (x1.toInt + 1) (x1.toInt + (1)) := hid_hr_21
    have hin_22 : vp_in x_20 (zn K (zr K a0 0)) := vp_in_iff.mpr (by rw [(hf_3.2.2 (by decide))]; exact hr_21.in)
    refine mld_40 C hs hP hf_3.1 hf_3.2.1 hin_22 dX12_dealOut_38 ?_
    have ep_23 : x_20.toNatClampNeg = (x1.toInt + 1).toNat := z_posE hi_hr_21
    rw [ep_23]
    obtain ⟨f_20, l_20, u_20⟩ := z_add ex_20 rfl ti_1
    try replace f_20 : x_20.toInt = x1.toInt + 1 := by omega
    clear l_20 u_20
    have hc_24 := hC_1 (x1.toInt + 1) (by omega) (by simp only [List.mem_cons, List.not_mem_nil, or_false, forall_eq_or_imp, forall_eq]; omega)
    have ev_25 : A_17 40 (x1.toInt + 1).toNat = A 40 (x1.toInt + 1).toNat := by rw [hA_17 40 (by decide), hc_24]
    have tv_26 := rv_1 hT hr_21
    rw [ep_23] at tv_26
    rw [ev_25] at tv_26
    rw [ev_25]
    refine lv_iconst (v := 1) hx hb dX12_dealOut_39 (by decide) ?_
    refine lv_isub hx hb dX12_dealOut_40 ?_
    refine lv_topi (fun x_27 ex_27 => ?_)
    refine lv_istore (lv' := [(5, .int x_27), (4, .int x2), (0, .ref a0), (1, .int x1), (2, .int x2), (3, .int x3)]) hx hb dX12_dealOut_41 hl (by decide) rfl (fun ls hl => ?_)
    have L_43_30 : ∀ (n_30 : Nat) (A_31 : Nat → Nat → Int32) (H : Heap) (locs : List Loc) (y_28 : Int32) (y_29 : Int32) (ls : Array Slot), y_28.toInt.toNat < n_30 → y_28.toInt < (A 40 (x1.toInt + 1).toNat).toInt → bgn (A_31 40) x1.toInt → (∀ k, k ∉ ([40, 50] : List Nat) → A_31 k = A k) → fC (A 40) (A_31 40) x1.toInt ([(5, 5), (9, 9), (10, 18), (19, 21), (22, 25), (26, 26), (43, 44), (110, 169), (170, 229), (230, 469), (470, 529)] : List (Int × Int)) → mT f_17 A_31 → va_P D vwCl (zW K (mV K f_17 A_31)) H → va_S (zA K) s.heap H locs → lv_has ls 8 [(5, .int y_28), (4, .int y_29), (0, .ref a0), (1, .int x1), (2, .int x2), (3, .int x3)] → W p l e (rmd 2) s m args below meth c H locs 0 0 Q (F0 m 43 ls []) := by
      intro n_30
      induction n_30 with
      | zero => intro A_31 H locs y_28 y_29 ls hm_30; exact absurd hm_30 (Nat.not_lt_zero _)
      | succ n_30 ih_30 =>
        intro A_31 H locs y_28 y_29 ls hm_30 iv_31_0 iv_31_1 FA_31 FC_31 hT hP hS hl
        have FA := FA_31
        have FC := FC_31
        have hpk := FC.ar hb0.1 (lo := 1) (hi := 1) (by decide) (x1.toInt + 1) (by decide) (by omega) (by omega)
        refine lv_iload hx hb dX12_dealOut_43 (lv_at hl 0 rfl) ?_
        refine bz_le (tgt := 132) hx hb rfl dX12_dealOut_45 (by decide) (fun c_33 => ?_) (fun c_33 => ?_)
        · skip
          refine lv_iload_n hx hb dX12_dealOut_132 rfl (lv_at hl 5 rfl) ?_
          refine lv_iconst (v := (-1)) hx hb dX12_dealOut_133 (by decide) ?_
          have J_146_71 : ∀ (y_70 : Int32) (ls : Array Slot), lv_has ls 8 [(0, .ref a0), (1, .int x1), (2, .int x2), (3, .int x3), (4, .int y_29), (5, .int y_28)] → W p l e (rmd 2) s m args below meth c H locs 0 0 Q (F0 m 146 ls [.int y_70]) := by
            intro y_70 ls hl
            refine lv_istore (lv' := [(5, .int y_70), (0, .ref a0), (1, .int x1), (2, .int x2), (3, .int x3), (4, .int y_29)]) hx hb dX12_dealOut_146 hl (by decide) rfl (fun ls hl => ?_)
            refine lv_iconst (v := 0) hx hb dX12_dealOut_148 (by decide) ?_
            refine lv_istore (lv' := [(6, .int 0), (5, .int y_70), (0, .ref a0), (1, .int x1), (2, .int x2), (3, .int x3), (4, .int y_29)]) hx hb dX12_dealOut_149 hl (by decide) rfl (fun ls hl => ?_)
            have L_151_74 : ∀ (n_74 : Nat) (A_75 : Nat → Nat → Int32) (H : Heap) (locs : List Loc) (y_73 : Int32) (ls : Array Slot), (2147483648 - y_73.toInt).toNat < n_74 → 0 ≤ y_73.toInt → rowP (A_75 40) x1.toInt → (A_75 40 (x1.toInt + 44).toNat).toInt = 0 → (∀ k, k ∉ ([40, 50] : List Nat) → A_75 k = A k) → fC (A 40) (A_75 40) x1.toInt ([(5, 5), (9, 9), (10, 18), (19, 21), (22, 25), (26, 26), (43, 44), (110, 169), (170, 229), (230, 469), (470, 529)] : List (Int × Int)) → mT f_17 A_75 → va_P D vwCl (zW K (mV K f_17 A_75)) H → va_S (zA K) s.heap H locs → lv_has ls 8 [(6, .int y_73), (5, .int y_70), (0, .ref a0), (1, .int x1), (2, .int x2), (3, .int x3), (4, .int y_29)] → W p l e (rmd 2) s m args below meth c H locs 0 0 Q (F0 m 151 ls []) := by
              intro n_74
              induction n_74 with
              | zero => intro A_75 H locs y_73 ls hm_74; exact absurd hm_74 (Nat.not_lt_zero _)
              | succ n_74 ih_74 =>
                intro A_75 H locs y_73 ls hm_74 iv_75_0 iv_75_1 iv_75_2 FA_75 FC_75 hT hP hS hl
                have FA := FA_75
                have FC := FC_75
                have tR2 := hT.row hp0
                refine lv_iload hx hb dX12_dealOut_151 (lv_at hl 0 rfl) ?_
                refine lv_iconst (v := 4) hx hb dX12_dealOut_153 (by decide) ?_
                refine bi_ge (tgt := 228) hx hb rfl ti_4 dX12_dealOut_154 (by decide) (fun c_77 => ?_) (fun c_77 => ?_)
                · skip
                  refine lv_aload_n hx hb dX12_dealOut_228 rfl (lv_at hl 2 rfl) ?_
                  refine mg_0 C hs hP ha0 hk0 wf_X12_8 dX12_dealOut_229 ?_
                  refine lv_iload_n hx hb dX12_dealOut_232 rfl (lv_at hl 3 rfl) ?_
                  refine lv_iconst (v := 5) hx hb dX12_dealOut_233 (by decide) ?_
                  refine lv_iadd hx hb dX12_dealOut_234 ?_
                  refine lv_topi (fun x_126 ex_126 => ?_)
                  refine lv_iconst (v := 1) hx hb dX12_dealOut_235 (by decide) ?_
                  have hi_hr_127 : zEq x_126.toInt (x1.toInt + 5) := by
                    obtain ⟨f_126, l_126, u_126⟩ := z_add ex_126 rfl ti_5
                    try replace f_126 : x_126.toInt = x1.toInt + 5 := by omega
                    clear l_126 u_126
                    show x_126.toInt = (x1.toInt + 5)
                    omega
                  have hl_hr_127 : (5 : Int) ≤ 5 ∧ 5 ≤ (5 : Int) := by decide
                  have hid_hr_127 : (x1.toInt + 5) = x1.toInt + (5) := by simp only [Int.add_assoc, Int.add_sub_assoc]
                  have hr_127 := z_cell (lo := 2) (hi := 8) hp0 hi_hr_127 hid_hr_127 hl_hr_127 (by decide)
                  replace hid_hr_127 : zEq (x1.toInt + 5) (x1.toInt + (5)) := hid_hr_127
                  have hin_128 : vp_in x_126 (zn K (zr K a0 0)) := vp_in_iff.mpr (by rw [(hf_3.2.2 (by decide))]; exact hr_127.in)
                  refine mst_40 C hM hs hP hS hf_3.1 hT hf_3.2.1 hin_128 (tp_2 hr_127) dX12_dealOut_236 (fun A_129 H locs hE_129 hT hP hS => ?_)
                  have ep_130 : x_126.toNatClampNeg = (x1.toInt + 5).toNat := z_posE hi_hr_127
                  rw [ep_130] at hE_129
                  have FA := frA FA (frAu hE_129) (by decide)
                  have FC := fC.tr FC (fC.st (b := x1.toInt) (lo := 5) (hi := 5) hE_129 hb0.1 (by decide) hid_hr_127 hl_hr_127) (by decide)
                  have rP5 := rowP.s5 iv_75_1 tR2 hb0.1 hE_129
                  refine lv_aload_n hx hb dX12_dealOut_237 rfl (lv_at hl 2 rfl) ?_
                  refine mg_0 C hs hP ha0 hk0 wf_X12_8 dX12_dealOut_238 ?_
                  refine lv_iload_n hx hb dX12_dealOut_241 rfl (lv_at hl 3 rfl) ?_
                  refine lv_bipush (v := 9) hx hb dX12_dealOut_242 (by decide) ?_
                  refine lv_iadd hx hb dX12_dealOut_244 ?_
                  refine lv_topi (fun x_131 ex_131 => ?_)
                  refine lv_aload_n hx hb dX12_dealOut_245 rfl (lv_at hl 2 rfl) ?_
                  refine lv_iload_n hx hb dX12_dealOut_246 rfl (lv_at hl 3 rfl) ?_
                  refine lv_iconst (v := 0) hx hb dX12_dealOut_247 (by decide) ?_
                  have hq_132 : 0 ≤ (0 : Int32).toInt ∧ (0 : Int32).toInt ≤ 4 := by ((try simp only [ti_0]); first | assumption | omega | (intros; omega))
                  refine zcS (zrV (As := [.int x1, .int 0]) (b := a0) (rest := [.int x_131, .ref (zr K a0 0)]) C hs hP hS (c_X12_seatFrom l D K hM f_17 A_129 hT a0 ha0 hk0 x1 0 hp0 hq_132) m_X12_seatFrom wm_X12_162 (zrecv hs hP ha0 (zF_11 hk0) rfl) ⟨by decide, by decide⟩ hl.1 (Nat.le_of_ble_eq_true rfl) dX12_dealOut_248) (fun x_133 p_133 => ?_)
                  have pp_133 : (x_133.toInt = -1 ∨ (0 ≤ x_133.toInt ∧ x_133.toInt ≤ 3 ∧ 1 ≤ (A_129 40 (x1.toInt + x_133.toInt + 22).toNat).toInt ∧ nL (A_129 40) x1.toInt x_133.toInt (A_129 40 (x1.toInt + 26).toNat).toInt)) := p_133
                  try simp only [ti_0] at pp_133
                  have tRs := hT.row hp0
                  have FCs := FC
                  have hi_hr_134 : zEq x_131.toInt (x1.toInt + 9) := by
                    obtain ⟨f_131, l_131, u_131⟩ := z_add ex_131 rfl ti_9
                    try replace f_131 : x_131.toInt = x1.toInt + 9 := by omega
                    clear l_131 u_131
                    show x_131.toInt = (x1.toInt + 9)
                    omega
                  have hl_hr_134 : (9 : Int) ≤ 9 ∧ 9 ≤ (9 : Int) := by decide
                  have hid_hr_134 : (x1.toInt + 9) = x1.toInt + (9) := by simp only [Int.add_assoc, Int.add_sub_assoc]
                  have hr_134 := z_cell (lo := 9) (hi := 9) hp0 hi_hr_134 hid_hr_134 hl_hr_134 (by decide)
                  replace hid_hr_134 : zEq (x1.toInt + 9) (x1.toInt + (9)) := hid_hr_134
                  have hin_135 : vp_in x_131 (zn K (zr K a0 0)) := vp_in_iff.mpr (by rw [(hf_3.2.2 (by decide))]; exact hr_134.in)
                  have g_137 := z_rng x_133
                  refine mst_40 C hM hs hP hS hf_3.1 hT hf_3.2.1 hin_135 (tp_9 hr_134 (show -1 ≤ x_133.toInt ∧ x_133.toInt ≤ 3 from by omega)) dX12_dealOut_251 (fun A_136 H locs hE_136 hT hP hS => ?_)
                  have ep_138 : x_131.toNatClampNeg = (x1.toInt + 9).toNat := z_posE hi_hr_134
                  rw [ep_138] at hE_136
                  have FA := frA FA (frAu hE_136) (by decide)
                  have FC := fC.tr FC (fC.st (b := x1.toInt) (lo := 9) (hi := 9) hE_136 hb0.1 (by decide) hid_hr_134 hl_hr_134) (by decide)
                  have hRN := rowN.nx rP5 tRs hb0.1 hE_136 pp_133
                  obtain ⟨f_131, l_131, u_131⟩ := z_add ex_131 rfl ti_9
                  try replace f_131 : x_131.toInt = x1.toInt + 9 := by omega
                  clear l_131 u_131
                  obtain ⟨f_126, l_126, u_126⟩ := z_add ex_126 rfl ti_5
                  try replace f_126 : x_126.toInt = x1.toInt + 5 := by omega
                  clear l_126 u_126
                  have es_139 : A_136 40 (x1.toInt + 44).toNat = A_75 40 (x1.toInt + 44).toNat := by rw [hE_136, va_up_self, pk_un (show (x1.toInt + 44).toNat ≠ (x1.toInt + 9).toNat by omega), hE_129, va_up_self, pk_un (show (x1.toInt + 44).toNat ≠ (x1.toInt + 5).toNat by omega)]
                  exact maV hQ hx hb hr hlk hP hS ⟨hT, FA, FF, FC, ⟨by omega, by omega, fun h9 => by omega, hRN, by rw [es_139]; exact iv_75_2⟩⟩ dX12_dealOut_252
                · skip
                  refine lv_aload_n hx hb dX12_dealOut_157 rfl (lv_at hl 2 rfl) ?_
                  refine mg_0 C hs hP ha0 hk0 wf_X12_8 dX12_dealOut_158 ?_
                  refine lv_iload_n hx hb dX12_dealOut_161 rfl (lv_at hl 3 rfl) ?_
                  refine lv_bipush (v := 35) hx hb dX12_dealOut_162 (by decide) ?_
                  refine lv_iadd hx hb dX12_dealOut_164 ?_
                  refine lv_topi (fun x_140 ex_140 => ?_)
                  refine lv_iload hx hb dX12_dealOut_165 (lv_at hl 0 rfl) ?_
                  refine lv_iadd hx hb dX12_dealOut_167 ?_
                  refine lv_topi (fun x_141 ex_141 => ?_)
                  have hi_hr_142 : zEq x_141.toInt (x1.toInt + y_73.toInt + 35) := by
                    obtain ⟨f_140, l_140, u_140⟩ := z_add ex_140 rfl ti_35
                    try replace f_140 : x_140.toInt = x1.toInt + 35 := by omega
                    clear l_140 u_140
                    have g_143 := z_rng y_73
                    obtain ⟨f_141, l_141, u_141⟩ := z_add ex_141 rfl rfl
                    try replace f_141 : x_141.toInt = x_140.toInt + y_73.toInt := by omega
                    clear l_141 u_141
                    show x_141.toInt = (x1.toInt + y_73.toInt + 35)
                    omega
                  have hl_hr_142 : 35 ≤ y_73.toInt + 35 ∧ y_73.toInt + 35 ≤ 38 := by
                    have g_144 := z_rng y_73
                    omega
                  have hid_hr_142 : (x1.toInt + y_73.toInt + 35) = x1.toInt + (y_73.toInt + 35) := by simp only [Int.add_assoc, Int.add_sub_assoc]
                  have hr_142 := z_cell (lo := 35) (hi := 38) hp0 hi_hr_142 hid_hr_142 hl_hr_142 (by decide)
                  replace hid_hr_142 : zEq (x1.toInt + y_73.toInt + 35) (x1.toInt + (y_73.toInt + 35)) := hid_hr_142
                  have hin_145 : vp_in x_141 (zn K (zr K a0 0)) := vp_in_iff.mpr (by rw [(hf_3.2.2 (by decide))]; exact hr_142.in)
                  refine mld_40 C hs hP hf_3.1 hf_3.2.1 hin_145 dX12_dealOut_168 ?_
                  have ep_146 : x_141.toNatClampNeg = (x1.toInt + y_73.toInt + 35).toNat := z_posE hi_hr_142
                  rw [ep_146]
                  obtain ⟨f_140, l_140, u_140⟩ := z_add ex_140 rfl ti_35
                  try replace f_140 : x_140.toInt = x1.toInt + 35 := by omega
                  clear l_140 u_140
                  have g_148 := z_rng y_73
                  obtain ⟨f_141, l_141, u_141⟩ := z_add ex_141 rfl rfl
                  try replace f_141 : x_141.toInt = x_140.toInt + y_73.toInt := by omega
                  clear l_141 u_141
                  have hc_147 := FC_75 (x1.toInt + y_73.toInt + 35) (by omega) (by simp only [List.mem_cons, List.not_mem_nil, or_false, forall_eq_or_imp, forall_eq]; omega)
                  have ev_149 : A_75 40 (x1.toInt + y_73.toInt + 35).toNat = A 40 (x1.toInt + y_73.toInt + 35).toNat := by rw [hc_147]
                  have tv_150 := rv_35 hT hr_142
                  rw [ep_146] at tv_150
                  rw [ev_149] at tv_150
                  rw [ev_149]
                  refine lv_iconst (v := 1) hx hb dX12_dealOut_169 (by decide) ?_
                  refine bi_ne (tgt := 222) hx hb rfl ti_1 dX12_dealOut_170 (by decide) (fun c_151 => ?_) (fun c_151 => ?_)
                  · skip
                    obtain ⟨x_152, ex_152⟩ : ∃ y : Int32, y = y_73 + 1 := ⟨_, rfl⟩
                    refine lv_iinc (v := x_152) (lv' := [(6, .int x_152), (5, .int y_70), (0, .ref a0), (1, .int x1), (2, .int x2), (3, .int x3), (4, .int y_29)]) hx hb dX12_dealOut_222 hl (k := 0) rfl (by rw [ex_152]; rfl) (by decide) rfl (fun ls hl => ?_)
                    refine lv_goto (tgt := 151) hx hb dX12_dealOut_225 (by decide) ?_
                    obtain ⟨f_152, l_152, u_152⟩ := z_add ex_152 rfl ti_1
                    try replace f_152 : x_152.toInt = y_73.toInt + 1 := by omega
                    clear l_152 u_152
                    have g_153 := z_rng (A 40 (x1.toInt + y_73.toInt + 35).toNat)
                    exact ih_74 A_75 _ _ x_152 _ (by omega) (by omega) iv_75_1 iv_75_2 FA FC hT hP hS (lv_sub hl [0, 1, 2, 3, 4, 5, 6] rfl)
                  · skip
                    refine lv_aload_n hx hb dX12_dealOut_173 rfl (lv_at hl 2 rfl) ?_
                    refine mg_0 C hs hP ha0 hk0 wf_X12_8 dX12_dealOut_174 ?_
                    refine lv_iload_n hx hb dX12_dealOut_177 rfl (lv_at hl 3 rfl) ?_
                    refine lv_bipush (v := 22) hx hb dX12_dealOut_178 (by decide) ?_
                    refine lv_iadd hx hb dX12_dealOut_180 ?_
                    refine lv_topi (fun x_154 ex_154 => ?_)
                    refine lv_iload hx hb dX12_dealOut_181 (lv_at hl 0 rfl) ?_
                    refine lv_iadd hx hb dX12_dealOut_183 ?_
                    refine lv_topi (fun x_155 ex_155 => ?_)
                    refine lv_iconst (v := 0) hx hb dX12_dealOut_184 (by decide) ?_
                    have hi_hr_156 : zEq x_155.toInt (x1.toInt + y_73.toInt + 22) := by
                      obtain ⟨f_154, l_154, u_154⟩ := z_add ex_154 rfl ti_22
                      try replace f_154 : x_154.toInt = x1.toInt + 22 := by omega
                      clear l_154 u_154
                      obtain ⟨f_155, l_155, u_155⟩ := z_add ex_155 rfl rfl
                      try replace f_155 : x_155.toInt = x_154.toInt + y_73.toInt := by omega
                      clear l_155 u_155
                      show x_155.toInt = (x1.toInt + y_73.toInt + 22)
                      omega
                    have hl_hr_156 : 22 ≤ y_73.toInt + 22 ∧ y_73.toInt + 22 ≤ 25 := by
                      omega
                    have hid_hr_156 : (x1.toInt + y_73.toInt + 22) = x1.toInt + (y_73.toInt + 22) := by simp only [Int.add_assoc, Int.add_sub_assoc]
                    have hr_156 := z_cell (lo := 22) (hi := 25) hp0 hi_hr_156 hid_hr_156 hl_hr_156 (by decide)
                    replace hid_hr_156 : zEq (x1.toInt + y_73.toInt + 22) (x1.toInt + (y_73.toInt + 22)) := hid_hr_156
                    have hin_157 : vp_in x_155 (zn K (zr K a0 0)) := vp_in_iff.mpr (by rw [(hf_3.2.2 (by decide))]; exact hr_156.in)
                    refine mst_40 C hM hs hP hS hf_3.1 hT hf_3.2.1 hin_157 (tp_22 hr_156 (show -1 ≤ (0 : Int32).toInt ∧ (0 : Int32).toInt ≤ 60 from by rw [ti_0]; omega)) dX12_dealOut_185 (fun A_158 H locs hE_158 hT hP hS => ?_)
                    have ep_159 : x_155.toNatClampNeg = (x1.toInt + y_73.toInt + 22).toNat := z_posE hi_hr_156
                    rw [ep_159] at hE_158
                    have FA := frA FA (frAu hE_158) (by decide)
                    have FC := fC.tr FC (fC.st (b := x1.toInt) (lo := 22) (hi := 25) hE_158 hb0.1 (by decide) hid_hr_156 hl_hr_156) (by decide)
                    refine lv_iconst (v := 0) hx hb dX12_dealOut_186 (by decide) ?_
                    refine lv_istore (lv' := [(7, .int 0), (6, .int y_73), (5, .int y_70), (0, .ref a0), (1, .int x1), (2, .int x2), (3, .int x3), (4, .int y_29)]) hx hb dX12_dealOut_187 hl (by decide) rfl (fun ls hl => ?_)
                    have L_189_161 : ∀ (n_161 : Nat) (A_162 : Nat → Nat → Int32) (H : Heap) (locs : List Loc) (y_160 : Int32) (ls : Array Slot), (2147483648 - y_160.toInt).toNat < n_161 → 0 ≤ y_160.toInt → rowP (A_162 40) x1.toInt → (A_162 40 (x1.toInt + 44).toNat).toInt = 0 → 0 ≤ (A_162 40 (x1.toInt + y_73.toInt + 22).toNat).toInt → (∀ k, k ∉ ([40, 50] : List Nat) → A_162 k = A k) → fC (A 40) (A_162 40) x1.toInt ([(5, 5), (9, 9), (10, 18), (19, 21), (22, 25), (26, 26), (43, 44), (110, 169), (170, 229), (230, 469), (470, 529)] : List (Int × Int)) → mT f_17 A_162 → va_P D vwCl (zW K (mV K f_17 A_162)) H → va_S (zA K) s.heap H locs → lv_has ls 8 [(7, .int y_160), (6, .int y_73), (5, .int y_70), (0, .ref a0), (1, .int x1), (2, .int x2), (3, .int x3), (4, .int y_29)] → W p l e (rmd 2) s m args below meth c H locs 0 0 Q (F0 m 189 ls []) := by
                      intro n_161
                      induction n_161 with
                      | zero => intro A_162 H locs y_160 ls hm_161; exact absurd hm_161 (Nat.not_lt_zero _)
                      | succ n_161 ih_161 =>
                        intro A_162 H locs y_160 ls hm_161 iv_162_0 iv_162_1 iv_162_2 iv_162_3 FA_162 FC_162 hT hP hS hl
                        have FA := FA_162
                        have FC := FC_162
                        have tR3 := hT.row hp0
                        refine lv_iload hx hb dX12_dealOut_189 (lv_at hl 0 rfl) ?_
                        refine lv_iload hx hb dX12_dealOut_191 (lv_at hl 2 rfl) ?_
                        refine bi_ge (tgt := 222) hx hb rfl rfl dX12_dealOut_193 (by decide) (fun c_164 => ?_) (fun c_164 => ?_)
                        · skip
                          obtain ⟨x_165, ex_165⟩ : ∃ y : Int32, y = y_73 + 1 := ⟨_, rfl⟩
                          refine lv_iinc (v := x_165) (lv' := [(6, .int x_165), (7, .int y_160), (5, .int y_70), (0, .ref a0), (1, .int x1), (2, .int x2), (3, .int x3), (4, .int y_29)]) hx hb dX12_dealOut_222 hl (k := 1) rfl (by rw [ex_165]; rfl) (by decide) rfl (fun ls hl => ?_)
                          refine lv_goto (tgt := 151) hx hb dX12_dealOut_225 (by decide) ?_
                          obtain ⟨f_165, l_165, u_165⟩ := z_add ex_165 rfl ti_1
                          try replace f_165 : x_165.toInt = y_73.toInt + 1 := by omega
                          clear l_165 u_165
                          have g_166 := z_rng y_160
                          have g_167 := z_rng y_70
                          exact ih_74 A_162 _ _ x_165 _ (by omega) (by omega) iv_162_1 iv_162_2 FA FC hT hP hS (lv_sub hl [0, 2, 3, 4, 5, 6, 7] rfl)
                        · skip
                          refine lv_aload_n hx hb dX12_dealOut_196 rfl (lv_at hl 3 rfl) ?_
                          refine mg_0 C hs hP ha0 hk0 wf_X12_8 dX12_dealOut_197 ?_
                          refine lv_iload_n hx hb dX12_dealOut_200 rfl (lv_at hl 4 rfl) ?_
                          refine lv_bipush (v := 21) hx hb dX12_dealOut_201 (by decide) ?_
                          refine lv_iadd hx hb dX12_dealOut_203 ?_
                          refine lv_topi (fun x_168 ex_168 => ?_)
                          have hi_hr_169 : zEq x_168.toInt (x1.toInt + 21) := by
                            obtain ⟨f_168, l_168, u_168⟩ := z_add ex_168 rfl ti_21
                            try replace f_168 : x_168.toInt = x1.toInt + 21 := by omega
                            clear l_168 u_168
                            show x_168.toInt = (x1.toInt + 21)
                            omega
                          have hl_hr_169 : (21 : Int) ≤ 21 ∧ 21 ≤ (21 : Int) := by decide
                          have hid_hr_169 : (x1.toInt + 21) = x1.toInt + (21) := by simp only [Int.add_assoc, Int.add_sub_assoc]
                          have hr_169 := z_cell (lo := 20) (hi := 21) hp0 hi_hr_169 hid_hr_169 hl_hr_169 (by decide)
                          replace hid_hr_169 : zEq (x1.toInt + 21) (x1.toInt + (21)) := hid_hr_169
                          have hin_170 : vp_in x_168 (zn K (zr K a0 0)) := vp_in_iff.mpr (by rw [(hf_3.2.2 (by decide))]; exact hr_169.in)
                          refine mld_40 C hs hP hf_3.1 hf_3.2.1 hin_170 dX12_dealOut_204 ?_
                          have ep_171 : x_168.toNatClampNeg = (x1.toInt + 21).toNat := z_posE hi_hr_169
                          rw [ep_171]
                          have tv_172 := rv_20 hT hr_169
                          rw [ep_171] at tv_172
                          refine bz_le (tgt := 222) hx hb rfl dX12_dealOut_205 (by decide) (fun c_173 => ?_) (fun c_173 => ?_)
                          · skip
                            obtain ⟨x_174, ex_174⟩ : ∃ y : Int32, y = y_73 + 1 := ⟨_, rfl⟩
                            refine lv_iinc (v := x_174) (lv' := [(6, .int x_174), (7, .int y_160), (5, .int y_70), (0, .ref a0), (1, .int x1), (2, .int x2), (3, .int x3), (4, .int y_29)]) hx hb dX12_dealOut_222 hl (k := 1) rfl (by rw [ex_174]; rfl) (by decide) rfl (fun ls hl => ?_)
                            refine lv_goto (tgt := 151) hx hb dX12_dealOut_225 (by decide) ?_
                            obtain ⟨f_174, l_174, u_174⟩ := z_add ex_174 rfl ti_1
                            try replace f_174 : x_174.toInt = y_73.toInt + 1 := by omega
                            clear l_174 u_174
                            have g_175 := z_rng (A_162 40 (x1.toInt + 21).toNat)
                            have g_176 := z_rng y_160
                            have g_177 := z_rng y_70
                            exact ih_74 A_162 _ _ x_174 _ (by omega) (by omega) iv_162_1 iv_162_2 FA FC hT hP hS (lv_sub hl [0, 2, 3, 4, 5, 6, 7] rfl)
                          · skip
                            refine lv_aload_n hx hb dX12_dealOut_208 rfl (lv_at hl 3 rfl) ?_
                            refine lv_iload_n hx hb dX12_dealOut_209 rfl (lv_at hl 4 rfl) ?_
                            refine lv_iload hx hb dX12_dealOut_210 (lv_at hl 1 rfl) ?_
                            refine lv_iconst (v := 0) hx hb dX12_dealOut_212 (by decide) ?_
                            have hq_178 : 0 ≤ y_73.toInt ∧ y_73.toInt ≤ 3 := by ((try simp only [ti_0]); first | assumption | omega | (intros; omega))
                            have hq_179 : 0 ≤ (0 : Int32).toInt ∧ (0 : Int32).toInt < (A_162 40 (x1.toInt + 21).toNat).toInt := by ((try simp only [ti_0]); first | assumption | omega | (intros; omega))
                            have hq_180 : 0 ≤ (A_162 40 (x1.toInt + y_73.toInt + 22).toNat).toInt ∧ (A_162 40 (x1.toInt + y_73.toInt + 22).toNat).toInt ≤ 59 := by ((try simp only [ti_0]); exact ⟨iv_162_3, rowP.h59 iv_162_1 tR3 (by omega) (by omega)⟩)
                            refine mcV (zrV (As := [.int x1, .int y_73, .int 0]) (b := a0) (rest := []) C hs hP hS (c_X12_toHand l D K hM f_17 A_162 hT a0 ha0 hk0 x1 y_73 0 hp0 hq_178 hq_179 hq_180) m_X12_toHand wm_X12_158 (zrecv hs hP ha0 (zF_11 hk0) rfl) ⟨by decide, by decide⟩ hl.1 (Nat.le_of_ble_eq_true rfl) dX12_dealOut_213) hS (fun f_181 A_181 H locs p_181 hP hS => ?_)
                            obtain ⟨hT, hA_181, hF_181, hC_181, pp_181⟩ := p_181
                            have pp_181 : (A_181 40 (x1.toInt + 21).toNat).toInt = (A_162 40 (x1.toInt + 21).toNat).toInt - 1 ∧ (A_181 40 (x1.toInt + y_73.toInt + 22).toNat).toInt = (A_162 40 (x1.toInt + y_73.toInt + 22).toNat).toInt + 1 ∧ (∀ q : Int, 0 ≤ q → q ≤ 3 → q ≠ y_73.toInt → A_181 40 (x1.toInt + q + 22).toNat = A_162 40 (x1.toInt + q + 22).toNat) ∧ (rK (A_162 40) x1.toInt → rK (A_181 40) x1.toInt) := pp_181
                            have pp0_181 := pp_181
                            try simp only [ti_0] at pp_181
                            have FA := frA FA hA_181 (by decide)
                            have FF := frF FF hF_181 (by decide)
                            have FC := fC.tr FC hC_181 (by decide)
                            obtain ⟨x_182, ex_182⟩ : ∃ y : Int32, y = y_160 + 1 := ⟨_, rfl⟩
                            refine lv_iinc (v := x_182) (lv' := [(7, .int x_182), (6, .int y_73), (5, .int y_70), (0, .ref a0), (1, .int x1), (2, .int x2), (3, .int x3), (4, .int y_29)]) hx hb dX12_dealOut_216 hl (k := 0) rfl (by rw [ex_182]; rfl) (by decide) rfl (fun ls hl => ?_)
                            refine lv_goto (tgt := 189) hx hb dX12_dealOut_219 (by decide) ?_
                            have g_183 := z_rng y_160
                            obtain ⟨f_182, l_182, u_182⟩ := z_add ex_182 rfl ti_1
                            try replace f_182 : x_182.toInt = y_160.toInt + 1 := by omega
                            clear l_182 u_182
                            have g_184 := z_rng (A_162 40 (x1.toInt + 21).toNat)
                            have g_185 := z_rng y_70
                            have h44_181 := hC_181.ar hb0.1 (lo := 44) (hi := 44) (by decide) (x1.toInt + 44) (by decide) (by omega) (by omega)
                            exact ih_161 A_181 _ _ x_182 _ (by omega) (by omega) (rowP.th iv_162_1 tR3 hb0.1 (by omega) iv_162_3 hC_181 pp_181.1 pp_181.2.1 pp_181.2.2.1 pp_181.2.2.2) (by rw [h44_181]; exact iv_162_2) (by have h9 := pp_181.2.1; omega) FA FC hT hP hS (lv_sub hl [0, 1, 2, 3, 4, 5, 6, 7] rfl)
                    have g_186 := z_rng (A 40 (x1.toInt + y_73.toInt + 35).toNat)
                    obtain ⟨f_154, l_154, u_154⟩ := z_add ex_154 rfl ti_22
                    try replace f_154 : x_154.toInt = x1.toInt + 22 := by omega
                    clear l_154 u_154
                    obtain ⟨f_155, l_155, u_155⟩ := z_add ex_155 rfl rfl
                    try replace f_155 : x_155.toInt = x_154.toInt + y_73.toInt := by omega
                    clear l_155 u_155
                    have es_187 : A_158 40 (x1.toInt + 44).toNat = A_75 40 (x1.toInt + 44).toNat := by rw [hE_158, va_up_self, pk_un (show (x1.toInt + 44).toNat ≠ (x1.toInt + y_73.toInt + 22).toNat by omega)]
                    exact L_189_161 _ A_158 _ _ 0 _ (Nat.lt_succ_self _) (by (try simp only [ti_0]); omega) (rowP.hv iv_75_1 tR2 hb0.1 (by omega) hE_158 (by rw [ti_0, mx_0 (Int.le_refl 0)]; exact mx_nn _)) (by rw [es_187]; exact iv_75_2) (by rw [hE_158, va_up_self, pk_us, ti_0]; decide) FA FC hT hP hS (lv_sub hl [0, 1, 2, 3, 4, 5, 6, 7] rfl)
            have g_188 := z_rng y_28
            exact L_151_74 _ A_31 _ _ 0 _ (Nat.lt_succ_self _) (by (try simp only [ti_0]); omega) (bgn.row iv_31_1 (by rw [hpk]; exact tR0.p1.2)) iv_31_1.1.2.2.2 FA FC hT hP hS (lv_sub hl [0, 1, 2, 3, 4, 5, 6] rfl)
          refine bi_ne (tgt := 145) hx hb rfl ti_m1 dX12_dealOut_134 (by decide) (fun c_68 => ?_) (fun c_68 => ?_)
          · skip
            refine lv_iload_n hx hb dX12_dealOut_145 rfl (lv_at hl 5 rfl) ?_
            exact J_146_71 x3 _ (lv_sub hl [2, 3, 4, 5, 1, 0] rfl)
          · skip
            refine lv_aload_n hx hb dX12_dealOut_137 rfl (lv_at hl 2 rfl) ?_
            refine lv_iload_n hx hb dX12_dealOut_138 rfl (lv_at hl 3 rfl) ?_
            refine zcS (zrV (As := [.int x1]) (b := a0) (rest := []) C hs hP hS (c_X12_sizeOf l D K hM f_17 A_31 hT a0 ha0 hk0 x1 hp0) m_X12_sizeOf wm_X12_155 (zrecv hs hP ha0 (zF_11 hk0) rfl) ⟨by decide, by decide⟩ hl.1 (Nat.le_of_ble_eq_true rfl) dX12_dealOut_139) (fun x_189 p_189 => ?_)
            have pp_189 : 0 ≤ x_189.toInt ∧ x_189.toInt ≤ 15 := p_189
            refine lv_goto (tgt := 146) hx hb dX12_dealOut_142 (by decide) ?_
            exact J_146_71 x_189 _ (lv_sub hl [2, 3, 4, 5, 1, 0] rfl)
        · skip
          refine lv_iload hx hb dX12_dealOut_48 (lv_at hl 1 rfl) ?_
          refine lv_ldc (v := 1664525) hx hb hown (hts _ wz_X12_153) dX12_dealOut_50 ?_
          refine lv_imul hx hb dX12_dealOut_52 ?_
          refine lv_topi (fun x_190 ex_190 => ?_)
          refine lv_ldc (v := 1013904223) hx hb hown (hts _ wz_X12_154) dX12_dealOut_53 ?_
          refine lv_iadd hx hb dX12_dealOut_55 ?_
          refine lv_topi (fun x_191 ex_191 => ?_)
          refine lv_istore (lv' := [(4, .int x_191), (5, .int y_28), (0, .ref a0), (1, .int x1), (2, .int x2), (3, .int x3)]) hx hb dX12_dealOut_56 hl (by decide) rfl (fun ls hl => ?_)
          refine lv_iload hx hb dX12_dealOut_58 (lv_at hl 0 rfl) ?_
          refine lv_bipush (v := 8) hx hb dX12_dealOut_60 (by decide) ?_
          refine lv_iushr hx hb dX12_dealOut_62 rfl ?_
          refine lv_topi (fun x_192 ex_192 => ?_)
          refine lv_iload hx hb dX12_dealOut_63 (lv_at hl 1 rfl) ?_
          refine lv_iconst (v := 1) hx hb dX12_dealOut_65 (by decide) ?_
          refine lv_iadd hx hb dX12_dealOut_66 ?_
          refine lv_topi (fun x_193 ex_193 => ?_)
          have g_194 := z_rng y_28
          obtain ⟨f_193, l_193, u_193⟩ := z_add ex_193 rfl ti_1
          try replace f_193 : x_193.toInt = y_28.toInt + 1 := by omega
          clear l_193 u_193
          have hz_195 : ¬ x_193 = 0 := fun h9 => by have h8 := congrArg Int32.toInt h9; rw [ti_0] at h8; omega
          refine lv_irem hx hb dX12_dealOut_67 hz_195 ?_
          refine lv_topi (fun x_196 ex_196 => ?_)
          refine lv_istore (lv' := [(6, .int x_196), (4, .int x_191), (5, .int y_28), (0, .ref a0), (1, .int x1), (2, .int x2), (3, .int x3)]) hx hb dX12_dealOut_68 hl (by decide) rfl (fun ls hl => ?_)
          refine lv_aload_n hx hb dX12_dealOut_70 rfl (lv_at hl 3 rfl) ?_
          refine mg_0 C hs hP ha0 hk0 wf_X12_8 dX12_dealOut_71 ?_
          refine lv_iload_n hx hb dX12_dealOut_74 rfl (lv_at hl 4 rfl) ?_
          refine lv_sipush (v := 170) hx hb dX12_dealOut_75 (by decide) ?_
          refine lv_iadd hx hb dX12_dealOut_78 ?_
          refine lv_topi (fun x_197 ex_197 => ?_)
          refine lv_iload hx hb dX12_dealOut_79 (lv_at hl 2 rfl) ?_
          refine lv_iadd hx hb dX12_dealOut_81 ?_
          refine lv_topi (fun x_198 ex_198 => ?_)
          have hi_hr_199 : zEq x_198.toInt (x1.toInt + y_28.toInt + 170) := by
            obtain ⟨f_197, l_197, u_197⟩ := z_add ex_197 rfl ti_170
            try replace f_197 : x_197.toInt = x1.toInt + 170 := by omega
            clear l_197 u_197
            obtain ⟨f_198, l_198, u_198⟩ := z_add ex_198 rfl rfl
            try replace f_198 : x_198.toInt = x_197.toInt + y_28.toInt := by omega
            clear l_198 u_198
            show x_198.toInt = (x1.toInt + y_28.toInt + 170)
            omega
          have hl_hr_199 : 170 ≤ y_28.toInt + 170 ∧ y_28.toInt + 170 ≤ 229 := by
            omega
          have hid_hr_199 : (x1.toInt + y_28.toInt + 170) = x1.toInt + (y_28.toInt + 170) := by simp only [Int.add_assoc, Int.add_sub_assoc]
          have hr_199 := z_cell (lo := 170) (hi := 469) hp0 hi_hr_199 hid_hr_199 hl_hr_199 (by decide)
          replace hid_hr_199 : zEq (x1.toInt + y_28.toInt + 170) (x1.toInt + (y_28.toInt + 170)) := hid_hr_199
          have hin_200 : vp_in x_198 (zn K (zr K a0 0)) := vp_in_iff.mpr (by rw [(hf_3.2.2 (by decide))]; exact hr_199.in)
          refine mld_40 C hs hP hf_3.1 hf_3.2.1 hin_200 dX12_dealOut_82 ?_
          have ep_201 : x_198.toNatClampNeg = (x1.toInt + y_28.toInt + 170).toNat := z_posE hi_hr_199
          rw [ep_201]
          have tv_202 := rv_170 hT hr_199
          rw [ep_201] at tv_202
          refine lv_istore (lv' := [(7, .int (A_31 40 (x1.toInt + y_28.toInt + 170).toNat)), (6, .int x_196), (4, .int x_191), (5, .int y_28), (0, .ref a0), (1, .int x1), (2, .int x2), (3, .int x3)]) hx hb dX12_dealOut_83 hl (by decide) rfl (fun ls hl => ?_)
          refine lv_aload_n hx hb dX12_dealOut_85 rfl (lv_at hl 4 rfl) ?_
          refine mg_0 C hs hP ha0 hk0 wf_X12_8 dX12_dealOut_86 ?_
          refine lv_iload_n hx hb dX12_dealOut_89 rfl (lv_at hl 5 rfl) ?_
          refine lv_sipush (v := 170) hx hb dX12_dealOut_90 (by decide) ?_
          refine lv_iadd hx hb dX12_dealOut_93 ?_
          refine lv_topi (fun x_203 ex_203 => ?_)
          refine lv_iload hx hb dX12_dealOut_94 (lv_at hl 3 rfl) ?_
          refine lv_iadd hx hb dX12_dealOut_96 ?_
          refine lv_topi (fun x_204 ex_204 => ?_)
          refine lv_aload_n hx hb dX12_dealOut_97 rfl (lv_at hl 4 rfl) ?_
          refine mg_0 C hs hP ha0 hk0 wf_X12_8 dX12_dealOut_98 ?_
          refine lv_iload_n hx hb dX12_dealOut_101 rfl (lv_at hl 5 rfl) ?_
          refine lv_sipush (v := 170) hx hb dX12_dealOut_102 (by decide) ?_
          refine lv_iadd hx hb dX12_dealOut_105 ?_
          refine lv_topi (fun x_205 ex_205 => ?_)
          refine lv_iload hx hb dX12_dealOut_106 (lv_at hl 1 rfl) ?_
          refine lv_iadd hx hb dX12_dealOut_108 ?_
          refine lv_topi (fun x_206 ex_206 => ?_)
          have hi_hr_207 : zEq x_206.toInt (x1.toInt + x_196.toInt + 170) := by
            obtain ⟨f_205, l_205, u_205⟩ := z_add ex_205 rfl ti_170
            try replace f_205 : x_205.toInt = x1.toInt + 170 := by omega
            clear l_205 u_205
            have f_192 := z_ushr8 ex_192
            have f_d196 := z_remP ex_196 rfl rfl (by omega) (by omega)
            obtain ⟨f_206, l_206, u_206⟩ := z_add ex_206 rfl rfl
            try replace f_206 : x_206.toInt = x_205.toInt + x_196.toInt := by omega
            clear l_206 u_206
            show x_206.toInt = (x1.toInt + x_196.toInt + 170)
            omega
          have hl_hr_207 : 170 ≤ x_196.toInt + 170 ∧ x_196.toInt + 170 ≤ 229 := by
            have f_192 := z_ushr8 ex_192
            have f_d196 := z_remP ex_196 rfl rfl (by omega) (by omega)
            omega
          have hid_hr_207 : (x1.toInt + x_196.toInt + 170) = x1.toInt + (x_196.toInt + 170) := by simp only [Int.add_assoc, Int.add_sub_assoc]
          have hr_207 := z_cell (lo := 170) (hi := 469) hp0 hi_hr_207 hid_hr_207 hl_hr_207 (by decide)
          replace hid_hr_207 : zEq (x1.toInt + x_196.toInt + 170) (x1.toInt + (x_196.toInt + 170)) := hid_hr_207
          have hin_208 : vp_in x_206 (zn K (zr K a0 0)) := vp_in_iff.mpr (by rw [(hf_3.2.2 (by decide))]; exact hr_207.in)
          refine mld_40 C hs hP hf_3.1 hf_3.2.1 hin_208 dX12_dealOut_109 ?_
          have ep_209 : x_206.toNatClampNeg = (x1.toInt + x_196.toInt + 170).toNat := z_posE hi_hr_207
          rw [ep_209]
          have tv_210 := rv_170 hT hr_207
          rw [ep_209] at tv_210
          have hi_hr_211 : zEq x_204.toInt (x1.toInt + y_28.toInt + 170) := by
            obtain ⟨f_203, l_203, u_203⟩ := z_add ex_203 rfl ti_170
            try replace f_203 : x_203.toInt = x1.toInt + 170 := by omega
            clear l_203 u_203
            obtain ⟨f_204, l_204, u_204⟩ := z_add ex_204 rfl rfl
            try replace f_204 : x_204.toInt = x_203.toInt + y_28.toInt := by omega
            clear l_204 u_204
            show x_204.toInt = (x1.toInt + y_28.toInt + 170)
            omega
          have hl_hr_211 : 170 ≤ y_28.toInt + 170 ∧ y_28.toInt + 170 ≤ 229 := by
            omega
          have hid_hr_211 : (x1.toInt + y_28.toInt + 170) = x1.toInt + (y_28.toInt + 170) := by simp only [Int.add_assoc, Int.add_sub_assoc]
          have hr_211 := z_cell (lo := 170) (hi := 469) hp0 hi_hr_211 hid_hr_211 hl_hr_211 (by decide)
          replace hid_hr_211 : zEq (x1.toInt + y_28.toInt + 170) (x1.toInt + (y_28.toInt + 170)) := hid_hr_211
          have hin_212 : vp_in x_204 (zn K (zr K a0 0)) := vp_in_iff.mpr (by rw [(hf_3.2.2 (by decide))]; exact hr_211.in)
          have g_214 := z_rng (A_31 40 (x1.toInt + x_196.toInt + 170).toNat)
          refine mst_40 C hM hs hP hS hf_3.1 hT hf_3.2.1 hin_212 (tp_170 hr_211 (show 0 ≤ (A_31 40 (x1.toInt + x_196.toInt + 170).toNat).toInt ∧ (A_31 40 (x1.toInt + x_196.toInt + 170).toNat).toInt ≤ 59 from by omega)) dX12_dealOut_110 (fun A_213 H locs hE_213 hT hP hS => ?_)
          have ep_215 : x_204.toNatClampNeg = (x1.toInt + y_28.toInt + 170).toNat := z_posE hi_hr_211
          rw [ep_215] at hE_213
          have FA := frA FA (frAu hE_213) (by decide)
          have FC := fC.tr FC (fC.st (b := x1.toInt) (lo := 170) (hi := 229) hE_213 hb0.1 (by decide) hid_hr_211 hl_hr_211) (by decide)
          refine lv_aload_n hx hb dX12_dealOut_111 rfl (lv_at hl 4 rfl) ?_
          refine mg_0 C hs hP ha0 hk0 wf_X12_8 dX12_dealOut_112 ?_
          refine lv_iload_n hx hb dX12_dealOut_115 rfl (lv_at hl 5 rfl) ?_
          refine lv_sipush (v := 170) hx hb dX12_dealOut_116 (by decide) ?_
          refine lv_iadd hx hb dX12_dealOut_119 ?_
          refine lv_topi (fun x_216 ex_216 => ?_)
          refine lv_iload hx hb dX12_dealOut_120 (lv_at hl 1 rfl) ?_
          refine lv_iadd hx hb dX12_dealOut_122 ?_
          refine lv_topi (fun x_217 ex_217 => ?_)
          refine lv_iload hx hb dX12_dealOut_123 (lv_at hl 0 rfl) ?_
          have hi_hr_218 : zEq x_217.toInt (x1.toInt + x_196.toInt + 170) := by
            obtain ⟨f_216, l_216, u_216⟩ := z_add ex_216 rfl ti_170
            try replace f_216 : x_216.toInt = x1.toInt + 170 := by omega
            clear l_216 u_216
            have f_192 := z_ushr8 ex_192
            have f_d196 := z_remP ex_196 rfl rfl (by omega) (by omega)
            obtain ⟨f_217, l_217, u_217⟩ := z_add ex_217 rfl rfl
            try replace f_217 : x_217.toInt = x_216.toInt + x_196.toInt := by omega
            clear l_217 u_217
            show x_217.toInt = (x1.toInt + x_196.toInt + 170)
            omega
          have hl_hr_218 : 170 ≤ x_196.toInt + 170 ∧ x_196.toInt + 170 ≤ 229 := by
            have f_192 := z_ushr8 ex_192
            have f_d196 := z_remP ex_196 rfl rfl (by omega) (by omega)
            omega
          have hid_hr_218 : (x1.toInt + x_196.toInt + 170) = x1.toInt + (x_196.toInt + 170) := by simp only [Int.add_assoc, Int.add_sub_assoc]
          have hr_218 := z_cell (lo := 170) (hi := 469) hp0 hi_hr_218 hid_hr_218 hl_hr_218 (by decide)
          replace hid_hr_218 : zEq (x1.toInt + x_196.toInt + 170) (x1.toInt + (x_196.toInt + 170)) := hid_hr_218
          have hin_219 : vp_in x_217 (zn K (zr K a0 0)) := vp_in_iff.mpr (by rw [(hf_3.2.2 (by decide))]; exact hr_218.in)
          have g_221 := z_rng (A_31 40 (x1.toInt + y_28.toInt + 170).toNat)
          refine mst_40 C hM hs hP hS hf_3.1 hT hf_3.2.1 hin_219 (tp_170 hr_218 (show 0 ≤ (A_31 40 (x1.toInt + y_28.toInt + 170).toNat).toInt ∧ (A_31 40 (x1.toInt + y_28.toInt + 170).toNat).toInt ≤ 59 from by omega)) dX12_dealOut_125 (fun A_220 H locs hE_220 hT hP hS => ?_)
          have ep_222 : x_217.toNatClampNeg = (x1.toInt + x_196.toInt + 170).toNat := z_posE hi_hr_218
          rw [ep_222] at hE_220
          have FA := frA FA (frAu hE_220) (by decide)
          have FC := fC.tr FC (fC.st (b := x1.toInt) (lo := 170) (hi := 229) hE_220 hb0.1 (by decide) hid_hr_218 hl_hr_218) (by decide)
          obtain ⟨x_223, ex_223⟩ : ∃ y : Int32, y = y_28 + (-1) := ⟨_, rfl⟩
          refine lv_iinc (v := x_223) (lv' := [(5, .int x_223), (7, .int (A_31 40 (x1.toInt + y_28.toInt + 170).toNat)), (6, .int x_196), (4, .int x_191), (0, .ref a0), (1, .int x1), (2, .int x2), (3, .int x3)]) hx hb dX12_dealOut_126 hl (k := 3) rfl (by rw [ex_223]; rfl) (by decide) rfl (fun ls hl => ?_)
          refine lv_goto (tgt := 43) hx hb dX12_dealOut_129 (by decide) ?_
          obtain ⟨f_223, l_223, u_223⟩ := z_add ex_223 rfl ti_m1
          try replace f_223 : x_223.toInt = y_28.toInt + (-1) := by omega
          clear l_223 u_223
          exact ih_30 A_220 _ _ x_223 x_191 _ (by omega) (by omega) (bgn.sw iv_31_1 hb0.1 (by rw [hpk]) tR0.p1.2 (by omega) (by omega) hE_213 hE_220 rfl rfl) FA FC hT hP hS (lv_sub hl [0, 3, 4, 5, 6, 7] rfl)
    have g_224 := z_rng (A 40 (x1.toInt + 1).toNat)
    obtain ⟨f_27, l_27, u_27⟩ := z_sub ex_27 rfl ti_1
    try replace f_27 : x_27.toInt = (A 40 (x1.toInt + 1).toNat).toInt - 1 := by omega
    clear l_27 u_27
    have ev_225 : A_17 40 = A_1 40 := by rw [hA_17 40 (by decide)]
    exact L_43_30 _ A_17 _ _ x_27 x2 _ (Nat.lt_succ_self _) (by omega) (by rw [ev_225]; exact pp_1) FA FC hT hP hS (lv_sub hl [0, 1, 2, 3, 4, 5] rfl)
  refine bi_ne (tgt := 23) hx hb rfl ti_4 dX12_dealOut_15 (by decide) (fun c_10 => ?_) (fun c_10 => ?_)
  · skip
    refine lv_bipush (v := 11) hx hb dX12_dealOut_23 (by decide) ?_
    exact J_25_12 11 _ (lv_sub hl [0, 1, 2, 3] rfl)
  · skip
    refine lv_bipush (v := 12) hx hb dX12_dealOut_18 (by decide) ?_
    refine lv_goto (tgt := 25) hx hb dX12_dealOut_20 (by decide) ?_
    exact J_25_12 12 _ (lv_sub hl [0, 1, 2, 3] rfl)
set_option maxHeartbeats 4000000 in
set_option maxRecDepth 100000 in
theorem c_X12_doGive (l : Launch) (D : va_G) (K : zK) (hM : mK K) (f : Nat → Int32) (A : Nat → Nat → Int32) (hT : mT f A) (a0 : Nat) (ha0 : a0 ∈ zl K) (hk0 : zk K a0 = 11) (x1 : Int32) (x2 : Int32) (x3 : Int32) (hp0 : zRow x1.toInt) (hp1 : 0 ≤ x2.toInt ∧ x2.toInt ≤ 3) (hp2 : 0 ≤ x3.toInt ∧ x3.toInt ≤ 59 ∧ x3.toInt < (A 40 (x1.toInt + 1).toNat).toInt) (hp3 : (A 40 (x1.toInt + x3.toInt + 110).toNat).toInt = 0) (hp4 : (A 40 (x1.toInt + x2.toInt + 22).toNat).toInt ≤ 59) (hp5 : rowN (A 40) x1.toInt) : Met l yX12_doGive (zc yX12_doGive cX12_doGive 5 none) (rmd 2) (va_Pc [.ref a0, .int x1, .int x2, .int x3] (zB D K (mV K f A))) (mQv D K (fun f' A' => mT f' A' ∧ (∀ k, k ∉ ([40] : List Nat) → A' k = A k) ∧ (∀ k, k ∉ ([] : List Nat) → f' k = f k) ∧ fC (A 40) (A' 40) x1.toInt ([(9, 9), (21, 21), (22, 25), (110, 169), (170, 229), (230, 469)] : List (Int × Int)) ∧ rowN (A' 40) x1.toInt)) 0 0 (zA K) := by
  refine zin (by decide) (Nat.le_of_ble_eq_true rfl) ?_
  intro p e s m args below meth c ls Q hQ C hr hlk hP hs hl
  have C : CallFix p m c cX12_doGive 5 s args zw RX12 := C
  obtain ⟨hx, hb, hml, hown, hts⟩ := id C
  have hO := hM.1
  have hS : va_S (zA K) s.heap s.heap [] := va_S.rf
  have FA : ∀ k, k ∉ ([40] : List Nat) → A k = A k := fun _ _ => rfl
  have FF : ∀ k, k ∉ ([] : List Nat) → f k = f k := fun _ _ => rfl
  have FC : fC (A 40) (A 40) x1.toInt ([(9, 9), (21, 21), (22, 25), (110, 169), (170, 229), (230, 469)] : List (Int × Int)) := fun _ _ _ => rfl
  have hl : lv_has ls 5 [(0, .ref a0), (1, .int x1), (2, .int x2), (3, .int x3)] := hl
  have hb0 := hp0.lin
  have tR0 := hT.row hp0
  refine lv_aload_n hx hb dX12_doGive_0 rfl (lv_at hl 0 rfl) ?_
  refine mg_0 C hs hP ha0 hk0 wf_X12_8 dX12_doGive_1 ?_
  have hf_1 := hO.r (j := 0) ha0 hk0 (rfl : zX 11 0 = some (40, 47730))
  refine lv_iload_n hx hb dX12_doGive_4 rfl (lv_at hl 1 rfl) ?_
  refine lv_bipush (v := 22) hx hb dX12_doGive_5 (by decide) ?_
  refine lv_iadd hx hb dX12_doGive_7 ?_
  refine lv_topi (fun x_2 ex_2 => ?_)
  refine lv_iload_n hx hb dX12_doGive_8 rfl (lv_at hl 2 rfl) ?_
  refine lv_iadd hx hb dX12_doGive_9 ?_
  refine lv_topi (fun x_3 ex_3 => ?_)
  refine lv_aload_n hx hb dX12_doGive_10 rfl (lv_at hl 0 rfl) ?_
  refine mg_0 C hs hP ha0 hk0 wf_X12_8 dX12_doGive_11 ?_
  refine lv_iload_n hx hb dX12_doGive_14 rfl (lv_at hl 1 rfl) ?_
  refine lv_bipush (v := 22) hx hb dX12_doGive_15 (by decide) ?_
  refine lv_iadd hx hb dX12_doGive_17 ?_
  refine lv_topi (fun x_4 ex_4 => ?_)
  refine lv_iload_n hx hb dX12_doGive_18 rfl (lv_at hl 2 rfl) ?_
  refine lv_iadd hx hb dX12_doGive_19 ?_
  refine lv_topi (fun x_5 ex_5 => ?_)
  have hi_hr_6 : zEq x_5.toInt (x1.toInt + x2.toInt + 22) := by
    have g_7 := z_rng x1
    obtain ⟨f_4, l_4, u_4⟩ := z_add ex_4 rfl ti_22
    try replace f_4 : x_4.toInt = x1.toInt + 22 := by omega
    clear l_4 u_4
    have g_8 := z_rng x2
    obtain ⟨f_5, l_5, u_5⟩ := z_add ex_5 rfl rfl
    try replace f_5 : x_5.toInt = x_4.toInt + x2.toInt := by omega
    clear l_5 u_5
    show x_5.toInt = (x1.toInt + x2.toInt + 22)
    omega
  have hl_hr_6 : 22 ≤ x2.toInt + 22 ∧ x2.toInt + 22 ≤ 25 := by
    have g_9 := z_rng x1
    have g_10 := z_rng x2
    omega
  have hid_hr_6 : (x1.toInt + x2.toInt + 22) = x1.toInt + (x2.toInt + 22) := by simp only [Int.add_assoc, Int.add_sub_assoc]
  have hr_6 := z_cell (lo := 22) (hi := 25) hp0 hi_hr_6 hid_hr_6 hl_hr_6 (by decide)
  replace hid_hr_6 : zEq (x1.toInt + x2.toInt + 22) (x1.toInt + (x2.toInt + 22)) := hid_hr_6
  have hin_11 : vp_in x_5 (zn K (zr K a0 0)) := vp_in_iff.mpr (by rw [(hf_1.2.2 (by decide))]; exact hr_6.in)
  refine mld_40 C hs hP hf_1.1 hf_1.2.1 hin_11 dX12_doGive_20 ?_
  have ep_12 : x_5.toNatClampNeg = (x1.toInt + x2.toInt + 22).toNat := z_posE hi_hr_6
  rw [ep_12]
  have tv_13 := rv_22 hT hr_6
  rw [ep_12] at tv_13
  refine lv_iconst (v := (-1)) hx hb dX12_doGive_21 (by decide) ?_
  refine bi_ne (tgt := 29) hx hb rfl ti_m1 dX12_doGive_22 (by decide) (fun c_14 => ?_) (fun c_14 => ?_)
  · skip
    refine lv_aload_n hx hb dX12_doGive_29 rfl (lv_at hl 0 rfl) ?_
    refine mg_0 C hs hP ha0 hk0 wf_X12_8 dX12_doGive_30 ?_
    refine lv_iload_n hx hb dX12_doGive_33 rfl (lv_at hl 1 rfl) ?_
    refine lv_bipush (v := 22) hx hb dX12_doGive_34 (by decide) ?_
    refine lv_iadd hx hb dX12_doGive_36 ?_
    refine lv_topi (fun x_15 ex_15 => ?_)
    refine lv_iload_n hx hb dX12_doGive_37 rfl (lv_at hl 2 rfl) ?_
    refine lv_iadd hx hb dX12_doGive_38 ?_
    refine lv_topi (fun x_16 ex_16 => ?_)
    have hi_hr_17 : zEq x_16.toInt (x1.toInt + x2.toInt + 22) := by
      have g_18 := z_rng x1
      obtain ⟨f_15, l_15, u_15⟩ := z_add ex_15 rfl ti_22
      try replace f_15 : x_15.toInt = x1.toInt + 22 := by omega
      clear l_15 u_15
      have g_19 := z_rng x2
      obtain ⟨f_16, l_16, u_16⟩ := z_add ex_16 rfl rfl
      try replace f_16 : x_16.toInt = x_15.toInt + x2.toInt := by omega
      clear l_16 u_16
      show x_16.toInt = (x1.toInt + x2.toInt + 22)
      omega
    have hl_hr_17 : 22 ≤ x2.toInt + 22 ∧ x2.toInt + 22 ≤ 25 := by
      have g_20 := z_rng x1
      have g_21 := z_rng x2
      omega
    have hid_hr_17 : (x1.toInt + x2.toInt + 22) = x1.toInt + (x2.toInt + 22) := by simp only [Int.add_assoc, Int.add_sub_assoc]
    have hr_17 := z_cell (lo := 22) (hi := 25) hp0 hi_hr_17 hid_hr_17 hl_hr_17 (by decide)
    replace hid_hr_17 : zEq (x1.toInt + x2.toInt + 22) (x1.toInt + (x2.toInt + 22)) := hid_hr_17
    have hin_22 : vp_in x_16 (zn K (zr K a0 0)) := vp_in_iff.mpr (by rw [(hf_1.2.2 (by decide))]; exact hr_17.in)
    refine mld_40 C hs hP hf_1.1 hf_1.2.1 hin_22 dX12_doGive_39 ?_
    have ep_23 : x_16.toNatClampNeg = (x1.toInt + x2.toInt + 22).toNat := z_posE hi_hr_17
    rw [ep_23]
    have hi_hr_24 : zEq x_3.toInt (x1.toInt + x2.toInt + 22) := by
      have g_25 := z_rng x1
      obtain ⟨f_2, l_2, u_2⟩ := z_add ex_2 rfl ti_22
      try replace f_2 : x_2.toInt = x1.toInt + 22 := by omega
      clear l_2 u_2
      have g_26 := z_rng x2
      obtain ⟨f_3, l_3, u_3⟩ := z_add ex_3 rfl rfl
      try replace f_3 : x_3.toInt = x_2.toInt + x2.toInt := by omega
      clear l_3 u_3
      show x_3.toInt = (x1.toInt + x2.toInt + 22)
      omega
    have hl_hr_24 : 22 ≤ x2.toInt + 22 ∧ x2.toInt + 22 ≤ 25 := by
      have g_27 := z_rng x1
      have g_28 := z_rng x2
      omega
    have hid_hr_24 : (x1.toInt + x2.toInt + 22) = x1.toInt + (x2.toInt + 22) := by simp only [Int.add_assoc, Int.add_sub_assoc]
    have hr_24 := z_cell (lo := 22) (hi := 25) hp0 hi_hr_24 hid_hr_24 hl_hr_24 (by decide)
    replace hid_hr_24 : zEq (x1.toInt + x2.toInt + 22) (x1.toInt + (x2.toInt + 22)) := hid_hr_24
    have hin_29 : vp_in x_3 (zn K (zr K a0 0)) := vp_in_iff.mpr (by rw [(hf_1.2.2 (by decide))]; exact hr_24.in)
    have g_31 := z_rng (A 40 (x1.toInt + x2.toInt + 22).toNat)
    refine mst_40 C hM hs hP hS hf_1.1 hT hf_1.2.1 hin_29 (tp_22 hr_24 (show -1 ≤ (A 40 (x1.toInt + x2.toInt + 22).toNat).toInt ∧ (A 40 (x1.toInt + x2.toInt + 22).toNat).toInt ≤ 60 from by omega)) dX12_doGive_40 (fun A_30 H locs hE_30 hT hP hS => ?_)
    have ep_32 : x_3.toNatClampNeg = (x1.toInt + x2.toInt + 22).toNat := z_posE hi_hr_24
    rw [ep_32] at hE_30
    have FA := frA FA (frAu hE_30) (by decide)
    have FC := fC.tr FC (fC.st (b := x1.toInt) (lo := 22) (hi := 25) hE_30 hb0.1 (by decide) hid_hr_24 hl_hr_24) (by decide)
    have rP1 := rowP.hv hp5.1 tR0 hb0.1 (by omega) hE_30 (Int.le_refl _)
    have tR1 := hT.row hp0
    have es_33 : A_30 40 (x1.toInt + x2.toInt + 22).toNat = A 40 (x1.toInt + x2.toInt + 22).toNat := by rw [hE_30, va_up_self, pk_us]
    have hh1 : 0 ≤ (A_30 40 (x1.toInt + x2.toInt + 22).toNat).toInt ∧ (A_30 40 (x1.toInt + x2.toInt + 22).toNat).toInt ≤ 59 := by rw [es_33]; omega
    have hex := hp5.1.2.2 x3.toInt (by omega) (by omega) (by omega)
    refine lv_iconst (v := 0) hx hb dX12_doGive_41 (by decide) ?_
    refine lv_istore (lv' := [(4, .int 0), (0, .ref a0), (1, .int x1), (2, .int x2), (3, .int x3)]) hx hb dX12_doGive_42 hl (by decide) rfl (fun ls hl => ?_)
    have L_44_35 : ∀ (n_35 : Nat) (y_34 : Int32) (ls : Array Slot), (2147483648 - y_34.toInt).toNat < n_35 → 0 ≤ y_34.toInt → ∃ k : Int, y_34.toInt ≤ k ∧ k < (A 40 (x1.toInt + 21).toNat).toInt ∧ (A 40 (x1.toInt + k + 170).toNat).toInt = x3.toInt → lv_has ls 5 [(4, .int y_34), (0, .ref a0), (1, .int x1), (2, .int x2), (3, .int x3)] → W p l e (rmd 2) s m args below meth c H locs 0 0 Q (F0 m 44 ls []) := by
      intro n_35
      induction n_35 with
      | zero => intro y_34 ls hm_35; exact absurd hm_35 (Nat.not_lt_zero _)
      | succ n_35 ih_35 =>
        intro y_34 ls hm_35 iv_36_0 iv_36_1 hl
        obtain ⟨k9, k91, k92, k93⟩ := iv_36_1
        have t21 := tR0.p21
        refine lv_aload_n hx hb dX12_doGive_44 rfl (lv_at hl 1 rfl) ?_
        refine mg_0 C hs hP ha0 hk0 wf_X12_8 dX12_doGive_45 ?_
        refine lv_iload_n hx hb dX12_doGive_48 rfl (lv_at hl 2 rfl) ?_
        refine lv_sipush (v := 170) hx hb dX12_doGive_49 (by decide) ?_
        refine lv_iadd hx hb dX12_doGive_52 ?_
        refine lv_topi (fun x_37 ex_37 => ?_)
        refine lv_iload hx hb dX12_doGive_53 (lv_at hl 0 rfl) ?_
        refine lv_iadd hx hb dX12_doGive_55 ?_
        refine lv_topi (fun x_38 ex_38 => ?_)
        have hi_hr_39 : zEq x_38.toInt (x1.toInt + y_34.toInt + 170) := by
          have g_40 := z_rng x1
          obtain ⟨f_37, l_37, u_37⟩ := z_add ex_37 rfl ti_170
          try replace f_37 : x_37.toInt = x1.toInt + 170 := by omega
          clear l_37 u_37
          have g_41 := z_rng y_34
          obtain ⟨f_38, l_38, u_38⟩ := z_add ex_38 rfl rfl
          try replace f_38 : x_38.toInt = x_37.toInt + y_34.toInt := by omega
          clear l_38 u_38
          show x_38.toInt = (x1.toInt + y_34.toInt + 170)
          omega
        have hl_hr_39 : 170 ≤ y_34.toInt + 170 ∧ y_34.toInt + 170 ≤ 229 := by
          have g_42 := z_rng x1
          have g_43 := z_rng y_34
          omega
        have hid_hr_39 : (x1.toInt + y_34.toInt + 170) = x1.toInt + (y_34.toInt + 170) := by simp only [Int.add_assoc, Int.add_sub_assoc]
        have hr_39 := z_cell (lo := 170) (hi := 469) hp0 hi_hr_39 hid_hr_39 hl_hr_39 (by decide)
        replace hid_hr_39 : zEq (x1.toInt + y_34.toInt + 170) (x1.toInt + (y_34.toInt + 170)) := hid_hr_39
        have hin_44 : vp_in x_38 (zn K (zr K a0 0)) := vp_in_iff.mpr (by rw [(hf_1.2.2 (by decide))]; exact hr_39.in)
        refine mld_40 C hs hP hf_1.1 hf_1.2.1 hin_44 dX12_doGive_56 ?_
        have ep_45 : x_38.toNatClampNeg = (x1.toInt + y_34.toInt + 170).toNat := z_posE hi_hr_39
        rw [ep_45]
        have g_47 := z_rng x1
        obtain ⟨f_37, l_37, u_37⟩ := z_add ex_37 rfl ti_170
        try replace f_37 : x_37.toInt = x1.toInt + 170 := by omega
        clear l_37 u_37
        have g_48 := z_rng y_34
        obtain ⟨f_38, l_38, u_38⟩ := z_add ex_38 rfl rfl
        try replace f_38 : x_38.toInt = x_37.toInt + y_34.toInt := by omega
        clear l_38 u_38
        obtain ⟨f_2, l_2, u_2⟩ := z_add ex_2 rfl ti_22
        try replace f_2 : x_2.toInt = x1.toInt + 22 := by omega
        clear l_2 u_2
        have g_49 := z_rng x2
        obtain ⟨f_3, l_3, u_3⟩ := z_add ex_3 rfl rfl
        try replace f_3 : x_3.toInt = x_2.toInt + x2.toInt := by omega
        clear l_3 u_3
        have hn_46 : (x1.toInt + y_34.toInt + 170).toNat ≠ (x1.toInt + x2.toInt + 22).toNat := by omega
        have ev_50 : A_30 40 (x1.toInt + y_34.toInt + 170).toNat = A 40 (x1.toInt + y_34.toInt + 170).toNat := by rw [hE_30, va_up_self, pk_un hn_46]
        have tv_51 := rv_170 hT hr_39
        rw [ep_45] at tv_51
        rw [ev_50] at tv_51
        rw [ev_50]
        refine lv_iload_n hx hb dX12_doGive_57 rfl (lv_at hl 4 rfl) ?_
        refine bi_eq (tgt := 67) hx hb rfl rfl dX12_doGive_58 (by decide) (fun c_52 => ?_) (fun c_52 => ?_)
        · skip
          refine lv_aload_n hx hb dX12_doGive_67 rfl (lv_at hl 1 rfl) ?_
          refine lv_iload_n hx hb dX12_doGive_68 rfl (lv_at hl 2 rfl) ?_
          refine lv_iload_n hx hb dX12_doGive_69 rfl (lv_at hl 3 rfl) ?_
          refine lv_iload hx hb dX12_doGive_70 (lv_at hl 0 rfl) ?_
          have hq_54 : 0 ≤ x2.toInt ∧ x2.toInt ≤ 3 := by (first | assumption | omega | (intros; omega))
          have es_56 : A_30 40 (x1.toInt + 21).toNat = A 40 (x1.toInt + 21).toNat := by rw [hE_30, va_up_self, pk_un (show (x1.toInt + 21).toNat ≠ (x1.toInt + x2.toInt + 22).toNat by omega)]
          have hq_55 : 0 ≤ y_34.toInt ∧ y_34.toInt < (A_30 40 (x1.toInt + 21).toNat).toInt := by rw [es_56] <;> (first | assumption | omega | (intros; omega))
          have es_58 : A_30 40 (x1.toInt + x2.toInt + 22).toNat = A 40 (x1.toInt + x2.toInt + 22).toNat := by rw [hE_30, va_up_self, pk_us]
          have hq_57 : 0 ≤ (A_30 40 (x1.toInt + x2.toInt + 22).toNat).toInt ∧ (A_30 40 (x1.toInt + x2.toInt + 22).toNat).toInt ≤ 59 := by exact hh1
          refine mcV (zrV (As := [.int x1, .int x2, .int y_34]) (b := a0) (rest := []) C hs hP hS (c_X12_toHand l D K hM f A_30 hT a0 ha0 hk0 x1 x2 y_34 hp0 hq_54 hq_55 hq_57) m_X12_toHand wm_X12_158 (zrecv hs hP ha0 (zF_11 hk0) rfl) ⟨by decide, by decide⟩ hl.1 (Nat.le_of_ble_eq_true rfl) dX12_doGive_72) hS (fun f_59 A_59 H locs p_59 hP hS => ?_)
          obtain ⟨hT, hA_59, hF_59, hC_59, pp_59⟩ := p_59
          have pp_59 : (A_59 40 (x1.toInt + 21).toNat).toInt = (A_30 40 (x1.toInt + 21).toNat).toInt - 1 ∧ (A_59 40 (x1.toInt + x2.toInt + 22).toNat).toInt = (A_30 40 (x1.toInt + x2.toInt + 22).toNat).toInt + 1 ∧ (∀ q : Int, 0 ≤ q → q ≤ 3 → q ≠ x2.toInt → A_59 40 (x1.toInt + q + 22).toNat = A_30 40 (x1.toInt + q + 22).toNat) ∧ (rK (A_30 40) x1.toInt → rK (A_59 40) x1.toInt) := pp_59
          have pp0_59 := pp_59
          have FA := frA FA hA_59 (by decide)
          have FF := frF FF hF_59 (by decide)
          have FC := fC.tr FC hC_59 (by decide)
          have rP2 := rowP.th rP1 tR1 hb0.1 (by omega) hh1.1 hC_59 pp0_59.1 pp0_59.2.1 pp0_59.2.2.1 pp0_59.2.2.2
          refine lv_aload_n hx hb dX12_doGive_75 rfl (lv_at hl 1 rfl) ?_
          refine mg_0 C hs hP ha0 hk0 wf_X12_8 dX12_doGive_76 ?_
          refine lv_iload_n hx hb dX12_doGive_79 rfl (lv_at hl 2 rfl) ?_
          refine lv_bipush (v := 9) hx hb dX12_doGive_80 (by decide) ?_
          refine lv_iadd hx hb dX12_doGive_82 ?_
          refine lv_topi (fun x_60 ex_60 => ?_)
          refine lv_aload_n hx hb dX12_doGive_83 rfl (lv_at hl 1 rfl) ?_
          refine lv_iload_n hx hb dX12_doGive_84 rfl (lv_at hl 2 rfl) ?_
          refine lv_iconst (v := 0) hx hb dX12_doGive_85 (by decide) ?_
          have hq_61 : 0 ≤ (0 : Int32).toInt ∧ (0 : Int32).toInt ≤ 4 := by ((try simp only [ti_0]); first | assumption | omega | (intros; omega))
          refine zcS (zrV (As := [.int x1, .int 0]) (b := a0) (rest := [.int x_60, .ref (zr K a0 0)]) C hs hP hS (c_X12_seatFrom l D K hM f_59 A_59 hT a0 ha0 hk0 x1 0 hp0 hq_61) m_X12_seatFrom wm_X12_162 (zrecv hs hP ha0 (zF_11 hk0) rfl) ⟨by decide, by decide⟩ hl.1 (Nat.le_of_ble_eq_true rfl) dX12_doGive_86) (fun x_62 p_62 => ?_)
          have pp_62 : (x_62.toInt = -1 ∨ (0 ≤ x_62.toInt ∧ x_62.toInt ≤ 3 ∧ 1 ≤ (A_59 40 (x1.toInt + x_62.toInt + 22).toNat).toInt ∧ nL (A_59 40) x1.toInt x_62.toInt (A_59 40 (x1.toInt + 26).toNat).toInt)) := p_62
          try simp only [ti_0] at pp_62
          have tRs := hT.row hp0
          have FCs := FC
          have hi_hr_63 : zEq x_60.toInt (x1.toInt + 9) := by
            obtain ⟨f_60, l_60, u_60⟩ := z_add ex_60 rfl ti_9
            try replace f_60 : x_60.toInt = x1.toInt + 9 := by omega
            clear l_60 u_60
            show x_60.toInt = (x1.toInt + 9)
            omega
          have hl_hr_63 : (9 : Int) ≤ 9 ∧ 9 ≤ (9 : Int) := by decide
          have hid_hr_63 : (x1.toInt + 9) = x1.toInt + (9) := by simp only [Int.add_assoc, Int.add_sub_assoc]
          have hr_63 := z_cell (lo := 9) (hi := 9) hp0 hi_hr_63 hid_hr_63 hl_hr_63 (by decide)
          replace hid_hr_63 : zEq (x1.toInt + 9) (x1.toInt + (9)) := hid_hr_63
          have hin_64 : vp_in x_60 (zn K (zr K a0 0)) := vp_in_iff.mpr (by rw [(hf_1.2.2 (by decide))]; exact hr_63.in)
          have g_66 := z_rng x_62
          refine mst_40 C hM hs hP hS hf_1.1 hT hf_1.2.1 hin_64 (tp_9 hr_63 (show -1 ≤ x_62.toInt ∧ x_62.toInt ≤ 3 from by omega)) dX12_doGive_89 (fun A_65 H locs hE_65 hT hP hS => ?_)
          have ep_67 : x_60.toNatClampNeg = (x1.toInt + 9).toNat := z_posE hi_hr_63
          rw [ep_67] at hE_65
          have FA := frA FA (frAu hE_65) (by decide)
          have FC := fC.tr FC (fC.st (b := x1.toInt) (lo := 9) (hi := 9) hE_65 hb0.1 (by decide) hid_hr_63 hl_hr_63) (by decide)
          have hRN := rowN.nx rP2 tRs hb0.1 hE_65 pp_62
          exact maV hQ hx hb hr hlk hP hS ⟨hT, FA, FF, FC, hRN⟩ dX12_doGive_90
        · skip
          obtain ⟨x_68, ex_68⟩ : ∃ y : Int32, y = y_34 + 1 := ⟨_, rfl⟩
          refine lv_iinc (v := x_68) (lv' := [(4, .int x_68), (0, .ref a0), (1, .int x1), (2, .int x2), (3, .int x3)]) hx hb dX12_doGive_61 hl (k := 0) rfl (by rw [ex_68]; rfl) (by decide) rfl (fun ls hl => ?_)
          refine lv_goto (tgt := 44) hx hb dX12_doGive_64 (by decide) ?_
          obtain ⟨f_68, l_68, u_68⟩ := z_add ex_68 rfl ti_1
          try replace f_68 : x_68.toInt = y_34.toInt + 1 := by omega
          clear l_68 u_68
          have g_69 := z_rng (A 40 (x1.toInt + y_34.toInt + 170).toNat)
          have g_70 := z_rng x3
          exact ih_35 x_68 _ (by omega) (by omega) ⟨k9, by rcases (by omega : y_34.toInt = k9 ∨ y_34.toInt < k9) with h9 | h9 <;> [(exfalso; rw [← h9] at k93; omega); omega], k92, k93⟩ (lv_sub hl [0, 1, 2, 3, 4] rfl)
    exact L_44_35 _ 0 _ (Nat.lt_succ_self _) (by (try simp only [ti_0]); omega) (by obtain ⟨k9, k91, k92, k93⟩ := hex; exact ⟨k9, by rw [ti_0]; exact k91, k92, k93⟩) (lv_sub hl [0, 1, 2, 3, 4] rfl)
  · skip
    refine lv_iconst (v := 0) hx hb dX12_doGive_25 (by decide) ?_
    refine lv_goto (tgt := 40) hx hb dX12_doGive_26 (by decide) ?_
    have hi_hr_71 : zEq x_3.toInt (x1.toInt + x2.toInt + 22) := by
      have g_72 := z_rng x1
      obtain ⟨f_2, l_2, u_2⟩ := z_add ex_2 rfl ti_22
      try replace f_2 : x_2.toInt = x1.toInt + 22 := by omega
      clear l_2 u_2
      have g_73 := z_rng x2
      obtain ⟨f_3, l_3, u_3⟩ := z_add ex_3 rfl rfl
      try replace f_3 : x_3.toInt = x_2.toInt + x2.toInt := by omega
      clear l_3 u_3
      show x_3.toInt = (x1.toInt + x2.toInt + 22)
      omega
    have hl_hr_71 : 22 ≤ x2.toInt + 22 ∧ x2.toInt + 22 ≤ 25 := by
      have g_74 := z_rng x1
      have g_75 := z_rng x2
      omega
    have hid_hr_71 : (x1.toInt + x2.toInt + 22) = x1.toInt + (x2.toInt + 22) := by simp only [Int.add_assoc, Int.add_sub_assoc]
    have hr_71 := z_cell (lo := 22) (hi := 25) hp0 hi_hr_71 hid_hr_71 hl_hr_71 (by decide)
    replace hid_hr_71 : zEq (x1.toInt + x2.toInt + 22) (x1.toInt + (x2.toInt + 22)) := hid_hr_71
    have hin_76 : vp_in x_3 (zn K (zr K a0 0)) := vp_in_iff.mpr (by rw [(hf_1.2.2 (by decide))]; exact hr_71.in)
    refine mst_40 C hM hs hP hS hf_1.1 hT hf_1.2.1 hin_76 (tp_22 hr_71 (show -1 ≤ (0 : Int32).toInt ∧ (0 : Int32).toInt ≤ 60 from by rw [ti_0]; omega)) dX12_doGive_40 (fun A_77 H locs hE_77 hT hP hS => ?_)
    have ep_78 : x_3.toNatClampNeg = (x1.toInt + x2.toInt + 22).toNat := z_posE hi_hr_71
    rw [ep_78] at hE_77
    have FA := frA FA (frAu hE_77) (by decide)
    have FC := fC.tr FC (fC.st (b := x1.toInt) (lo := 22) (hi := 25) hE_77 hb0.1 (by decide) hid_hr_71 hl_hr_71) (by decide)
    have rP1 := rowP.hv hp5.1 tR0 hb0.1 (by omega) hE_77 (by rw [ti_0, mx_0 (Int.le_refl 0)]; exact mx_nn _)
    have tR1 := hT.row hp0
    have es_79 : A_77 40 (x1.toInt + x2.toInt + 22).toNat = (0 : Int32) := by rw [hE_77, va_up_self, pk_us]
    have hh1 : 0 ≤ (A_77 40 (x1.toInt + x2.toInt + 22).toNat).toInt ∧ (A_77 40 (x1.toInt + x2.toInt + 22).toNat).toInt ≤ 59 := by rw [es_79]; rw [ti_0]; omega
    have hex := hp5.1.2.2 x3.toInt (by omega) (by omega) (by omega)
    refine lv_iconst (v := 0) hx hb dX12_doGive_41 (by decide) ?_
    refine lv_istore (lv' := [(4, .int 0), (0, .ref a0), (1, .int x1), (2, .int x2), (3, .int x3)]) hx hb dX12_doGive_42 hl (by decide) rfl (fun ls hl => ?_)
    have L_44_81 : ∀ (n_81 : Nat) (y_80 : Int32) (ls : Array Slot), (2147483648 - y_80.toInt).toNat < n_81 → 0 ≤ y_80.toInt → ∃ k : Int, y_80.toInt ≤ k ∧ k < (A 40 (x1.toInt + 21).toNat).toInt ∧ (A 40 (x1.toInt + k + 170).toNat).toInt = x3.toInt → lv_has ls 5 [(4, .int y_80), (0, .ref a0), (1, .int x1), (2, .int x2), (3, .int x3)] → W p l e (rmd 2) s m args below meth c H locs 0 0 Q (F0 m 44 ls []) := by
      intro n_81
      induction n_81 with
      | zero => intro y_80 ls hm_81; exact absurd hm_81 (Nat.not_lt_zero _)
      | succ n_81 ih_81 =>
        intro y_80 ls hm_81 iv_82_0 iv_82_1 hl
        obtain ⟨k9, k91, k92, k93⟩ := iv_82_1
        have t21 := tR0.p21
        refine lv_aload_n hx hb dX12_doGive_44 rfl (lv_at hl 1 rfl) ?_
        refine mg_0 C hs hP ha0 hk0 wf_X12_8 dX12_doGive_45 ?_
        refine lv_iload_n hx hb dX12_doGive_48 rfl (lv_at hl 2 rfl) ?_
        refine lv_sipush (v := 170) hx hb dX12_doGive_49 (by decide) ?_
        refine lv_iadd hx hb dX12_doGive_52 ?_
        refine lv_topi (fun x_83 ex_83 => ?_)
        refine lv_iload hx hb dX12_doGive_53 (lv_at hl 0 rfl) ?_
        refine lv_iadd hx hb dX12_doGive_55 ?_
        refine lv_topi (fun x_84 ex_84 => ?_)
        have hi_hr_85 : zEq x_84.toInt (x1.toInt + y_80.toInt + 170) := by
          have g_86 := z_rng x1
          obtain ⟨f_83, l_83, u_83⟩ := z_add ex_83 rfl ti_170
          try replace f_83 : x_83.toInt = x1.toInt + 170 := by omega
          clear l_83 u_83
          have g_87 := z_rng y_80
          obtain ⟨f_84, l_84, u_84⟩ := z_add ex_84 rfl rfl
          try replace f_84 : x_84.toInt = x_83.toInt + y_80.toInt := by omega
          clear l_84 u_84
          show x_84.toInt = (x1.toInt + y_80.toInt + 170)
          omega
        have hl_hr_85 : 170 ≤ y_80.toInt + 170 ∧ y_80.toInt + 170 ≤ 229 := by
          have g_88 := z_rng x1
          have g_89 := z_rng y_80
          omega
        have hid_hr_85 : (x1.toInt + y_80.toInt + 170) = x1.toInt + (y_80.toInt + 170) := by simp only [Int.add_assoc, Int.add_sub_assoc]
        have hr_85 := z_cell (lo := 170) (hi := 469) hp0 hi_hr_85 hid_hr_85 hl_hr_85 (by decide)
        replace hid_hr_85 : zEq (x1.toInt + y_80.toInt + 170) (x1.toInt + (y_80.toInt + 170)) := hid_hr_85
        have hin_90 : vp_in x_84 (zn K (zr K a0 0)) := vp_in_iff.mpr (by rw [(hf_1.2.2 (by decide))]; exact hr_85.in)
        refine mld_40 C hs hP hf_1.1 hf_1.2.1 hin_90 dX12_doGive_56 ?_
        have ep_91 : x_84.toNatClampNeg = (x1.toInt + y_80.toInt + 170).toNat := z_posE hi_hr_85
        rw [ep_91]
        have g_93 := z_rng x1
        obtain ⟨f_83, l_83, u_83⟩ := z_add ex_83 rfl ti_170
        try replace f_83 : x_83.toInt = x1.toInt + 170 := by omega
        clear l_83 u_83
        have g_94 := z_rng y_80
        obtain ⟨f_84, l_84, u_84⟩ := z_add ex_84 rfl rfl
        try replace f_84 : x_84.toInt = x_83.toInt + y_80.toInt := by omega
        clear l_84 u_84
        obtain ⟨f_2, l_2, u_2⟩ := z_add ex_2 rfl ti_22
        try replace f_2 : x_2.toInt = x1.toInt + 22 := by omega
        clear l_2 u_2
        have g_95 := z_rng x2
        obtain ⟨f_3, l_3, u_3⟩ := z_add ex_3 rfl rfl
        try replace f_3 : x_3.toInt = x_2.toInt + x2.toInt := by omega
        clear l_3 u_3
        have hn_92 : (x1.toInt + y_80.toInt + 170).toNat ≠ (x1.toInt + x2.toInt + 22).toNat := by omega
        have ev_96 : A_77 40 (x1.toInt + y_80.toInt + 170).toNat = A 40 (x1.toInt + y_80.toInt + 170).toNat := by rw [hE_77, va_up_self, pk_un hn_92]
        have tv_97 := rv_170 hT hr_85
        rw [ep_91] at tv_97
        rw [ev_96] at tv_97
        rw [ev_96]
        refine lv_iload_n hx hb dX12_doGive_57 rfl (lv_at hl 4 rfl) ?_
        refine bi_eq (tgt := 67) hx hb rfl rfl dX12_doGive_58 (by decide) (fun c_98 => ?_) (fun c_98 => ?_)
        · skip
          refine lv_aload_n hx hb dX12_doGive_67 rfl (lv_at hl 1 rfl) ?_
          refine lv_iload_n hx hb dX12_doGive_68 rfl (lv_at hl 2 rfl) ?_
          refine lv_iload_n hx hb dX12_doGive_69 rfl (lv_at hl 3 rfl) ?_
          refine lv_iload hx hb dX12_doGive_70 (lv_at hl 0 rfl) ?_
          have hq_100 : 0 ≤ x2.toInt ∧ x2.toInt ≤ 3 := by (first | assumption | omega | (intros; omega))
          have es_102 : A_77 40 (x1.toInt + 21).toNat = A 40 (x1.toInt + 21).toNat := by rw [hE_77, va_up_self, pk_un (show (x1.toInt + 21).toNat ≠ (x1.toInt + x2.toInt + 22).toNat by omega)]
          have hq_101 : 0 ≤ y_80.toInt ∧ y_80.toInt < (A_77 40 (x1.toInt + 21).toNat).toInt := by rw [es_102] <;> (first | assumption | omega | (intros; omega))
          have es_104 : A_77 40 (x1.toInt + x2.toInt + 22).toNat = (0 : Int32) := by rw [hE_77, va_up_self, pk_us]
          have hq_103 : 0 ≤ (A_77 40 (x1.toInt + x2.toInt + 22).toNat).toInt ∧ (A_77 40 (x1.toInt + x2.toInt + 22).toNat).toInt ≤ 59 := by exact hh1
          refine mcV (zrV (As := [.int x1, .int x2, .int y_80]) (b := a0) (rest := []) C hs hP hS (c_X12_toHand l D K hM f A_77 hT a0 ha0 hk0 x1 x2 y_80 hp0 hq_100 hq_101 hq_103) m_X12_toHand wm_X12_158 (zrecv hs hP ha0 (zF_11 hk0) rfl) ⟨by decide, by decide⟩ hl.1 (Nat.le_of_ble_eq_true rfl) dX12_doGive_72) hS (fun f_105 A_105 H locs p_105 hP hS => ?_)
          obtain ⟨hT, hA_105, hF_105, hC_105, pp_105⟩ := p_105
          have pp_105 : (A_105 40 (x1.toInt + 21).toNat).toInt = (A_77 40 (x1.toInt + 21).toNat).toInt - 1 ∧ (A_105 40 (x1.toInt + x2.toInt + 22).toNat).toInt = (A_77 40 (x1.toInt + x2.toInt + 22).toNat).toInt + 1 ∧ (∀ q : Int, 0 ≤ q → q ≤ 3 → q ≠ x2.toInt → A_105 40 (x1.toInt + q + 22).toNat = A_77 40 (x1.toInt + q + 22).toNat) ∧ (rK (A_77 40) x1.toInt → rK (A_105 40) x1.toInt) := pp_105
          have pp0_105 := pp_105
          have FA := frA FA hA_105 (by decide)
          have FF := frF FF hF_105 (by decide)
          have FC := fC.tr FC hC_105 (by decide)
          have rP2 := rowP.th rP1 tR1 hb0.1 (by omega) hh1.1 hC_105 pp0_105.1 pp0_105.2.1 pp0_105.2.2.1 pp0_105.2.2.2
          refine lv_aload_n hx hb dX12_doGive_75 rfl (lv_at hl 1 rfl) ?_
          refine mg_0 C hs hP ha0 hk0 wf_X12_8 dX12_doGive_76 ?_
          refine lv_iload_n hx hb dX12_doGive_79 rfl (lv_at hl 2 rfl) ?_
          refine lv_bipush (v := 9) hx hb dX12_doGive_80 (by decide) ?_
          refine lv_iadd hx hb dX12_doGive_82 ?_
          refine lv_topi (fun x_106 ex_106 => ?_)
          refine lv_aload_n hx hb dX12_doGive_83 rfl (lv_at hl 1 rfl) ?_
          refine lv_iload_n hx hb dX12_doGive_84 rfl (lv_at hl 2 rfl) ?_
          refine lv_iconst (v := 0) hx hb dX12_doGive_85 (by decide) ?_
          have hq_107 : 0 ≤ (0 : Int32).toInt ∧ (0 : Int32).toInt ≤ 4 := by ((try simp only [ti_0]); first | assumption | omega | (intros; omega))
          refine zcS (zrV (As := [.int x1, .int 0]) (b := a0) (rest := [.int x_106, .ref (zr K a0 0)]) C hs hP hS (c_X12_seatFrom l D K hM f_105 A_105 hT a0 ha0 hk0 x1 0 hp0 hq_107) m_X12_seatFrom wm_X12_162 (zrecv hs hP ha0 (zF_11 hk0) rfl) ⟨by decide, by decide⟩ hl.1 (Nat.le_of_ble_eq_true rfl) dX12_doGive_86) (fun x_108 p_108 => ?_)
          have pp_108 : (x_108.toInt = -1 ∨ (0 ≤ x_108.toInt ∧ x_108.toInt ≤ 3 ∧ 1 ≤ (A_105 40 (x1.toInt + x_108.toInt + 22).toNat).toInt ∧ nL (A_105 40) x1.toInt x_108.toInt (A_105 40 (x1.toInt + 26).toNat).toInt)) := p_108
          try simp only [ti_0] at pp_108
          have tRs := hT.row hp0
          have FCs := FC
          have hi_hr_109 : zEq x_106.toInt (x1.toInt + 9) := by
            obtain ⟨f_106, l_106, u_106⟩ := z_add ex_106 rfl ti_9
            try replace f_106 : x_106.toInt = x1.toInt + 9 := by omega
            clear l_106 u_106
            show x_106.toInt = (x1.toInt + 9)
            omega
          have hl_hr_109 : (9 : Int) ≤ 9 ∧ 9 ≤ (9 : Int) := by decide
          have hid_hr_109 : (x1.toInt + 9) = x1.toInt + (9) := by simp only [Int.add_assoc, Int.add_sub_assoc]
          have hr_109 := z_cell (lo := 9) (hi := 9) hp0 hi_hr_109 hid_hr_109 hl_hr_109 (by decide)
          replace hid_hr_109 : zEq (x1.toInt + 9) (x1.toInt + (9)) := hid_hr_109
          have hin_110 : vp_in x_106 (zn K (zr K a0 0)) := vp_in_iff.mpr (by rw [(hf_1.2.2 (by decide))]; exact hr_109.in)
          have g_112 := z_rng x_108
          refine mst_40 C hM hs hP hS hf_1.1 hT hf_1.2.1 hin_110 (tp_9 hr_109 (show -1 ≤ x_108.toInt ∧ x_108.toInt ≤ 3 from by omega)) dX12_doGive_89 (fun A_111 H locs hE_111 hT hP hS => ?_)
          have ep_113 : x_106.toNatClampNeg = (x1.toInt + 9).toNat := z_posE hi_hr_109
          rw [ep_113] at hE_111
          have FA := frA FA (frAu hE_111) (by decide)
          have FC := fC.tr FC (fC.st (b := x1.toInt) (lo := 9) (hi := 9) hE_111 hb0.1 (by decide) hid_hr_109 hl_hr_109) (by decide)
          have hRN := rowN.nx rP2 tRs hb0.1 hE_111 pp_108
          exact maV hQ hx hb hr hlk hP hS ⟨hT, FA, FF, FC, hRN⟩ dX12_doGive_90
        · skip
          obtain ⟨x_114, ex_114⟩ : ∃ y : Int32, y = y_80 + 1 := ⟨_, rfl⟩
          refine lv_iinc (v := x_114) (lv' := [(4, .int x_114), (0, .ref a0), (1, .int x1), (2, .int x2), (3, .int x3)]) hx hb dX12_doGive_61 hl (k := 0) rfl (by rw [ex_114]; rfl) (by decide) rfl (fun ls hl => ?_)
          refine lv_goto (tgt := 44) hx hb dX12_doGive_64 (by decide) ?_
          obtain ⟨f_114, l_114, u_114⟩ := z_add ex_114 rfl ti_1
          try replace f_114 : x_114.toInt = y_80.toInt + 1 := by omega
          clear l_114 u_114
          have g_115 := z_rng (A 40 (x1.toInt + y_80.toInt + 170).toNat)
          have g_116 := z_rng x3
          exact ih_81 x_114 _ (by omega) (by omega) ⟨k9, by rcases (by omega : y_80.toInt = k9 ∨ y_80.toInt < k9) with h9 | h9 <;> [(exfalso; rw [← h9] at k93; omega); omega], k92, k93⟩ (lv_sub hl [0, 1, 2, 3, 4] rfl)
    have g_117 := z_rng (A 40 (x1.toInt + x2.toInt + 22).toNat)
    exact L_44_81 _ 0 _ (Nat.lt_succ_self _) (by (try simp only [ti_0]); omega) (by obtain ⟨k9, k91, k92, k93⟩ := hex; exact ⟨k9, by rw [ti_0]; exact k91, k92, k93⟩) (lv_sub hl [0, 1, 2, 3, 4] rfl)
