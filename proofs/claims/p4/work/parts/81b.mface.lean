set_option maxHeartbeats 4000000 in
set_option maxRecDepth 100000 in
theorem c2_X12_kindOf (l : Launch) (D : va_G) (K : zK) (hM : mK K) (f : Nat → Int32) (A : Nat → Nat → Int32) (hT : mT f A) (a0 : Nat) (ha0 : a0 ∈ zl K) (hk0 : zk K a0 = 11) (x1 : Int32) : Met l yX12_kindOf (zc yX12_kindOf cX12_kindOf 2 (some .int)) (rmd 2) (va_Pc [.ref a0, .int x1] (zB D K (mV K f A))) (vp_Si (fun r => kR (A 43) x1 r)) 0 0 (fun _ => False) := by
  refine zin (by decide) (Nat.le_of_ble_eq_true rfl) ?_
  intro p e s m args below meth c ls Q hQ C hr hlk hP hs hl
  have C : CallFix p m c cX12_kindOf 2 s args zw RX12 := C
  obtain ⟨hx, hb, hml, hown, hts⟩ := id C
  have hO := hM.1
  have hS : va_S (zA K) s.heap s.heap [] := va_S.rf
  have hl : lv_has ls 2 [(0, .ref a0), (1, .int x1)] := hl
  refine lv_aload_n hx hb dX12_kindOf_0 rfl (lv_at hl 0 rfl) ?_
  refine lv_iload_n hx hb dX12_kindOf_1 rfl (lv_at hl 1 rfl) ?_
  refine zcS (zrV (As := [.int x1]) (b := a0) (rest := []) C hs hP hS (c2_X12_isGame l D K hM f A hT a0 ha0 hk0 x1) m_X12_isGame wm_X12_99 (zrecv hs hP ha0 (zF_11 hk0) rfl) ⟨by decide, by decide⟩ hl.1 (Nat.le_of_ble_eq_true rfl) dX12_kindOf_2) (fun x_1 p_1 => ?_)
  refine bz_eq (tgt := 17) hx hb rfl dX12_kindOf_5 (by decide) (fun c_3 => ?_) (fun c_3 => ?_)
  · refine lv_bipush (v := (-2)) hx hb dX12_kindOf_17 (by decide) ?_
    exact zaS hQ hx hb hr hlk (Or.inr ⟨p_1.2.2 c_3, rfl⟩) dX12_kindOf_19
  · have pp_1 := (p_1.2.1 c_3).2
    refine lv_aload_n hx hb dX12_kindOf_8 rfl (lv_at hl 0 rfl) ?_
    refine mg_3 C hs hP ha0 hk0 wf_X12_21 dX12_kindOf_9 ?_
    have hf_4 := hO.r (j := 3) ha0 hk0 (rfl : zX 11 3 = some (43, 6))
    refine lv_iload_n hx hb dX12_kindOf_12 rfl (lv_at hl 1 rfl) ?_
    have hin_5 : vp_in x1 (zn K (zr K a0 3)) := vp_in_iff.mpr (by rw [(hf_4.2.2 (by decide))]; refine ⟨?_, ?_⟩ <;> omega)
    refine mld_43 C hs hP hf_4.1 hf_4.2.1 hin_5 dX12_kindOf_13 ?_
    refine lv_goto (tgt := 19) hx hb dX12_kindOf_14 (by decide) ?_
    exact zaS hQ hx hb hr hlk (Or.inl ⟨(p_1.2.1 c_3).1, rfl⟩) dX12_kindOf_19
set_option maxHeartbeats 4000000 in
set_option maxRecDepth 100000 in
theorem c2_X12_table (l : Launch) (D : va_G) (K : zK) (hM : mK K) (f : Nat → Int32) (A : Nat → Nat → Int32) (hT : mT f A) (N : Int) (a0 : Nat) (ha0 : a0 ∈ zl K) (hk0 : zk K a0 = 11) (x1 : Int32) (x2 : Int32) (x3 : Int32) (hp0 : okk N f A) (hp1 : 0 ≤ N ∧ N ≤ 600) : Met l yX12_table (zc yX12_table cX12_table 6 (some .int)) (rmd 2) (va_Pc [.ref a0, .int x1, .int x2, .int x3] (zB D K (mV K f A))) (mQi D K (fun r f' A' => mT f' A' ∧ (∀ k, k ∉ ([40, 41, 42] : List Nat) → A' k = A k) ∧ (∀ k, k ∉ ([23] : List Nat) → f' k = f k) ∧ okk (N + 1) f' A' ∧ tRs (A 43) x1 x2 x3 r.toInt)) 0 0 (zA K) := by
  refine zin (by decide) (Nat.le_of_ble_eq_true rfl) ?_
  intro p e s m args below meth c ls Q hQ C hr hlk hP hs hl
  have C : CallFix p m c cX12_table 6 s args zw RX12 := C
  obtain ⟨hx, hb, hml, hown, hts⟩ := id C
  have hO := hM.1
  have hS : va_S (zA K) s.heap s.heap [] := va_S.rf
  have FA : ∀ k, k ∉ ([40, 41, 42] : List Nat) → A k = A k := fun _ _ => rfl
  have FF : ∀ k, k ∉ ([23] : List Nat) → f k = f k := fun _ _ => rfl
  have hl : lv_has ls 6 [(0, .ref a0), (1, .int x1), (2, .int x2), (3, .int x3)] := hl
  have aRc := hp0.1
  have hbud := hp0.2.2
  have hT0 := hT
  refine lv_iload_n hx hb dX12_table_0 rfl (lv_at hl 1 rfl) ?_
  refine lv_iconst (v := 0) hx hb dX12_table_1 (by decide) ?_
  refine lv_iconst (v := 3) hx hb dX12_table_2 (by decide) ?_
  have hTo := hT
  refine zcS (zrS (As := [.int x1, .int 0, .int 3]) (rest := []) C hs hP hS (c_X12_in l D K hM f A hT x1 0 3) m_X12_in wm_X12_91 ⟨by decide, by decide⟩ hl.1 (Nat.le_of_ble_eq_true rfl) dX12_table_3) (fun x_1 p_1 => ?_)
  have pp_1 : (x_1.toInt ≠ 0 → (0 : Int32).toInt ≤ x1.toInt ∧ x1.toInt ≤ (3 : Int32).toInt) ∧ (x_1.toInt = 0 → x1.toInt < (0 : Int32).toInt ∨ (3 : Int32).toInt < x1.toInt) := p_1.2
  try simp only [ti_0, ti_3] at pp_1
  have g_2 := z_rng x1
  refine bz_eq (tgt := 17) hx hb rfl dX12_table_6 (by decide) (fun c_3 => ?_) (fun c_3 => ?_)
  · skip
    replace pp_1 := pp_1.2 c_3
    refine lv_bipush (v := (-2)) hx hb dX12_table_17 (by decide) ?_
    exact maI hQ hx hb hr hlk hP hS ⟨hT, FA, FF, ⟨(aRc.mono (by omega)), hp0.2.1, by omega, by omega⟩, Or.inl ⟨Or.inl (fun h => by omega), ti_m2⟩⟩ dX12_table_19
  · skip
    replace pp_1 := pp_1.1 c_3
    refine lv_aload_n hx hb dX12_table_9 rfl (lv_at hl 0 rfl) ?_
    refine lv_iload_n hx hb dX12_table_10 rfl (lv_at hl 3 rfl) ?_
    have hTo := hT
    refine zcS (zrV (As := [.int x3]) (b := a0) (rest := []) C hs hP hS (c2_X12_isGame l D K hM f A hT a0 ha0 hk0 x3) m_X12_isGame wm_X12_99 (zrecv hs hP ha0 (zF_11 hk0) rfl) ⟨by decide, by decide⟩ hl.1 (Nat.le_of_ble_eq_true rfl) dX12_table_11) (fun x_4 p_4 => ?_)
    have pp_4 : (x_4.toInt ≠ 0 → 0 ≤ x3.toInt ∧ x3.toInt ≤ 5) := fun h => (p_4.2.1 h).2
    have g_5 := z_rng x3
    refine bz_ne (tgt := 20) hx hb rfl dX12_table_14 (by decide) (fun c_6 => ?_) (fun c_6 => ?_)
    · skip
      replace pp_4 := pp_4 c_6
      have nN : ¬ tNo (A 43) x1 x3 := fun h => h.elim (fun h => by omega) (fun h => h (p_4.2.1 c_6).1)
      refine lv_iload_n hx hb dX12_table_20 rfl (lv_at hl 2 rfl) ?_
      refine lv_iconst (v := 4) hx hb dX12_table_21 (by decide) ?_
      refine lv_bipush (v := 60) hx hb dX12_table_22 (by decide) ?_
      have hTo := hT
      refine zcS (zrS (As := [.int x2, .int 4, .int 60]) (rest := []) C hs hP hS (c_X12_in l D K hM f A hT x2 4 60) m_X12_in wm_X12_91 ⟨by decide, by decide⟩ hl.1 (Nat.le_of_ble_eq_true rfl) dX12_table_24) (fun x_7 p_7 => ?_)
      have pp_7 : (x_7.toInt ≠ 0 → (4 : Int32).toInt ≤ x2.toInt ∧ x2.toInt ≤ (60 : Int32).toInt) ∧ (x_7.toInt = 0 → x2.toInt < (4 : Int32).toInt ∨ (60 : Int32).toInt < x2.toInt) := p_7.2
      try simp only [ti_4, ti_60] at pp_7
      have g_8 := z_rng x2
      refine bz_eq (tgt := 36) hx hb rfl dX12_table_27 (by decide) (fun c_9 => ?_) (fun c_9 => ?_)
      · skip
        replace pp_7 := pp_7.2 c_9
        refine lv_bipush (v := (-3)) hx hb dX12_table_36 (by decide) ?_
        exact maI hQ hx hb hr hlk hP hS ⟨hT, FA, FF, ⟨(aRc.mono (by omega)), hp0.2.1, by omega, by omega⟩, Or.inr (Or.inl ⟨nN, Or.inl (fun h => by omega), ti_m3⟩)⟩ dX12_table_38
      · skip
        replace pp_7 := pp_7.1 c_9
        refine lv_iload_n hx hb dX12_table_30 rfl (lv_at hl 2 rfl) ?_
        refine lv_iconst (v := 4) hx hb dX12_table_31 (by decide) ?_
        refine lv_irem hx hb dX12_table_32 (by decide) ?_
        refine lv_topi (fun x_10 ex_10 => ?_)
        have f_a := (z_rem ex_10 rfl ti_4 (by decide)).2.2 (by omega)
        refine bz_eq (tgt := 39) hx hb rfl dX12_table_33 (by decide) (fun c_11 => ?_) (fun c_11 => ?_)
        · skip
          have nB : ¬ tBad x2 := fun h => h.elim (fun h => by omega) (fun h => by omega)
          clear f_a
          refine lv_aload_n hx hb dX12_table_39 rfl (lv_at hl 0 rfl) ?_
          refine mg_1 C hs hP ha0 hk0 wf_X12_14 dX12_table_40 ?_
          have hf_12 := hO.r (j := 1) ha0 hk0 (rfl : zX 11 1 = some (41, 4))
          refine lv_iload_n hx hb dX12_table_43 rfl (lv_at hl 1 rfl) ?_
          refine lv_iconst (v := 1) hx hb dX12_table_44 (by decide) ?_
          have hTo := hT
          have f_10 := z_rem ex_10 rfl ti_4 (by decide)
          have hin_13 : vp_in x1 (zn K (zr K a0 1)) := vp_in_iff.mpr (by rw [(hf_12.2.2 (by decide))]; refine ⟨?_, ?_⟩ <;> omega)
          have hw_14 : vp_nar .boolean 1 = 1 := by decide +kernel
          refine mst_41 C hM hs hP hS hf_12.1 hT hf_12.2.1 hin_13 (by rw [hw_14]; show 0 ≤ (1 : Int32).toInt ∧ (1 : Int32).toInt ≤ 1; rw [ti_1]; omega) dX12_table_45 (fun A_14 H locs hE_14 hT hP hS => ?_)
          rw [hw_14] at hE_14
          have FA := frA FA (frAu hE_14) (by decide)
          refine lv_aload_n hx hb dX12_table_46 rfl (lv_at hl 0 rfl) ?_
          refine mg_2 C hs hP ha0 hk0 wf_X12_18 dX12_table_47 ?_
          have hf_15 := hO.r (j := 2) ha0 hk0 (rfl : zX 11 2 = some (42, 4))
          refine lv_iload_n hx hb dX12_table_50 rfl (lv_at hl 1 rfl) ?_
          refine lv_iconst (v := 0) hx hb dX12_table_51 (by decide) ?_
          have hTo := hT
          have hin_16 : vp_in x1 (zn K (zr K a0 2)) := vp_in_iff.mpr (by rw [(hf_15.2.2 (by decide))]; refine ⟨?_, ?_⟩ <;> omega)
          refine mst_42 C hM hs hP hS hf_15.1 hT hf_15.2.1 hin_16 (show 0 ≤ (0 : Int32).toInt ∧ (0 : Int32).toInt ≤ 8 from by rw [ti_0]; omega) dX12_table_52 (fun A_17 H locs hE_17 hT hP hS => ?_)
          have FA := frA FA (frAu hE_17) (by decide)
          refine lv_aload_n hx hb dX12_table_53 rfl (lv_at hl 0 rfl) ?_
          refine lv_iconst (v := (-1)) hx hb dX12_table_54 (by decide) ?_
          refine mp_23 C hM hs hP hS ha0 hT hk0 wf_X12_56 trivial dX12_table_55 (fun f_18 H locs hE_18 hT hP hS => ?_)
          have FF := frF FF (frFu hE_18) (by decide)
          refine lv_sipush (v := 1290) hx hb dX12_table_58 (by decide) ?_
          refine lv_iload_n hx hb dX12_table_61 rfl (lv_at hl 1 rfl) ?_
          refine lv_imul hx hb dX12_table_62 ?_
          refine lv_topi (fun x_19 ex_19 => ?_)
          refine lv_istore (lv' := [(4, .int x_19), (0, .ref a0), (1, .int x1), (2, .int x2), (3, .int x3)]) hx hb dX12_table_63 hl (by decide) rfl (fun ls hl => ?_)
          refine lv_iconst (v := 0) hx hb dX12_table_65 (by decide) ?_
          refine lv_istore (lv' := [(5, .int 0), (4, .int x_19), (0, .ref a0), (1, .int x1), (2, .int x2), (3, .int x3)]) hx hb dX12_table_66 hl (by decide) rfl (fun ls hl => ?_)
          have L_68_21 : ∀ (n_21 : Nat) (A_22 : Nat → Nat → Int32) (H : Heap) (locs : List Loc) (y_20 : Int32) (ls : Array Slot), (2147483648 - y_20.toInt).toNat < n_21 → 0 ≤ y_20.toInt → fC (A 40) (A_22 40) (1290 * x1.toInt) ([(0, 1289)] : List (Int × Int)) → zro (A_22 40) (1290 * x1.toInt) 0 (y_20.toInt - 1) → (∀ k, k ∉ ([40, 41, 42] : List Nat) → A_22 k = A k) → mT f_18 A_22 → va_P D vwCl (zW K (mV K f_18 A_22)) H → va_S (zA K) s.heap H locs → lv_has ls 6 [(5, .int y_20), (4, .int x_19), (0, .ref a0), (1, .int x1), (2, .int x2), (3, .int x3)] → W p l e (rmd 2) s m args below meth c H locs 0 0 Q (F0 m 68 ls []) := by
            intro n_21
            induction n_21 with
            | zero => intro A_22 H locs y_20 ls hm_21; exact absurd hm_21 (Nat.not_lt_zero _)
            | succ n_21 ih_21 =>
              intro A_22 H locs y_20 ls hm_21 iv_22_0 iv_22_1 iv_22_2 FA_22 hT hP hS hl
              have FA := FA_22
              refine lv_iload hx hb dX12_table_68 (lv_at hl 0 rfl) ?_
              refine lv_sipush (v := 1290) hx hb dX12_table_70 (by decide) ?_
              refine bi_ge (tgt := 93) hx hb rfl ti_1290 dX12_table_73 (by decide) (fun c_24 => ?_) (fun c_24 => ?_)
              · skip
                refine lv_aload_n hx hb dX12_table_93 rfl (lv_at hl 2 rfl) ?_
                refine mg_0 C hs hP ha0 hk0 wf_X12_8 dX12_table_94 ?_
                have hf_25 := hO.r (j := 0) ha0 hk0 (rfl : zX 11 0 = some (40, 47730))
                refine lv_iload hx hb dX12_table_97 (lv_at hl 1 rfl) ?_
                refine lv_iconst (v := 1) hx hb dX12_table_99 (by decide) ?_
                refine lv_iadd hx hb dX12_table_100 ?_
                refine lv_topi (fun x_26 ex_26 => ?_)
                refine lv_iload_n hx hb dX12_table_101 rfl (lv_at hl 4 rfl) ?_
                have hTo := hT
                obtain ⟨f_19, l_19, u_19⟩ := z_mul ex_19 ti_1290 rfl
                try replace f_19 : x_19.toInt = 1290 * x1.toInt := by omega
                clear l_19 u_19
                have hbs_28 : zRow x_19.toInt := zRow.of (t := x1.toInt) (by omega) (by omega)
                have hbl_hbs_28 := hbs_28.lin
                have hi_hr_27 : zEq x_26.toInt (x_19.toInt + 1) := by
                  obtain ⟨f_26, l_26, u_26⟩ := z_add ex_26 rfl ti_1
                  try replace f_26 : x_26.toInt = x_19.toInt + 1 := by omega
                  clear l_26 u_26
                  show x_26.toInt = (x_19.toInt + 1)
                  omega
                have hl_hr_27 : (1 : Int) ≤ 1 ∧ 1 ≤ (1 : Int) := by decide
                have hid_hr_27 : (x_19.toInt + 1) = x_19.toInt + (1) := by simp only [Int.add_assoc, Int.add_sub_assoc]
                have hr_27 := z_cell (lo := 1) (hi := 1) hbs_28 hi_hr_27 hid_hr_27 hl_hr_27 (by decide)
                replace hid_hr_27 : zEq (x_19.toInt + 1) (x_19.toInt + (1)) := hid_hr_27
                have hin_29 : vp_in x_26 (zn K (zr K a0 0)) := vp_in_iff.mpr (by rw [(hf_25.2.2 (by decide))]; exact hr_27.in)
                refine mst_40 C hM hs hP hS hf_25.1 hT hf_25.2.1 hin_29 (tp_1 hr_27 (show 0 ≤ x2.toInt ∧ x2.toInt ≤ 60 from by omega)) dX12_table_102 (fun A_30 H locs hE_30 hT hP hS => ?_)
                have ep_31 : x_26.toNatClampNeg = (x_19.toInt + 1).toNat := z_posE hi_hr_27
                rw [ep_31] at hE_30
                clear ep_31
                have FA := frA FA (frAu hE_30) (by decide)
                refine lv_aload_n hx hb dX12_table_103 rfl (lv_at hl 2 rfl) ?_
                refine mg_0 C hs hP ha0 hk0 wf_X12_8 dX12_table_104 ?_
                refine lv_iload hx hb dX12_table_107 (lv_at hl 1 rfl) ?_
                refine lv_iconst (v := 2) hx hb dX12_table_109 (by decide) ?_
                refine lv_iadd hx hb dX12_table_110 ?_
                refine lv_topi (fun x_32 ex_32 => ?_)
                refine lv_aload_n hx hb dX12_table_111 rfl (lv_at hl 2 rfl) ?_
                refine mg_3 C hs hP ha0 hk0 wf_X12_21 dX12_table_112 ?_
                have hf_33 := hO.r (j := 3) ha0 hk0 (rfl : zX 11 3 = some (43, 6))
                refine lv_iload_n hx hb dX12_table_115 rfl (lv_at hl 5 rfl) ?_
                have hin_34 : vp_in x3 (zn K (zr K a0 3)) := vp_in_iff.mpr (by rw [(hf_33.2.2 (by decide))]; refine ⟨?_, ?_⟩ <;> omega)
                refine mld_43 C hs hP hf_33.1 hf_33.2.1 hin_34 dX12_table_116 ?_
                have ev_35 : A_30 43 x3.toNatClampNeg = A 43 x3.toNatClampNeg := by rw [hE_30, va_up_ne _ _ (show 43 ≠ 40 by decide), FA_22 43 (by decide)]
                rw [ev_35]
                have hTo := hT
                have hi_hr_36 : zEq x_32.toInt (x_19.toInt + 2) := by
                  obtain ⟨f_32, l_32, u_32⟩ := z_add ex_32 rfl ti_2
                  try replace f_32 : x_32.toInt = x_19.toInt + 2 := by omega
                  clear l_32 u_32
                  show x_32.toInt = (x_19.toInt + 2)
                  omega
                have hl_hr_36 : (2 : Int) ≤ 2 ∧ 2 ≤ (2 : Int) := by decide
                have hid_hr_36 : (x_19.toInt + 2) = x_19.toInt + (2) := by simp only [Int.add_assoc, Int.add_sub_assoc]
                have hr_36 := z_cell (lo := 2) (hi := 8) hbs_28 hi_hr_36 hid_hr_36 hl_hr_36 (by decide)
                replace hid_hr_36 : zEq (x_19.toInt + 2) (x_19.toInt + (2)) := hid_hr_36
                have hin_37 : vp_in x_32 (zn K (zr K a0 0)) := vp_in_iff.mpr (by rw [(hf_25.2.2 (by decide))]; exact hr_36.in)
                refine mst_40 C hM hs hP hS hf_25.1 hT hf_25.2.1 hin_37 (tp_2 hr_36) dX12_table_117 (fun A_38 H locs hE_38 hT hP hS => ?_)
                have ep_39 : x_32.toNatClampNeg = (x_19.toInt + 2).toNat := z_posE hi_hr_36
                rw [ep_39] at hE_38
                clear ep_39
                have FA := frA FA (frAu hE_38) (by decide)
                refine lv_aload_n hx hb dX12_table_118 rfl (lv_at hl 2 rfl) ?_
                refine mg_0 C hs hP ha0 hk0 wf_X12_8 dX12_table_119 ?_
                refine lv_iload hx hb dX12_table_122 (lv_at hl 1 rfl) ?_
                refine lv_iconst (v := 3) hx hb dX12_table_124 (by decide) ?_
                refine lv_iadd hx hb dX12_table_125 ?_
                refine lv_topi (fun x_40 ex_40 => ?_)
                refine lv_aload_n hx hb dX12_table_126 rfl (lv_at hl 2 rfl) ?_
                refine mg_4 C hs hP ha0 hk0 wf_X12_24 dX12_table_127 ?_
                have hf_41 := hO.r (j := 4) ha0 hk0 (rfl : zX 11 4 = some (44, 6))
                refine lv_iload_n hx hb dX12_table_130 rfl (lv_at hl 5 rfl) ?_
                have hin_42 : vp_in x3 (zn K (zr K a0 4)) := vp_in_iff.mpr (by rw [(hf_41.2.2 (by decide))]; refine ⟨?_, ?_⟩ <;> omega)
                refine mld_44 C hs hP hf_41.1 hf_41.2.1 hin_42 dX12_table_131 ?_
                have ev_43 : A_38 44 x3.toNatClampNeg = A 44 x3.toNatClampNeg := by rw [hE_38, va_up_ne _ _ (show 44 ≠ 40 by decide), hE_30, va_up_ne _ _ (show 44 ≠ 40 by decide), FA_22 44 (by decide)]
                rw [ev_43]
                have hTo := hT
                have hi_hr_44 : zEq x_40.toInt (x_19.toInt + 3) := by
                  obtain ⟨f_40, l_40, u_40⟩ := z_add ex_40 rfl ti_3
                  try replace f_40 : x_40.toInt = x_19.toInt + 3 := by omega
                  clear l_40 u_40
                  show x_40.toInt = (x_19.toInt + 3)
                  omega
                have hl_hr_44 : (3 : Int) ≤ 3 ∧ 3 ≤ (3 : Int) := by decide
                have hid_hr_44 : (x_19.toInt + 3) = x_19.toInt + (3) := by simp only [Int.add_assoc, Int.add_sub_assoc]
                have hr_44 := z_cell (lo := 2) (hi := 8) hbs_28 hi_hr_44 hid_hr_44 hl_hr_44 (by decide)
                replace hid_hr_44 : zEq (x_19.toInt + 3) (x_19.toInt + (3)) := hid_hr_44
                have hin_45 : vp_in x_40 (zn K (zr K a0 0)) := vp_in_iff.mpr (by rw [(hf_25.2.2 (by decide))]; exact hr_44.in)
                refine mst_40 C hM hs hP hS hf_25.1 hT hf_25.2.1 hin_45 (tp_2 hr_44) dX12_table_132 (fun A_46 H locs hE_46 hT hP hS => ?_)
                have ep_47 : x_40.toNatClampNeg = (x_19.toInt + 3).toNat := z_posE hi_hr_44
                rw [ep_47] at hE_46
                clear ep_47
                have FA := frA FA (frAu hE_46) (by decide)
                refine lv_aload_n hx hb dX12_table_133 rfl (lv_at hl 2 rfl) ?_
                refine mg_0 C hs hP ha0 hk0 wf_X12_8 dX12_table_134 ?_
                refine lv_iload hx hb dX12_table_137 (lv_at hl 1 rfl) ?_
                refine lv_iconst (v := 4) hx hb dX12_table_139 (by decide) ?_
                refine lv_iadd hx hb dX12_table_140 ?_
                refine lv_topi (fun x_48 ex_48 => ?_)
                refine lv_aload_n hx hb dX12_table_141 rfl (lv_at hl 2 rfl) ?_
                refine mg_5 C hs hP ha0 hk0 wf_X12_27 dX12_table_142 ?_
                have hf_49 := hO.r (j := 5) ha0 hk0 (rfl : zX 11 5 = some (45, 6))
                refine lv_iload_n hx hb dX12_table_145 rfl (lv_at hl 5 rfl) ?_
                have hin_50 : vp_in x3 (zn K (zr K a0 5)) := vp_in_iff.mpr (by rw [(hf_49.2.2 (by decide))]; refine ⟨?_, ?_⟩ <;> omega)
                refine mld_45 C hs hP hf_49.1 hf_49.2.1 hin_50 dX12_table_146 ?_
                have ev_51 : A_46 45 x3.toNatClampNeg = A 45 x3.toNatClampNeg := by rw [hE_46, va_up_ne _ _ (show 45 ≠ 40 by decide), hE_38, va_up_ne _ _ (show 45 ≠ 40 by decide), hE_30, va_up_ne _ _ (show 45 ≠ 40 by decide), FA_22 45 (by decide)]
                rw [ev_51]
                have hTo := hT
                have hi_hr_52 : zEq x_48.toInt (x_19.toInt + 4) := by
                  obtain ⟨f_48, l_48, u_48⟩ := z_add ex_48 rfl ti_4
                  try replace f_48 : x_48.toInt = x_19.toInt + 4 := by omega
                  clear l_48 u_48
                  show x_48.toInt = (x_19.toInt + 4)
                  omega
                have hl_hr_52 : (4 : Int) ≤ 4 ∧ 4 ≤ (4 : Int) := by decide
                have hid_hr_52 : (x_19.toInt + 4) = x_19.toInt + (4) := by simp only [Int.add_assoc, Int.add_sub_assoc]
                have hr_52 := z_cell (lo := 2) (hi := 8) hbs_28 hi_hr_52 hid_hr_52 hl_hr_52 (by decide)
                replace hid_hr_52 : zEq (x_19.toInt + 4) (x_19.toInt + (4)) := hid_hr_52
                have hin_53 : vp_in x_48 (zn K (zr K a0 0)) := vp_in_iff.mpr (by rw [(hf_25.2.2 (by decide))]; exact hr_52.in)
                refine mst_40 C hM hs hP hS hf_25.1 hT hf_25.2.1 hin_53 (tp_2 hr_52) dX12_table_147 (fun A_54 H locs hE_54 hT hP hS => ?_)
                have ep_55 : x_48.toNatClampNeg = (x_19.toInt + 4).toNat := z_posE hi_hr_52
                rw [ep_55] at hE_54
                clear ep_55
                have FA := frA FA (frAu hE_54) (by decide)
                refine lv_aload_n hx hb dX12_table_148 rfl (lv_at hl 2 rfl) ?_
                refine mg_0 C hs hP ha0 hk0 wf_X12_8 dX12_table_149 ?_
                refine lv_iload hx hb dX12_table_152 (lv_at hl 1 rfl) ?_
                refine lv_bipush (v := 7) hx hb dX12_table_154 (by decide) ?_
                refine lv_iadd hx hb dX12_table_156 ?_
                refine lv_topi (fun x_56 ex_56 => ?_)
                refine lv_sipush (v := 200) hx hb dX12_table_157 (by decide) ?_
                have hTo := hT
                have hi_hr_57 : zEq x_56.toInt (x_19.toInt + 7) := by
                  obtain ⟨f_56, l_56, u_56⟩ := z_add ex_56 rfl ti_7
                  try replace f_56 : x_56.toInt = x_19.toInt + 7 := by omega
                  clear l_56 u_56
                  show x_56.toInt = (x_19.toInt + 7)
                  omega
                have hl_hr_57 : (7 : Int) ≤ 7 ∧ 7 ≤ (7 : Int) := by decide
                have hid_hr_57 : (x_19.toInt + 7) = x_19.toInt + (7) := by simp only [Int.add_assoc, Int.add_sub_assoc]
                have hr_57 := z_cell (lo := 2) (hi := 8) hbs_28 hi_hr_57 hid_hr_57 hl_hr_57 (by decide)
                replace hid_hr_57 : zEq (x_19.toInt + 7) (x_19.toInt + (7)) := hid_hr_57
                have hin_58 : vp_in x_56 (zn K (zr K a0 0)) := vp_in_iff.mpr (by rw [(hf_25.2.2 (by decide))]; exact hr_57.in)
                refine mst_40 C hM hs hP hS hf_25.1 hT hf_25.2.1 hin_58 (tp_2 hr_57) dX12_table_160 (fun A_59 H locs hE_59 hT hP hS => ?_)
                have ep_60 : x_56.toNatClampNeg = (x_19.toInt + 7).toNat := z_posE hi_hr_57
                rw [ep_60] at hE_59
                clear ep_60
                have FA := frA FA (frAu hE_59) (by decide)
                refine lv_aload_n hx hb dX12_table_161 rfl (lv_at hl 2 rfl) ?_
                refine mg_0 C hs hP ha0 hk0 wf_X12_8 dX12_table_162 ?_
                refine lv_iload hx hb dX12_table_165 (lv_at hl 1 rfl) ?_
                refine lv_bipush (v := 9) hx hb dX12_table_167 (by decide) ?_
                refine lv_iadd hx hb dX12_table_169 ?_
                refine lv_topi (fun x_61 ex_61 => ?_)
                refine lv_iconst (v := (-1)) hx hb dX12_table_170 (by decide) ?_
                have hTo := hT
                have hi_hr_62 : zEq x_61.toInt (x_19.toInt + 9) := by
                  obtain ⟨f_61, l_61, u_61⟩ := z_add ex_61 rfl ti_9
                  try replace f_61 : x_61.toInt = x_19.toInt + 9 := by omega
                  clear l_61 u_61
                  show x_61.toInt = (x_19.toInt + 9)
                  omega
                have hl_hr_62 : (9 : Int) ≤ 9 ∧ 9 ≤ (9 : Int) := by decide
                have hid_hr_62 : (x_19.toInt + 9) = x_19.toInt + (9) := by simp only [Int.add_assoc, Int.add_sub_assoc]
                have hr_62 := z_cell (lo := 9) (hi := 9) hbs_28 hi_hr_62 hid_hr_62 hl_hr_62 (by decide)
                replace hid_hr_62 : zEq (x_19.toInt + 9) (x_19.toInt + (9)) := hid_hr_62
                have hin_63 : vp_in x_61 (zn K (zr K a0 0)) := vp_in_iff.mpr (by rw [(hf_25.2.2 (by decide))]; exact hr_62.in)
                refine mst_40 C hM hs hP hS hf_25.1 hT hf_25.2.1 hin_63 (tp_9 hr_62 (show -1 ≤ ((-1) : Int32).toInt ∧ ((-1) : Int32).toInt ≤ 3 from by rw [ti_m1]; omega)) dX12_table_171 (fun A_64 H locs hE_64 hT hP hS => ?_)
                have ep_65 : x_61.toNatClampNeg = (x_19.toInt + 9).toNat := z_posE hi_hr_62
                rw [ep_65] at hE_64
                clear ep_65
                have FA := frA FA (frAu hE_64) (by decide)
                refine lv_aload_n hx hb dX12_table_172 rfl (lv_at hl 2 rfl) ?_
                refine mg_0 C hs hP ha0 hk0 wf_X12_8 dX12_table_173 ?_
                refine lv_iload hx hb dX12_table_176 (lv_at hl 1 rfl) ?_
                refine lv_bipush (v := 19) hx hb dX12_table_178 (by decide) ?_
                refine lv_iadd hx hb dX12_table_180 ?_
                refine lv_topi (fun x_66 ex_66 => ?_)
                refine lv_iconst (v := (-1)) hx hb dX12_table_181 (by decide) ?_
                have hTo := hT
                have hi_hr_67 : zEq x_66.toInt (x_19.toInt + 19) := by
                  obtain ⟨f_66, l_66, u_66⟩ := z_add ex_66 rfl ti_19
                  try replace f_66 : x_66.toInt = x_19.toInt + 19 := by omega
                  clear l_66 u_66
                  show x_66.toInt = (x_19.toInt + 19)
                  omega
                have hl_hr_67 : (19 : Int) ≤ 19 ∧ 19 ≤ (19 : Int) := by decide
                have hid_hr_67 : (x_19.toInt + 19) = x_19.toInt + (19) := by simp only [Int.add_assoc, Int.add_sub_assoc]
                have hr_67 := z_cell (lo := 10) (hi := 19) hbs_28 hi_hr_67 hid_hr_67 hl_hr_67 (by decide)
                replace hid_hr_67 : zEq (x_19.toInt + 19) (x_19.toInt + (19)) := hid_hr_67
                have hin_68 : vp_in x_66 (zn K (zr K a0 0)) := vp_in_iff.mpr (by rw [(hf_25.2.2 (by decide))]; exact hr_67.in)
                refine mst_40 C hM hs hP hS hf_25.1 hT hf_25.2.1 hin_68 (tp_10 hr_67) dX12_table_182 (fun A_69 H locs hE_69 hT hP hS => ?_)
                have ep_70 : x_66.toNatClampNeg = (x_19.toInt + 19).toNat := z_posE hi_hr_67
                rw [ep_70] at hE_69
                clear ep_70
                have FA := frA FA (frAu hE_69) (by decide)
                refine lv_iconst (v := 0) hx hb dX12_table_183 (by decide) ?_
                refine lv_istore (lv' := [(5, .int 0), (4, .int x_19), (0, .ref a0), (1, .int x1), (2, .int x2), (3, .int x3)]) hx hb dX12_table_184 hl (by decide) rfl (fun ls hl => ?_)
                have L_186_72 : ∀ (n_72 : Nat) (A_73 : Nat → Nat → Int32) (H : Heap) (locs : List Loc) (y_71 : Int32) (ls : Array Slot), (2147483648 - y_71.toInt).toNat < n_72 → 0 ≤ y_71.toInt → fC (A 40) (A_73 40) (1290 * x1.toInt) ([(0, 1289)] : List (Int × Int)) → zro (A_73 40) (1290 * x1.toInt) 5 5 → zro (A_73 40) (1290 * x1.toInt) 890 1289 → (∀ k, k ∉ ([40, 41, 42] : List Nat) → A_73 k = A k) → mT f_18 A_73 → va_P D vwCl (zW K (mV K f_18 A_73)) H → va_S (zA K) s.heap H locs → lv_has ls 6 [(5, .int y_71), (4, .int x_19), (0, .ref a0), (1, .int x1), (2, .int x2), (3, .int x3)] → W p l e (rmd 2) s m args below meth c H locs 0 0 Q (F0 m 186 ls []) := by
                  intro n_72
                  induction n_72 with
                  | zero => intro A_73 H locs y_71 ls hm_72; exact absurd hm_72 (Nat.not_lt_zero _)
                  | succ n_72 ih_72 =>
                    intro A_73 H locs y_71 ls hm_72 iv_73_0 iv_73_1 iv_73_2 iv_73_3 FA_73 hT hP hS hl
                    have FA := FA_73
                    refine lv_iload hx hb dX12_table_186 (lv_at hl 0 rfl) ?_
                    refine lv_iconst (v := 4) hx hb dX12_table_188 (by decide) ?_
                    refine bi_ge (tgt := 212) hx hb rfl ti_4 dX12_table_189 (by decide) (fun c_75 => ?_) (fun c_75 => ?_)
                    · skip
                      refine lv_aload_n hx hb dX12_table_212 rfl (lv_at hl 2 rfl) ?_
                      refine lv_iload hx hb dX12_table_213 (lv_at hl 1 rfl) ?_
                      have hTo := hT
                      refine mcV (zrV (As := [.int x_19]) (b := a0) (rest := []) C hs hP hS (c_X12_begin l D K hM f_18 A_73 hT a0 ha0 hk0 x_19 hbs_28) m_X12_begin wm_X12_103 (zrecv hs hP ha0 (zF_11 hk0) rfl) ⟨by decide, by decide⟩ hl.1 (Nat.le_of_ble_eq_true rfl) dX12_table_215) hS (fun f_76 A_76 H locs p_76 hP hS => ?_)
                      obtain ⟨hT, hA_76, hF_76, hC_76, pp_76⟩ := p_76
                      have pp_76 : bgn (A_76 40) x_19.toInt := pp_76
                      have pp0_76 := zHid.mk pp_76
                      have hff_76 : f_18 = f_76 := funext (fun k9 => (hF_76 k9 List.not_mem_nil).symm)
                      subst hff_76
                      have FA := frA FA hA_76 (by decide)
                      have FF := frF FF hF_76 (by decide)
                      have hbo_77 : x_19.toInt = 1290 * x1.toInt := by omega
                      have hcb : fC (A_73 40) (A_76 40) (1290 * x1.toInt) ([(10, 18), (19, 21), (22, 25), (26, 26), (43, 44), (110, 169), (170, 229), (470, 529)] : List (Int × Int)) := fC.mv hC_76 (by omega)
                      have hbg : bgn (A_76 40) (1290 * x1.toInt) := by rw [← hbo_77]; exact pp0_76
                      have tRn := hT.r (r := x1.toInt) (by omega)
                      have z5n : zro (A_76 40) (1290 * x1.toInt) 5 5 := fun j h1 h2 => by rw [hcb.ar (by omega) (lo := 5) (hi := 5) (by decide) _ (by decide) (by omega) (by omega)]; exact iv_73_2 j h1 h2
                      have z8n : zro (A_76 40) (1290 * x1.toInt) 890 1289 := fun j h1 h2 => by rw [hcb.ar (by omega) (lo := 890) (hi := 1289) (by decide) _ (by decide) (by omega) (by omega)]; exact iv_73_3 j h1 h2
                      have aRc : aR (A_76 40) (N + 1) := aR.set (t := x1.toInt) hp0.1 hT0 (by omega) (fC.tr iv_73_1 hcb (by decide)) (by decide) (by omega) ⟨rowN.d2 (hbg.row tRn.p1.2) (by rw [z5n 5 (by decide) (by decide)]; decide), tO.z z8n, by have h9 := hbg.1.2.2.2; omega⟩
                      refine lv_iconst (v := 1) hx hb dX12_table_218 (by decide) ?_
                      have ev_78 : f_18 11 = f 11 := by rw [hE_18, pk_un (show 11 ≠ 23 by decide)]
                      have ev_79 : f_18 9 = f 9 := by rw [hE_18, pk_un (show 9 ≠ 23 by decide)]
                      have ev_80 : f_18 23 = ((-1) : Int32) := by rw [hE_18, pk_us]
                      have ev_80_i : (f_18 23).toInt = -1 := by rw [ev_80, ti_m1]
                      exact maI hQ hx hb hr hlk hP hS ⟨hT, FA, FF, ⟨(aRc.mono (by omega)), (cOk.m1 (by rw [ev_80]; exact ti_m1)), by rw [ev_78] <;> omega, by rw [ev_79] <;> omega⟩, Or.inr (Or.inr ⟨nN, nB, ti_1⟩)⟩ dX12_table_219
                    · skip
                      refine lv_aload_n hx hb dX12_table_192 rfl (lv_at hl 2 rfl) ?_
                      refine mg_0 C hs hP ha0 hk0 wf_X12_8 dX12_table_193 ?_
                      refine lv_iload hx hb dX12_table_196 (lv_at hl 1 rfl) ?_
                      refine lv_bipush (v := 35) hx hb dX12_table_198 (by decide) ?_
                      refine lv_iadd hx hb dX12_table_200 ?_
                      refine lv_topi (fun x_81 ex_81 => ?_)
                      refine lv_iload hx hb dX12_table_201 (lv_at hl 0 rfl) ?_
                      refine lv_iadd hx hb dX12_table_203 ?_
                      refine lv_topi (fun x_82 ex_82 => ?_)
                      refine lv_iconst (v := 1) hx hb dX12_table_204 (by decide) ?_
                      have hTo := hT
                      have hi_hr_83 : zEq x_82.toInt (x_19.toInt + y_71.toInt + 35) := by
                        obtain ⟨f_81, l_81, u_81⟩ := z_add ex_81 rfl ti_35
                        try replace f_81 : x_81.toInt = x_19.toInt + 35 := by omega
                        clear l_81 u_81
                        have g_84 := z_rng y_71
                        obtain ⟨f_82, l_82, u_82⟩ := z_add ex_82 rfl rfl
                        try replace f_82 : x_82.toInt = x_81.toInt + y_71.toInt := by omega
                        clear l_82 u_82
                        show x_82.toInt = (x_19.toInt + y_71.toInt + 35)
                        omega
                      have hl_hr_83 : 35 ≤ y_71.toInt + 35 ∧ y_71.toInt + 35 ≤ 38 := by
                        have g_85 := z_rng y_71
                        omega
                      have hid_hr_83 : (x_19.toInt + y_71.toInt + 35) = x_19.toInt + (y_71.toInt + 35) := by simp only [Int.add_assoc, Int.add_sub_assoc]
                      have hr_83 := z_cell (lo := 35) (hi := 38) hbs_28 hi_hr_83 hid_hr_83 hl_hr_83 (by decide)
                      replace hid_hr_83 : zEq (x_19.toInt + y_71.toInt + 35) (x_19.toInt + (y_71.toInt + 35)) := hid_hr_83
                      have hin_86 : vp_in x_82 (zn K (zr K a0 0)) := vp_in_iff.mpr (by rw [(hf_25.2.2 (by decide))]; exact hr_83.in)
                      refine mst_40 C hM hs hP hS hf_25.1 hT hf_25.2.1 hin_86 (tp_35 hr_83 (show 0 ≤ (1 : Int32).toInt ∧ (1 : Int32).toInt ≤ 1 from by rw [ti_1]; omega)) dX12_table_205 (fun A_87 H locs hE_87 hT hP hS => ?_)
                      have ep_88 : x_82.toNatClampNeg = (x_19.toInt + y_71.toInt + 35).toNat := z_posE hi_hr_83
                      rw [ep_88] at hE_87
                      clear ep_88
                      have FA := frA FA (frAu hE_87) (by decide)
                      obtain ⟨x_89, ex_89⟩ : ∃ y : Int32, y = y_71 + 1 := ⟨_, rfl⟩
                      refine lv_iinc (v := x_89) (lv' := [(5, .int x_89), (4, .int x_19), (0, .ref a0), (1, .int x1), (2, .int x2), (3, .int x3)]) hx hb dX12_table_206 hl (k := 0) rfl (by rw [ex_89]; rfl) (by decide) rfl (fun ls hl => ?_)
                      refine lv_goto (tgt := 186) hx hb dX12_table_209 (by decide) ?_
                      have g_90 := z_rng y_71
                      obtain ⟨f_89, l_89, u_89⟩ := z_add ex_89 rfl ti_1
                      try replace f_89 : x_89.toInt = y_71.toInt + 1 := by omega
                      clear l_89 u_89
                      have fz_91 : fC (A 40) (A_87 40) (1290 * x1.toInt) ([(0, 1289)] : List (Int × Int)) := fC.tr iv_73_1 (fC.s2 (lo := 0) (hi := 1289) hE_87 (by omega) (by decide) (by omega)) (by decide)
                      have zr_92 : zro (A_87 40) (1290 * x1.toInt) 5 5 := zro.st iv_73_2 hE_87 (by omega) (by omega)
                      have zr_93 : zro (A_87 40) (1290 * x1.toInt) 890 1289 := zro.st iv_73_3 hE_87 (by omega) (by omega)
                      exact ih_72 A_87 _ _ x_89 _ (by omega) (by omega) fz_91 zr_92 zr_93 FA hT hP hS (lv_sub hl [0, 1, 2, 3, 4, 5] rfl)
                have g_94 := z_rng y_20
                have zz_95 : zro (A_22 40) (1290 * x1.toInt) 5 5 := fun j h1 h2 => iv_22_2 j (by omega) (by omega)
                have zw_95 : zro (A_22 40) (1290 * x1.toInt) 890 1289 := fun j h1 h2 => iv_22_2 j (by omega) (by omega)
                have fz_96 : fC (A 40) (A_30 40) (1290 * x1.toInt) ([(0, 1289)] : List (Int × Int)) := fC.tr iv_22_1 (fC.s2 (lo := 0) (hi := 1289) hE_30 (by omega) (by decide) (by omega)) (by decide)
                have fz_97 : fC (A 40) (A_38 40) (1290 * x1.toInt) ([(0, 1289)] : List (Int × Int)) := fC.tr fz_96 (fC.s2 (lo := 0) (hi := 1289) hE_38 (by omega) (by decide) (by omega)) (by decide)
                have fz_98 : fC (A 40) (A_46 40) (1290 * x1.toInt) ([(0, 1289)] : List (Int × Int)) := fC.tr fz_97 (fC.s2 (lo := 0) (hi := 1289) hE_46 (by omega) (by decide) (by omega)) (by decide)
                have fz_99 : fC (A 40) (A_54 40) (1290 * x1.toInt) ([(0, 1289)] : List (Int × Int)) := fC.tr fz_98 (fC.s2 (lo := 0) (hi := 1289) hE_54 (by omega) (by decide) (by omega)) (by decide)
                have fz_100 : fC (A 40) (A_59 40) (1290 * x1.toInt) ([(0, 1289)] : List (Int × Int)) := fC.tr fz_99 (fC.s2 (lo := 0) (hi := 1289) hE_59 (by omega) (by decide) (by omega)) (by decide)
                have fz_101 : fC (A 40) (A_64 40) (1290 * x1.toInt) ([(0, 1289)] : List (Int × Int)) := fC.tr fz_100 (fC.s2 (lo := 0) (hi := 1289) hE_64 (by omega) (by decide) (by omega)) (by decide)
                have fz_102 : fC (A 40) (A_69 40) (1290 * x1.toInt) ([(0, 1289)] : List (Int × Int)) := fC.tr fz_101 (fC.s2 (lo := 0) (hi := 1289) hE_69 (by omega) (by decide) (by omega)) (by decide)
                have zr_103 : zro (A_30 40) (1290 * x1.toInt) 5 5 := zro.st zz_95 hE_30 (by omega) (by omega)
                have zr_104 : zro (A_38 40) (1290 * x1.toInt) 5 5 := zro.st zr_103 hE_38 (by omega) (by omega)
                have zr_105 : zro (A_46 40) (1290 * x1.toInt) 5 5 := zro.st zr_104 hE_46 (by omega) (by omega)
                have zr_106 : zro (A_54 40) (1290 * x1.toInt) 5 5 := zro.st zr_105 hE_54 (by omega) (by omega)
                have zr_107 : zro (A_59 40) (1290 * x1.toInt) 5 5 := zro.st zr_106 hE_59 (by omega) (by omega)
                have zr_108 : zro (A_64 40) (1290 * x1.toInt) 5 5 := zro.st zr_107 hE_64 (by omega) (by omega)
                have zr_109 : zro (A_69 40) (1290 * x1.toInt) 5 5 := zro.st zr_108 hE_69 (by omega) (by omega)
                have zr_110 : zro (A_30 40) (1290 * x1.toInt) 890 1289 := zro.st zw_95 hE_30 (by omega) (by omega)
                have zr_111 : zro (A_38 40) (1290 * x1.toInt) 890 1289 := zro.st zr_110 hE_38 (by omega) (by omega)
                have zr_112 : zro (A_46 40) (1290 * x1.toInt) 890 1289 := zro.st zr_111 hE_46 (by omega) (by omega)
                have zr_113 : zro (A_54 40) (1290 * x1.toInt) 890 1289 := zro.st zr_112 hE_54 (by omega) (by omega)
                have zr_114 : zro (A_59 40) (1290 * x1.toInt) 890 1289 := zro.st zr_113 hE_59 (by omega) (by omega)
                have zr_115 : zro (A_64 40) (1290 * x1.toInt) 890 1289 := zro.st zr_114 hE_64 (by omega) (by omega)
                have zr_116 : zro (A_69 40) (1290 * x1.toInt) 890 1289 := zro.st zr_115 hE_69 (by omega) (by omega)
                exact L_186_72 _ A_69 _ _ 0 _ (Nat.lt_succ_self _) (by (try simp only [ti_0]); omega) fz_102 zr_109 zr_116 FA hT hP hS (lv_sub hl [0, 1, 2, 3, 4, 5] rfl)
              · skip
                refine lv_aload_n hx hb dX12_table_76 rfl (lv_at hl 2 rfl) ?_
                refine mg_0 C hs hP ha0 hk0 wf_X12_8 dX12_table_77 ?_
                have hf_117 := hO.r (j := 0) ha0 hk0 (rfl : zX 11 0 = some (40, 47730))
                refine lv_iload hx hb dX12_table_80 (lv_at hl 1 rfl) ?_
                refine lv_iload hx hb dX12_table_82 (lv_at hl 0 rfl) ?_
                refine lv_iadd hx hb dX12_table_84 ?_
                refine lv_topi (fun x_118 ex_118 => ?_)
                refine lv_iconst (v := 0) hx hb dX12_table_85 (by decide) ?_
                have hTo := hT
                obtain ⟨f_19, l_19, u_19⟩ := z_mul ex_19 ti_1290 rfl
                try replace f_19 : x_19.toInt = 1290 * x1.toInt := by omega
                clear l_19 u_19
                have hbs_120 : zRow x_19.toInt := zRow.of (t := x1.toInt) (by omega) (by omega)
                have hbl_hbs_120 := hbs_120.lin
                have hi_hr_119 : zEq x_118.toInt (x_19.toInt + y_20.toInt) := by
                  have g_121 := z_rng y_20
                  obtain ⟨f_118, l_118, u_118⟩ := z_add ex_118 rfl rfl
                  try replace f_118 : x_118.toInt = x_19.toInt + y_20.toInt := by omega
                  clear l_118 u_118
                  show x_118.toInt = (x_19.toInt + y_20.toInt)
                  omega
                have hl_hr_119 : 0 ≤ y_20.toInt ∧ y_20.toInt ≤ 1289 := by
                  have g_122 := z_rng y_20
                  omega
                have hid_hr_119 : (x_19.toInt + y_20.toInt) = x_19.toInt + (y_20.toInt) := by simp only [Int.add_assoc, Int.add_sub_assoc]
                have hr_119 := z_cell (lo := 0) (hi := 1289) hbs_120 hi_hr_119 hid_hr_119 hl_hr_119 (by decide)
                replace hid_hr_119 : zEq (x_19.toInt + y_20.toInt) (x_19.toInt + (y_20.toInt)) := hid_hr_119
                have hin_123 : vp_in x_118 (zn K (zr K a0 0)) := vp_in_iff.mpr (by rw [(hf_117.2.2 (by decide))]; exact hr_119.in)
                refine mst_40 C hM hs hP hS hf_117.1 hT hf_117.2.1 hin_123 tp_z dX12_table_86 (fun A_124 H locs hE_124 hT hP hS => ?_)
                have ep_125 : x_118.toNatClampNeg = (x_19.toInt + y_20.toInt).toNat := z_posE hi_hr_119
                rw [ep_125] at hE_124
                clear ep_125
                have FA := frA FA (frAu hE_124) (by decide)
                obtain ⟨x_126, ex_126⟩ : ∃ y : Int32, y = y_20 + 1 := ⟨_, rfl⟩
                refine lv_iinc (v := x_126) (lv' := [(5, .int x_126), (4, .int x_19), (0, .ref a0), (1, .int x1), (2, .int x2), (3, .int x3)]) hx hb dX12_table_87 hl (k := 0) rfl (by rw [ex_126]; rfl) (by decide) rfl (fun ls hl => ?_)
                refine lv_goto (tgt := 68) hx hb dX12_table_90 (by decide) ?_
                have g_127 := z_rng y_20
                obtain ⟨f_126, l_126, u_126⟩ := z_add ex_126 rfl ti_1
                try replace f_126 : x_126.toInt = y_20.toInt + 1 := by omega
                clear l_126 u_126
                exact ih_21 A_124 _ _ x_126 _ (by omega) (by omega) (fC.tr iv_22_1 (fC.s2 (lo := 0) (hi := 1289) hE_124 (by omega) (by decide) (by omega)) (by decide)) (zro.s iv_22_2 hE_124 (by omega) (by omega) (by omega) ti_0) FA hT hP hS (lv_sub hl [0, 1, 2, 3, 4, 5] rfl)
          have g_128 := z_rng x_1
          have g_129 := z_rng x_10
          have g_130 := z_rng x_4
          have g_131 := z_rng x_7
          have ev_132 : A_17 40 = A 40 := by rw [hE_17, va_up_ne _ _ (show 40 ≠ 42 by decide), hE_14, va_up_ne _ _ (show 40 ≠ 41 by decide)]
          exact L_68_21 _ A_17 _ _ 0 _ (Nat.lt_succ_self _) (by (try simp only [ti_0]); omega) (by rw [ev_132]; exact fC.rf) (zro.z (by rw [ti_0]; decide)) FA hT hP hS (lv_sub hl [0, 1, 2, 3, 4, 5] rfl)
        · skip
          refine lv_bipush (v := (-3)) hx hb dX12_table_36 (by decide) ?_
          exact maI hQ hx hb hr hlk hP hS ⟨hT, FA, FF, ⟨(aRc.mono (by omega)), hp0.2.1, by omega, by omega⟩, Or.inr (Or.inl ⟨nN, Or.inr (by omega), ti_m3⟩)⟩ dX12_table_38
    · skip
      clear pp_4
      refine lv_bipush (v := (-2)) hx hb dX12_table_17 (by decide) ?_
      exact maI hQ hx hb hr hlk hP hS ⟨hT, FA, FF, ⟨(aRc.mono (by omega)), hp0.2.1, by omega, by omega⟩, Or.inl ⟨Or.inr (p_4.2.2 c_6), ti_m2⟩⟩ dX12_table_19
