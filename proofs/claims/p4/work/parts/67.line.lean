set_option maxHeartbeats 4000000 in
set_option maxRecDepth 100000 in
theorem c_X12_line (l : Launch) (D : va_G) (K : zK) (hM : mK K) (f : Nat → Int32) (A : Nat → Nat → Int32) (hT : mT f A) (N : Int) (a0 : Nat) (ha0 : a0 ∈ zl K) (hk0 : zk K a0 = 11) (x1 : Int32) (x2 : Int32) (x3 : Int32) (hp0 : okk N f A) (hp1 : 0 ≤ N ∧ N ≤ 600) : Met l yX12_line (zc yX12_line cX12_line 13 (some .int)) (rmd 7) (va_Pc [.ref a0, .int x1, .int x2, .int x3] (zB D K (mV K f A))) (mQi D K (fun r f' A' => mT f' A' ∧ (∀ k, k ∉ ([50, 53, 55, 58, 59, 61, 62, 66, 69, 70, 71, 72, 73] : List Nat) → A' k = A k) ∧ (∀ k, k ∉ ([11, 12, 14, 16, 20, 23, 24, 25, 27, 28, 34, 35] : List Nat) → f' k = f k) ∧ okk (N + 1) f' A')) 0 0 (zA K) := by
  refine zin (by decide) (Nat.le_of_ble_eq_true rfl) ?_
  intro p e s m args below meth c ls Q hQ C hr hlk hP hs hl
  have C : CallFix p m c cX12_line 13 s args zw RX12 := C
  obtain ⟨hx, hb, hml, hown, hts⟩ := id C
  have hO := hM.1
  have hS : va_S (zA K) s.heap s.heap [] := va_S.rf
  have FA : ∀ k, k ∉ ([50, 53, 55, 58, 59, 61, 62, 66, 69, 70, 71, 72, 73] : List Nat) → A k = A k := fun _ _ => rfl
  have FF : ∀ k, k ∉ ([11, 12, 14, 16, 20, 23, 24, 25, 27, 28, 34, 35] : List Nat) → f k = f k := fun _ _ => rfl
  have hl : lv_has ls 13 [(0, .ref a0), (1, .int x1), (2, .int x2), (3, .int x3)] := hl
  have aRc := hp0.1
  have hbud := hp0.2.2
  refine lv_aload_n hx hb dX12_line_0 rfl (lv_at hl 0 rfl) ?_
  refine lv_iload_n hx hb dX12_line_1 rfl (lv_at hl 1 rfl) ?_
  refine lv_iload_n hx hb dX12_line_2 rfl (lv_at hl 2 rfl) ?_
  have hTo := hT
  refine zcS (zrV (As := [.int x1, .int x2]) (b := a0) (rest := []) C hs hP hS (c_X12_endBars l D K hM f A hT a0 ha0 hk0 x1 x2) m_X12_endBars wm_X12_304 (zrecv hs hP ha0 (zF_11 hk0) rfl) ⟨by decide, by decide⟩ hl.1 (Nat.le_of_ble_eq_true rfl) dX12_line_3) (fun x_1 p_1 => ?_)
  have pp_1 : (0 ≤ x_1.toInt → 0 ≤ x1.toInt ∧ x1.toInt ≤ 3 ∧ 0 ≤ x2.toInt ∧ x2.toInt ≤ 1 ∧ (A 40 (1290 * x1.toInt + 5).toNat).toInt = 1 ∧ h4 (A 40) (1290 * x1.toInt) 4) := p_1
  have g_2 := z_rng x1
  have g_3 := z_rng x2
  refine lv_istore (lv' := [(4, .int x_1), (0, .ref a0), (1, .int x1), (2, .int x2), (3, .int x3)]) hx hb dX12_line_6 hl (by decide) rfl (fun ls hl => ?_)
  refine lv_iload hx hb dX12_line_8 (lv_at hl 0 rfl) ?_
  refine bz_ge (tgt := 16) hx hb rfl dX12_line_10 (by decide) (fun c_4 => ?_) (fun c_4 => ?_)
  · skip
    refine lv_sipush (v := 1290) hx hb dX12_line_16 (by decide) ?_
    refine lv_iload_n hx hb dX12_line_19 rfl (lv_at hl 2 rfl) ?_
    refine lv_imul hx hb dX12_line_20 ?_
    refine lv_topi (fun x_5 ex_5 => ?_)
    refine lv_istore (lv' := [(5, .int x_5), (4, .int x_1), (0, .ref a0), (1, .int x1), (2, .int x2), (3, .int x3)]) hx hb dX12_line_21 hl (by decide) rfl (fun ls hl => ?_)
    refine lv_aload_n hx hb dX12_line_23 rfl (lv_at hl 2 rfl) ?_
    refine lv_iload_n hx hb dX12_line_24 rfl (lv_at hl 3 rfl) ?_
    refine lv_iload hx hb dX12_line_25 (lv_at hl 0 rfl) ?_
    refine lv_iload_n hx hb dX12_line_27 rfl (lv_at hl 4 rfl) ?_
    have hTo := hT
    obtain ⟨f_5, l_5, u_5⟩ := z_mul ex_5 ti_1290 rfl
    try replace f_5 : x_5.toInt = 1290 * x1.toInt := by omega
    clear l_5 u_5
    have hbs_6 : zRow x_5.toInt := zRow.of (t := x1.toInt) (by omega) (by omega)
    have hbl_hbs_6 := hbs_6.lin
    have hbo_8 : x_5.toInt = 1290 * x1.toInt := by omega
    have hq_7 : h4 (A 40) x_5.toInt 4 := by (rw [hbo_8]; exact (pp_1 (by omega)).2.2.2.2.2)
    have hq_9 : ((f 23).toInt = x1.toInt → aOk (A 40) x_5.toInt (f 20).toInt) := by (intro h9; rw [hbo_8]; exact hp0.2.1 x1.toInt (by omega) (by omega) h9 (pp_1 (by omega)).2.2.2.2.1)
    have hq_10 : (f 11).toInt ≤ 1950000000 := by (first | assumption | omega | (intros; omega))
    refine mcI (zrV (As := [.int x1, .int x_5, .int x2]) (b := a0) (rest := []) C hs hP hS (c_X12_sureAt l D K hM f A hT a0 ha0 hk0 x1 x_5 x2 hbs_6 hq_7 hq_9 hq_10) m_X12_sureAt wm_X12_307 (zrecv hs hP ha0 (zF_11 hk0) rfl) ⟨by decide, by decide⟩ hl.1 (Nat.le_of_ble_eq_true rfl) dX12_line_28) hS (fun x_11 f_11 A_11 H locs p_11 hP hS => ?_)
    obtain ⟨hT, hA_11, hF_11, pp_11⟩ := p_11
    have pp_11 : (f_11 11).toInt = (f 11).toInt ∧ (f_11 12).toInt = (f 12).toInt ∧ aOk (A 40) x_5.toInt (f_11 20).toInt ∧ (f_11 23).toInt = x1.toInt := pp_11
    have pp0_11 := zHid.mk pp_11
    have FA := frA FA hA_11 (by decide)
    have FF := frF FF hF_11 (by decide)
    have aRc : aR (A_11 40) (N) := by rw [hA_11 40 (by decide)]; exact aRc
    have cOc : cOk (f_11 23).toInt (f_11 20).toInt (A 40) := cOk.so (t := x1.toInt) pp0_11.2.2.2 (by rw [← hbo_8]; exact pp0_11.2.2.1)
    have p11_11 := pp0_11.1
    clear pp_11
    refine lv_istore (lv' := [(6, .int x_11), (5, .int x_5), (4, .int x_1), (0, .ref a0), (1, .int x1), (2, .int x2), (3, .int x3)]) hx hb dX12_line_31 hl (by decide) rfl (fun ls hl => ?_)
    refine lv_aload_n hx hb dX12_line_33 rfl (lv_at hl 3 rfl) ?_
    refine lv_iconst (v := 1) hx hb dX12_line_34 (by decide) ?_
    refine mp_12 C hM hs hP hS ha0 hT hk0 wf_X12_78 (Or.inr rfl) (show 0 ≤ (1 : Int32).toInt ∧ (1 : Int32).toInt ≤ 1 from by rw [ti_1]; omega) dX12_line_35 (fun f_12 H locs hE_12 hT hP hS => ?_)
    have FF := frF FF (frFu hE_12) (by decide)
    refine lv_aload_n hx hb dX12_line_38 rfl (lv_at hl 3 rfl) ?_
    refine mg_20 C hs hP ha0 hk0 wf_X12_286 dX12_line_39 ?_
    have ev_13 : f_12 20 = f_11 20 := by rw [hE_12, pk_un (show 20 ≠ 12 by decide)]
    rw [ev_13]
    have tf_14 : 0 ≤ (f_11 20).toInt ∧ (f_11 20).toInt ≤ 65535 := by rw [← ev_13]; exact hT.1 20
    refine lv_istore (lv' := [(7, .int (f_11 20)), (6, .int x_11), (5, .int x_5), (4, .int x_1), (0, .ref a0), (1, .int x1), (2, .int x2), (3, .int x3)]) hx hb dX12_line_42 hl (by decide) rfl (fun ls hl => ?_)
    refine lv_aload_n hx hb dX12_line_44 rfl (lv_at hl 4 rfl) ?_
    refine mg_0 C hs hP ha0 hk0 wf_X12_8 dX12_line_45 ?_
    have hf_15 := hO.r (j := 0) ha0 hk0 (rfl : zX 11 0 = some (40, 47730))
    refine lv_iload hx hb dX12_line_48 (lv_at hl 2 rfl) ?_
    refine lv_bipush (v := 9) hx hb dX12_line_50 (by decide) ?_
    refine lv_iadd hx hb dX12_line_52 ?_
    refine lv_topi (fun x_16 ex_16 => ?_)
    have hi_hr_17 : zEq x_16.toInt (x_5.toInt + 9) := by
      obtain ⟨f_16, l_16, u_16⟩ := z_add ex_16 rfl ti_9
      try replace f_16 : x_16.toInt = x_5.toInt + 9 := by omega
      clear l_16 u_16
      show x_16.toInt = (x_5.toInt + 9)
      omega
    have hl_hr_17 : (9 : Int) ≤ 9 ∧ 9 ≤ (9 : Int) := by decide
    have hid_hr_17 : (x_5.toInt + 9) = x_5.toInt + (9) := by simp only [Int.add_assoc, Int.add_sub_assoc]
    have hr_17 := z_cell (lo := 9) (hi := 9) hbs_6 hi_hr_17 hid_hr_17 hl_hr_17 (by decide)
    replace hid_hr_17 : zEq (x_5.toInt + 9) (x_5.toInt + (9)) := hid_hr_17
    have hin_18 : vp_in x_16 (zn K (zr K a0 0)) := vp_in_iff.mpr (by rw [(hf_15.2.2 (by decide))]; exact hr_17.in)
    refine mld_40 C hs hP hf_15.1 hf_15.2.1 hin_18 dX12_line_53 ?_
    have ep_19 : x_16.toNatClampNeg = (x_5.toInt + 9).toNat := z_posE hi_hr_17
    rw [ep_19]
    have ev_20 : A_11 40 (x_5.toInt + 9).toNat = A 40 (x_5.toInt + 9).toNat := by rw [hA_11 40 (by decide)]
    have tv_21 := rv_9 hT hr_17
    rw [ep_19] at tv_21
    rw [ev_20] at tv_21
    rw [ev_20]
    clear ep_19
    refine lv_istore (lv' := [(8, .int (A 40 (x_5.toInt + 9).toNat)), (7, .int (f_11 20)), (6, .int x_11), (5, .int x_5), (4, .int x_1), (0, .ref a0), (1, .int x1), (2, .int x2), (3, .int x3)]) hx hb dX12_line_54 hl (by decide) rfl (fun ls hl => ?_)
    refine lv_iconst (v := 0) hx hb dX12_line_56 (by decide) ?_
    refine lv_istore (lv' := [(9, .int 0), (8, .int (A 40 (x_5.toInt + 9).toNat)), (7, .int (f_11 20)), (6, .int x_11), (5, .int x_5), (4, .int x_1), (0, .ref a0), (1, .int x1), (2, .int x2), (3, .int x3)]) hx hb dX12_line_57 hl (by decide) rfl (fun ls hl => ?_)
    refine lv_iconst (v := (-1)) hx hb dX12_line_59 (by decide) ?_
    refine lv_istore (lv' := [(10, .int (-1)), (9, .int 0), (8, .int (A 40 (x_5.toInt + 9).toNat)), (7, .int (f_11 20)), (6, .int x_11), (5, .int x_5), (4, .int x_1), (0, .ref a0), (1, .int x1), (2, .int x2), (3, .int x3)]) hx hb dX12_line_60 hl (by decide) rfl (fun ls hl => ?_)
    have L_62_26 : ∀ (n_26 : Nat) (f_27 : Nat → Int32) (A_27 : Nat → Nat → Int32) (H : Heap) (locs : List Loc) (y_22 : Int32) (y_23 : Int32) (y_24 : Int32) (y_25 : Int32) (ls : Array Slot), (if y_22.toInt = -1 then (x3.toInt - y_23.toInt).toNat + 1 else 0) < n_26 → 0 ≤ y_25.toInt ∧ y_25.toInt ≤ 65535 → -1 ≤ y_24.toInt ∧ y_24.toInt ≤ 3 → zHid (y_24.toInt ≠ -1 → y_25.toInt ≠ 0) → (f_27 11).toInt = (f 11).toInt → (f_27 12).toInt = 1 → f_27 23 = f_11 23 → f_27 20 = f_11 20 → (∀ k, k ∉ ([50, 53, 55, 58, 59, 61, 62, 66, 69, 70, 71, 72, 73] : List Nat) → A_27 k = A k) → (∀ k, k ∉ ([11, 12, 14, 16, 20, 23, 24, 25, 27, 28, 34, 35] : List Nat) → f_27 k = f k) → mT f_27 A_27 → va_P D vwCl (zW K (mV K f_27 A_27)) H → va_S (zA K) s.heap H locs → lv_has ls 13 [(10, .int y_22), (9, .int y_23), (8, .int y_24), (7, .int y_25), (6, .int x_11), (5, .int x_5), (4, .int x_1), (0, .ref a0), (1, .int x1), (2, .int x2), (3, .int x3)] → W p l e (rmd 7) s m args below meth c H locs 0 0 Q (F0 m 62 ls []) := by
      intro n_26
      induction n_26 with
      | zero => intro f_27 A_27 H locs y_22 y_23 y_24 y_25 ls hm_26; exact absurd hm_26 (Nat.not_lt_zero _)
      | succ n_26 ih_26 =>
        intro f_27 A_27 H locs y_22 y_23 y_24 y_25 ls hm_26 iv_27_0 iv_27_1 iv_27_2 iv_27_3 iv_27_4 iv_27_5 iv_27_6 FA_27 FF_27 hT hP hS hl
        have FA := FA_27
        have FF := FF_27
        have aRc : aR (A_27 40) N := by rw [FA 40 (by decide)]; exact hp0.1
        refine lv_iload hx hb dX12_line_62 (lv_at hl 2 rfl) ?_
        refine lv_iconst (v := (-1)) hx hb dX12_line_64 (by decide) ?_
        refine bi_eq (tgt := 233) hx hb rfl ti_m1 dX12_line_65 (by decide) (fun c_29 => ?_) (fun c_29 => ?_)
        · skip
          refine lv_aload_n hx hb dX12_line_233 rfl (lv_at hl 7 rfl) ?_
          refine lv_iconst (v := 0) hx hb dX12_line_234 (by decide) ?_
          refine mp_12 C hM hs hP hS ha0 hT hk0 wf_X12_78 (Or.inl rfl) (show 0 ≤ (0 : Int32).toInt ∧ (0 : Int32).toInt ≤ 1 from by rw [ti_0]; omega) dX12_line_235 (fun f_30 H locs hE_30 hT hP hS => ?_)
          have FF := frF FF (frFu hE_30) (by decide)
          refine lv_iload hx hb dX12_line_238 (lv_at hl 0 rfl) ?_
          have ev_31 : f_30 11 = f_27 11 := by rw [hE_30, pk_un (show 11 ≠ 12 by decide)]
          have ev_32 : f_30 9 = f 9 := by rw [hE_30, pk_un (show 9 ≠ 12 by decide), FF_27 9 (by decide)]
          have ev_33 : f_30 23 = f_27 23 := by rw [hE_30, pk_un (show 23 ≠ 12 by decide)]
          have ev_34 : f_30 20 = f_27 20 := by rw [hE_30, pk_un (show 20 ≠ 12 by decide)]
          have ev_35 : A_27 40 = A 40 := by rw [FA_27 40 (by decide)]
          exact maI hQ hx hb hr hlk hP hS ⟨hT, FA, FF, ⟨(aRc.mono (by omega)), (by rw [ev_33, iv_27_5, ev_34, iv_27_6, ev_35]; exact cOc), by rw [ev_31] <;> omega, by rw [ev_32] <;> omega⟩⟩ dX12_line_240
        · skip
          refine lv_iload hx hb dX12_line_68 (lv_at hl 0 rfl) ?_
          refine lv_iconst (v := (-1)) hx hb dX12_line_70 (by decide) ?_
          refine bi_ne (tgt := 233) hx hb rfl ti_m1 dX12_line_71 (by decide) (fun c_36 => ?_) (fun c_36 => ?_)
          · skip
            refine lv_aload_n hx hb dX12_line_233 rfl (lv_at hl 7 rfl) ?_
            refine lv_iconst (v := 0) hx hb dX12_line_234 (by decide) ?_
            refine mp_12 C hM hs hP hS ha0 hT hk0 wf_X12_78 (Or.inl rfl) (show 0 ≤ (0 : Int32).toInt ∧ (0 : Int32).toInt ≤ 1 from by rw [ti_0]; omega) dX12_line_235 (fun f_37 H locs hE_37 hT hP hS => ?_)
            have FF := frF FF (frFu hE_37) (by decide)
            refine lv_iload hx hb dX12_line_238 (lv_at hl 0 rfl) ?_
            have ev_38 : f_37 11 = f_27 11 := by rw [hE_37, pk_un (show 11 ≠ 12 by decide)]
            have ev_39 : f_37 9 = f 9 := by rw [hE_37, pk_un (show 9 ≠ 12 by decide), FF_27 9 (by decide)]
            have ev_40 : f_37 23 = f_27 23 := by rw [hE_37, pk_un (show 23 ≠ 12 by decide)]
            have ev_41 : f_37 20 = f_27 20 := by rw [hE_37, pk_un (show 20 ≠ 12 by decide)]
            have ev_42 : A_27 40 = A 40 := by rw [FA_27 40 (by decide)]
            exact maI hQ hx hb hr hlk hP hS ⟨hT, FA, FF, ⟨(aRc.mono (by omega)), (by rw [ev_40, iv_27_5, ev_41, iv_27_6, ev_42]; exact cOc), by rw [ev_38] <;> omega, by rw [ev_39] <;> omega⟩⟩ dX12_line_240
          · skip
            refine lv_iload_n hx hb dX12_line_74 rfl (lv_at hl 10 rfl) ?_
            refine lv_iload hx hb dX12_line_75 (lv_at hl 1 rfl) ?_
            refine bi_lt (tgt := 233) hx hb rfl rfl dX12_line_77 (by decide) (fun c_43 => ?_) (fun c_43 => ?_)
            · skip
              refine lv_aload_n hx hb dX12_line_233 rfl (lv_at hl 7 rfl) ?_
              refine lv_iconst (v := 0) hx hb dX12_line_234 (by decide) ?_
              refine mp_12 C hM hs hP hS ha0 hT hk0 wf_X12_78 (Or.inl rfl) (show 0 ≤ (0 : Int32).toInt ∧ (0 : Int32).toInt ≤ 1 from by rw [ti_0]; omega) dX12_line_235 (fun f_44 H locs hE_44 hT hP hS => ?_)
              have FF := frF FF (frFu hE_44) (by decide)
              refine lv_iload hx hb dX12_line_238 (lv_at hl 0 rfl) ?_
              have ev_45 : f_44 11 = f_27 11 := by rw [hE_44, pk_un (show 11 ≠ 12 by decide)]
              have ev_46 : f_44 9 = f 9 := by rw [hE_44, pk_un (show 9 ≠ 12 by decide), FF_27 9 (by decide)]
              have ev_47 : f_44 23 = f_27 23 := by rw [hE_44, pk_un (show 23 ≠ 12 by decide)]
              have ev_48 : f_44 20 = f_27 20 := by rw [hE_44, pk_un (show 20 ≠ 12 by decide)]
              have ev_49 : A_27 40 = A 40 := by rw [FA_27 40 (by decide)]
              exact maI hQ hx hb hr hlk hP hS ⟨hT, FA, FF, ⟨(aRc.mono (by omega)), (by rw [ev_47, iv_27_5, ev_48, iv_27_6, ev_49]; exact cOc), by rw [ev_45] <;> omega, by rw [ev_46] <;> omega⟩⟩ dX12_line_240
            · skip
              refine lv_aload_n hx hb dX12_line_80 rfl (lv_at hl 7 rfl) ?_
              refine lv_iload hx hb dX12_line_81 (lv_at hl 3 rfl) ?_
              refine lv_iload hx hb dX12_line_83 (lv_at hl 2 rfl) ?_
              have hTo := hT
              have g_50 := z_rng y_25
              have g_51 := z_rng y_24
              have hq_52 : 0 ≤ y_25.toInt ∧ y_25.toInt ≤ 65535 := by (first | assumption | omega | (intros; omega))
              have hq_53 : 0 ≤ y_24.toInt ∧ y_24.toInt ≤ 3 := by (first | assumption | omega | (intros; omega))
              refine mcV (zrV (As := [.int y_25, .int y_24]) (b := a0) (rest := []) C hs hP hS (c_X12_seatAll l D K hM f_27 A_27 hT a0 ha0 hk0 y_25 y_24 hq_52 hq_53) m_X12_seatAll wm_X12_292 (zrecv hs hP ha0 (zF_11 hk0) rfl) ⟨by decide, by decide⟩ hl.1 (Nat.le_of_ble_eq_true rfl) dX12_line_85) hS (fun f_54 A_54 H locs p_54 hP hS => ?_)
              obtain ⟨hT, hA_54, hF_54, pp_54⟩ := p_54
              have pp_54 : (y_25.toInt ≠ 0 → 1 ≤ (f_54 27).toInt) := pp_54
              have pp0_54 := zHid.mk pp_54
              have FA := frA FA hA_54 (by decide)
              have FF := frF FF hF_54 (by decide)
              have aRc : aR (A_54 40) (N) := by rw [hA_54 40 (by decide)]; exact aRc
              have hse : 1 ≤ (f_54 27).toInt := pp0_54 (iv_27_2 (by omega))
              clear pp_54
              refine lv_aload_n hx hb dX12_line_88 rfl (lv_at hl 7 rfl) ?_
              refine lv_iload hx hb dX12_line_89 (lv_at hl 3 rfl) ?_
              refine mp_28 C hM hs hP hS ha0 hT hk0 wf_X12_256 (show 0 ≤ y_25.toInt ∧ y_25.toInt ≤ 65535 from by omega) dX12_line_91 (fun f_55 H locs hE_55 hT hP hS => ?_)
              have FF := frF FF (frFu hE_55) (by decide)
              refine lv_aload_n hx hb dX12_line_94 rfl (lv_at hl 7 rfl) ?_
              refine lv_iconst (v := 0) hx hb dX12_line_95 (by decide) ?_
              refine mp_16 C hM hs hP hS ha0 hT hk0 wf_X12_127 (show 0 ≤ (0 : Int32).toInt ∧ (0 : Int32).toInt ≤ 4 from by rw [ti_0]; omega) dX12_line_96 (fun f_56 H locs hE_56 hT hP hS => ?_)
              have FF := frF FF (frFu hE_56) (by decide)
              refine lv_iconst (v := 0) hx hb dX12_line_99 (by decide) ?_
              refine lv_istore (lv' := [(11, .int 0), (10, .int y_22), (9, .int y_23), (8, .int y_24), (7, .int y_25), (6, .int x_11), (5, .int x_5), (4, .int x_1), (0, .ref a0), (1, .int x1), (2, .int x2), (3, .int x3)]) hx hb dX12_line_100 hl (by decide) rfl (fun ls hl => ?_)
              have L_102_60 : ∀ (n_60 : Nat) (f_61 : Nat → Int32) (A_61 : Nat → Nat → Int32) (H : Heap) (locs : List Loc) (y_57 : Int32) (y_58 : Int32) (y_59 : Int32) (ls : Array Slot), (2147483648 - y_57.toInt).toNat < n_60 → 0 ≤ y_57.toInt → y_57.toInt ≤ (f_61 27).toInt → (f_61 16).toInt = y_57.toInt → (f_61 27).toInt = (f_54 27).toInt → (y_58.toInt ≠ -1 ∨ (y_59.toInt = y_23.toInt + y_57.toInt ∧ y_59.toInt ≤ x3.toInt)) → (f_61 11).toInt = (f 11).toInt → (f_61 12).toInt = 1 → f_61 23 = f_11 23 → f_61 20 = f_11 20 → (∀ k, k ∉ ([50, 53, 55, 58, 59, 61, 62, 66, 69, 70, 71, 72, 73] : List Nat) → A_61 k = A k) → (∀ k, k ∉ ([11, 12, 14, 16, 20, 23, 24, 25, 27, 28, 34, 35] : List Nat) → f_61 k = f k) → mT f_61 A_61 → va_P D vwCl (zW K (mV K f_61 A_61)) H → va_S (zA K) s.heap H locs → lv_has ls 13 [(11, .int y_57), (10, .int y_58), (9, .int y_59), (8, .int y_24), (7, .int y_25), (6, .int x_11), (5, .int x_5), (4, .int x_1), (0, .ref a0), (1, .int x1), (2, .int x2), (3, .int x3)] → W p l e (rmd 7) s m args below meth c H locs 0 0 Q (F0 m 102 ls []) := by
                intro n_60
                induction n_60 with
                | zero => intro f_61 A_61 H locs y_57 y_58 y_59 ls hm_60; exact absurd hm_60 (Nat.not_lt_zero _)
                | succ n_60 ih_60 =>
                  intro f_61 A_61 H locs y_57 y_58 y_59 ls hm_60 iv_61_0 iv_61_1 iv_61_2 iv_61_3 iv_61_4 iv_61_5 iv_61_6 iv_61_7 iv_61_8 FA_61 FF_61 hT hP hS hl
                  have FA := FA_61
                  have FF := FF_61
                  have aRc : aR (A_61 40) N := by rw [FA 40 (by decide)]; exact hp0.1
                  have t27 : 0 ≤ (f_61 27).toInt ∧ (f_61 27).toInt ≤ 4 := hT.1 27
                  have dj := zHid.mk iv_61_4
                  clear iv_61_4
                  refine lv_iload hx hb dX12_line_102 (lv_at hl 0 rfl) ?_
                  refine lv_aload_n hx hb dX12_line_104 rfl (lv_at hl 8 rfl) ?_
                  refine mg_27 C hs hP ha0 hk0 wf_X12_253 dX12_line_105 ?_
                  have tf_63 : 0 ≤ (f_61 27).toInt ∧ (f_61 27).toInt ≤ 4 := hT.1 27
                  refine bi_ge (tgt := 205) hx hb rfl rfl dX12_line_108 (by decide) (fun c_64 => ?_) (fun c_64 => ?_)
                  · skip
                    refine lv_aload_n hx hb dX12_line_205 rfl (lv_at hl 8 rfl) ?_
                    refine mg_28 C hs hP ha0 hk0 wf_X12_256 dX12_line_206 ?_
                    have tf_65 : 0 ≤ (f_61 28).toInt ∧ (f_61 28).toInt ≤ 65535 := hT.1 28
                    refine lv_istore (lv' := [(7, .int (f_61 28)), (11, .int y_57), (10, .int y_58), (9, .int y_59), (8, .int y_24), (6, .int x_11), (5, .int x_5), (4, .int x_1), (0, .ref a0), (1, .int x1), (2, .int x2), (3, .int x3)]) hx hb dX12_line_209 hl (by decide) rfl (fun ls hl => ?_)
                    refine lv_aload_n hx hb dX12_line_211 rfl (lv_at hl 8 rfl) ?_
                    refine lv_iload hx hb dX12_line_212 (lv_at hl 0 rfl) ?_
                    refine lv_aload_n hx hb dX12_line_214 rfl (lv_at hl 8 rfl) ?_
                    refine mg_26 C hs hP ha0 hk0 wf_X12_60 dX12_line_215 ?_
                    have hf_66 := hO.r (j := 26) ha0 hk0 (rfl : zX 11 26 = some (66, 4))
                    refine lv_aload_n hx hb dX12_line_218 rfl (lv_at hl 8 rfl) ?_
                    refine lv_iload hx hb dX12_line_219 (lv_at hl 6 rfl) ?_
                    have hTo := hT
                    have hq_67 : 1 ≤ (f_61 16).toInt := by (first | assumption | omega | (intros; omega))
                    have hq_68 : (f_61 11).toInt ≤ 1980000000 := by (first | assumption | omega | (intros; omega))
                    refine mcI (zrV (As := [.int x_5]) (b := a0) (rest := [.ref (zr K a0 26), .int (f_61 28), .ref a0]) C hs hP hS (c_X12_wins l D K hM f_61 A_61 hT a0 ha0 hk0 x_5 hbs_6 hq_67 hq_68) m_X12_wins wm_X12_220 (zrecv hs hP ha0 (zF_11 hk0) rfl) ⟨by decide, by decide⟩ hl.1 (Nat.le_of_ble_eq_true rfl) dX12_line_221) hS (fun x_69 f_69 A_69 H locs p_69 hP hS => ?_)
                    obtain ⟨hT, hA_69, hF_69, pp_69⟩ := p_69
                    have pp_69 : (f_61 11).toInt ≤ (f_69 11).toInt ∧ (f_69 11).toInt ≤ (f_61 11).toInt + 3 ∧ ((f_61 12).toInt ≠ 0 → (f_69 11).toInt = (f_61 11).toInt) ∧ 0 ≤ x_69.toInt ∧ x_69.toInt < (f_61 16).toInt := pp_69
                    have pp0_69 := zHid.mk pp_69
                    have pa_69 := pp_69.1
                    have pb_69 := pp_69.2.1
                    have qq_69 := zHid.mk pp_69.2.2.1
                    replace pp_69 := pp_69.2.2.2
                    have FA := frA FA hA_69 (by decide)
                    have FF := frF FF hF_69 (by decide)
                    have aRc : aR (A_69 40) (N) := by rw [hA_69 40 (by decide)]; exact aRc
                    have g_71 := z_rng x_69
                    have hin_70 : vp_in x_69 (zn K (zr K a0 26)) := vp_in_iff.mpr (by rw [(hf_66.2.2 (by decide))]; refine ⟨?_, ?_⟩ <;> omega)
                    refine mld_66 C hs hP hf_66.1 hf_66.2.1 hin_70 dX12_line_224 ?_
                    have ev_72 : A_69 66 x_69.toNatClampNeg = A_61 66 x_69.toNatClampNeg := by rw [hA_69 66 (by decide)]
                    have tv_73 := ra_66 hT (vp_in_iff.mp hin_70).1 (by have h7 := (vp_in_iff.mp hin_70).2; rw [(hf_66.2.2 (by decide))] at h7; exact h7)
                    rw [ev_72] at tv_73
                    rw [ev_72]
                    have hTo := hT
                    have g_74 := z_rng (f_61 28)
                    have g_75 := z_rng (A_61 66 x_69.toNatClampNeg)
                    have hq_76 : 0 ≤ (f_61 28).toInt ∧ (f_61 28).toInt ≤ 65535 := by (first | assumption | omega | (intros; omega))
                    have hq_77 : 0 ≤ (A_61 66 x_69.toNatClampNeg).toInt ∧ (A_61 66 x_69.toNatClampNeg).toInt ≤ 3 := by (first | assumption | omega | (intros; omega))
                    refine zcS (zrV (As := [.int (f_61 28), .int (A_61 66 x_69.toNatClampNeg)]) (b := a0) (rest := []) C hs hP hS (c_X12_leaderFrom l D K hM f_69 A_69 hT a0 ha0 hk0 (f_61 28) (A_61 66 x_69.toNatClampNeg) hq_76 hq_77) m_X12_leaderFrom wm_X12_274 (zrecv hs hP ha0 (zF_11 hk0) rfl) ⟨by decide, by decide⟩ hl.1 (Nat.le_of_ble_eq_true rfl) dX12_line_225) (fun x_78 p_78 => ?_)
                    have pp_78 : x_78.toInt = -1 ∨ (0 ≤ x_78.toInt ∧ x_78.toInt ≤ 3 ∧ (f_61 28).toInt ≠ 0) := p_78
                    refine lv_istore (lv' := [(8, .int x_78), (7, .int (f_61 28)), (11, .int y_57), (10, .int y_58), (9, .int y_59), (6, .int x_11), (5, .int x_5), (4, .int x_1), (0, .ref a0), (1, .int x1), (2, .int x2), (3, .int x3)]) hx hb dX12_line_228 hl (by decide) rfl (fun ls hl => ?_)
                    refine lv_goto (tgt := 62) hx hb dX12_line_230 (by decide) ?_
                    have g_79 := z_rng y_58
                    have g_80 := z_rng y_59
                    have g_81 := z_rng x_78
                    have g_82 := z_rng (f_61 27)
                    have g_83 := z_rng y_57
                    have ev_84 : f_69 12 = f_61 12 := by rw [hF_69 12 (by decide)]
                    have ev_85 : f_69 23 = f_61 23 := by rw [hF_69 23 (by decide)]
                    have ev_86 : f_69 20 = f_61 20 := by rw [hF_69 20 (by decide)]
                    exact ih_26 f_69 A_69 _ _ y_58 y_59 x_78 (f_61 28) _ (by have h9 := hm_26; rw [if_pos (by omega)] at h9; have h8 := dj; unfold zHid at h8; split <;> omega) (by omega) (by omega) (zHid.mk (fun h9 => by have h8 := pp_78; omega)) (by have hq0 := qq_69 (by omega); omega) (by rw [ev_84]; first | exact ti_1 | omega) (by rw [ev_85]; exact iv_61_7) (by rw [ev_86]; exact iv_61_8) FA FF hT hP hS (lv_sub hl [3, 4, 0, 1, 5, 6, 7, 8, 9, 10, 11] rfl)
                  · skip
                    refine lv_aload_n hx hb dX12_line_111 rfl (lv_at hl 8 rfl) ?_
                    refine lv_iload hx hb dX12_line_112 (lv_at hl 6 rfl) ?_
                    refine lv_iload hx hb dX12_line_114 (lv_at hl 0 rfl) ?_
                    have hTo := hT
                    have g_87 := z_rng y_57
                    have hq_88 : 0 ≤ y_57.toInt ∧ y_57.toInt < (f_61 27).toInt := by (first | assumption | omega | (intros; omega))
                    have hq_89 : (f_61 16).toInt = y_57.toInt := by (first | assumption | omega | (intros; omega))
                    have hq_90 : (f_61 12).toInt ≠ 0 := by (first | assumption | omega | (intros; omega))
                    have hq_91 : (f_61 11).toInt ≤ 1970000000 := by (first | assumption | omega | (intros; omega))
                    refine mcV (zrV (As := [.int x_5, .int y_57]) (b := a0) (rest := []) C hs hP hS (c_X12_goThrough l D K hM f_61 A_61 hT a0 ha0 hk0 x_5 y_57 hbs_6 hq_88 hq_89 hq_90 hq_91) m_X12_goThrough wm_X12_295 (zrecv hs hP ha0 (zF_11 hk0) rfl) ⟨by decide, by decide⟩ hl.1 (Nat.le_of_ble_eq_true rfl) dX12_line_116) hS (fun f_92 A_92 H locs p_92 hP hS => ?_)
                    obtain ⟨hT, hA_92, hF_92, pp_92⟩ := p_92
                    have pp_92 : (f_61 11).toInt ≤ (f_92 11).toInt ∧ (f_92 11).toInt ≤ (f_61 11).toInt + 0 ∧ ((f_61 12).toInt ≠ 0 → (f_92 11).toInt = (f_61 11).toInt) ∧ (f_92 16).toInt = y_57.toInt := pp_92
                    have pp0_92 := zHid.mk pp_92
                    have pa_92 := pp_92.1
                    have pb_92 := pp_92.2.1
                    have qq_92 := zHid.mk pp_92.2.2.1
                    replace pp_92 := pp_92.2.2.2
                    have FA := frA FA hA_92 (by decide)
                    have FF := frF FF hF_92 (by decide)
                    have aRc : aR (A_92 40) (N) := by rw [hA_92 40 (by decide)]; exact aRc
                    refine lv_iconst (v := 4) hx hb dX12_line_119 (by decide) ?_
                    refine lv_aload_n hx hb dX12_line_120 rfl (lv_at hl 8 rfl) ?_
                    refine mg_26 C hs hP ha0 hk0 wf_X12_60 dX12_line_121 ?_
                    have hf_93 := hO.r (j := 26) ha0 hk0 (rfl : zX 11 26 = some (66, 4))
                    refine lv_iload hx hb dX12_line_124 (lv_at hl 0 rfl) ?_
                    have hin_94 : vp_in y_57 (zn K (zr K a0 26)) := vp_in_iff.mpr (by rw [(hf_93.2.2 (by decide))]; refine ⟨?_, ?_⟩ <;> omega)
                    refine mld_66 C hs hP hf_93.1 hf_93.2.1 hin_94 dX12_line_126 ?_
                    have ev_95 : A_92 66 y_57.toNatClampNeg = A_61 66 y_57.toNatClampNeg := by rw [hA_92 66 (by decide)]
                    have tv_96 := ra_66 hT (vp_in_iff.mp hin_94).1 (by have h7 := (vp_in_iff.mp hin_94).2; rw [(hf_93.2.2 (by decide))] at h7; exact h7)
                    rw [ev_95] at tv_96
                    rw [ev_95]
                    refine lv_imul hx hb dX12_line_127 ?_
                    refine lv_topi (fun x_97 ex_97 => ?_)
                    refine lv_aload_n hx hb dX12_line_128 rfl (lv_at hl 8 rfl) ?_
                    refine mg_34 C hs hP ha0 hk0 wf_X12_268 dX12_line_129 ?_
                    have tf_98 : 0 ≤ (f_92 34).toInt ∧ (f_92 34).toInt ≤ 3 := hT.1 34
                    refine lv_iadd hx hb dX12_line_132 ?_
                    refine lv_topi (fun x_99 ex_99 => ?_)
                    refine lv_istore (lv' := [(12, .int x_99), (11, .int y_57), (10, .int y_58), (9, .int y_59), (8, .int y_24), (7, .int y_25), (6, .int x_11), (5, .int x_5), (4, .int x_1), (0, .ref a0), (1, .int x1), (2, .int x2), (3, .int x3)]) hx hb dX12_line_133 hl (by decide) rfl (fun ls hl => ?_)
                    refine lv_aload_n hx hb dX12_line_135 rfl (lv_at hl 9 rfl) ?_
                    refine lv_dup hx hb dX12_line_136 rfl ?_
                    refine mg_28 C hs hP ha0 hk0 wf_X12_256 dX12_line_137 ?_
                    have tf_100 : 0 ≤ (f_92 28).toInt ∧ (f_92 28).toInt ≤ 65535 := hT.1 28
                    refine lv_iconst (v := 1) hx hb dX12_line_140 (by decide) ?_
                    refine lv_iload hx hb dX12_line_141 (lv_at hl 0 rfl) ?_
                    refine lv_ishl hx hb dX12_line_143 ?_
                    refine lv_topi (fun x_101 ex_101 => ?_)
                    refine lv_iconst (v := (-1)) hx hb dX12_line_144 (by decide) ?_
                    refine lv_ixor hx hb dX12_line_145 ?_
                    refine lv_topi (fun x_102 ex_102 => ?_)
                    refine lv_iand hx hb dX12_line_146 ?_
                    refine lv_topi (fun x_103 ex_103 => ?_)
                    have g_105 := z_rng (f_92 28)
                    have f_d103 := z_andL ex_103 rfl (by omega)
                    refine mp_28 C hM hs hP hS ha0 hT hk0 wf_X12_256 (show 0 ≤ x_103.toInt ∧ x_103.toInt ≤ 65535 from by omega) dX12_line_147 (fun f_104 H locs hE_104 hT hP hS => ?_)
                    have FF := frF FF (frFu hE_104) (by decide)
                    refine lv_aload_n hx hb dX12_line_150 rfl (lv_at hl 9 rfl) ?_
                    refine mg_15 C hs hP ha0 hk0 wf_X12_39 dX12_line_151 ?_
                    have hf_106 := hO.r (j := 15) ha0 hk0 (rfl : zX 11 15 = some (55, 4))
                    refine lv_aload_n hx hb dX12_line_154 rfl (lv_at hl 9 rfl) ?_
                    refine mg_16 C hs hP ha0 hk0 wf_X12_127 dX12_line_155 ?_
                    have ev_107 : f_104 16 = f_92 16 := by rw [hE_104, pk_un (show 16 ≠ 28 by decide)]
                    rw [ev_107]
                    have tf_108 : 0 ≤ (f_92 16).toInt ∧ (f_92 16).toInt ≤ 4 := by rw [← ev_107]; exact hT.1 16
                    refine lv_aload_n hx hb dX12_line_158 rfl (lv_at hl 9 rfl) ?_
                    refine mg_18 C hs hP ha0 hk0 wf_X12_42 dX12_line_159 ?_
                    have hf_109 := hO.r (j := 18) ha0 hk0 (rfl : zX 11 18 = some (58, 16))
                    refine lv_iload hx hb dX12_line_162 (lv_at hl 0 rfl) ?_
                    have g_111 := z_rng (A_61 66 y_57.toNatClampNeg)
                    obtain ⟨f_97, l_97, u_97⟩ := z_mul ex_97 ti_4 rfl
                    try replace f_97 : x_97.toInt = 4 * (A_61 66 y_57.toNatClampNeg).toInt := by omega
                    clear l_97 u_97
                    have g_112 := z_rng (f_92 34)
                    obtain ⟨f_99, l_99, u_99⟩ := z_add ex_99 rfl rfl
                    try replace f_99 : x_99.toInt = x_97.toInt + (f_92 34).toInt := by omega
                    clear l_99 u_99
                    have hin_110 : vp_in x_99 (zn K (zr K a0 18)) := vp_in_iff.mpr (by rw [(hf_109.2.2 (by decide))]; refine ⟨?_, ?_⟩ <;> omega)
                    refine mld_58 C hs hP hf_109.1 hf_109.2.1 hin_110 dX12_line_164 ?_
                    have ev_113 : A_92 58 x_99.toNatClampNeg = A_61 58 x_99.toNatClampNeg := by rw [hA_92 58 (by decide)]
                    have tv_114 := ra_58 hT (vp_in_iff.mp hin_110).1 (by have h7 := (vp_in_iff.mp hin_110).2; rw [(hf_109.2.2 (by decide))] at h7; exact h7)
                    rw [ev_113] at tv_114
                    rw [ev_113]
                    have hTo := hT
                    have g_116 := z_rng (f_92 16)
                    have hin_115 : vp_in (f_92 16) (zn K (zr K a0 15)) := vp_in_iff.mpr (by rw [(hf_106.2.2 (by decide))]; refine ⟨?_, ?_⟩ <;> omega)
                    have g_118 := z_rng (A_61 58 x_99.toNatClampNeg)
                    refine mst_55 C hM hs hP hS hf_106.1 hT hf_106.2.1 hin_115 (show 0 ≤ (A_61 58 x_99.toNatClampNeg).toInt ∧ (A_61 58 x_99.toNatClampNeg).toInt ≤ 59 from by omega) dX12_line_165 (fun A_117 H locs hE_117 hT hP hS => ?_)
                    have FA := frA FA (frAu hE_117) (by decide)
                    have aRc : aR (A_117 40) (N) := by rw [frAu hE_117 40 (by decide)]; exact aRc
                    refine lv_aload_n hx hb dX12_line_166 rfl (lv_at hl 9 rfl) ?_
                    refine lv_dup hx hb dX12_line_167 rfl ?_
                    refine mg_16 C hs hP ha0 hk0 wf_X12_127 dX12_line_168 ?_
                    have ev_119 : f_104 16 = f_92 16 := by rw [hE_104, pk_un (show 16 ≠ 28 by decide)]
                    rw [ev_119]
                    refine lv_iconst (v := 1) hx hb dX12_line_171 (by decide) ?_
                    refine lv_iadd hx hb dX12_line_172 ?_
                    refine lv_topi (fun x_120 ex_120 => ?_)
                    obtain ⟨f_120, l_120, u_120⟩ := z_add ex_120 rfl ti_1
                    try replace f_120 : x_120.toInt = (f_92 16).toInt + 1 := by omega
                    clear l_120 u_120
                    refine mp_16 C hM hs hP hS ha0 hT hk0 wf_X12_127 (show 0 ≤ x_120.toInt ∧ x_120.toInt ≤ 4 from by omega) dX12_line_173 (fun f_121 H locs hE_121 hT hP hS => ?_)
                    have FF := frF FF (frFu hE_121) (by decide)
                    refine lv_iload hx hb dX12_line_176 (lv_at hl 3 rfl) ?_
                    refine lv_iload_n hx hb dX12_line_178 rfl (lv_at hl 12 rfl) ?_
                    refine bi_ne (tgt := 192) hx hb rfl rfl dX12_line_179 (by decide) (fun c_122 => ?_) (fun c_122 => ?_)
                    · skip
                      refine lv_iload hx hb dX12_line_192 (lv_at hl 2 rfl) ?_
                      refine lv_istore (lv' := [(10, .int y_58), (12, .int x_99), (11, .int y_57), (9, .int y_59), (8, .int y_24), (7, .int y_25), (6, .int x_11), (5, .int x_5), (4, .int x_1), (0, .ref a0), (1, .int x1), (2, .int x2), (3, .int x3)]) hx hb dX12_line_194 hl (by decide) rfl (fun ls hl => ?_)
                      obtain ⟨x_123, ex_123⟩ : ∃ y : Int32, y = y_59 + 1 := ⟨_, rfl⟩
                      refine lv_iinc (v := x_123) (lv' := [(9, .int x_123), (10, .int y_58), (12, .int x_99), (11, .int y_57), (8, .int y_24), (7, .int y_25), (6, .int x_11), (5, .int x_5), (4, .int x_1), (0, .ref a0), (1, .int x1), (2, .int x2), (3, .int x3)]) hx hb dX12_line_196 hl (k := 3) rfl (by rw [ex_123]; rfl) (by decide) rfl (fun ls hl => ?_)
                      obtain ⟨x_124, ex_124⟩ : ∃ y : Int32, y = y_57 + 1 := ⟨_, rfl⟩
                      refine lv_iinc (v := x_124) (lv' := [(11, .int x_124), (9, .int x_123), (10, .int y_58), (12, .int x_99), (8, .int y_24), (7, .int y_25), (6, .int x_11), (5, .int x_5), (4, .int x_1), (0, .ref a0), (1, .int x1), (2, .int x2), (3, .int x3)]) hx hb dX12_line_199 hl (k := 3) rfl (by rw [ex_124]; rfl) (by decide) rfl (fun ls hl => ?_)
                      refine lv_goto (tgt := 102) hx hb dX12_line_202 (by decide) ?_
                      obtain ⟨f_124, l_124, u_124⟩ := z_add ex_124 rfl ti_1
                      try replace f_124 : x_124.toInt = y_57.toInt + 1 := by omega
                      clear l_124 u_124
                      have g_125 := z_rng y_58
                      have g_126 := z_rng y_59
                      obtain ⟨f_123, l_123, u_123⟩ := z_add ex_123 rfl ti_1
                      try replace f_123 : x_123.toInt = y_59.toInt + 1 := by omega
                      clear l_123 u_123
                      have g_127 := z_rng (f_61 27)
                      have g_128 := z_rng x3
                      have ev_129 : f_121 16 = x_120 := by rw [hE_121, pk_us]
                      have ev_130 : f_121 27 = f_61 27 := by rw [hE_121, pk_un (show 27 ≠ 16 by decide), hE_104, pk_un (show 27 ≠ 28 by decide), hF_92 27 (by decide)]
                      have ev_131 : f_121 11 = f_92 11 := by rw [hE_121, pk_un (show 11 ≠ 16 by decide), hE_104, pk_un (show 11 ≠ 28 by decide)]
                      have ev_132 : f_121 12 = f_61 12 := by rw [hE_121, pk_un (show 12 ≠ 16 by decide), hE_104, pk_un (show 12 ≠ 28 by decide), hF_92 12 (by decide)]
                      have ev_133 : f_121 23 = f_61 23 := by rw [hE_121, pk_un (show 23 ≠ 16 by decide), hE_104, pk_un (show 23 ≠ 28 by decide), hF_92 23 (by decide)]
                      have ev_134 : f_121 20 = f_61 20 := by rw [hE_121, pk_un (show 20 ≠ 16 by decide), hE_104, pk_un (show 20 ≠ 28 by decide), hF_92 20 (by decide)]
                      exact ih_60 f_121 A_117 _ _ x_124 y_58 x_123 _ (by omega) (by omega) (by rw [ev_130]; omega) (by rw [ev_129]; omega) (by rw [ev_130]; exact iv_61_3) (Or.elim dj (fun hc => Or.inl hc) (fun hc => Or.inr (by obtain ⟨e1, e2, e3⟩ := z_add ex_123 rfl ti_1; omega))) (by have hq0 := qq_92 (by omega); rw [ev_131]; omega) (by rw [ev_132]; first | exact ti_1 | omega) (by rw [ev_133]; exact iv_61_7) (by rw [ev_134]; exact iv_61_8) FA FF hT hP hS (lv_sub hl [0, 2, 1, 4, 5, 6, 7, 8, 9, 10, 11, 12] rfl)
                    · skip
                      refine lv_aload_n hx hb dX12_line_182 rfl (lv_at hl 9 rfl) ?_
                      refine mg_18 C hs hP ha0 hk0 wf_X12_42 dX12_line_183 ?_
                      refine lv_iload hx hb dX12_line_186 (lv_at hl 0 rfl) ?_
                      have hin_135 : vp_in x_99 (zn K (zr K a0 18)) := vp_in_iff.mpr (by rw [(hf_109.2.2 (by decide))]; refine ⟨?_, ?_⟩ <;> omega)
                      refine mld_58 C hs hP hf_109.1 hf_109.2.1 hin_135 dX12_line_188 ?_
                      have ev_136 : A_117 58 x_99.toNatClampNeg = A_61 58 x_99.toNatClampNeg := by rw [hE_117, va_up_ne _ _ (show 58 ≠ 55 by decide), hA_92 58 (by decide)]
                      rw [ev_136]
                      refine lv_goto (tgt := 194) hx hb dX12_line_189 (by decide) ?_
                      refine lv_istore (lv' := [(10, .int (A_61 58 x_99.toNatClampNeg)), (12, .int x_99), (11, .int y_57), (9, .int y_59), (8, .int y_24), (7, .int y_25), (6, .int x_11), (5, .int x_5), (4, .int x_1), (0, .ref a0), (1, .int x1), (2, .int x2), (3, .int x3)]) hx hb dX12_line_194 hl (by decide) rfl (fun ls hl => ?_)
                      obtain ⟨x_137, ex_137⟩ : ∃ y : Int32, y = y_59 + 1 := ⟨_, rfl⟩
                      refine lv_iinc (v := x_137) (lv' := [(9, .int x_137), (10, .int (A_61 58 x_99.toNatClampNeg)), (12, .int x_99), (11, .int y_57), (8, .int y_24), (7, .int y_25), (6, .int x_11), (5, .int x_5), (4, .int x_1), (0, .ref a0), (1, .int x1), (2, .int x2), (3, .int x3)]) hx hb dX12_line_196 hl (k := 3) rfl (by rw [ex_137]; rfl) (by decide) rfl (fun ls hl => ?_)
                      obtain ⟨x_138, ex_138⟩ : ∃ y : Int32, y = y_57 + 1 := ⟨_, rfl⟩
                      refine lv_iinc (v := x_138) (lv' := [(11, .int x_138), (9, .int x_137), (10, .int (A_61 58 x_99.toNatClampNeg)), (12, .int x_99), (8, .int y_24), (7, .int y_25), (6, .int x_11), (5, .int x_5), (4, .int x_1), (0, .ref a0), (1, .int x1), (2, .int x2), (3, .int x3)]) hx hb dX12_line_199 hl (k := 3) rfl (by rw [ex_138]; rfl) (by decide) rfl (fun ls hl => ?_)
                      refine lv_goto (tgt := 102) hx hb dX12_line_202 (by decide) ?_
                      obtain ⟨f_138, l_138, u_138⟩ := z_add ex_138 rfl ti_1
                      try replace f_138 : x_138.toInt = y_57.toInt + 1 := by omega
                      clear l_138 u_138
                      have g_139 := z_rng y_59
                      obtain ⟨f_137, l_137, u_137⟩ := z_add ex_137 rfl ti_1
                      try replace f_137 : x_137.toInt = y_59.toInt + 1 := by omega
                      clear l_137 u_137
                      have g_140 := z_rng (f_61 27)
                      have g_141 := z_rng x3
                      have ev_142 : f_121 16 = x_120 := by rw [hE_121, pk_us]
                      have ev_143 : f_121 27 = f_61 27 := by rw [hE_121, pk_un (show 27 ≠ 16 by decide), hE_104, pk_un (show 27 ≠ 28 by decide), hF_92 27 (by decide)]
                      have ev_144 : f_121 11 = f_92 11 := by rw [hE_121, pk_un (show 11 ≠ 16 by decide), hE_104, pk_un (show 11 ≠ 28 by decide)]
                      have ev_145 : f_121 12 = f_61 12 := by rw [hE_121, pk_un (show 12 ≠ 16 by decide), hE_104, pk_un (show 12 ≠ 28 by decide), hF_92 12 (by decide)]
                      have ev_146 : f_121 23 = f_61 23 := by rw [hE_121, pk_un (show 23 ≠ 16 by decide), hE_104, pk_un (show 23 ≠ 28 by decide), hF_92 23 (by decide)]
                      have ev_147 : f_121 20 = f_61 20 := by rw [hE_121, pk_un (show 20 ≠ 16 by decide), hE_104, pk_un (show 20 ≠ 28 by decide), hF_92 20 (by decide)]
                      exact ih_60 f_121 A_117 _ _ x_138 (A_61 58 x_99.toNatClampNeg) x_137 _ (by omega) (by omega) (by rw [ev_143]; omega) (by rw [ev_142]; omega) (by rw [ev_143]; exact iv_61_3) (Or.inl (by omega)) (by have hq0 := qq_92 (by omega); rw [ev_144]; omega) (by rw [ev_145]; first | exact ti_1 | omega) (by rw [ev_146]; exact iv_61_7) (by rw [ev_147]; exact iv_61_8) FA FF hT hP hS (lv_sub hl [0, 2, 1, 4, 5, 6, 7, 8, 9, 10, 11, 12] rfl)
              have g_148 := z_rng y_22
              have g_149 := z_rng y_23
              have g_150 := z_rng x3
              have ev_151 : f_56 16 = (0 : Int32) := by rw [hE_56, pk_us]
              have ev_151_i : (f_56 16).toInt = 0 := by rw [ev_151, ti_0]
              have ev_152 : f_56 27 = f_54 27 := by rw [hE_56, pk_un (show 27 ≠ 16 by decide), hE_55, pk_un (show 27 ≠ 28 by decide)]
              have t27_153 : 0 ≤ (f_56 27).toInt ∧ (f_56 27).toInt ≤ 4 := hT.1 27
              have ev_154 : f_56 11 = f_27 11 := by rw [hE_56, pk_un (show 11 ≠ 16 by decide), hE_55, pk_un (show 11 ≠ 28 by decide), hF_54 11 (by decide)]
              have ev_155 : f_56 12 = f_27 12 := by rw [hE_56, pk_un (show 12 ≠ 16 by decide), hE_55, pk_un (show 12 ≠ 28 by decide), hF_54 12 (by decide)]
              have ev_156 : f_56 23 = f_27 23 := by rw [hE_56, pk_un (show 23 ≠ 16 by decide), hE_55, pk_un (show 23 ≠ 28 by decide), hF_54 23 (by decide)]
              have ev_157 : f_56 20 = f_27 20 := by rw [hE_56, pk_un (show 20 ≠ 16 by decide), hE_55, pk_un (show 20 ≠ 28 by decide), hF_54 20 (by decide)]
              exact L_102_60 _ f_56 A_54 _ _ 0 y_22 y_23 _ (Nat.lt_succ_self _) (by (try simp only [ti_0]); omega) (by rw [ti_0]; omega) (by rw [ev_151]) (by rw [ev_152]) (Or.inr ⟨by rw [ti_0]; omega, by omega⟩) (by rw [ev_154]; omega) (by rw [ev_155]; first | exact ti_1 | omega) (by rw [ev_156]; exact iv_27_5) (by rw [ev_157]; exact iv_27_6) FA FF hT hP hS (lv_sub hl [0, 1, 2, 3, 4, 5, 6, 7, 8, 9, 10, 11] rfl)
    have g_158 := z_rng (A 40 (x_5.toInt + 9).toNat)
    have g_159 := z_rng (f_11 20)
    have g_160 := z_rng x_1
    have hm_z161 : (A 40 (x_5.toInt + 9).toNat).toInt ≠ -1 → (f_11 20).toInt ≠ 0 := fun h9 => by
      have h8 := (hp0.1 x1.toInt (by omega) (by omega)).1.2 (pp_1 (by omega)).2.2.2.2.1 (by rw [← hbo_8]; exact h9)
      rw [← hbo_8] at h8
      have h6 := pp0_11.2.2.1 _ h8.1 (by have h5 := h8.2.1; omega) h8.2.2.1
      omega
    have hm_r161 := hT.1 20
    have ev_162 : f_12 11 = f_11 11 := by rw [hE_12, pk_un (show 11 ≠ 12 by decide)]
    have ev_163 : f_12 12 = (1 : Int32) := by rw [hE_12, pk_us]
    have ev_163_i : (f_12 12).toInt = 1 := by rw [ev_163, ti_1]
    have ev_164 : f_12 23 = f_11 23 := by rw [hE_12, pk_un (show 23 ≠ 12 by decide)]
    have ev_165 : f_12 20 = f_11 20 := by rw [hE_12, pk_un (show 20 ≠ 12 by decide)]
    exact L_62_26 _ f_12 A_11 _ _ (-1) 0 (A 40 (x_5.toInt + 9).toNat) (f_11 20) _ (Nat.lt_succ_self _) (by omega) (by omega) (zHid.mk hm_z161) (by rw [ev_162]; omega) (by rw [ev_163]; first | exact ti_1 | omega) (by rw [ev_164]) (by rw [ev_165]) FA FF hT hP hS (lv_sub hl [0, 1, 2, 3, 4, 5, 6, 7, 8, 9, 10] rfl)
  · skip
    refine lv_iload hx hb dX12_line_13 (lv_at hl 0 rfl) ?_
    exact maI hQ hx hb hr hlk hP hS ⟨hT, FA, FF, ⟨(aRc.mono (by omega)), hp0.2.1, by omega, by omega⟩⟩ dX12_line_15
