set_option maxHeartbeats 4000000 in
set_option maxRecDepth 100000 in
theorem c_X12_again (l : Launch) (D : va_G) (K : zK) (hM : mK K) (f : Nat → Int32) (A : Nat → Nat → Int32) (hT : mT f A) (a0 : Nat) (ha0 : a0 ∈ zl K) (hk0 : zk K a0 = 11) (x1 : Int32) (x2 : Int32) (x3 : Int32) (x4 : Int32) (hp0 : rowN (A 40) 5160) (hp1 : (x1.toInt ≠ 0 → 0 ≤ x2.toInt ∧ x2.toInt ≤ 3)) (hp2 : (x1.toInt = 1 → 0 ≤ x3.toInt ∧ x3.toInt < (A 40 ((5160 : Int) + 1).toNat).toInt)) (hp3 : (x1.toInt = 6 → x2.toInt ≤ 1)) (hp4 : (f 12).toInt ≠ 0) (hp5 : (f 11).toInt ≤ 1900000000) (hp6 : (f 9).toInt ≤ 1900000000) : Met l yX12_again (zc yX12_again cX12_again 6 none) (rmd 7) (va_Pc [.ref a0, .int x1, .int x2, .int x3, .int x4] (zB D K (mV K f A))) (mQv D K (fun f' A' => mT f' A' ∧ (∀ k, k ∉ ([40, 48, 50, 53, 55, 58, 59, 61, 62, 66, 69, 70, 71, 72, 73] : List Nat) → A' k = A k) ∧ (∀ k, k ∉ ([9, 11, 12, 14, 16, 17, 20, 23, 24, 25, 27, 28, 34, 35] : List Nat) → f' k = f k) ∧ fC (A 40) (A' 40) 5160 ([(5, 5), (9, 44), (110, 889)] : List (Int × Int)) ∧ rowN (A' 40) 5160 ∧ (f' 11).toInt = (f 11).toInt ∧ (f' 12).toInt = (f 12).toInt ∧ (f 9).toInt ≤ (f' 9).toInt ∧ (f' 9).toInt ≤ (f 9).toInt + 2 ∧ (A' 40 ((5160 : Int) + 44).toNat).toInt ≤ (A 40 ((5160 : Int) + 44).toNat).toInt)) 0 0 (zA K) := by
  refine zin (by decide) (Nat.le_of_ble_eq_true rfl) ?_
  intro p e s m args below meth c ls Q hQ C hr hlk hP hs hl
  have C : CallFix p m c cX12_again 6 s args zw RX12 := C
  obtain ⟨hx, hb, hml, hown, hts⟩ := id C
  have hO := hM.1
  have hS : va_S (zA K) s.heap s.heap [] := va_S.rf
  have FA : ∀ k, k ∉ ([40, 48, 50, 53, 55, 58, 59, 61, 62, 66, 69, 70, 71, 72, 73] : List Nat) → A k = A k := fun _ _ => rfl
  have FF : ∀ k, k ∉ ([9, 11, 12, 14, 16, 17, 20, 23, 24, 25, 27, 28, 34, 35] : List Nat) → f k = f k := fun _ _ => rfl
  have FC : fC (A 40) (A 40) 5160 ([(5, 5), (9, 44), (110, 889)] : List (Int × Int)) := fun _ _ _ => rfl
  have hl : lv_has ls 6 [(0, .ref a0), (1, .int x1), (2, .int x2), (3, .int x3), (4, .int x4)] := hl
  have hz1 := zHid.mk hp1
  clear hp1
  have hz2 := zHid.mk hp2
  clear hp2
  have hz3 := zHid.mk hp3
  clear hp3
  have hRN := hp0
  have tR0 : tR (A 40) 5160 := hT.row (zRow.of (t := 4) (by decide) (by decide))
  have t1 := tR0.p1
  have t44 := tR0.p44
  refine lv_sipush (v := 5160) hx hb dX12_again_0 (by decide) ?_
  refine lv_topi (fun x_1 ex_1 => ?_)
  refine lv_istore (lv' := [(5, .int x_1), (0, .ref a0), (1, .int x1), (2, .int x2), (3, .int x3), (4, .int x4)]) hx hb dX12_again_3 hl (by decide) rfl (fun ls hl => ?_)
  refine lv_aload_n hx hb dX12_again_5 rfl (lv_at hl 1 rfl) ?_
  refine lv_iconst (v := (-1)) hx hb dX12_again_6 (by decide) ?_
  refine mp_23 C hM hs hP hS ha0 hT hk0 wf_X12_56 trivial dX12_again_7 (fun f_2 H locs hE_2 hT hP hS => ?_)
  have FF := frF FF (frFu hE_2) (by decide)
  refine lv_iload_n hx hb dX12_again_10 rfl (lv_at hl 2 rfl) ?_
  rcases Classical.em (x1.toInt = 0) with c_3 | c_3
  · refine lv_tableIn (tgt := 52) hx hb dX12_again_11 (by omega) (by omega) (by rw [c_3]; rfl) (by decide) ?_
    refine lv_aload_n hx hb dX12_again_52 rfl (lv_at hl 1 rfl) ?_
    refine lv_iload hx hb dX12_again_53 (lv_at hl 0 rfl) ?_
    refine lv_iload_n hx hb dX12_again_55 rfl (lv_at hl 3 rfl) ?_
    refine lv_iload_n hx hb dX12_again_56 rfl (lv_at hl 4 rfl) ?_
    have f_d1 : x_1.toInt = 5160 := by rw [ex_1]; exact ti_5160
    have hbs_4 : zRow x_1.toInt := zRow.of (t := 4) (by omega) (by omega)
    have hbl_hbs_4 := hbs_4.lin
    have g_5 := z_rng x2
    have g_6 := z_rng x3
    have ev_8 : f_2 11 = f 11 := by rw [hE_2, pk_un (show 11 ≠ 23 by decide)]
    have hbo_9 : x_1.toInt = 5160 := by omega
    have hq_7 : (f_2 11).toInt ≤ 1990000000 := by rw [ev_8] <;> (first | assumption | omega | (intros; omega))
    refine mcV (zrV (As := [.int x_1, .int x2, .int x3]) (b := a0) (rest := []) C hs hP hS (c_X12_dealOut l D K hM f_2 A hT a0 ha0 hk0 x_1 x2 x3 hbs_4 hq_7) m_X12_dealOut wm_X12_168 (zrecv hs hP ha0 (zF_11 hk0) rfl) ⟨by decide, by decide⟩ hl.1 (Nat.le_of_ble_eq_true rfl) dX12_again_57) hS (fun f_10 A_10 H locs p_10 hP hS => ?_)
    obtain ⟨hT, hA_10, hF_10, hC_10, pp_10⟩ := p_10
    have pp_10 : (f_2 11).toInt ≤ (f_10 11).toInt ∧ (f_10 11).toInt ≤ (f_2 11).toInt + 1 ∧ ((f_2 12).toInt ≠ 0 → (f_10 11).toInt = (f_2 11).toInt) ∧ rowN (A_10 40) x_1.toInt ∧ (A_10 40 (x_1.toInt + 44).toNat).toInt = 0 := pp_10
    have pp0_10 := zHid.mk pp_10
    have ev_11 : f_2 11 = f 11 := by rw [hE_2, pk_un (show 11 ≠ 23 by decide)]
    have ev_12 : f_2 12 = f 12 := by rw [hE_2, pk_un (show 12 ≠ 23 by decide)]
    rw [ev_11, ev_12] at pp_10
    have pa_10 := pp_10.1
    have pb_10 := pp_10.2.1
    have qq_10 := zHid.mk pp_10.2.2.1
    replace pp_10 := pp_10.2.2.2
    have FA := frA FA hA_10 (by decide)
    have FF := frF FF hF_10 (by decide)
    have FC := fC.tr FC (fC.mv hC_10 (by omega)) (by decide)
    have hRN : rowN (A_10 40) 5160 := by rw [← hbo_9]; exact pp0_10.2.2.2.1
    have h44 : (A_10 40 ((5160 : Int) + 44).toNat).toInt = 0 := by rw [← hbo_9]; exact pp0_10.2.2.2.2
    refine lv_goto (tgt := 218) hx hb dX12_again_60 (by decide) ?_
    have ev_13 : f_10 12 = f 12 := by rw [hF_10 12 (by decide), hE_2, pk_un (show 12 ≠ 23 by decide)]
    have ev_14 : f_10 9 = f 9 := by rw [hF_10 9 (by decide), hE_2, pk_un (show 9 ≠ 23 by decide)]
    exact maV hQ hx hb hr hlk hP hS ⟨hT, FA, FF, FC, ⟨hRN, by have hq0 := qq_10 (by omega); omega, by rw [ev_13] <;> omega, by rw [ev_14] <;> omega, by rw [ev_14] <;> omega, (by rw [h44]; omega)⟩⟩ dX12_again_218
  · have d_15 := c_3
    rcases Classical.em (x1.toInt = 1) with c_16 | c_16
    · refine lv_tableIn (tgt := 63) hx hb dX12_again_11 (by omega) (by omega) (by rw [c_16]; rfl) (by decide) ?_
      refine lv_aload_n hx hb dX12_again_63 rfl (lv_at hl 1 rfl) ?_
      refine lv_iload hx hb dX12_again_64 (lv_at hl 0 rfl) ?_
      refine lv_iload_n hx hb dX12_again_66 rfl (lv_at hl 3 rfl) ?_
      refine lv_iload_n hx hb dX12_again_67 rfl (lv_at hl 4 rfl) ?_
      have f_d1 : x_1.toInt = 5160 := by rw [ex_1]; exact ti_5160
      have hbs_17 : zRow x_1.toInt := zRow.of (t := 4) (by omega) (by omega)
      have hbl_hbs_17 := hbs_17.lin
      have g_18 := z_rng x2
      have g_19 := z_rng x3
      have hbo_21 : x_1.toInt = 5160 := by omega
      have ha1 := hz1 (by omega)
      have ha2 := hz2 (by omega)
      have hq_20 : 0 ≤ x2.toInt ∧ x2.toInt ≤ 3 := by (first | assumption | omega | (intros; omega))
      have hq_22 : 0 ≤ x3.toInt ∧ x3.toInt ≤ 59 := by (first | assumption | omega | (intros; omega))
      refine zcS (zrV (As := [.int x_1, .int x2, .int x3]) (b := a0) (rest := []) C hs hP hS (c_X12_barsGive l D K hM f_2 A hT a0 ha0 hk0 x_1 x2 x3 hbs_17 hq_20 hq_22) m_X12_barsGive wm_X12_181 (zrecv hs hP ha0 (zF_11 hk0) rfl) ⟨by decide, by decide⟩ hl.1 (Nat.le_of_ble_eq_true rfl) dX12_again_68) (fun x_23 p_23 => ?_)
      have pp_23 : (0 ≤ x_23.toInt → (A 40 (x_1.toInt + x2.toInt + 22).toNat).toInt < 15 ∧ (A 40 (x_1.toInt + 5).toNat).toInt = 1 ∧ (A 40 (x_1.toInt + x3.toInt + 110).toNat).toInt = 0) := p_23
      refine bz_ne (tgt := 218) hx hb rfl dX12_again_71 (by decide) (fun c_24 => ?_) (fun c_24 => ?_)
      · skip
        have ev_25 : f_2 11 = f 11 := by rw [hE_2, pk_un (show 11 ≠ 23 by decide)]
        have ev_26 : f_2 12 = f 12 := by rw [hE_2, pk_un (show 12 ≠ 23 by decide)]
        have ev_27 : f_2 9 = f 9 := by rw [hE_2, pk_un (show 9 ≠ 23 by decide)]
        exact maV hQ hx hb hr hlk hP hS ⟨hT, FA, FF, FC, ⟨hp0, by rw [ev_25] <;> omega, by rw [ev_26] <;> omega, by rw [ev_27] <;> omega, by rw [ev_27] <;> omega, (Int.le_refl _)⟩⟩ dX12_again_218
      · skip
        refine lv_aload_n hx hb dX12_again_74 rfl (lv_at hl 1 rfl) ?_
        refine lv_iload hx hb dX12_again_75 (lv_at hl 0 rfl) ?_
        refine lv_iload_n hx hb dX12_again_77 rfl (lv_at hl 3 rfl) ?_
        refine lv_iload_n hx hb dX12_again_78 rfl (lv_at hl 4 rfl) ?_
        have hq_29 : 0 ≤ x2.toInt ∧ x2.toInt ≤ 3 := by ((first | omega | (rw [hbo_21]; omega) | (have h8 := pp_23 (by omega); omega)))
        have hq_30 : 0 ≤ x3.toInt ∧ x3.toInt ≤ 59 ∧ x3.toInt < (A 40 (x_1.toInt + 1).toNat).toInt := by ((first | omega | (rw [hbo_21]; omega) | (have h8 := pp_23 (by omega); omega)))
        have hq_31 : (A 40 (x_1.toInt + x3.toInt + 110).toNat).toInt = 0 := by ((first | omega | (rw [hbo_21]; omega) | (have h8 := pp_23 (by omega); omega)))
        have hq_32 : (A 40 (x_1.toInt + x2.toInt + 22).toNat).toInt ≤ 59 := by ((first | omega | (rw [hbo_21]; omega) | (have h8 := pp_23 (by omega); omega)))
        have hq_33 : rowN (A 40) x_1.toInt := by (rw [hbo_21]; exact hp0)
        refine mcV (zrV (As := [.int x_1, .int x2, .int x3]) (b := a0) (rest := []) C hs hP hS (c_X12_doGive l D K hM f_2 A hT a0 ha0 hk0 x_1 x2 x3 hbs_17 hq_29 hq_30 hq_31 hq_32 hq_33) m_X12_doGive wm_X12_184 (zrecv hs hP ha0 (zF_11 hk0) rfl) ⟨by decide, by decide⟩ hl.1 (Nat.le_of_ble_eq_true rfl) dX12_again_79) hS (fun f_34 A_34 H locs p_34 hP hS => ?_)
        obtain ⟨hT, hA_34, hF_34, hC_34, pp_34⟩ := p_34
        have pp_34 : rowN (A_34 40) x_1.toInt := pp_34
        have pp0_34 := zHid.mk pp_34
        have hff_34 : f_2 = f_34 := funext (fun k9 => (hF_34 k9 List.not_mem_nil).symm)
        subst hff_34
        have FA := frA FA hA_34 (by decide)
        have FF := frF FF hF_34 (by decide)
        have FC := fC.tr FC (fC.mv hC_34 (by omega)) (by decide)
        have hRN : rowN (A_34 40) 5160 := by rw [← hbo_21]; exact pp0_34
        refine lv_goto (tgt := 218) hx hb dX12_again_82 (by decide) ?_
        have ev_35 : f_2 11 = f 11 := by rw [hE_2, pk_un (show 11 ≠ 23 by decide)]
        have ev_36 : f_2 12 = f 12 := by rw [hE_2, pk_un (show 12 ≠ 23 by decide)]
        have ev_37 : f_2 9 = f 9 := by rw [hE_2, pk_un (show 9 ≠ 23 by decide)]
        exact maV hQ hx hb hr hlk hP hS ⟨hT, FA, FF, FC, ⟨hRN, by rw [ev_35] <;> omega, by rw [ev_36] <;> omega, by rw [ev_37] <;> omega, by rw [ev_37] <;> omega, (by rw [(fC.mv hC_34 (show (5160 : Int) = _ by omega)).ar (by decide) (lo := 44) (hi := 44) (by decide) (5160 + 44) (by decide) (by decide) (by decide)]; exact Int.le_refl _)⟩⟩ dX12_again_218
    · have d_39 := c_16
      rcases Classical.em (x1.toInt = 2) with c_40 | c_40
      · refine lv_tableIn (tgt := 85) hx hb dX12_again_11 (by omega) (by omega) (by rw [c_40]; rfl) (by decide) ?_
        refine lv_aload_n hx hb dX12_again_85 rfl (lv_at hl 1 rfl) ?_
        refine lv_iload hx hb dX12_again_86 (lv_at hl 0 rfl) ?_
        refine lv_iload_n hx hb dX12_again_88 rfl (lv_at hl 3 rfl) ?_
        refine lv_iload_n hx hb dX12_again_89 rfl (lv_at hl 4 rfl) ?_
        refine lv_iload hx hb dX12_again_90 (lv_at hl 5 rfl) ?_
        have f_d1 : x_1.toInt = 5160 := by rw [ex_1]; exact ti_5160
        have hbs_41 : zRow x_1.toInt := zRow.of (t := 4) (by omega) (by omega)
        have hbl_hbs_41 := hbs_41.lin
        have g_42 := z_rng x2
        have g_43 := z_rng x3
        have g_44 := z_rng x4
        have hbo_46 : x_1.toInt = 5160 := by omega
        have ha1 := hz1 (by omega)
        have hq_45 : 0 ≤ x2.toInt ∧ x2.toInt ≤ 3 := by (first | assumption | omega | (intros; omega))
        refine zcS (zrV (As := [.int x_1, .int x2, .int x3, .int x4]) (b := a0) (rest := []) C hs hP hS (c_X12_canBid l D K hM f_2 A hT a0 ha0 hk0 x_1 x2 x3 x4 hbs_41 hq_45) m_X12_canBid wm_X12_187 (zrecv hs hP ha0 (zF_11 hk0) rfl) ⟨by decide, by decide⟩ hl.1 (Nat.le_of_ble_eq_true rfl) dX12_again_92) (fun x_47 p_47 => ?_)
        refine bz_eq (tgt := 218) hx hb rfl dX12_again_95 (by decide) (fun c_48 => ?_) (fun c_48 => ?_)
        · skip
          have ev_49 : f_2 11 = f 11 := by rw [hE_2, pk_un (show 11 ≠ 23 by decide)]
          have ev_50 : f_2 12 = f 12 := by rw [hE_2, pk_un (show 12 ≠ 23 by decide)]
          have ev_51 : f_2 9 = f 9 := by rw [hE_2, pk_un (show 9 ≠ 23 by decide)]
          exact maV hQ hx hb hr hlk hP hS ⟨hT, FA, FF, FC, ⟨hp0, by rw [ev_49] <;> omega, by rw [ev_50] <;> omega, by rw [ev_51] <;> omega, by rw [ev_51] <;> omega, (Int.le_refl _)⟩⟩ dX12_again_218
        · skip
          refine lv_aload_n hx hb dX12_again_98 rfl (lv_at hl 1 rfl) ?_
          refine lv_iload hx hb dX12_again_99 (lv_at hl 0 rfl) ?_
          refine lv_iload_n hx hb dX12_again_101 rfl (lv_at hl 3 rfl) ?_
          refine lv_iload_n hx hb dX12_again_102 rfl (lv_at hl 4 rfl) ?_
          refine lv_iload hx hb dX12_again_103 (lv_at hl 5 rfl) ?_
          refine mcV (zrV (As := [.int x_1, .int x2, .int x3, .int x4]) (b := a0) (rest := []) C hs hP hS (c_X12_doBid l D K hM f_2 A hT a0 ha0 hk0 x_1 x2 x3 x4 hbs_41) m_X12_doBid wm_X12_191 (zrecv hs hP ha0 (zF_11 hk0) rfl) ⟨by decide, by decide⟩ hl.1 (Nat.le_of_ble_eq_true rfl) dX12_again_105) hS (fun f_53 A_53 H locs p_53 hP hS => ?_)
          obtain ⟨hT, hA_53, hF_53, hC_53⟩ := p_53
          have hff_53 : f_2 = f_53 := funext (fun k9 => (hF_53 k9 List.not_mem_nil).symm)
          subst hff_53
          have FA := frA FA hA_53 (by decide)
          have FF := frF FF hF_53 (by decide)
          have FC := fC.tr FC (fC.mv hC_53 (by omega)) (by decide)
          have hc_53 : fC (A 40) (A_53 40) 5160 [(10, 13)] := fC.mv hC_53 (by omega)
          have hRN : rowN (A_53 40) 5160 := rowN.fw (by exact hp0) (by exact tR0) (by decide) hc_53 (wz_of hc_53 (by decide) (by decide)) (by decide) (by decide) (by decide) (by decide) (by decide) (by decide) (by decide)
          refine lv_goto (tgt := 218) hx hb dX12_again_108 (by decide) ?_
          have ev_54 : f_2 11 = f 11 := by rw [hE_2, pk_un (show 11 ≠ 23 by decide)]
          have ev_55 : f_2 12 = f 12 := by rw [hE_2, pk_un (show 12 ≠ 23 by decide)]
          have ev_56 : f_2 9 = f 9 := by rw [hE_2, pk_un (show 9 ≠ 23 by decide)]
          exact maV hQ hx hb hr hlk hP hS ⟨hT, FA, FF, FC, ⟨hRN, by rw [ev_54] <;> omega, by rw [ev_55] <;> omega, by rw [ev_56] <;> omega, by rw [ev_56] <;> omega, (by rw [(fC.mv hC_53 (show (5160 : Int) = _ by omega)).ar (by decide) (lo := 44) (hi := 44) (by decide) (5160 + 44) (by decide) (by decide) (by decide)]; exact Int.le_refl _)⟩⟩ dX12_again_218
      · have d_58 := c_40
        rcases Classical.em (x1.toInt = 3) with c_59 | c_59
        · refine lv_tableIn (tgt := 111) hx hb dX12_again_11 (by omega) (by omega) (by rw [c_59]; rfl) (by decide) ?_
          refine lv_aload_n hx hb dX12_again_111 rfl (lv_at hl 1 rfl) ?_
          refine mg_0 C hs hP ha0 hk0 wf_X12_8 dX12_again_112 ?_
          have hf_60 := hO.r (j := 0) ha0 hk0 (rfl : zX 11 0 = some (40, 47730))
          refine lv_iload hx hb dX12_again_115 (lv_at hl 0 rfl) ?_
          refine lv_bipush (v := 13) hx hb dX12_again_117 (by decide) ?_
          refine lv_iadd hx hb dX12_again_119 ?_
          refine lv_topi (fun x_61 ex_61 => ?_)
          refine lv_dup2_11 hx hb dX12_again_120 rfl rfl ?_
          have f_d1 : x_1.toInt = 5160 := by rw [ex_1]; exact ti_5160
          have hbs_63 : zRow x_1.toInt := zRow.of (t := 4) (by omega) (by omega)
          have hbl_hbs_63 := hbs_63.lin
          have hi_hr_62 : zEq x_61.toInt (x_1.toInt + 13) := by
            obtain ⟨f_61, l_61, u_61⟩ := z_add ex_61 rfl ti_13
            try replace f_61 : x_61.toInt = x_1.toInt + 13 := by omega
            clear l_61 u_61
            show x_61.toInt = (x_1.toInt + 13)
            omega
          have hl_hr_62 : (13 : Int) ≤ 13 ∧ 13 ≤ (13 : Int) := by decide
          have hid_hr_62 : (x_1.toInt + 13) = x_1.toInt + (13) := by simp only [Int.add_assoc, Int.add_sub_assoc]
          have hr_62 := z_cell (lo := 10) (hi := 19) hbs_63 hi_hr_62 hid_hr_62 hl_hr_62 (by decide)
          replace hid_hr_62 : zEq (x_1.toInt + 13) (x_1.toInt + (13)) := hid_hr_62
          have hin_64 : vp_in x_61 (zn K (zr K a0 0)) := vp_in_iff.mpr (by rw [(hf_60.2.2 (by decide))]; exact hr_62.in)
          refine mld_40 C hs hP hf_60.1 hf_60.2.1 hin_64 dX12_again_121 ?_
          have ep_65 : x_61.toNatClampNeg = (x_1.toInt + 13).toNat := z_posE hi_hr_62
          rw [ep_65]
          clear ep_65
          refine lv_aload_n hx hb dX12_again_122 rfl (lv_at hl 1 rfl) ?_
          refine lv_iload hx hb dX12_again_123 (lv_at hl 0 rfl) ?_
          refine lv_iload_n hx hb dX12_again_125 rfl (lv_at hl 3 rfl) ?_
          have g_66 := z_rng x2
          have hbo_68 : x_1.toInt = 5160 := by omega
          have ha1 := hz1 (by omega)
          have hq_67 : 0 ≤ x2.toInt ∧ x2.toInt ≤ 3 := by (first | assumption | omega | (intros; omega))
          refine zcS (zrV (As := [.int x_1, .int x2]) (b := a0) (rest := [.int (A 40 (x_1.toInt + 13).toNat), .int x_61, .ref (zr K a0 0)]) C hs hP hS (c_X12_canDouble l D K hM f_2 A hT a0 ha0 hk0 x_1 x2 hbs_63 hq_67) m_X12_canDouble wm_X12_195 (zrecv hs hP ha0 (zF_11 hk0) rfl) ⟨by decide, by decide⟩ hl.1 (Nat.le_of_ble_eq_true rfl) dX12_again_126) (fun x_69 p_69 => ?_)
          refine bz_eq (tgt := 136) hx hb rfl dX12_again_129 (by decide) (fun c_70 => ?_) (fun c_70 => ?_)
          · skip
            refine lv_iconst (v := 0) hx hb dX12_again_136 (by decide) ?_
            refine lv_iadd hx hb dX12_again_137 ?_
            refine lv_topi (fun x_71 ex_71 => ?_)
            have hin_72 : vp_in x_61 (zn K (zr K a0 0)) := vp_in_iff.mpr (by rw [(hf_60.2.2 (by decide))]; exact hr_62.in)
            refine mst_40 C hM hs hP hS hf_60.1 hT hf_60.2.1 hin_72 (tp_10 hr_62) dX12_again_138 (fun A_73 H locs hE_73 hT hP hS => ?_)
            have ep_74 : x_61.toNatClampNeg = (x_1.toInt + 13).toNat := z_posE hi_hr_62
            rw [ep_74] at hE_73
            clear ep_74
            have FA := frA FA (frAu hE_73) (by decide)
            have FC := fC.tr FC (fC.mv (fC.st (b := x_1.toInt) (lo := 13) (hi := 13) hE_73 hbs_63.lin.1 (by decide) hid_hr_62 hl_hr_62) (by omega)) (by decide)
            have hc_73 : fC (A 40) (A_73 40) 5160 [(13, 13)] := fC.s2 hE_73 (by decide) (by decide) ⟨by omega, by omega⟩
            have hRN : rowN (A_73 40) 5160 := rowN.fw hp0 tR0 (by decide) hc_73 (wz_of hc_73 (by decide) (by decide)) (by decide) (by decide) (by decide) (by decide) (by decide) (by decide) (by decide)
            refine lv_goto (tgt := 218) hx hb dX12_again_139 (by decide) ?_
            have ev_75 : f_2 11 = f 11 := by rw [hE_2, pk_un (show 11 ≠ 23 by decide)]
            have ev_76 : f_2 12 = f 12 := by rw [hE_2, pk_un (show 12 ≠ 23 by decide)]
            have ev_77 : f_2 9 = f 9 := by rw [hE_2, pk_un (show 9 ≠ 23 by decide)]
            exact maV hQ hx hb hr hlk hP hS ⟨hT, FA, FF, FC, ⟨hRN, by rw [ev_75] <;> omega, by rw [ev_76] <;> omega, by rw [ev_77] <;> omega, by rw [ev_77] <;> omega, (by rw [hc_73.ar (by decide) (lo := 44) (hi := 44) (by decide) (5160 + 44) (by decide) (by decide) (by decide)]; exact Int.le_refl _)⟩⟩ dX12_again_218
          · skip
            refine lv_iconst (v := 1) hx hb dX12_again_132 (by decide) ?_
            refine lv_goto (tgt := 137) hx hb dX12_again_133 (by decide) ?_
            refine lv_iadd hx hb dX12_again_137 ?_
            refine lv_topi (fun x_79 ex_79 => ?_)
            have hin_80 : vp_in x_61 (zn K (zr K a0 0)) := vp_in_iff.mpr (by rw [(hf_60.2.2 (by decide))]; exact hr_62.in)
            refine mst_40 C hM hs hP hS hf_60.1 hT hf_60.2.1 hin_80 (tp_10 hr_62) dX12_again_138 (fun A_81 H locs hE_81 hT hP hS => ?_)
            have ep_82 : x_61.toNatClampNeg = (x_1.toInt + 13).toNat := z_posE hi_hr_62
            rw [ep_82] at hE_81
            clear ep_82
            have FA := frA FA (frAu hE_81) (by decide)
            have FC := fC.tr FC (fC.mv (fC.st (b := x_1.toInt) (lo := 13) (hi := 13) hE_81 hbs_63.lin.1 (by decide) hid_hr_62 hl_hr_62) (by omega)) (by decide)
            have hc_81 : fC (A 40) (A_81 40) 5160 [(13, 13)] := fC.s2 hE_81 (by decide) (by decide) ⟨by omega, by omega⟩
            have hRN : rowN (A_81 40) 5160 := rowN.fw hp0 tR0 (by decide) hc_81 (wz_of hc_81 (by decide) (by decide)) (by decide) (by decide) (by decide) (by decide) (by decide) (by decide) (by decide)
            refine lv_goto (tgt := 218) hx hb dX12_again_139 (by decide) ?_
            have ev_83 : f_2 11 = f 11 := by rw [hE_2, pk_un (show 11 ≠ 23 by decide)]
            have ev_84 : f_2 12 = f 12 := by rw [hE_2, pk_un (show 12 ≠ 23 by decide)]
            have ev_85 : f_2 9 = f 9 := by rw [hE_2, pk_un (show 9 ≠ 23 by decide)]
            exact maV hQ hx hb hr hlk hP hS ⟨hT, FA, FF, FC, ⟨hRN, by rw [ev_83] <;> omega, by rw [ev_84] <;> omega, by rw [ev_85] <;> omega, by rw [ev_85] <;> omega, (by rw [hc_81.ar (by decide) (lo := 44) (hi := 44) (by decide) (5160 + 44) (by decide) (by decide) (by decide)]; exact Int.le_refl _)⟩⟩ dX12_again_218
        · have d_87 := c_59
          rcases Classical.em (x1.toInt = 4) with c_88 | c_88
          · refine lv_tableIn (tgt := 175) hx hb dX12_again_11 (by omega) (by omega) (by rw [c_88]; rfl) (by decide) ?_
            refine lv_aload_n hx hb dX12_again_175 rfl (lv_at hl 1 rfl) ?_
            refine mg_0 C hs hP ha0 hk0 wf_X12_8 dX12_again_176 ?_
            have hf_89 := hO.r (j := 0) ha0 hk0 (rfl : zX 11 0 = some (40, 47730))
            refine lv_iload hx hb dX12_again_179 (lv_at hl 0 rfl) ?_
            refine lv_iconst (v := 5) hx hb dX12_again_181 (by decide) ?_
            refine lv_iadd hx hb dX12_again_182 ?_
            refine lv_topi (fun x_90 ex_90 => ?_)
            have f_d1 : x_1.toInt = 5160 := by rw [ex_1]; exact ti_5160
            have hbs_92 : zRow x_1.toInt := zRow.of (t := 4) (by omega) (by omega)
            have hbl_hbs_92 := hbs_92.lin
            have hi_hr_91 : zEq x_90.toInt (x_1.toInt + 5) := by
              obtain ⟨f_90, l_90, u_90⟩ := z_add ex_90 rfl ti_5
              try replace f_90 : x_90.toInt = x_1.toInt + 5 := by omega
              clear l_90 u_90
              show x_90.toInt = (x_1.toInt + 5)
              omega
            have hl_hr_91 : (5 : Int) ≤ 5 ∧ 5 ≤ (5 : Int) := by decide
            have hid_hr_91 : (x_1.toInt + 5) = x_1.toInt + (5) := by simp only [Int.add_assoc, Int.add_sub_assoc]
            have hr_91 := z_cell (lo := 2) (hi := 8) hbs_92 hi_hr_91 hid_hr_91 hl_hr_91 (by decide)
            replace hid_hr_91 : zEq (x_1.toInt + 5) (x_1.toInt + (5)) := hid_hr_91
            have hin_93 : vp_in x_90 (zn K (zr K a0 0)) := vp_in_iff.mpr (by rw [(hf_89.2.2 (by decide))]; exact hr_91.in)
            refine mld_40 C hs hP hf_89.1 hf_89.2.1 hin_93 dX12_again_183 ?_
            have ep_94 : x_90.toNatClampNeg = (x_1.toInt + 5).toNat := z_posE hi_hr_91
            rw [ep_94]
            clear ep_94
            refine lv_iconst (v := 1) hx hb dX12_again_184 (by decide) ?_
            refine bi_ne (tgt := 218) hx hb rfl ti_1 dX12_again_185 (by decide) (fun c_95 => ?_) (fun c_95 => ?_)
            · skip
              have ev_96 : f_2 11 = f 11 := by rw [hE_2, pk_un (show 11 ≠ 23 by decide)]
              have ev_97 : f_2 12 = f 12 := by rw [hE_2, pk_un (show 12 ≠ 23 by decide)]
              have ev_98 : f_2 9 = f 9 := by rw [hE_2, pk_un (show 9 ≠ 23 by decide)]
              exact maV hQ hx hb hr hlk hP hS ⟨hT, FA, FF, FC, ⟨hp0, by rw [ev_96] <;> omega, by rw [ev_97] <;> omega, by rw [ev_98] <;> omega, by rw [ev_98] <;> omega, (Int.le_refl _)⟩⟩ dX12_again_218
            · skip
              refine lv_aload_n hx hb dX12_again_188 rfl (lv_at hl 1 rfl) ?_
              refine lv_iload hx hb dX12_again_189 (lv_at hl 0 rfl) ?_
              refine lv_iload_n hx hb dX12_again_191 rfl (lv_at hl 3 rfl) ?_
              refine lv_iload_n hx hb dX12_again_192 rfl (lv_at hl 4 rfl) ?_
              refine lv_iload_n hx hb dX12_again_193 rfl (lv_at hl 2 rfl) ?_
              refine lv_iconst (v := 5) hx hb dX12_again_194 (by decide) ?_
              refine bi_ne (tgt := 202) hx hb rfl ti_5 dX12_again_195 (by decide) (fun c_100 => ?_) (fun c_100 => ?_)
              · skip
                refine lv_iconst (v := 0) hx hb dX12_again_202 (by decide) ?_
                have g_101 := z_rng x2
                have g_102 := z_rng x3
                have hbo_104 : x_1.toInt = 5160 := by omega
                have ha1 := hz1 (by omega)
                have hq_103 : 0 ≤ x2.toInt ∧ x2.toInt ≤ 3 := by ((try simp only [ti_0]); first | assumption | omega | (intros; omega))
                have ev_106 : f_2 11 = f 11 := by rw [hE_2, pk_un (show 11 ≠ 23 by decide)]
                have hq_105 : (f_2 11).toInt ≤ 1980000000 := by rw [ev_106] <;> ((try simp only [ti_0]); first | assumption | omega | (intros; omega))
                refine mcI (zrV (As := [.int x_1, .int x2, .int x3, .int 0]) (b := a0) (rest := []) C hs hP hS (c_X12_playMeets l D K hM f_2 A hT a0 ha0 hk0 x_1 x2 x3 0 hbs_92 hq_103 hq_105) m_X12_playMeets wm_X12_235 (zrecv hs hP ha0 (zF_11 hk0) rfl) ⟨by decide, by decide⟩ hl.1 (Nat.le_of_ble_eq_true rfl) dX12_again_203) hS (fun x_107 f_107 A_107 H locs p_107 hP hS => ?_)
                obtain ⟨hT, hA_107, hF_107, pp_107⟩ := p_107
                have pp_107 : (f_2 11).toInt ≤ (f_107 11).toInt ∧ (f_107 11).toInt ≤ (f_2 11).toInt + 3 ∧ ((f_2 12).toInt ≠ 0 → (f_107 11).toInt = (f_2 11).toInt) ∧ (x_107.toInt ≤ 0 → 0 ≤ x3.toInt ∧ x3.toInt < (A 40 (x_1.toInt + x2.toInt + 22).toNat).toInt ∧ (A 40 (x_1.toInt + 9).toNat).toInt = x2.toInt) := pp_107
                have pp0_107 := zHid.mk pp_107
                have ev_108 : f_2 11 = f 11 := by rw [hE_2, pk_un (show 11 ≠ 23 by decide)]
                have ev_109 : f_2 12 = f 12 := by rw [hE_2, pk_un (show 12 ≠ 23 by decide)]
                rw [ev_108, ev_109] at pp_107
                try simp only [ti_0] at pp_107
                have pa_107 := pp_107.1
                have pb_107 := pp_107.2.1
                have qq_107 := zHid.mk pp_107.2.2.1
                replace pp_107 := pp_107.2.2.2
                have FA := frA FA hA_107 (by decide)
                have FF := frF FF hF_107 (by decide)
                have FC := fC.eq FC (hA_107 40 (by decide))
                refine bz_ne (tgt := 218) hx hb rfl dX12_again_206 (by decide) (fun c_110 => ?_) (fun c_110 => ?_)
                · skip
                  have ev_111 : f_107 12 = f 12 := by rw [hF_107 12 (by decide), hE_2, pk_un (show 12 ≠ 23 by decide)]
                  have ev_112 : f_107 9 = f 9 := by rw [hF_107 9 (by decide), hE_2, pk_un (show 9 ≠ 23 by decide)]
                  have ev_113 : A_107 40 = A 40 := by rw [hA_107 40 (by decide)]
                  exact maV hQ hx hb hr hlk hP hS ⟨hT, FA, FF, FC, ⟨(by rw [ev_113]; exact hp0), by have hq0 := qq_107 (by omega); omega, by rw [ev_111] <;> omega, by rw [ev_112] <;> omega, by rw [ev_112] <;> omega, (by rw [hA_107 40 (by decide)]; exact Int.le_refl _)⟩⟩ dX12_again_218
                · skip
                  refine lv_aload_n hx hb dX12_again_209 rfl (lv_at hl 1 rfl) ?_
                  refine lv_iload hx hb dX12_again_210 (lv_at hl 0 rfl) ?_
                  refine lv_iconst (v := 4) hx hb dX12_again_212 (by decide) ?_
                  refine lv_iload_n hx hb dX12_again_213 rfl (lv_at hl 3 rfl) ?_
                  refine lv_iload_n hx hb dX12_again_214 rfl (lv_at hl 4 rfl) ?_
                  have ev_116 : A_107 40 = A 40 := by rw [hA_107 40 (by decide)]
                  have hq_115 : 0 ≤ x2.toInt ∧ x2.toInt ≤ 3 := by ((try simp only [ti_4]); first | assumption | omega | (intros; omega))
                  have ev_118 : A_107 40 = A 40 := by rw [hA_107 40 (by decide)]
                  have es_119 : A_107 40 (x_1.toInt + x2.toInt + 22).toNat = A 40 (x_1.toInt + x2.toInt + 22).toNat := by rw [hA_107 40 (by decide)]
                  have ev_120 : A_107 40 = A 40 := by rw [hA_107 40 (by decide)]
                  have hq_117 : 0 ≤ x3.toInt ∧ x3.toInt < (A_107 40 (x_1.toInt + x2.toInt + 22).toNat).toInt := by rw [es_119] <;> ((try simp only [ti_4]); first | assumption | omega | (intros; omega))
                  have ev_122 : A_107 40 = A 40 := by rw [hA_107 40 (by decide)]
                  have ev_123 : A_107 40 = A 40 := by rw [hA_107 40 (by decide)]
                  have hq_121 : rowP (A_107 40) x_1.toInt := by (rw [ev_123]; rw [hbo_104]; exact hp0.1)
                  have ev_125 : A_107 40 = A 40 := by rw [hA_107 40 (by decide)]
                  have es_126 : A_107 40 (x_1.toInt + 26).toNat = A 40 (x_1.toInt + 26).toNat := by rw [hA_107 40 (by decide)]
                  have ev_127 : A_107 40 = A 40 := by rw [hA_107 40 (by decide)]
                  have hnx_128 := hp0.2
                  rw [← hbo_104] at hnx_128
                  unfold nX at hnx_128
                  have h9_128 : (A 40 (x_1.toInt + 9).toNat).toInt = x2.toInt := by omega
                  have hny_128 := hnx_128 (by omega) (by omega)
                  rw [h9_128] at hny_128
                  clear hnx_128
                  have hq_124 : nL (A_107 40) x_1.toInt x2.toInt (A_107 40 (x_1.toInt + 26).toNat).toInt := by (rw [ev_127]; exact hny_128.2.2.2)
                  have ev_130 : A_107 40 = A 40 := by rw [hA_107 40 (by decide)]
                  have hq_129 : (f_107 11).toInt ≤ 1950000000 := by ((try simp only [ti_4]); first | assumption | omega | (intros; omega))
                  have ev_132 : f_107 9 = f 9 := by rw [hF_107 9 (by decide), hE_2, pk_un (show 9 ≠ 23 by decide)]
                  have ev_133 : A_107 40 = A 40 := by rw [hA_107 40 (by decide)]
                  have hq_131 : (f_107 9).toInt ≤ 1950000000 := by rw [ev_132] <;> ((try simp only [ti_4]); first | assumption | omega | (intros; omega))
                  refine mcV (zrV (As := [.int x_1, .int 4, .int x2, .int x3]) (b := a0) (rest := []) C hs hP hS (c_X12_doLay l D K hM f_107 A_107 hT a0 ha0 hk0 x_1 4 x2 x3 hbs_92 hq_115 hq_117 hq_121 hq_124 hq_129 hq_131) m_X12_doLay wm_X12_238 (zrecv hs hP ha0 (zF_11 hk0) rfl) ⟨by decide, by decide⟩ hl.1 (Nat.le_of_ble_eq_true rfl) dX12_again_215) hS (fun f_134 A_134 H locs p_134 hP hS => ?_)
                  obtain ⟨hT, hA_134, hF_134, hC_134, hW_134, pp_134⟩ := p_134
                  have pp_134 : (f_107 9).toInt ≤ (f_134 9).toInt ∧ (f_134 9).toInt ≤ (f_107 9).toInt + 2 ∧ (f_107 11).toInt ≤ (f_134 11).toInt ∧ (f_134 11).toInt ≤ (f_107 11).toInt + 13 ∧ ((f_107 12).toInt ≠ 0 → (f_134 11).toInt = (f_107 11).toInt) ∧ rowN (A_134 40) x_1.toInt := pp_134
                  have pp0_134 := zHid.mk pp_134
                  have ev_135 : f_107 12 = f 12 := by rw [hF_107 12 (by decide), hE_2, pk_un (show 12 ≠ 23 by decide)]
                  have ev_136 : f_107 9 = f 9 := by rw [hF_107 9 (by decide), hE_2, pk_un (show 9 ≠ 23 by decide)]
                  rw [ev_135, ev_136] at pp_134
                  try simp only [ti_4] at pp_134
                  have pc_134 := pp_134.1
                  have pd_134 := pp_134.2.1
                  have pa_134 := pp_134.2.2.1
                  have pb_134 := pp_134.2.2.2.1
                  have qq_134 := zHid.mk pp_134.2.2.2.2.1
                  replace pp_134 := pp_134.2.2.2.2.2
                  have FA := frA FA hA_134 (by decide)
                  have FF := frF FF hF_134 (by decide)
                  have FC := fC.tr FC (fC.mv hC_134 (by omega)) (by decide)
                  have hRN : rowN (A_134 40) 5160 := by rw [← hbo_104]; exact pp0_134.2.2.2.2.2
                  have ev_137 : f_134 12 = f 12 := by rw [hF_134 12 (by decide), hF_107 12 (by decide), hE_2, pk_un (show 12 ≠ 23 by decide)]
                  exact maV hQ hx hb hr hlk hP hS ⟨hT, FA, FF, FC, ⟨hRN, by have hq0 := qq_107 (by omega); have hq1 := qq_134 (by omega); omega, by rw [ev_137] <;> omega, by omega, by omega, (by rw [(fC.mv hC_134 (show (5160 : Int) = _ by omega)).ar (by decide) (lo := 44) (hi := 44) (by decide) (5160 + 44) (by decide) (by decide) (by decide), hA_107 40 (by decide)]; exact Int.le_refl _)⟩⟩ dX12_again_218
              · skip
                refine lv_iconst (v := 1) hx hb dX12_again_198 (by decide) ?_
                refine lv_goto (tgt := 203) hx hb dX12_again_199 (by decide) ?_
                have g_139 := z_rng x2
                have g_140 := z_rng x3
                have hbo_142 : x_1.toInt = 5160 := by omega
                have ha1 := hz1 (by omega)
                have hq_141 : 0 ≤ x2.toInt ∧ x2.toInt ≤ 3 := by ((try simp only [ti_1]); first | assumption | omega | (intros; omega))
                have ev_144 : f_2 11 = f 11 := by rw [hE_2, pk_un (show 11 ≠ 23 by decide)]
                have hq_143 : (f_2 11).toInt ≤ 1980000000 := by rw [ev_144] <;> ((try simp only [ti_1]); first | assumption | omega | (intros; omega))
                refine mcI (zrV (As := [.int x_1, .int x2, .int x3, .int 1]) (b := a0) (rest := []) C hs hP hS (c_X12_playMeets l D K hM f_2 A hT a0 ha0 hk0 x_1 x2 x3 1 hbs_92 hq_141 hq_143) m_X12_playMeets wm_X12_235 (zrecv hs hP ha0 (zF_11 hk0) rfl) ⟨by decide, by decide⟩ hl.1 (Nat.le_of_ble_eq_true rfl) dX12_again_203) hS (fun x_145 f_145 A_145 H locs p_145 hP hS => ?_)
                obtain ⟨hT, hA_145, hF_145, pp_145⟩ := p_145
                have pp_145 : (f_2 11).toInt ≤ (f_145 11).toInt ∧ (f_145 11).toInt ≤ (f_2 11).toInt + 3 ∧ ((f_2 12).toInt ≠ 0 → (f_145 11).toInt = (f_2 11).toInt) ∧ (x_145.toInt ≤ 0 → 0 ≤ x3.toInt ∧ x3.toInt < (A 40 (x_1.toInt + x2.toInt + 22).toNat).toInt ∧ (A 40 (x_1.toInt + 9).toNat).toInt = x2.toInt) := pp_145
                have pp0_145 := zHid.mk pp_145
                have ev_146 : f_2 11 = f 11 := by rw [hE_2, pk_un (show 11 ≠ 23 by decide)]
                have ev_147 : f_2 12 = f 12 := by rw [hE_2, pk_un (show 12 ≠ 23 by decide)]
                rw [ev_146, ev_147] at pp_145
                try simp only [ti_1] at pp_145
                have pa_145 := pp_145.1
                have pb_145 := pp_145.2.1
                have qq_145 := zHid.mk pp_145.2.2.1
                replace pp_145 := pp_145.2.2.2
                have FA := frA FA hA_145 (by decide)
                have FF := frF FF hF_145 (by decide)
                have FC := fC.eq FC (hA_145 40 (by decide))
                refine bz_ne (tgt := 218) hx hb rfl dX12_again_206 (by decide) (fun c_148 => ?_) (fun c_148 => ?_)
                · skip
                  have ev_149 : f_145 12 = f 12 := by rw [hF_145 12 (by decide), hE_2, pk_un (show 12 ≠ 23 by decide)]
                  have ev_150 : f_145 9 = f 9 := by rw [hF_145 9 (by decide), hE_2, pk_un (show 9 ≠ 23 by decide)]
                  have ev_151 : A_145 40 = A 40 := by rw [hA_145 40 (by decide)]
                  exact maV hQ hx hb hr hlk hP hS ⟨hT, FA, FF, FC, ⟨(by rw [ev_151]; exact hp0), by have hq0 := qq_145 (by omega); omega, by rw [ev_149] <;> omega, by rw [ev_150] <;> omega, by rw [ev_150] <;> omega, (by rw [hA_145 40 (by decide)]; exact Int.le_refl _)⟩⟩ dX12_again_218
                · skip
                  refine lv_aload_n hx hb dX12_again_209 rfl (lv_at hl 1 rfl) ?_
                  refine lv_iload hx hb dX12_again_210 (lv_at hl 0 rfl) ?_
                  refine lv_iconst (v := 4) hx hb dX12_again_212 (by decide) ?_
                  refine lv_iload_n hx hb dX12_again_213 rfl (lv_at hl 3 rfl) ?_
                  refine lv_iload_n hx hb dX12_again_214 rfl (lv_at hl 4 rfl) ?_
                  have ev_154 : A_145 40 = A 40 := by rw [hA_145 40 (by decide)]
                  have hq_153 : 0 ≤ x2.toInt ∧ x2.toInt ≤ 3 := by ((try simp only [ti_4]); first | assumption | omega | (intros; omega))
                  have ev_156 : A_145 40 = A 40 := by rw [hA_145 40 (by decide)]
                  have es_157 : A_145 40 (x_1.toInt + x2.toInt + 22).toNat = A 40 (x_1.toInt + x2.toInt + 22).toNat := by rw [hA_145 40 (by decide)]
                  have ev_158 : A_145 40 = A 40 := by rw [hA_145 40 (by decide)]
                  have hq_155 : 0 ≤ x3.toInt ∧ x3.toInt < (A_145 40 (x_1.toInt + x2.toInt + 22).toNat).toInt := by rw [es_157] <;> ((try simp only [ti_4]); first | assumption | omega | (intros; omega))
                  have ev_160 : A_145 40 = A 40 := by rw [hA_145 40 (by decide)]
                  have ev_161 : A_145 40 = A 40 := by rw [hA_145 40 (by decide)]
                  have hq_159 : rowP (A_145 40) x_1.toInt := by (rw [ev_161]; rw [hbo_142]; exact hp0.1)
                  have ev_163 : A_145 40 = A 40 := by rw [hA_145 40 (by decide)]
                  have es_164 : A_145 40 (x_1.toInt + 26).toNat = A 40 (x_1.toInt + 26).toNat := by rw [hA_145 40 (by decide)]
                  have ev_165 : A_145 40 = A 40 := by rw [hA_145 40 (by decide)]
                  have hnx_166 := hp0.2
                  rw [← hbo_142] at hnx_166
                  unfold nX at hnx_166
                  have h9_166 : (A 40 (x_1.toInt + 9).toNat).toInt = x2.toInt := by omega
                  have hny_166 := hnx_166 (by omega) (by omega)
                  rw [h9_166] at hny_166
                  clear hnx_166
                  have hq_162 : nL (A_145 40) x_1.toInt x2.toInt (A_145 40 (x_1.toInt + 26).toNat).toInt := by (rw [ev_165]; exact hny_166.2.2.2)
                  have ev_168 : A_145 40 = A 40 := by rw [hA_145 40 (by decide)]
                  have hq_167 : (f_145 11).toInt ≤ 1950000000 := by ((try simp only [ti_4]); first | assumption | omega | (intros; omega))
                  have ev_170 : f_145 9 = f 9 := by rw [hF_145 9 (by decide), hE_2, pk_un (show 9 ≠ 23 by decide)]
                  have ev_171 : A_145 40 = A 40 := by rw [hA_145 40 (by decide)]
                  have hq_169 : (f_145 9).toInt ≤ 1950000000 := by rw [ev_170] <;> ((try simp only [ti_4]); first | assumption | omega | (intros; omega))
                  refine mcV (zrV (As := [.int x_1, .int 4, .int x2, .int x3]) (b := a0) (rest := []) C hs hP hS (c_X12_doLay l D K hM f_145 A_145 hT a0 ha0 hk0 x_1 4 x2 x3 hbs_92 hq_153 hq_155 hq_159 hq_162 hq_167 hq_169) m_X12_doLay wm_X12_238 (zrecv hs hP ha0 (zF_11 hk0) rfl) ⟨by decide, by decide⟩ hl.1 (Nat.le_of_ble_eq_true rfl) dX12_again_215) hS (fun f_172 A_172 H locs p_172 hP hS => ?_)
                  obtain ⟨hT, hA_172, hF_172, hC_172, hW_172, pp_172⟩ := p_172
                  have pp_172 : (f_145 9).toInt ≤ (f_172 9).toInt ∧ (f_172 9).toInt ≤ (f_145 9).toInt + 2 ∧ (f_145 11).toInt ≤ (f_172 11).toInt ∧ (f_172 11).toInt ≤ (f_145 11).toInt + 13 ∧ ((f_145 12).toInt ≠ 0 → (f_172 11).toInt = (f_145 11).toInt) ∧ rowN (A_172 40) x_1.toInt := pp_172
                  have pp0_172 := zHid.mk pp_172
                  have ev_173 : f_145 12 = f 12 := by rw [hF_145 12 (by decide), hE_2, pk_un (show 12 ≠ 23 by decide)]
                  have ev_174 : f_145 9 = f 9 := by rw [hF_145 9 (by decide), hE_2, pk_un (show 9 ≠ 23 by decide)]
                  rw [ev_173, ev_174] at pp_172
                  try simp only [ti_4] at pp_172
                  have pc_172 := pp_172.1
                  have pd_172 := pp_172.2.1
                  have pa_172 := pp_172.2.2.1
                  have pb_172 := pp_172.2.2.2.1
                  have qq_172 := zHid.mk pp_172.2.2.2.2.1
                  replace pp_172 := pp_172.2.2.2.2.2
                  have FA := frA FA hA_172 (by decide)
                  have FF := frF FF hF_172 (by decide)
                  have FC := fC.tr FC (fC.mv hC_172 (by omega)) (by decide)
                  have hRN : rowN (A_172 40) 5160 := by rw [← hbo_142]; exact pp0_172.2.2.2.2.2
                  have ev_175 : f_172 12 = f 12 := by rw [hF_172 12 (by decide), hF_145 12 (by decide), hE_2, pk_un (show 12 ≠ 23 by decide)]
                  exact maV hQ hx hb hr hlk hP hS ⟨hT, FA, FF, FC, ⟨hRN, by have hq0 := qq_145 (by omega); have hq1 := qq_172 (by omega); omega, by rw [ev_175] <;> omega, by omega, by omega, (by rw [(fC.mv hC_172 (show (5160 : Int) = _ by omega)).ar (by decide) (lo := 44) (hi := 44) (by decide) (5160 + 44) (by decide) (by decide) (by decide), hA_145 40 (by decide)]; exact Int.le_refl _)⟩⟩ dX12_again_218
          · have d_177 := c_88
            rcases Classical.em (x1.toInt = 5) with c_178 | c_178
            · refine lv_tableIn (tgt := 175) hx hb dX12_again_11 (by omega) (by omega) (by rw [c_178]; rfl) (by decide) ?_
              refine lv_aload_n hx hb dX12_again_175 rfl (lv_at hl 1 rfl) ?_
              refine mg_0 C hs hP ha0 hk0 wf_X12_8 dX12_again_176 ?_
              have hf_179 := hO.r (j := 0) ha0 hk0 (rfl : zX 11 0 = some (40, 47730))
              refine lv_iload hx hb dX12_again_179 (lv_at hl 0 rfl) ?_
              refine lv_iconst (v := 5) hx hb dX12_again_181 (by decide) ?_
              refine lv_iadd hx hb dX12_again_182 ?_
              refine lv_topi (fun x_180 ex_180 => ?_)
              have f_d1 : x_1.toInt = 5160 := by rw [ex_1]; exact ti_5160
              have hbs_182 : zRow x_1.toInt := zRow.of (t := 4) (by omega) (by omega)
              have hbl_hbs_182 := hbs_182.lin
              have hi_hr_181 : zEq x_180.toInt (x_1.toInt + 5) := by
                obtain ⟨f_180, l_180, u_180⟩ := z_add ex_180 rfl ti_5
                try replace f_180 : x_180.toInt = x_1.toInt + 5 := by omega
                clear l_180 u_180
                show x_180.toInt = (x_1.toInt + 5)
                omega
              have hl_hr_181 : (5 : Int) ≤ 5 ∧ 5 ≤ (5 : Int) := by decide
              have hid_hr_181 : (x_1.toInt + 5) = x_1.toInt + (5) := by simp only [Int.add_assoc, Int.add_sub_assoc]
              have hr_181 := z_cell (lo := 2) (hi := 8) hbs_182 hi_hr_181 hid_hr_181 hl_hr_181 (by decide)
              replace hid_hr_181 : zEq (x_1.toInt + 5) (x_1.toInt + (5)) := hid_hr_181
              have hin_183 : vp_in x_180 (zn K (zr K a0 0)) := vp_in_iff.mpr (by rw [(hf_179.2.2 (by decide))]; exact hr_181.in)
              refine mld_40 C hs hP hf_179.1 hf_179.2.1 hin_183 dX12_again_183 ?_
              have ep_184 : x_180.toNatClampNeg = (x_1.toInt + 5).toNat := z_posE hi_hr_181
              rw [ep_184]
              clear ep_184
              refine lv_iconst (v := 1) hx hb dX12_again_184 (by decide) ?_
              refine bi_ne (tgt := 218) hx hb rfl ti_1 dX12_again_185 (by decide) (fun c_185 => ?_) (fun c_185 => ?_)
              · skip
                have ev_186 : f_2 11 = f 11 := by rw [hE_2, pk_un (show 11 ≠ 23 by decide)]
                have ev_187 : f_2 12 = f 12 := by rw [hE_2, pk_un (show 12 ≠ 23 by decide)]
                have ev_188 : f_2 9 = f 9 := by rw [hE_2, pk_un (show 9 ≠ 23 by decide)]
                exact maV hQ hx hb hr hlk hP hS ⟨hT, FA, FF, FC, ⟨hp0, by rw [ev_186] <;> omega, by rw [ev_187] <;> omega, by rw [ev_188] <;> omega, by rw [ev_188] <;> omega, (Int.le_refl _)⟩⟩ dX12_again_218
              · skip
                refine lv_aload_n hx hb dX12_again_188 rfl (lv_at hl 1 rfl) ?_
                refine lv_iload hx hb dX12_again_189 (lv_at hl 0 rfl) ?_
                refine lv_iload_n hx hb dX12_again_191 rfl (lv_at hl 3 rfl) ?_
                refine lv_iload_n hx hb dX12_again_192 rfl (lv_at hl 4 rfl) ?_
                refine lv_iload_n hx hb dX12_again_193 rfl (lv_at hl 2 rfl) ?_
                refine lv_iconst (v := 5) hx hb dX12_again_194 (by decide) ?_
                refine bi_ne (tgt := 202) hx hb rfl ti_5 dX12_again_195 (by decide) (fun c_190 => ?_) (fun c_190 => ?_)
                · skip
                  refine lv_iconst (v := 0) hx hb dX12_again_202 (by decide) ?_
                  have g_191 := z_rng x2
                  have g_192 := z_rng x3
                  have hbo_194 : x_1.toInt = 5160 := by omega
                  have ha1 := hz1 (by omega)
                  have hq_193 : 0 ≤ x2.toInt ∧ x2.toInt ≤ 3 := by ((try simp only [ti_0]); first | assumption | omega | (intros; omega))
                  have ev_196 : f_2 11 = f 11 := by rw [hE_2, pk_un (show 11 ≠ 23 by decide)]
                  have hq_195 : (f_2 11).toInt ≤ 1980000000 := by rw [ev_196] <;> ((try simp only [ti_0]); first | assumption | omega | (intros; omega))
                  refine mcI (zrV (As := [.int x_1, .int x2, .int x3, .int 0]) (b := a0) (rest := []) C hs hP hS (c_X12_playMeets l D K hM f_2 A hT a0 ha0 hk0 x_1 x2 x3 0 hbs_182 hq_193 hq_195) m_X12_playMeets wm_X12_235 (zrecv hs hP ha0 (zF_11 hk0) rfl) ⟨by decide, by decide⟩ hl.1 (Nat.le_of_ble_eq_true rfl) dX12_again_203) hS (fun x_197 f_197 A_197 H locs p_197 hP hS => ?_)
                  obtain ⟨hT, hA_197, hF_197, pp_197⟩ := p_197
                  have pp_197 : (f_2 11).toInt ≤ (f_197 11).toInt ∧ (f_197 11).toInt ≤ (f_2 11).toInt + 3 ∧ ((f_2 12).toInt ≠ 0 → (f_197 11).toInt = (f_2 11).toInt) ∧ (x_197.toInt ≤ 0 → 0 ≤ x3.toInt ∧ x3.toInt < (A 40 (x_1.toInt + x2.toInt + 22).toNat).toInt ∧ (A 40 (x_1.toInt + 9).toNat).toInt = x2.toInt) := pp_197
                  have pp0_197 := zHid.mk pp_197
                  have ev_198 : f_2 11 = f 11 := by rw [hE_2, pk_un (show 11 ≠ 23 by decide)]
                  have ev_199 : f_2 12 = f 12 := by rw [hE_2, pk_un (show 12 ≠ 23 by decide)]
                  rw [ev_198, ev_199] at pp_197
                  try simp only [ti_0] at pp_197
                  have pa_197 := pp_197.1
                  have pb_197 := pp_197.2.1
                  have qq_197 := zHid.mk pp_197.2.2.1
                  replace pp_197 := pp_197.2.2.2
                  have FA := frA FA hA_197 (by decide)
                  have FF := frF FF hF_197 (by decide)
                  have FC := fC.eq FC (hA_197 40 (by decide))
                  refine bz_ne (tgt := 218) hx hb rfl dX12_again_206 (by decide) (fun c_200 => ?_) (fun c_200 => ?_)
                  · skip
                    have ev_201 : f_197 12 = f 12 := by rw [hF_197 12 (by decide), hE_2, pk_un (show 12 ≠ 23 by decide)]
                    have ev_202 : f_197 9 = f 9 := by rw [hF_197 9 (by decide), hE_2, pk_un (show 9 ≠ 23 by decide)]
                    have ev_203 : A_197 40 = A 40 := by rw [hA_197 40 (by decide)]
                    exact maV hQ hx hb hr hlk hP hS ⟨hT, FA, FF, FC, ⟨(by rw [ev_203]; exact hp0), by have hq0 := qq_197 (by omega); omega, by rw [ev_201] <;> omega, by rw [ev_202] <;> omega, by rw [ev_202] <;> omega, (by rw [hA_197 40 (by decide)]; exact Int.le_refl _)⟩⟩ dX12_again_218
                  · skip
                    refine lv_aload_n hx hb dX12_again_209 rfl (lv_at hl 1 rfl) ?_
                    refine lv_iload hx hb dX12_again_210 (lv_at hl 0 rfl) ?_
                    refine lv_iconst (v := 4) hx hb dX12_again_212 (by decide) ?_
                    refine lv_iload_n hx hb dX12_again_213 rfl (lv_at hl 3 rfl) ?_
                    refine lv_iload_n hx hb dX12_again_214 rfl (lv_at hl 4 rfl) ?_
                    have ev_206 : A_197 40 = A 40 := by rw [hA_197 40 (by decide)]
                    have hq_205 : 0 ≤ x2.toInt ∧ x2.toInt ≤ 3 := by ((try simp only [ti_4]); first | assumption | omega | (intros; omega))
                    have ev_208 : A_197 40 = A 40 := by rw [hA_197 40 (by decide)]
                    have es_209 : A_197 40 (x_1.toInt + x2.toInt + 22).toNat = A 40 (x_1.toInt + x2.toInt + 22).toNat := by rw [hA_197 40 (by decide)]
                    have ev_210 : A_197 40 = A 40 := by rw [hA_197 40 (by decide)]
                    have hq_207 : 0 ≤ x3.toInt ∧ x3.toInt < (A_197 40 (x_1.toInt + x2.toInt + 22).toNat).toInt := by rw [es_209] <;> ((try simp only [ti_4]); first | assumption | omega | (intros; omega))
                    have ev_212 : A_197 40 = A 40 := by rw [hA_197 40 (by decide)]
                    have ev_213 : A_197 40 = A 40 := by rw [hA_197 40 (by decide)]
                    have hq_211 : rowP (A_197 40) x_1.toInt := by (rw [ev_213]; rw [hbo_194]; exact hp0.1)
                    have ev_215 : A_197 40 = A 40 := by rw [hA_197 40 (by decide)]
                    have es_216 : A_197 40 (x_1.toInt + 26).toNat = A 40 (x_1.toInt + 26).toNat := by rw [hA_197 40 (by decide)]
                    have ev_217 : A_197 40 = A 40 := by rw [hA_197 40 (by decide)]
                    have hnx_218 := hp0.2
                    rw [← hbo_194] at hnx_218
                    unfold nX at hnx_218
                    have h9_218 : (A 40 (x_1.toInt + 9).toNat).toInt = x2.toInt := by omega
                    have hny_218 := hnx_218 (by omega) (by omega)
                    rw [h9_218] at hny_218
                    clear hnx_218
                    have hq_214 : nL (A_197 40) x_1.toInt x2.toInt (A_197 40 (x_1.toInt + 26).toNat).toInt := by (rw [ev_217]; exact hny_218.2.2.2)
                    have ev_220 : A_197 40 = A 40 := by rw [hA_197 40 (by decide)]
                    have hq_219 : (f_197 11).toInt ≤ 1950000000 := by ((try simp only [ti_4]); first | assumption | omega | (intros; omega))
                    have ev_222 : f_197 9 = f 9 := by rw [hF_197 9 (by decide), hE_2, pk_un (show 9 ≠ 23 by decide)]
                    have ev_223 : A_197 40 = A 40 := by rw [hA_197 40 (by decide)]
                    have hq_221 : (f_197 9).toInt ≤ 1950000000 := by rw [ev_222] <;> ((try simp only [ti_4]); first | assumption | omega | (intros; omega))
                    refine mcV (zrV (As := [.int x_1, .int 4, .int x2, .int x3]) (b := a0) (rest := []) C hs hP hS (c_X12_doLay l D K hM f_197 A_197 hT a0 ha0 hk0 x_1 4 x2 x3 hbs_182 hq_205 hq_207 hq_211 hq_214 hq_219 hq_221) m_X12_doLay wm_X12_238 (zrecv hs hP ha0 (zF_11 hk0) rfl) ⟨by decide, by decide⟩ hl.1 (Nat.le_of_ble_eq_true rfl) dX12_again_215) hS (fun f_224 A_224 H locs p_224 hP hS => ?_)
                    obtain ⟨hT, hA_224, hF_224, hC_224, hW_224, pp_224⟩ := p_224
                    have pp_224 : (f_197 9).toInt ≤ (f_224 9).toInt ∧ (f_224 9).toInt ≤ (f_197 9).toInt + 2 ∧ (f_197 11).toInt ≤ (f_224 11).toInt ∧ (f_224 11).toInt ≤ (f_197 11).toInt + 13 ∧ ((f_197 12).toInt ≠ 0 → (f_224 11).toInt = (f_197 11).toInt) ∧ rowN (A_224 40) x_1.toInt := pp_224
                    have pp0_224 := zHid.mk pp_224
                    have ev_225 : f_197 12 = f 12 := by rw [hF_197 12 (by decide), hE_2, pk_un (show 12 ≠ 23 by decide)]
                    have ev_226 : f_197 9 = f 9 := by rw [hF_197 9 (by decide), hE_2, pk_un (show 9 ≠ 23 by decide)]
                    rw [ev_225, ev_226] at pp_224
                    try simp only [ti_4] at pp_224
                    have pc_224 := pp_224.1
                    have pd_224 := pp_224.2.1
                    have pa_224 := pp_224.2.2.1
                    have pb_224 := pp_224.2.2.2.1
                    have qq_224 := zHid.mk pp_224.2.2.2.2.1
                    replace pp_224 := pp_224.2.2.2.2.2
                    have FA := frA FA hA_224 (by decide)
                    have FF := frF FF hF_224 (by decide)
                    have FC := fC.tr FC (fC.mv hC_224 (by omega)) (by decide)
                    have hRN : rowN (A_224 40) 5160 := by rw [← hbo_194]; exact pp0_224.2.2.2.2.2
                    have ev_227 : f_224 12 = f 12 := by rw [hF_224 12 (by decide), hF_197 12 (by decide), hE_2, pk_un (show 12 ≠ 23 by decide)]
                    exact maV hQ hx hb hr hlk hP hS ⟨hT, FA, FF, FC, ⟨hRN, by have hq0 := qq_197 (by omega); have hq1 := qq_224 (by omega); omega, by rw [ev_227] <;> omega, by omega, by omega, (by rw [(fC.mv hC_224 (show (5160 : Int) = _ by omega)).ar (by decide) (lo := 44) (hi := 44) (by decide) (5160 + 44) (by decide) (by decide) (by decide), hA_197 40 (by decide)]; exact Int.le_refl _)⟩⟩ dX12_again_218
                · skip
                  refine lv_iconst (v := 1) hx hb dX12_again_198 (by decide) ?_
                  refine lv_goto (tgt := 203) hx hb dX12_again_199 (by decide) ?_
                  have g_229 := z_rng x2
                  have g_230 := z_rng x3
                  have hbo_232 : x_1.toInt = 5160 := by omega
                  have ha1 := hz1 (by omega)
                  have hq_231 : 0 ≤ x2.toInt ∧ x2.toInt ≤ 3 := by ((try simp only [ti_1]); first | assumption | omega | (intros; omega))
                  have ev_234 : f_2 11 = f 11 := by rw [hE_2, pk_un (show 11 ≠ 23 by decide)]
                  have hq_233 : (f_2 11).toInt ≤ 1980000000 := by rw [ev_234] <;> ((try simp only [ti_1]); first | assumption | omega | (intros; omega))
                  refine mcI (zrV (As := [.int x_1, .int x2, .int x3, .int 1]) (b := a0) (rest := []) C hs hP hS (c_X12_playMeets l D K hM f_2 A hT a0 ha0 hk0 x_1 x2 x3 1 hbs_182 hq_231 hq_233) m_X12_playMeets wm_X12_235 (zrecv hs hP ha0 (zF_11 hk0) rfl) ⟨by decide, by decide⟩ hl.1 (Nat.le_of_ble_eq_true rfl) dX12_again_203) hS (fun x_235 f_235 A_235 H locs p_235 hP hS => ?_)
                  obtain ⟨hT, hA_235, hF_235, pp_235⟩ := p_235
                  have pp_235 : (f_2 11).toInt ≤ (f_235 11).toInt ∧ (f_235 11).toInt ≤ (f_2 11).toInt + 3 ∧ ((f_2 12).toInt ≠ 0 → (f_235 11).toInt = (f_2 11).toInt) ∧ (x_235.toInt ≤ 0 → 0 ≤ x3.toInt ∧ x3.toInt < (A 40 (x_1.toInt + x2.toInt + 22).toNat).toInt ∧ (A 40 (x_1.toInt + 9).toNat).toInt = x2.toInt) := pp_235
                  have pp0_235 := zHid.mk pp_235
                  have ev_236 : f_2 11 = f 11 := by rw [hE_2, pk_un (show 11 ≠ 23 by decide)]
                  have ev_237 : f_2 12 = f 12 := by rw [hE_2, pk_un (show 12 ≠ 23 by decide)]
                  rw [ev_236, ev_237] at pp_235
                  try simp only [ti_1] at pp_235
                  have pa_235 := pp_235.1
                  have pb_235 := pp_235.2.1
                  have qq_235 := zHid.mk pp_235.2.2.1
                  replace pp_235 := pp_235.2.2.2
                  have FA := frA FA hA_235 (by decide)
                  have FF := frF FF hF_235 (by decide)
                  have FC := fC.eq FC (hA_235 40 (by decide))
                  refine bz_ne (tgt := 218) hx hb rfl dX12_again_206 (by decide) (fun c_238 => ?_) (fun c_238 => ?_)
                  · skip
                    have ev_239 : f_235 12 = f 12 := by rw [hF_235 12 (by decide), hE_2, pk_un (show 12 ≠ 23 by decide)]
                    have ev_240 : f_235 9 = f 9 := by rw [hF_235 9 (by decide), hE_2, pk_un (show 9 ≠ 23 by decide)]
                    have ev_241 : A_235 40 = A 40 := by rw [hA_235 40 (by decide)]
                    exact maV hQ hx hb hr hlk hP hS ⟨hT, FA, FF, FC, ⟨(by rw [ev_241]; exact hp0), by have hq0 := qq_235 (by omega); omega, by rw [ev_239] <;> omega, by rw [ev_240] <;> omega, by rw [ev_240] <;> omega, (by rw [hA_235 40 (by decide)]; exact Int.le_refl _)⟩⟩ dX12_again_218
                  · skip
                    refine lv_aload_n hx hb dX12_again_209 rfl (lv_at hl 1 rfl) ?_
                    refine lv_iload hx hb dX12_again_210 (lv_at hl 0 rfl) ?_
                    refine lv_iconst (v := 4) hx hb dX12_again_212 (by decide) ?_
                    refine lv_iload_n hx hb dX12_again_213 rfl (lv_at hl 3 rfl) ?_
                    refine lv_iload_n hx hb dX12_again_214 rfl (lv_at hl 4 rfl) ?_
                    have ev_244 : A_235 40 = A 40 := by rw [hA_235 40 (by decide)]
                    have hq_243 : 0 ≤ x2.toInt ∧ x2.toInt ≤ 3 := by ((try simp only [ti_4]); first | assumption | omega | (intros; omega))
                    have ev_246 : A_235 40 = A 40 := by rw [hA_235 40 (by decide)]
                    have es_247 : A_235 40 (x_1.toInt + x2.toInt + 22).toNat = A 40 (x_1.toInt + x2.toInt + 22).toNat := by rw [hA_235 40 (by decide)]
                    have ev_248 : A_235 40 = A 40 := by rw [hA_235 40 (by decide)]
                    have hq_245 : 0 ≤ x3.toInt ∧ x3.toInt < (A_235 40 (x_1.toInt + x2.toInt + 22).toNat).toInt := by rw [es_247] <;> ((try simp only [ti_4]); first | assumption | omega | (intros; omega))
                    have ev_250 : A_235 40 = A 40 := by rw [hA_235 40 (by decide)]
                    have ev_251 : A_235 40 = A 40 := by rw [hA_235 40 (by decide)]
                    have hq_249 : rowP (A_235 40) x_1.toInt := by (rw [ev_251]; rw [hbo_232]; exact hp0.1)
                    have ev_253 : A_235 40 = A 40 := by rw [hA_235 40 (by decide)]
                    have es_254 : A_235 40 (x_1.toInt + 26).toNat = A 40 (x_1.toInt + 26).toNat := by rw [hA_235 40 (by decide)]
                    have ev_255 : A_235 40 = A 40 := by rw [hA_235 40 (by decide)]
                    have hnx_256 := hp0.2
                    rw [← hbo_232] at hnx_256
                    unfold nX at hnx_256
                    have h9_256 : (A 40 (x_1.toInt + 9).toNat).toInt = x2.toInt := by omega
                    have hny_256 := hnx_256 (by omega) (by omega)
                    rw [h9_256] at hny_256
                    clear hnx_256
                    have hq_252 : nL (A_235 40) x_1.toInt x2.toInt (A_235 40 (x_1.toInt + 26).toNat).toInt := by (rw [ev_255]; exact hny_256.2.2.2)
                    have ev_258 : A_235 40 = A 40 := by rw [hA_235 40 (by decide)]
                    have hq_257 : (f_235 11).toInt ≤ 1950000000 := by ((try simp only [ti_4]); first | assumption | omega | (intros; omega))
                    have ev_260 : f_235 9 = f 9 := by rw [hF_235 9 (by decide), hE_2, pk_un (show 9 ≠ 23 by decide)]
                    have ev_261 : A_235 40 = A 40 := by rw [hA_235 40 (by decide)]
                    have hq_259 : (f_235 9).toInt ≤ 1950000000 := by rw [ev_260] <;> ((try simp only [ti_4]); first | assumption | omega | (intros; omega))
                    refine mcV (zrV (As := [.int x_1, .int 4, .int x2, .int x3]) (b := a0) (rest := []) C hs hP hS (c_X12_doLay l D K hM f_235 A_235 hT a0 ha0 hk0 x_1 4 x2 x3 hbs_182 hq_243 hq_245 hq_249 hq_252 hq_257 hq_259) m_X12_doLay wm_X12_238 (zrecv hs hP ha0 (zF_11 hk0) rfl) ⟨by decide, by decide⟩ hl.1 (Nat.le_of_ble_eq_true rfl) dX12_again_215) hS (fun f_262 A_262 H locs p_262 hP hS => ?_)
                    obtain ⟨hT, hA_262, hF_262, hC_262, hW_262, pp_262⟩ := p_262
                    have pp_262 : (f_235 9).toInt ≤ (f_262 9).toInt ∧ (f_262 9).toInt ≤ (f_235 9).toInt + 2 ∧ (f_235 11).toInt ≤ (f_262 11).toInt ∧ (f_262 11).toInt ≤ (f_235 11).toInt + 13 ∧ ((f_235 12).toInt ≠ 0 → (f_262 11).toInt = (f_235 11).toInt) ∧ rowN (A_262 40) x_1.toInt := pp_262
                    have pp0_262 := zHid.mk pp_262
                    have ev_263 : f_235 12 = f 12 := by rw [hF_235 12 (by decide), hE_2, pk_un (show 12 ≠ 23 by decide)]
                    have ev_264 : f_235 9 = f 9 := by rw [hF_235 9 (by decide), hE_2, pk_un (show 9 ≠ 23 by decide)]
                    rw [ev_263, ev_264] at pp_262
                    try simp only [ti_4] at pp_262
                    have pc_262 := pp_262.1
                    have pd_262 := pp_262.2.1
                    have pa_262 := pp_262.2.2.1
                    have pb_262 := pp_262.2.2.2.1
                    have qq_262 := zHid.mk pp_262.2.2.2.2.1
                    replace pp_262 := pp_262.2.2.2.2.2
                    have FA := frA FA hA_262 (by decide)
                    have FF := frF FF hF_262 (by decide)
                    have FC := fC.tr FC (fC.mv hC_262 (by omega)) (by decide)
                    have hRN : rowN (A_262 40) 5160 := by rw [← hbo_232]; exact pp0_262.2.2.2.2.2
                    have ev_265 : f_262 12 = f 12 := by rw [hF_262 12 (by decide), hF_235 12 (by decide), hE_2, pk_un (show 12 ≠ 23 by decide)]
                    exact maV hQ hx hb hr hlk hP hS ⟨hT, FA, FF, FC, ⟨hRN, by have hq0 := qq_235 (by omega); have hq1 := qq_262 (by omega); omega, by rw [ev_265] <;> omega, by omega, by omega, (by rw [(fC.mv hC_262 (show (5160 : Int) = _ by omega)).ar (by decide) (lo := 44) (hi := 44) (by decide) (5160 + 44) (by decide) (by decide) (by decide), hA_235 40 (by decide)]; exact Int.le_refl _)⟩⟩ dX12_again_218
            · have d_267 := c_178
              rcases Classical.em (x1.toInt = 6) with c_268 | c_268
              · refine lv_tableIn (tgt := 142) hx hb dX12_again_11 (by omega) (by omega) (by rw [c_268]; rfl) (by decide) ?_
                refine lv_aload_n hx hb dX12_again_142 rfl (lv_at hl 1 rfl) ?_
                refine lv_iload hx hb dX12_again_143 (lv_at hl 0 rfl) ?_
                have f_d1 : x_1.toInt = 5160 := by rw [ex_1]; exact ti_5160
                have hbs_269 : zRow x_1.toInt := zRow.of (t := 4) (by omega) (by omega)
                have hbl_hbs_269 := hbs_269.lin
                refine zcS (zrV (As := [.int x_1]) (b := a0) (rest := []) C hs hP hS (c_X12_isEnd l D K hM f_2 A hT a0 ha0 hk0 x_1 hbs_269) m_X12_isEnd wm_X12_301 (zrecv hs hP ha0 (zF_11 hk0) rfl) ⟨by decide, by decide⟩ hl.1 (Nat.le_of_ble_eq_true rfl) dX12_again_145) (fun x_270 p_270 => ?_)
                have pp_270 : (x_270.toInt ≠ 0 → (A 40 (x_1.toInt + 5).toNat).toInt = 1 ∧ h4 (A 40) x_1.toInt 4) := p_270.2
                refine bz_eq (tgt := 218) hx hb rfl dX12_again_148 (by decide) (fun c_271 => ?_) (fun c_271 => ?_)
                · skip
                  clear pp_270
                  have ev_272 : f_2 11 = f 11 := by rw [hE_2, pk_un (show 11 ≠ 23 by decide)]
                  have ev_273 : f_2 12 = f 12 := by rw [hE_2, pk_un (show 12 ≠ 23 by decide)]
                  have ev_274 : f_2 9 = f 9 := by rw [hE_2, pk_un (show 9 ≠ 23 by decide)]
                  exact maV hQ hx hb hr hlk hP hS ⟨hT, FA, FF, FC, ⟨hp0, by rw [ev_272] <;> omega, by rw [ev_273] <;> omega, by rw [ev_274] <;> omega, by rw [ev_274] <;> omega, (Int.le_refl _)⟩⟩ dX12_again_218
                · skip
                  replace pp_270 := pp_270 c_271
                  refine lv_aload_n hx hb dX12_again_151 rfl (lv_at hl 1 rfl) ?_
                  refine lv_iconst (v := 4) hx hb dX12_again_152 (by decide) ?_
                  refine lv_iload hx hb dX12_again_153 (lv_at hl 0 rfl) ?_
                  refine lv_iload_n hx hb dX12_again_155 rfl (lv_at hl 3 rfl) ?_
                  have g_276 := z_rng x2
                  have hbo_278 : x_1.toInt = 5160 := by omega
                  have ha1 := hz1 (by omega)
                  have ha3 := hz3 (by omega)
                  have hq_277 : h4 (A 40) x_1.toInt 4 := by exact pp_270.2
                  have ev_280 : f_2 20 = f 20 := by rw [hE_2, pk_un (show 20 ≠ 23 by decide)]
                  have ev_281 : f_2 23 = ((-1) : Int32) := by rw [hE_2, pk_us]
                  have ev_281_i : (f_2 23).toInt = -1 := by rw [ev_281, ti_m1]
                  have ev_282 : f_2 23 = ((-1) : Int32) := by rw [hE_2, pk_us]
                  have ev_282_i : (f_2 23).toInt = -1 := by rw [ev_282, ti_m1]
                  have hq_279 : ((f_2 23).toInt = (4 : Int32).toInt → aOk (A 40) x_1.toInt (f_2 20).toInt) := by (intro h9; rw [ev_282, ti_m1, ti_4] at h9; omega)
                  have ev_284 : f_2 11 = f 11 := by rw [hE_2, pk_un (show 11 ≠ 23 by decide)]
                  have hq_283 : (f_2 11).toInt ≤ 1950000000 := by rw [ev_284] <;> ((try simp only [ti_4]); first | assumption | omega | (intros; omega))
                  refine mcI (zrV (As := [.int 4, .int x_1, .int x2]) (b := a0) (rest := []) C hs hP hS (c_X12_sureAt l D K hM f_2 A hT a0 ha0 hk0 4 x_1 x2 hbs_269 hq_277 hq_279 hq_283) m_X12_sureAt wm_X12_307 (zrecv hs hP ha0 (zF_11 hk0) rfl) ⟨by decide, by decide⟩ hl.1 (Nat.le_of_ble_eq_true rfl) dX12_again_156) hS (fun x_285 f_285 A_285 H locs p_285 hP hS => ?_)
                  obtain ⟨hT, hA_285, hF_285, pp_285⟩ := p_285
                  have pp_285 : (f_285 11).toInt = (f_2 11).toInt ∧ (f_285 12).toInt = (f_2 12).toInt ∧ aOk (A 40) x_1.toInt (f_285 20).toInt ∧ (f_285 23).toInt = (4 : Int32).toInt := pp_285
                  have pp0_285 := zHid.mk pp_285
                  have ev_286 : f_2 11 = f 11 := by rw [hE_2, pk_un (show 11 ≠ 23 by decide)]
                  have ev_287 : f_2 12 = f 12 := by rw [hE_2, pk_un (show 12 ≠ 23 by decide)]
                  rw [ev_286, ev_287] at pp_285
                  try simp only [ti_4] at pp_285
                  have FA := frA FA hA_285 (by decide)
                  have FF := frF FF hF_285 (by decide)
                  have FC := fC.eq FC (hA_285 40 (by decide))
                  have p11_285 := pp_285.1
                  have p12_285 := pp_285.2.1
                  clear pp_285
                  refine lv_iload_n hx hb dX12_again_159 rfl (lv_at hl 4 rfl) ?_
                  refine bi_lt (tgt := 218) hx hb rfl rfl dX12_again_160 (by decide) (fun c_288 => ?_) (fun c_288 => ?_)
                  · skip
                    have ev_289 : f_285 9 = f 9 := by rw [hF_285 9 (by decide), hE_2, pk_un (show 9 ≠ 23 by decide)]
                    have ev_290 : A_285 40 = A 40 := by rw [hA_285 40 (by decide)]
                    exact maV hQ hx hb hr hlk hP hS ⟨hT, FA, FF, FC, ⟨(by rw [ev_290]; exact hp0), by omega, by omega, by rw [ev_289] <;> omega, by rw [ev_289] <;> omega, (by rw [hA_285 40 (by decide)]; exact Int.le_refl _)⟩⟩ dX12_again_218
                  · skip
                    refine lv_aload_n hx hb dX12_again_163 rfl (lv_at hl 1 rfl) ?_
                    refine lv_iload hx hb dX12_again_164 (lv_at hl 0 rfl) ?_
                    refine lv_iconst (v := 4) hx hb dX12_again_166 (by decide) ?_
                    refine lv_iload_n hx hb dX12_again_167 rfl (lv_at hl 3 rfl) ?_
                    refine lv_iload_n hx hb dX12_again_168 rfl (lv_at hl 4 rfl) ?_
                    have g_292 := z_rng x3
                    have ev_294 : A_285 40 = A 40 := by rw [hA_285 40 (by decide)]
                    have hq_293 : 0 ≤ x2.toInt ∧ x2.toInt ≤ 1 := by ((try simp only [ti_4]); first | assumption | omega | (intros; omega))
                    have ev_296 : A_285 40 = A 40 := by rw [hA_285 40 (by decide)]
                    have ev_297 : A_285 40 = A 40 := by rw [hA_285 40 (by decide)]
                    have hq_295 : rowP (A_285 40) x_1.toInt := by (rw [ev_297]; rw [hbo_278]; exact hp0.1)
                    have ev_299 : A_285 40 = A 40 := by rw [hA_285 40 (by decide)]
                    have hq_298 : (f_285 11).toInt ≤ 1960000000 := by ((try simp only [ti_4]); first | assumption | omega | (intros; omega))
                    have ev_301 : f_285 9 = f 9 := by rw [hF_285 9 (by decide), hE_2, pk_un (show 9 ≠ 23 by decide)]
                    have ev_302 : A_285 40 = A 40 := by rw [hA_285 40 (by decide)]
                    have hq_300 : (f_285 9).toInt ≤ 1960000000 := by rw [ev_301] <;> ((try simp only [ti_4]); first | assumption | omega | (intros; omega))
                    refine mcV (zrV (As := [.int x_1, .int 4, .int x2, .int x3]) (b := a0) (rest := []) C hs hP hS (c_X12_doClaim l D K hM f_285 A_285 hT a0 ha0 hk0 x_1 4 x2 x3 hbs_269 hq_293 hq_295 hq_298 hq_300) m_X12_doClaim wm_X12_310 (zrecv hs hP ha0 (zF_11 hk0) rfl) ⟨by decide, by decide⟩ hl.1 (Nat.le_of_ble_eq_true rfl) dX12_again_169) hS (fun f_303 A_303 H locs p_303 hP hS => ?_)
                    obtain ⟨hT, hA_303, hF_303, hC_303, hW_303, pp_303⟩ := p_303
                    have pp_303 : (f_285 9).toInt ≤ (f_303 9).toInt ∧ (f_303 9).toInt ≤ (f_285 9).toInt + 2 ∧ (f_285 11).toInt ≤ (f_303 11).toInt ∧ (f_303 11).toInt ≤ (f_285 11).toInt + 6 ∧ ((f_285 12).toInt ≠ 0 → (f_303 11).toInt = (f_285 11).toInt) ∧ rowN (A_303 40) x_1.toInt := pp_303
                    have pp0_303 := zHid.mk pp_303
                    have ev_304 : f_285 9 = f 9 := by rw [hF_285 9 (by decide), hE_2, pk_un (show 9 ≠ 23 by decide)]
                    rw [ev_304] at pp_303
                    try simp only [ti_4] at pp_303
                    have pc_303 := pp_303.1
                    have pd_303 := pp_303.2.1
                    have pa_303 := pp_303.2.2.1
                    have pb_303 := pp_303.2.2.2.1
                    have qq_303 := zHid.mk pp_303.2.2.2.2.1
                    replace pp_303 := pp_303.2.2.2.2.2
                    have FA := frA FA hA_303 (by decide)
                    have FF := frF FF hF_303 (by decide)
                    have FC := fC.tr FC (fC.mv hC_303 (by omega)) (by decide)
                    have hRN : rowN (A_303 40) 5160 := by rw [← hbo_278]; exact pp0_303.2.2.2.2.2
                    refine lv_goto (tgt := 218) hx hb dX12_again_172 (by decide) ?_
                    have ev_305 : f_303 12 = f_285 12 := by rw [hF_303 12 (by decide)]
                    exact maV hQ hx hb hr hlk hP hS ⟨hT, FA, FF, FC, ⟨hRN, by have hq0 := qq_303 (by omega); omega, by rw [ev_305] <;> omega, by omega, by omega, (by rw [(fC.mv hC_303 (show (5160 : Int) = _ by omega)).ar (by decide) (lo := 44) (hi := 44) (by decide) (5160 + 44) (by decide) (by decide) (by decide), hA_285 40 (by decide)]; exact Int.le_refl _)⟩⟩ dX12_again_218
              · have d_307 := c_268
                refine lv_tableOut (tgt := 175) hx hb dX12_again_11 (by omega) (by decide) ?_
                refine lv_aload_n hx hb dX12_again_175 rfl (lv_at hl 1 rfl) ?_
                refine mg_0 C hs hP ha0 hk0 wf_X12_8 dX12_again_176 ?_
                have hf_309 := hO.r (j := 0) ha0 hk0 (rfl : zX 11 0 = some (40, 47730))
                refine lv_iload hx hb dX12_again_179 (lv_at hl 0 rfl) ?_
                refine lv_iconst (v := 5) hx hb dX12_again_181 (by decide) ?_
                refine lv_iadd hx hb dX12_again_182 ?_
                refine lv_topi (fun x_310 ex_310 => ?_)
                have f_d1 : x_1.toInt = 5160 := by rw [ex_1]; exact ti_5160
                have hbs_312 : zRow x_1.toInt := zRow.of (t := 4) (by omega) (by omega)
                have hbl_hbs_312 := hbs_312.lin
                have hi_hr_311 : zEq x_310.toInt (x_1.toInt + 5) := by
                  obtain ⟨f_310, l_310, u_310⟩ := z_add ex_310 rfl ti_5
                  try replace f_310 : x_310.toInt = x_1.toInt + 5 := by omega
                  clear l_310 u_310
                  show x_310.toInt = (x_1.toInt + 5)
                  omega
                have hl_hr_311 : (5 : Int) ≤ 5 ∧ 5 ≤ (5 : Int) := by decide
                have hid_hr_311 : (x_1.toInt + 5) = x_1.toInt + (5) := by simp only [Int.add_assoc, Int.add_sub_assoc]
                have hr_311 := z_cell (lo := 2) (hi := 8) hbs_312 hi_hr_311 hid_hr_311 hl_hr_311 (by decide)
                replace hid_hr_311 : zEq (x_1.toInt + 5) (x_1.toInt + (5)) := hid_hr_311
                have hin_313 : vp_in x_310 (zn K (zr K a0 0)) := vp_in_iff.mpr (by rw [(hf_309.2.2 (by decide))]; exact hr_311.in)
                refine mld_40 C hs hP hf_309.1 hf_309.2.1 hin_313 dX12_again_183 ?_
                have ep_314 : x_310.toNatClampNeg = (x_1.toInt + 5).toNat := z_posE hi_hr_311
                rw [ep_314]
                clear ep_314
                refine lv_iconst (v := 1) hx hb dX12_again_184 (by decide) ?_
                refine bi_ne (tgt := 218) hx hb rfl ti_1 dX12_again_185 (by decide) (fun c_315 => ?_) (fun c_315 => ?_)
                · skip
                  have ev_316 : f_2 11 = f 11 := by rw [hE_2, pk_un (show 11 ≠ 23 by decide)]
                  have ev_317 : f_2 12 = f 12 := by rw [hE_2, pk_un (show 12 ≠ 23 by decide)]
                  have ev_318 : f_2 9 = f 9 := by rw [hE_2, pk_un (show 9 ≠ 23 by decide)]
                  exact maV hQ hx hb hr hlk hP hS ⟨hT, FA, FF, FC, ⟨hp0, by rw [ev_316] <;> omega, by rw [ev_317] <;> omega, by rw [ev_318] <;> omega, by rw [ev_318] <;> omega, (Int.le_refl _)⟩⟩ dX12_again_218
                · skip
                  refine lv_aload_n hx hb dX12_again_188 rfl (lv_at hl 1 rfl) ?_
                  refine lv_iload hx hb dX12_again_189 (lv_at hl 0 rfl) ?_
                  refine lv_iload_n hx hb dX12_again_191 rfl (lv_at hl 3 rfl) ?_
                  refine lv_iload_n hx hb dX12_again_192 rfl (lv_at hl 4 rfl) ?_
                  refine lv_iload_n hx hb dX12_again_193 rfl (lv_at hl 2 rfl) ?_
                  refine lv_iconst (v := 5) hx hb dX12_again_194 (by decide) ?_
                  refine bi_ne (tgt := 202) hx hb rfl ti_5 dX12_again_195 (by decide) (fun c_320 => ?_) (fun c_320 => ?_)
                  · skip
                    refine lv_iconst (v := 0) hx hb dX12_again_202 (by decide) ?_
                    have g_321 := z_rng x2
                    have g_322 := z_rng x3
                    have hbo_324 : x_1.toInt = 5160 := by omega
                    have ha1 := hz1 (by omega)
                    have hq_323 : 0 ≤ x2.toInt ∧ x2.toInt ≤ 3 := by ((try simp only [ti_0]); first | assumption | omega | (intros; omega))
                    have ev_326 : f_2 11 = f 11 := by rw [hE_2, pk_un (show 11 ≠ 23 by decide)]
                    have hq_325 : (f_2 11).toInt ≤ 1980000000 := by rw [ev_326] <;> ((try simp only [ti_0]); first | assumption | omega | (intros; omega))
                    refine mcI (zrV (As := [.int x_1, .int x2, .int x3, .int 0]) (b := a0) (rest := []) C hs hP hS (c_X12_playMeets l D K hM f_2 A hT a0 ha0 hk0 x_1 x2 x3 0 hbs_312 hq_323 hq_325) m_X12_playMeets wm_X12_235 (zrecv hs hP ha0 (zF_11 hk0) rfl) ⟨by decide, by decide⟩ hl.1 (Nat.le_of_ble_eq_true rfl) dX12_again_203) hS (fun x_327 f_327 A_327 H locs p_327 hP hS => ?_)
                    obtain ⟨hT, hA_327, hF_327, pp_327⟩ := p_327
                    have pp_327 : (f_2 11).toInt ≤ (f_327 11).toInt ∧ (f_327 11).toInt ≤ (f_2 11).toInt + 3 ∧ ((f_2 12).toInt ≠ 0 → (f_327 11).toInt = (f_2 11).toInt) ∧ (x_327.toInt ≤ 0 → 0 ≤ x3.toInt ∧ x3.toInt < (A 40 (x_1.toInt + x2.toInt + 22).toNat).toInt ∧ (A 40 (x_1.toInt + 9).toNat).toInt = x2.toInt) := pp_327
                    have pp0_327 := zHid.mk pp_327
                    have ev_328 : f_2 11 = f 11 := by rw [hE_2, pk_un (show 11 ≠ 23 by decide)]
                    have ev_329 : f_2 12 = f 12 := by rw [hE_2, pk_un (show 12 ≠ 23 by decide)]
                    rw [ev_328, ev_329] at pp_327
                    try simp only [ti_0] at pp_327
                    have pa_327 := pp_327.1
                    have pb_327 := pp_327.2.1
                    have qq_327 := zHid.mk pp_327.2.2.1
                    replace pp_327 := pp_327.2.2.2
                    have FA := frA FA hA_327 (by decide)
                    have FF := frF FF hF_327 (by decide)
                    have FC := fC.eq FC (hA_327 40 (by decide))
                    refine bz_ne (tgt := 218) hx hb rfl dX12_again_206 (by decide) (fun c_330 => ?_) (fun c_330 => ?_)
                    · skip
                      have ev_331 : f_327 12 = f 12 := by rw [hF_327 12 (by decide), hE_2, pk_un (show 12 ≠ 23 by decide)]
                      have ev_332 : f_327 9 = f 9 := by rw [hF_327 9 (by decide), hE_2, pk_un (show 9 ≠ 23 by decide)]
                      have ev_333 : A_327 40 = A 40 := by rw [hA_327 40 (by decide)]
                      exact maV hQ hx hb hr hlk hP hS ⟨hT, FA, FF, FC, ⟨(by rw [ev_333]; exact hp0), by have hq0 := qq_327 (by omega); omega, by rw [ev_331] <;> omega, by rw [ev_332] <;> omega, by rw [ev_332] <;> omega, (by rw [hA_327 40 (by decide)]; exact Int.le_refl _)⟩⟩ dX12_again_218
                    · skip
                      refine lv_aload_n hx hb dX12_again_209 rfl (lv_at hl 1 rfl) ?_
                      refine lv_iload hx hb dX12_again_210 (lv_at hl 0 rfl) ?_
                      refine lv_iconst (v := 4) hx hb dX12_again_212 (by decide) ?_
                      refine lv_iload_n hx hb dX12_again_213 rfl (lv_at hl 3 rfl) ?_
                      refine lv_iload_n hx hb dX12_again_214 rfl (lv_at hl 4 rfl) ?_
                      have ev_336 : A_327 40 = A 40 := by rw [hA_327 40 (by decide)]
                      have hq_335 : 0 ≤ x2.toInt ∧ x2.toInt ≤ 3 := by ((try simp only [ti_4]); first | assumption | omega | (intros; omega))
                      have ev_338 : A_327 40 = A 40 := by rw [hA_327 40 (by decide)]
                      have es_339 : A_327 40 (x_1.toInt + x2.toInt + 22).toNat = A 40 (x_1.toInt + x2.toInt + 22).toNat := by rw [hA_327 40 (by decide)]
                      have ev_340 : A_327 40 = A 40 := by rw [hA_327 40 (by decide)]
                      have hq_337 : 0 ≤ x3.toInt ∧ x3.toInt < (A_327 40 (x_1.toInt + x2.toInt + 22).toNat).toInt := by rw [es_339] <;> ((try simp only [ti_4]); first | assumption | omega | (intros; omega))
                      have ev_342 : A_327 40 = A 40 := by rw [hA_327 40 (by decide)]
                      have ev_343 : A_327 40 = A 40 := by rw [hA_327 40 (by decide)]
                      have hq_341 : rowP (A_327 40) x_1.toInt := by (rw [ev_343]; rw [hbo_324]; exact hp0.1)
                      have ev_345 : A_327 40 = A 40 := by rw [hA_327 40 (by decide)]
                      have es_346 : A_327 40 (x_1.toInt + 26).toNat = A 40 (x_1.toInt + 26).toNat := by rw [hA_327 40 (by decide)]
                      have ev_347 : A_327 40 = A 40 := by rw [hA_327 40 (by decide)]
                      have hnx_348 := hp0.2
                      rw [← hbo_324] at hnx_348
                      unfold nX at hnx_348
                      have h9_348 : (A 40 (x_1.toInt + 9).toNat).toInt = x2.toInt := by omega
                      have hny_348 := hnx_348 (by omega) (by omega)
                      rw [h9_348] at hny_348
                      clear hnx_348
                      have hq_344 : nL (A_327 40) x_1.toInt x2.toInt (A_327 40 (x_1.toInt + 26).toNat).toInt := by (rw [ev_347]; exact hny_348.2.2.2)
                      have ev_350 : A_327 40 = A 40 := by rw [hA_327 40 (by decide)]
                      have hq_349 : (f_327 11).toInt ≤ 1950000000 := by ((try simp only [ti_4]); first | assumption | omega | (intros; omega))
                      have ev_352 : f_327 9 = f 9 := by rw [hF_327 9 (by decide), hE_2, pk_un (show 9 ≠ 23 by decide)]
                      have ev_353 : A_327 40 = A 40 := by rw [hA_327 40 (by decide)]
                      have hq_351 : (f_327 9).toInt ≤ 1950000000 := by rw [ev_352] <;> ((try simp only [ti_4]); first | assumption | omega | (intros; omega))
                      refine mcV (zrV (As := [.int x_1, .int 4, .int x2, .int x3]) (b := a0) (rest := []) C hs hP hS (c_X12_doLay l D K hM f_327 A_327 hT a0 ha0 hk0 x_1 4 x2 x3 hbs_312 hq_335 hq_337 hq_341 hq_344 hq_349 hq_351) m_X12_doLay wm_X12_238 (zrecv hs hP ha0 (zF_11 hk0) rfl) ⟨by decide, by decide⟩ hl.1 (Nat.le_of_ble_eq_true rfl) dX12_again_215) hS (fun f_354 A_354 H locs p_354 hP hS => ?_)
                      obtain ⟨hT, hA_354, hF_354, hC_354, hW_354, pp_354⟩ := p_354
                      have pp_354 : (f_327 9).toInt ≤ (f_354 9).toInt ∧ (f_354 9).toInt ≤ (f_327 9).toInt + 2 ∧ (f_327 11).toInt ≤ (f_354 11).toInt ∧ (f_354 11).toInt ≤ (f_327 11).toInt + 13 ∧ ((f_327 12).toInt ≠ 0 → (f_354 11).toInt = (f_327 11).toInt) ∧ rowN (A_354 40) x_1.toInt := pp_354
                      have pp0_354 := zHid.mk pp_354
                      have ev_355 : f_327 12 = f 12 := by rw [hF_327 12 (by decide), hE_2, pk_un (show 12 ≠ 23 by decide)]
                      have ev_356 : f_327 9 = f 9 := by rw [hF_327 9 (by decide), hE_2, pk_un (show 9 ≠ 23 by decide)]
                      rw [ev_355, ev_356] at pp_354
                      try simp only [ti_4] at pp_354
                      have pc_354 := pp_354.1
                      have pd_354 := pp_354.2.1
                      have pa_354 := pp_354.2.2.1
                      have pb_354 := pp_354.2.2.2.1
                      have qq_354 := zHid.mk pp_354.2.2.2.2.1
                      replace pp_354 := pp_354.2.2.2.2.2
                      have FA := frA FA hA_354 (by decide)
                      have FF := frF FF hF_354 (by decide)
                      have FC := fC.tr FC (fC.mv hC_354 (by omega)) (by decide)
                      have hRN : rowN (A_354 40) 5160 := by rw [← hbo_324]; exact pp0_354.2.2.2.2.2
                      have ev_357 : f_354 12 = f 12 := by rw [hF_354 12 (by decide), hF_327 12 (by decide), hE_2, pk_un (show 12 ≠ 23 by decide)]
                      exact maV hQ hx hb hr hlk hP hS ⟨hT, FA, FF, FC, ⟨hRN, by have hq0 := qq_327 (by omega); have hq1 := qq_354 (by omega); omega, by rw [ev_357] <;> omega, by omega, by omega, (by rw [(fC.mv hC_354 (show (5160 : Int) = _ by omega)).ar (by decide) (lo := 44) (hi := 44) (by decide) (5160 + 44) (by decide) (by decide) (by decide), hA_327 40 (by decide)]; exact Int.le_refl _)⟩⟩ dX12_again_218
                  · skip
                    refine lv_iconst (v := 1) hx hb dX12_again_198 (by decide) ?_
                    refine lv_goto (tgt := 203) hx hb dX12_again_199 (by decide) ?_
                    have g_359 := z_rng x2
                    have g_360 := z_rng x3
                    have hbo_362 : x_1.toInt = 5160 := by omega
                    have ha1 := hz1 (by omega)
                    have hq_361 : 0 ≤ x2.toInt ∧ x2.toInt ≤ 3 := by ((try simp only [ti_1]); first | assumption | omega | (intros; omega))
                    have ev_364 : f_2 11 = f 11 := by rw [hE_2, pk_un (show 11 ≠ 23 by decide)]
                    have hq_363 : (f_2 11).toInt ≤ 1980000000 := by rw [ev_364] <;> ((try simp only [ti_1]); first | assumption | omega | (intros; omega))
                    refine mcI (zrV (As := [.int x_1, .int x2, .int x3, .int 1]) (b := a0) (rest := []) C hs hP hS (c_X12_playMeets l D K hM f_2 A hT a0 ha0 hk0 x_1 x2 x3 1 hbs_312 hq_361 hq_363) m_X12_playMeets wm_X12_235 (zrecv hs hP ha0 (zF_11 hk0) rfl) ⟨by decide, by decide⟩ hl.1 (Nat.le_of_ble_eq_true rfl) dX12_again_203) hS (fun x_365 f_365 A_365 H locs p_365 hP hS => ?_)
                    obtain ⟨hT, hA_365, hF_365, pp_365⟩ := p_365
                    have pp_365 : (f_2 11).toInt ≤ (f_365 11).toInt ∧ (f_365 11).toInt ≤ (f_2 11).toInt + 3 ∧ ((f_2 12).toInt ≠ 0 → (f_365 11).toInt = (f_2 11).toInt) ∧ (x_365.toInt ≤ 0 → 0 ≤ x3.toInt ∧ x3.toInt < (A 40 (x_1.toInt + x2.toInt + 22).toNat).toInt ∧ (A 40 (x_1.toInt + 9).toNat).toInt = x2.toInt) := pp_365
                    have pp0_365 := zHid.mk pp_365
                    have ev_366 : f_2 11 = f 11 := by rw [hE_2, pk_un (show 11 ≠ 23 by decide)]
                    have ev_367 : f_2 12 = f 12 := by rw [hE_2, pk_un (show 12 ≠ 23 by decide)]
                    rw [ev_366, ev_367] at pp_365
                    try simp only [ti_1] at pp_365
                    have pa_365 := pp_365.1
                    have pb_365 := pp_365.2.1
                    have qq_365 := zHid.mk pp_365.2.2.1
                    replace pp_365 := pp_365.2.2.2
                    have FA := frA FA hA_365 (by decide)
                    have FF := frF FF hF_365 (by decide)
                    have FC := fC.eq FC (hA_365 40 (by decide))
                    refine bz_ne (tgt := 218) hx hb rfl dX12_again_206 (by decide) (fun c_368 => ?_) (fun c_368 => ?_)
                    · skip
                      have ev_369 : f_365 12 = f 12 := by rw [hF_365 12 (by decide), hE_2, pk_un (show 12 ≠ 23 by decide)]
                      have ev_370 : f_365 9 = f 9 := by rw [hF_365 9 (by decide), hE_2, pk_un (show 9 ≠ 23 by decide)]
                      have ev_371 : A_365 40 = A 40 := by rw [hA_365 40 (by decide)]
                      exact maV hQ hx hb hr hlk hP hS ⟨hT, FA, FF, FC, ⟨(by rw [ev_371]; exact hp0), by have hq0 := qq_365 (by omega); omega, by rw [ev_369] <;> omega, by rw [ev_370] <;> omega, by rw [ev_370] <;> omega, (by rw [hA_365 40 (by decide)]; exact Int.le_refl _)⟩⟩ dX12_again_218
                    · skip
                      refine lv_aload_n hx hb dX12_again_209 rfl (lv_at hl 1 rfl) ?_
                      refine lv_iload hx hb dX12_again_210 (lv_at hl 0 rfl) ?_
                      refine lv_iconst (v := 4) hx hb dX12_again_212 (by decide) ?_
                      refine lv_iload_n hx hb dX12_again_213 rfl (lv_at hl 3 rfl) ?_
                      refine lv_iload_n hx hb dX12_again_214 rfl (lv_at hl 4 rfl) ?_
                      have ev_374 : A_365 40 = A 40 := by rw [hA_365 40 (by decide)]
                      have hq_373 : 0 ≤ x2.toInt ∧ x2.toInt ≤ 3 := by ((try simp only [ti_4]); first | assumption | omega | (intros; omega))
                      have ev_376 : A_365 40 = A 40 := by rw [hA_365 40 (by decide)]
                      have es_377 : A_365 40 (x_1.toInt + x2.toInt + 22).toNat = A 40 (x_1.toInt + x2.toInt + 22).toNat := by rw [hA_365 40 (by decide)]
                      have ev_378 : A_365 40 = A 40 := by rw [hA_365 40 (by decide)]
                      have hq_375 : 0 ≤ x3.toInt ∧ x3.toInt < (A_365 40 (x_1.toInt + x2.toInt + 22).toNat).toInt := by rw [es_377] <;> ((try simp only [ti_4]); first | assumption | omega | (intros; omega))
                      have ev_380 : A_365 40 = A 40 := by rw [hA_365 40 (by decide)]
                      have ev_381 : A_365 40 = A 40 := by rw [hA_365 40 (by decide)]
                      have hq_379 : rowP (A_365 40) x_1.toInt := by (rw [ev_381]; rw [hbo_362]; exact hp0.1)
                      have ev_383 : A_365 40 = A 40 := by rw [hA_365 40 (by decide)]
                      have es_384 : A_365 40 (x_1.toInt + 26).toNat = A 40 (x_1.toInt + 26).toNat := by rw [hA_365 40 (by decide)]
                      have ev_385 : A_365 40 = A 40 := by rw [hA_365 40 (by decide)]
                      have hnx_386 := hp0.2
                      rw [← hbo_362] at hnx_386
                      unfold nX at hnx_386
                      have h9_386 : (A 40 (x_1.toInt + 9).toNat).toInt = x2.toInt := by omega
                      have hny_386 := hnx_386 (by omega) (by omega)
                      rw [h9_386] at hny_386
                      clear hnx_386
                      have hq_382 : nL (A_365 40) x_1.toInt x2.toInt (A_365 40 (x_1.toInt + 26).toNat).toInt := by (rw [ev_385]; exact hny_386.2.2.2)
                      have ev_388 : A_365 40 = A 40 := by rw [hA_365 40 (by decide)]
                      have hq_387 : (f_365 11).toInt ≤ 1950000000 := by ((try simp only [ti_4]); first | assumption | omega | (intros; omega))
                      have ev_390 : f_365 9 = f 9 := by rw [hF_365 9 (by decide), hE_2, pk_un (show 9 ≠ 23 by decide)]
                      have ev_391 : A_365 40 = A 40 := by rw [hA_365 40 (by decide)]
                      have hq_389 : (f_365 9).toInt ≤ 1950000000 := by rw [ev_390] <;> ((try simp only [ti_4]); first | assumption | omega | (intros; omega))
                      refine mcV (zrV (As := [.int x_1, .int 4, .int x2, .int x3]) (b := a0) (rest := []) C hs hP hS (c_X12_doLay l D K hM f_365 A_365 hT a0 ha0 hk0 x_1 4 x2 x3 hbs_312 hq_373 hq_375 hq_379 hq_382 hq_387 hq_389) m_X12_doLay wm_X12_238 (zrecv hs hP ha0 (zF_11 hk0) rfl) ⟨by decide, by decide⟩ hl.1 (Nat.le_of_ble_eq_true rfl) dX12_again_215) hS (fun f_392 A_392 H locs p_392 hP hS => ?_)
                      obtain ⟨hT, hA_392, hF_392, hC_392, hW_392, pp_392⟩ := p_392
                      have pp_392 : (f_365 9).toInt ≤ (f_392 9).toInt ∧ (f_392 9).toInt ≤ (f_365 9).toInt + 2 ∧ (f_365 11).toInt ≤ (f_392 11).toInt ∧ (f_392 11).toInt ≤ (f_365 11).toInt + 13 ∧ ((f_365 12).toInt ≠ 0 → (f_392 11).toInt = (f_365 11).toInt) ∧ rowN (A_392 40) x_1.toInt := pp_392
                      have pp0_392 := zHid.mk pp_392
                      have ev_393 : f_365 12 = f 12 := by rw [hF_365 12 (by decide), hE_2, pk_un (show 12 ≠ 23 by decide)]
                      have ev_394 : f_365 9 = f 9 := by rw [hF_365 9 (by decide), hE_2, pk_un (show 9 ≠ 23 by decide)]
                      rw [ev_393, ev_394] at pp_392
                      try simp only [ti_4] at pp_392
                      have pc_392 := pp_392.1
                      have pd_392 := pp_392.2.1
                      have pa_392 := pp_392.2.2.1
                      have pb_392 := pp_392.2.2.2.1
                      have qq_392 := zHid.mk pp_392.2.2.2.2.1
                      replace pp_392 := pp_392.2.2.2.2.2
                      have FA := frA FA hA_392 (by decide)
                      have FF := frF FF hF_392 (by decide)
                      have FC := fC.tr FC (fC.mv hC_392 (by omega)) (by decide)
                      have hRN : rowN (A_392 40) 5160 := by rw [← hbo_362]; exact pp0_392.2.2.2.2.2
                      have ev_395 : f_392 12 = f 12 := by rw [hF_392 12 (by decide), hF_365 12 (by decide), hE_2, pk_un (show 12 ≠ 23 by decide)]
                      exact maV hQ hx hb hr hlk hP hS ⟨hT, FA, FF, FC, ⟨hRN, by have hq0 := qq_365 (by omega); have hq1 := qq_392 (by omega); omega, by rw [ev_395] <;> omega, by omega, by omega, (by rw [(fC.mv hC_392 (show (5160 : Int) = _ by omega)).ar (by decide) (lo := 44) (hi := 44) (by decide) (5160 + 44) (by decide) (by decide) (by decide), hA_365 40 (by decide)]; exact Int.le_refl _)⟩⟩ dX12_again_218
