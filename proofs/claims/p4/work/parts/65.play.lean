set_option maxHeartbeats 4000000 in
set_option maxRecDepth 100000 in
theorem c_X12_play (l : Launch) (D : va_G) (K : zK) (hM : mK K) (f : Nat → Int32) (A : Nat → Nat → Int32) (hT : mT f A) (N : Int) (a0 : Nat) (ha0 : a0 ∈ zl K) (hk0 : zk K a0 = 11) (x1 : Int32) (x2 : Int32) (x3 : Int32) (x4 : Int32) (hp0 : okk N f A) (hp1 : 0 ≤ N ∧ N ≤ 600) : Met l yX12_play (zc yX12_play cX12_play 8 (some .int)) (rmd 6) (va_Pc [.ref a0, .int x1, .int x2, .int x3, .int x4] (zB D K (mV K f A))) (mQi D K (fun r f' A' => mT f' A' ∧ (∀ k, k ∉ ([40, 42, 48, 50, 53, 55] : List Nat) → A' k = A k) ∧ (∀ k, k ∉ ([7, 9, 11, 14, 16, 17, 23] : List Nat) → f' k = f k) ∧ okk (N + 1) f' A')) 0 0 (zA K) := by
  refine zin (by decide) (Nat.le_of_ble_eq_true rfl) ?_
  intro p e s m args below meth c ls Q hQ C hr hlk hP hs hl
  have C : CallFix p m c cX12_play 8 s args zw RX12 := C
  obtain ⟨hx, hb, hml, hown, hts⟩ := id C
  have hO := hM.1
  have hS : va_S (zA K) s.heap s.heap [] := va_S.rf
  have FA : ∀ k, k ∉ ([40, 42, 48, 50, 53, 55] : List Nat) → A k = A k := fun _ _ => rfl
  have FF : ∀ k, k ∉ ([7, 9, 11, 14, 16, 17, 23] : List Nat) → f k = f k := fun _ _ => rfl
  have hl : lv_has ls 8 [(0, .ref a0), (1, .int x1), (2, .int x2), (3, .int x3), (4, .int x4)] := hl
  have aRc := hp0.1
  have hbud := hp0.2.2
  refine lv_aload_n hx hb dX12_play_0 rfl (lv_at hl 0 rfl) ?_
  refine lv_iload_n hx hb dX12_play_1 rfl (lv_at hl 1 rfl) ?_
  have hTo := hT
  refine zcS (zrV (As := [.int x1]) (b := a0) (rest := []) C hs hP hS (c_X12_isTable l D K hM f A hT a0 ha0 hk0 x1) m_X12_isTable wm_X12_107 (zrecv hs hP ha0 (zF_11 hk0) rfl) ⟨by decide, by decide⟩ hl.1 (Nat.le_of_ble_eq_true rfl) dX12_play_2) (fun x_1 p_1 => ?_)
  have pp_1 : (x_1.toInt ≠ 0 → 0 ≤ x1.toInt ∧ x1.toInt ≤ 3) := p_1.2
  have g_2 := z_rng x1
  refine bz_eq (tgt := 15) hx hb rfl dX12_play_5 (by decide) (fun c_3 => ?_) (fun c_3 => ?_)
  · skip
    clear pp_1
    refine lv_bipush (v := (-2)) hx hb dX12_play_15 (by decide) ?_
    exact maI hQ hx hb hr hlk hP hS ⟨hT, FA, FF, ⟨(aRc.mono (by omega)), hp0.2.1, by omega, by omega⟩⟩ dX12_play_17
  · skip
    replace pp_1 := pp_1 c_3
    refine lv_iload_n hx hb dX12_play_8 rfl (lv_at hl 2 rfl) ?_
    have hTo := hT
    refine zcS (zrS (As := [.int x2]) (rest := []) C hs hP hS (c_X12_isSeat l D K hM f A hT x2) m_X12_isSeat wm_X12_110 ⟨by decide, by decide⟩ hl.1 (Nat.le_of_ble_eq_true rfl) dX12_play_9) (fun x_4 p_4 => ?_)
    have pp_4 : (x_4.toInt ≠ 0 → 0 ≤ x2.toInt ∧ x2.toInt ≤ 3) ∧ (x_4.toInt = 0 → x2.toInt < 0 ∨ 3 < x2.toInt) := p_4.2
    have g_5 := z_rng x2
    refine bz_ne (tgt := 18) hx hb rfl dX12_play_12 (by decide) (fun c_6 => ?_) (fun c_6 => ?_)
    · skip
      replace pp_4 := pp_4.1 c_6
      refine lv_sipush (v := 1290) hx hb dX12_play_18 (by decide) ?_
      refine lv_iload_n hx hb dX12_play_21 rfl (lv_at hl 1 rfl) ?_
      refine lv_imul hx hb dX12_play_22 ?_
      refine lv_topi (fun x_7 ex_7 => ?_)
      refine lv_istore (lv' := [(5, .int x_7), (0, .ref a0), (1, .int x1), (2, .int x2), (3, .int x3), (4, .int x4)]) hx hb dX12_play_23 hl (by decide) rfl (fun ls hl => ?_)
      refine lv_aload_n hx hb dX12_play_25 rfl (lv_at hl 1 rfl) ?_
      refine mg_0 C hs hP ha0 hk0 wf_X12_8 dX12_play_26 ?_
      have hf_8 := hO.r (j := 0) ha0 hk0 (rfl : zX 11 0 = some (40, 47730))
      refine lv_iload hx hb dX12_play_29 (lv_at hl 0 rfl) ?_
      refine lv_iconst (v := 5) hx hb dX12_play_31 (by decide) ?_
      refine lv_iadd hx hb dX12_play_32 ?_
      refine lv_topi (fun x_9 ex_9 => ?_)
      obtain ⟨f_7, l_7, u_7⟩ := z_mul ex_7 ti_1290 rfl
      try replace f_7 : x_7.toInt = 1290 * x1.toInt := by omega
      clear l_7 u_7
      have hbs_11 : zRow x_7.toInt := zRow.of (t := x1.toInt) (by omega) (by omega)
      have hbl_hbs_11 := hbs_11.lin
      have hi_hr_10 : zEq x_9.toInt (x_7.toInt + 5) := by
        obtain ⟨f_9, l_9, u_9⟩ := z_add ex_9 rfl ti_5
        try replace f_9 : x_9.toInt = x_7.toInt + 5 := by omega
        clear l_9 u_9
        show x_9.toInt = (x_7.toInt + 5)
        omega
      have hl_hr_10 : (5 : Int) ≤ 5 ∧ 5 ≤ (5 : Int) := by decide
      have hid_hr_10 : (x_7.toInt + 5) = x_7.toInt + (5) := by simp only [Int.add_assoc, Int.add_sub_assoc]
      have hr_10 := z_cell (lo := 2) (hi := 8) hbs_11 hi_hr_10 hid_hr_10 hl_hr_10 (by decide)
      replace hid_hr_10 : zEq (x_7.toInt + 5) (x_7.toInt + (5)) := hid_hr_10
      have hin_12 : vp_in x_9 (zn K (zr K a0 0)) := vp_in_iff.mpr (by rw [(hf_8.2.2 (by decide))]; exact hr_10.in)
      refine mld_40 C hs hP hf_8.1 hf_8.2.1 hin_12 dX12_play_33 ?_
      have ep_13 : x_9.toNatClampNeg = (x_7.toInt + 5).toNat := z_posE hi_hr_10
      rw [ep_13]
      clear ep_13
      refine lv_iconst (v := 1) hx hb dX12_play_34 (by decide) ?_
      refine bi_eq (tgt := 41) hx hb rfl ti_1 dX12_play_35 (by decide) (fun c_14 => ?_) (fun c_14 => ?_)
      · skip
        refine lv_aload_n hx hb dX12_play_41 rfl (lv_at hl 1 rfl) ?_
        refine lv_dup hx hb dX12_play_42 rfl ?_
        refine mg_7 C hs hP ha0 hk0 wf_X12_88 dX12_play_43 ?_
        refine lv_iconst (v := 1) hx hb dX12_play_46 (by decide) ?_
        refine lv_iadd hx hb dX12_play_47 ?_
        refine lv_topi (fun x_15 ex_15 => ?_)
        refine mp_7 C hM hs hP hS ha0 hT hk0 wf_X12_88 trivial dX12_play_48 (fun f_16 H locs hE_16 hT hP hS => ?_)
        have FF := frF FF (frFu hE_16) (by decide)
        refine lv_aload_n hx hb dX12_play_51 rfl (lv_at hl 1 rfl) ?_
        refine lv_iload hx hb dX12_play_52 (lv_at hl 0 rfl) ?_
        refine lv_iload_n hx hb dX12_play_54 rfl (lv_at hl 3 rfl) ?_
        refine lv_iload_n hx hb dX12_play_55 rfl (lv_at hl 4 rfl) ?_
        refine lv_iload hx hb dX12_play_56 (lv_at hl 5 rfl) ?_
        have hTo := hT
        have g_17 := z_rng x3
        have g_18 := z_rng x4
        have hbo_20 : x_7.toInt = 1290 * x1.toInt := by omega
        have hq_19 : 0 ≤ x2.toInt ∧ x2.toInt ≤ 3 := by (first | assumption | omega | (intros; omega))
        have ev_22 : f_16 11 = f 11 := by rw [hE_16, pk_un (show 11 ≠ 7 by decide)]
        have hq_21 : (f_16 11).toInt ≤ 1980000000 := by rw [ev_22] <;> (first | assumption | omega | (intros; omega))
        refine mcI (zrV (As := [.int x_7, .int x2, .int x3, .int x4]) (b := a0) (rest := []) C hs hP hS (c_X12_playMeets l D K hM f_16 A hT a0 ha0 hk0 x_7 x2 x3 x4 hbs_11 hq_19 hq_21) m_X12_playMeets wm_X12_235 (zrecv hs hP ha0 (zF_11 hk0) rfl) ⟨by decide, by decide⟩ hl.1 (Nat.le_of_ble_eq_true rfl) dX12_play_58) hS (fun x_23 f_23 A_23 H locs p_23 hP hS => ?_)
        obtain ⟨hT, hA_23, hF_23, pp_23⟩ := p_23
        have pp_23 : (f_16 11).toInt ≤ (f_23 11).toInt ∧ (f_23 11).toInt ≤ (f_16 11).toInt + 3 ∧ ((f_16 12).toInt ≠ 0 → (f_23 11).toInt = (f_16 11).toInt) ∧ (x_23.toInt ≤ 0 → 0 ≤ x3.toInt ∧ x3.toInt < (A 40 (x_7.toInt + x2.toInt + 22).toNat).toInt ∧ (A 40 (x_7.toInt + 9).toNat).toInt = x2.toInt) := pp_23
        have pp0_23 := zHid.mk pp_23
        have ev_24 : f_16 11 = f 11 := by rw [hE_16, pk_un (show 11 ≠ 7 by decide)]
        have ev_25 : f_16 12 = f 12 := by rw [hE_16, pk_un (show 12 ≠ 7 by decide)]
        rw [ev_24, ev_25] at pp_23
        have pa_23 := pp_23.1
        have pb_23 := pp_23.2.1
        have qq_23 := zHid.mk pp_23.2.2.1
        replace pp_23 := pp_23.2.2.2
        have FA := frA FA hA_23 (by decide)
        have FF := frF FF hF_23 (by decide)
        have aRc : aR (A_23 40) (N) := by rw [hA_23 40 (by decide)]; exact aRc
        have hq22 := (hTo.row hbs_11).p22 x2.toInt (by omega) (by omega)
        refine lv_istore (lv' := [(6, .int x_23), (5, .int x_7), (0, .ref a0), (1, .int x1), (2, .int x2), (3, .int x3), (4, .int x4)]) hx hb dX12_play_61 hl (by decide) rfl (fun ls hl => ?_)
        refine lv_iload hx hb dX12_play_63 (lv_at hl 0 rfl) ?_
        refine bz_le (tgt := 86) hx hb rfl dX12_play_65 (by decide) (fun c_26 => ?_) (fun c_26 => ?_)
        · skip
          refine lv_aload_n hx hb dX12_play_86 rfl (lv_at hl 2 rfl) ?_
          refine lv_iload_n hx hb dX12_play_87 rfl (lv_at hl 3 rfl) ?_
          have hTo := hT
          have hq_27 : 0 ≤ x1.toInt ∧ x1.toInt ≤ 3 := by (first | assumption | omega | (intros; omega))
          refine mcV (zrV (As := [.int x1]) (b := a0) (rest := []) C hs hP hS (c_X12_keep l D K hM f_23 A_23 hT a0 ha0 hk0 x1 hq_27) m_X12_keep wm_X12_165 (zrecv hs hP ha0 (zF_11 hk0) rfl) ⟨by decide, by decide⟩ hl.1 (Nat.le_of_ble_eq_true rfl) dX12_play_88) hS (fun f_28 A_28 H locs p_28 hP hS => ?_)
          obtain ⟨hT, hA_28, hF_28, hC_28, pp_28⟩ := p_28
          have pp_28 : (f_28 23).toInt = -1 ∧ (∀ n9 : Int, aR (A_23 40) n9 → aR (A_28 40) n9) := pp_28
          have pp0_28 := zHid.mk pp_28
          have ev_29 : A_23 40 = A 40 := by rw [hA_23 40 (by decide)]
          rw [ev_29] at pp_28
          have FA := frA FA hA_28 (by decide)
          have FF := frF FF hF_28 (by decide)
          have aRc := pp0_28.2 _ aRc
          refine lv_aload_n hx hb dX12_play_91 rfl (lv_at hl 2 rfl) ?_
          refine lv_iload hx hb dX12_play_92 (lv_at hl 1 rfl) ?_
          refine lv_iload hx hb dX12_play_94 (lv_at hl 6 rfl) ?_
          refine bz_eq (tgt := 103) hx hb rfl dX12_play_96 (by decide) (fun c_30 => ?_) (fun c_30 => ?_)
          · skip
            refine lv_iconst (v := 4) hx hb dX12_play_103 (by decide) ?_
            refine lv_iload_n hx hb dX12_play_104 rfl (lv_at hl 4 rfl) ?_
            refine lv_iload_n hx hb dX12_play_105 rfl (lv_at hl 5 rfl) ?_
            refine lv_iconst (v := 0) hx hb dX12_play_106 (by decide) ?_
            have hTo := hT
            have es_32 : A_28 40 (x_7.toInt + 44).toNat = A 40 (x_7.toInt + 44).toNat := by rw [hC_28.ar (by omega) (lo := 0) (hi := 6449) (by decide) (x_7.toInt + 44) (by decide) (by omega) (by omega), hA_23 40 (by decide)]
            have hq_31 : (A_28 40 (x_7.toInt + 44).toNat).toInt ≤ 1000000000 := by (have h9 := (aRc x1.toInt (by omega) (by omega)).2.2; rw [← hbo_20] at h9; omega)
            refine mcV (zrV (As := [.int x_7, .int 4, .int x2, .int x3, .int 0]) (b := a0) (rest := []) C hs hP hS (c_X12_tell l D K hM f_28 A_28 hT a0 ha0 hk0 x_7 4 x2 x3 0 hbs_11 hq_31) m_X12_tell wm_X12_171 (zrecv hs hP ha0 (zF_11 hk0) rfl) ⟨by decide, by decide⟩ hl.1 (Nat.le_of_ble_eq_true rfl) dX12_play_107) hS (fun f_33 A_33 H locs p_33 hP hS => ?_)
            obtain ⟨hT, hA_33, hF_33, hC_33, pp_33⟩ := p_33
            have pp_33 : (A_33 40 (x_7.toInt + 44).toNat).toInt = (A_28 40 (x_7.toInt + 44).toNat).toInt + 1 ∧ (((4 : Int32).toInt ≠ 0 → 0 ≤ x2.toInt ∧ x2.toInt ≤ 3) → ((4 : Int32).toInt = 1 → 0 ≤ x3.toInt ∧ x3.toInt < (A_28 40 (x_7.toInt + 1).toNat).toInt) → ((4 : Int32).toInt = 6 → x2.toInt ≤ 1) → tO (A_28 40) x_7.toInt → tO (A_33 40) x_7.toInt) := pp_33
            have pp0_33 := zHid.mk pp_33
            try simp only [ti_0, ti_4] at pp_33
            have hff_33 : f_28 = f_33 := funext (fun k9 => (hF_33 k9 List.not_mem_nil).symm)
            subst hff_33
            have FA := frA FA hA_33 (by decide)
            have FF := frF FF hF_33 (by decide)
            have aRc := aR.tl (t := x1.toInt) aRc hTo (by omega) (fC.mv hC_33 (by omega)) (by rw [← hbo_20]; exact pp0_33.1) (by rw [← hbo_20]; exact pp0_33.2 (fun _ => by omega) (fun h9 => absurd h9 (by rw [ti_4]; decide)) (fun h9 => absurd h9 (by rw [ti_4]; decide)))
            refine lv_aload_n hx hb dX12_play_110 rfl (lv_at hl 2 rfl) ?_
            refine mg_13 C hs hP ha0 hk0 wf_X12_36 dX12_play_111 ?_
            have hf_34 := hO.r (j := 13) ha0 hk0 (rfl : zX 11 13 = some (53, 60))
            refine lv_iload_n hx hb dX12_play_114 rfl (lv_at hl 5 rfl) ?_
            have hin_35 : vp_in x3 (zn K (zr K a0 13)) := vp_in_iff.mpr (by rw [(hf_34.2.2 (by decide))]; refine ⟨?_, ?_⟩ <;> omega)
            refine mld_53 C hs hP hf_34.1 hf_34.2.1 hin_35 dX12_play_115 ?_
            have ev_36 : A_33 53 x3.toNatClampNeg = A_23 53 x3.toNatClampNeg := by rw [hA_33 53 (by decide), hA_28 53 (by decide)]
            have tv_37 := ra_53 hT (vp_in_iff.mp hin_35).1 (by have h7 := (vp_in_iff.mp hin_35).2; rw [(hf_34.2.2 (by decide))] at h7; exact h7)
            rw [ev_36] at tv_37
            rw [ev_36]
            refine lv_istore (lv' := [(7, .int (A_23 53 x3.toNatClampNeg)), (6, .int x_23), (5, .int x_7), (0, .ref a0), (1, .int x1), (2, .int x2), (3, .int x3), (4, .int x4)]) hx hb dX12_play_116 hl (by decide) rfl (fun ls hl => ?_)
            refine lv_aload_n hx hb dX12_play_118 rfl (lv_at hl 3 rfl) ?_
            refine lv_iload hx hb dX12_play_119 (lv_at hl 2 rfl) ?_
            refine lv_iload_n hx hb dX12_play_121 rfl (lv_at hl 4 rfl) ?_
            refine lv_iload_n hx hb dX12_play_122 rfl (lv_at hl 5 rfl) ?_
            refine lv_iload_n hx hb dX12_play_123 rfl (lv_at hl 6 rfl) ?_
            have hTo := hT
            have hq_38 : 0 ≤ x2.toInt ∧ x2.toInt ≤ 3 := by (first | assumption | omega | (intros; omega))
            have es_40 : A_33 40 (x_7.toInt + x2.toInt + 22).toNat = A 40 (x_7.toInt + x2.toInt + 22).toNat := by rw [hC_33.ar (by omega) (lo := 22) (hi := 25) (by decide) (x_7.toInt + x2.toInt + 22) (by decide) (by omega) (by omega), hC_28.ar (by omega) (lo := 0) (hi := 6449) (by decide) (x_7.toInt + x2.toInt + 22) (by decide) (by omega) (by omega), hA_23 40 (by decide)]
            have hq_39 : 0 ≤ x3.toInt ∧ x3.toInt < (A_33 40 (x_7.toInt + x2.toInt + 22).toNat).toInt := by rw [es_40] <;> (first | assumption | omega | (intros; omega))
            have hq_41 : rowP (A_33 40) x_7.toInt := by rw [hbo_20]; exact (aRc x1.toInt (by omega) (by omega)).1.1
            have es_43 : A_33 40 (x_7.toInt + 26).toNat = A 40 (x_7.toInt + 26).toNat := by rw [hC_33.ar (by omega) (lo := 26) (hi := 26) (by decide) (x_7.toInt + 26) (by decide) (by omega) (by omega), hC_28.ar (by omega) (lo := 0) (hi := 6449) (by decide) (x_7.toInt + 26) (by decide) (by omega) (by omega), hA_23 40 (by decide)]
            have es_44 : A_33 40 (x_7.toInt + 5).toNat = A 40 (x_7.toInt + 5).toNat := by rw [hC_33.ar (by omega) (lo := 5) (hi := 5) (by decide) (x_7.toInt + 5) (by decide) (by omega) (by omega), hC_28.ar (by omega) (lo := 0) (hi := 6449) (by decide) (x_7.toInt + 5) (by decide) (by omega) (by omega), hA_23 40 (by decide)]
            have es_45 : A_33 40 (x_7.toInt + 9).toNat = A 40 (x_7.toInt + 9).toNat := by rw [hC_33.ar (by omega) (lo := 9) (hi := 9) (by decide) (x_7.toInt + 9) (by decide) (by omega) (by omega), hC_28.ar (by omega) (lo := 0) (hi := 6449) (by decide) (x_7.toInt + 9) (by decide) (by omega) (by omega), hA_23 40 (by decide)]
            have hnx_46 := (aRc x1.toInt (by omega) (by omega)).1.2
            rw [← hbo_20] at hnx_46
            unfold nX at hnx_46
            have h9_46 : (A_33 40 (x_7.toInt + 9).toNat).toInt = x2.toInt := by rw [es_45]; omega
            have hny_46 := hnx_46 (by rw [es_44]; omega) (by omega)
            rw [h9_46] at hny_46
            clear hnx_46
            have hq_42 : nL (A_33 40) x_7.toInt x2.toInt (A_33 40 (x_7.toInt + 26).toNat).toInt := by exact hny_46.2.2.2
            have ev_48 : f_28 11 = f_23 11 := by rw [hF_28 11 (by decide)]
            have hq_47 : (f_28 11).toInt ≤ 1950000000 := by rw [ev_48] <;> (first | assumption | omega | (intros; omega))
            have ev_50 : f_28 9 = f 9 := by rw [hF_28 9 (by decide), hF_23 9 (by decide), hE_16, pk_un (show 9 ≠ 7 by decide)]
            have hq_49 : (f_28 9).toInt ≤ 1950000000 := by rw [ev_50] <;> (first | assumption | omega | (intros; omega))
            refine mcV (zrV (As := [.int x_7, .int x1, .int x2, .int x3]) (b := a0) (rest := []) C hs hP hS (c_X12_doLay l D K hM f_28 A_33 hT a0 ha0 hk0 x_7 x1 x2 x3 hbs_11 hq_38 hq_39 hq_41 hq_42 hq_47 hq_49) m_X12_doLay wm_X12_238 (zrecv hs hP ha0 (zF_11 hk0) rfl) ⟨by decide, by decide⟩ hl.1 (Nat.le_of_ble_eq_true rfl) dX12_play_124) hS (fun f_51 A_51 H locs p_51 hP hS => ?_)
            obtain ⟨hT, hA_51, hF_51, hC_51, hW_51, pp_51⟩ := p_51
            have pp_51 : (f_28 9).toInt ≤ (f_51 9).toInt ∧ (f_51 9).toInt ≤ (f_28 9).toInt + 2 ∧ (f_28 11).toInt ≤ (f_51 11).toInt ∧ (f_51 11).toInt ≤ (f_28 11).toInt + 13 ∧ ((f_28 12).toInt ≠ 0 → (f_51 11).toInt = (f_28 11).toInt) ∧ rowN (A_51 40) x_7.toInt := pp_51
            have pp0_51 := zHid.mk pp_51
            have ev_52 : f_28 11 = f_23 11 := by rw [hF_28 11 (by decide)]
            have ev_53 : f_28 12 = f 12 := by rw [hF_28 12 (by decide), hF_23 12 (by decide), hE_16, pk_un (show 12 ≠ 7 by decide)]
            have ev_54 : f_28 9 = f 9 := by rw [hF_28 9 (by decide), hF_23 9 (by decide), hE_16, pk_un (show 9 ≠ 7 by decide)]
            rw [ev_52, ev_53, ev_54] at pp_51
            have pc_51 := pp_51.1
            have pd_51 := pp_51.2.1
            have pa_51 := pp_51.2.2.1
            have pb_51 := pp_51.2.2.2.1
            have qq_51 := zHid.mk pp_51.2.2.2.2.1
            replace pp_51 := pp_51.2.2.2.2.2
            have FA := frA FA hA_51 (by decide)
            have FF := frF FF hF_51 (by decide)
            have aRc := aR.do (t := x1.toInt) aRc hTo (by omega) (fC.mv hC_51 (by omega)) (by decide) (by rw [← hbo_20]; exact pp0_51.2.2.2.2.2) (by decide) (by decide) (by decide)
            refine lv_iload hx hb dX12_play_127 (lv_at hl 0 rfl) ?_
            have ev_55 : f_51 23 = f_28 23 := by rw [hF_51 23 (by decide)]
            exact maI hQ hx hb hr hlk hP hS ⟨hT, FA, FF, ⟨(aRc.mono (by omega)), (cOk.m1 (by rw [ev_55]; exact pp0_28.1)), by omega, by omega⟩⟩ dX12_play_129
          · skip
            refine lv_iconst (v := 5) hx hb dX12_play_99 (by decide) ?_
            refine lv_goto (tgt := 104) hx hb dX12_play_100 (by decide) ?_
            refine lv_iload_n hx hb dX12_play_104 rfl (lv_at hl 4 rfl) ?_
            refine lv_iload_n hx hb dX12_play_105 rfl (lv_at hl 5 rfl) ?_
            refine lv_iconst (v := 0) hx hb dX12_play_106 (by decide) ?_
            have hTo := hT
            have es_57 : A_28 40 (x_7.toInt + 44).toNat = A 40 (x_7.toInt + 44).toNat := by rw [hC_28.ar (by omega) (lo := 0) (hi := 6449) (by decide) (x_7.toInt + 44) (by decide) (by omega) (by omega), hA_23 40 (by decide)]
            have hq_56 : (A_28 40 (x_7.toInt + 44).toNat).toInt ≤ 1000000000 := by (have h9 := (aRc x1.toInt (by omega) (by omega)).2.2; rw [← hbo_20] at h9; omega)
            refine mcV (zrV (As := [.int x_7, .int 5, .int x2, .int x3, .int 0]) (b := a0) (rest := []) C hs hP hS (c_X12_tell l D K hM f_28 A_28 hT a0 ha0 hk0 x_7 5 x2 x3 0 hbs_11 hq_56) m_X12_tell wm_X12_171 (zrecv hs hP ha0 (zF_11 hk0) rfl) ⟨by decide, by decide⟩ hl.1 (Nat.le_of_ble_eq_true rfl) dX12_play_107) hS (fun f_58 A_58 H locs p_58 hP hS => ?_)
            obtain ⟨hT, hA_58, hF_58, hC_58, pp_58⟩ := p_58
            have pp_58 : (A_58 40 (x_7.toInt + 44).toNat).toInt = (A_28 40 (x_7.toInt + 44).toNat).toInt + 1 ∧ (((5 : Int32).toInt ≠ 0 → 0 ≤ x2.toInt ∧ x2.toInt ≤ 3) → ((5 : Int32).toInt = 1 → 0 ≤ x3.toInt ∧ x3.toInt < (A_28 40 (x_7.toInt + 1).toNat).toInt) → ((5 : Int32).toInt = 6 → x2.toInt ≤ 1) → tO (A_28 40) x_7.toInt → tO (A_58 40) x_7.toInt) := pp_58
            have pp0_58 := zHid.mk pp_58
            try simp only [ti_0, ti_5] at pp_58
            have hff_58 : f_28 = f_58 := funext (fun k9 => (hF_58 k9 List.not_mem_nil).symm)
            subst hff_58
            have FA := frA FA hA_58 (by decide)
            have FF := frF FF hF_58 (by decide)
            have aRc := aR.tl (t := x1.toInt) aRc hTo (by omega) (fC.mv hC_58 (by omega)) (by rw [← hbo_20]; exact pp0_58.1) (by rw [← hbo_20]; exact pp0_58.2 (fun _ => by omega) (fun h9 => absurd h9 (by rw [ti_5]; decide)) (fun h9 => absurd h9 (by rw [ti_5]; decide)))
            refine lv_aload_n hx hb dX12_play_110 rfl (lv_at hl 2 rfl) ?_
            refine mg_13 C hs hP ha0 hk0 wf_X12_36 dX12_play_111 ?_
            have hf_59 := hO.r (j := 13) ha0 hk0 (rfl : zX 11 13 = some (53, 60))
            refine lv_iload_n hx hb dX12_play_114 rfl (lv_at hl 5 rfl) ?_
            have hin_60 : vp_in x3 (zn K (zr K a0 13)) := vp_in_iff.mpr (by rw [(hf_59.2.2 (by decide))]; refine ⟨?_, ?_⟩ <;> omega)
            refine mld_53 C hs hP hf_59.1 hf_59.2.1 hin_60 dX12_play_115 ?_
            have ev_61 : A_58 53 x3.toNatClampNeg = A_23 53 x3.toNatClampNeg := by rw [hA_58 53 (by decide), hA_28 53 (by decide)]
            have tv_62 := ra_53 hT (vp_in_iff.mp hin_60).1 (by have h7 := (vp_in_iff.mp hin_60).2; rw [(hf_59.2.2 (by decide))] at h7; exact h7)
            rw [ev_61] at tv_62
            rw [ev_61]
            refine lv_istore (lv' := [(7, .int (A_23 53 x3.toNatClampNeg)), (6, .int x_23), (5, .int x_7), (0, .ref a0), (1, .int x1), (2, .int x2), (3, .int x3), (4, .int x4)]) hx hb dX12_play_116 hl (by decide) rfl (fun ls hl => ?_)
            refine lv_aload_n hx hb dX12_play_118 rfl (lv_at hl 3 rfl) ?_
            refine lv_iload hx hb dX12_play_119 (lv_at hl 2 rfl) ?_
            refine lv_iload_n hx hb dX12_play_121 rfl (lv_at hl 4 rfl) ?_
            refine lv_iload_n hx hb dX12_play_122 rfl (lv_at hl 5 rfl) ?_
            refine lv_iload_n hx hb dX12_play_123 rfl (lv_at hl 6 rfl) ?_
            have hTo := hT
            have hq_63 : 0 ≤ x2.toInt ∧ x2.toInt ≤ 3 := by (first | assumption | omega | (intros; omega))
            have es_65 : A_58 40 (x_7.toInt + x2.toInt + 22).toNat = A 40 (x_7.toInt + x2.toInt + 22).toNat := by rw [hC_58.ar (by omega) (lo := 22) (hi := 25) (by decide) (x_7.toInt + x2.toInt + 22) (by decide) (by omega) (by omega), hC_28.ar (by omega) (lo := 0) (hi := 6449) (by decide) (x_7.toInt + x2.toInt + 22) (by decide) (by omega) (by omega), hA_23 40 (by decide)]
            have hq_64 : 0 ≤ x3.toInt ∧ x3.toInt < (A_58 40 (x_7.toInt + x2.toInt + 22).toNat).toInt := by rw [es_65] <;> (first | assumption | omega | (intros; omega))
            have hq_66 : rowP (A_58 40) x_7.toInt := by rw [hbo_20]; exact (aRc x1.toInt (by omega) (by omega)).1.1
            have es_68 : A_58 40 (x_7.toInt + 26).toNat = A 40 (x_7.toInt + 26).toNat := by rw [hC_58.ar (by omega) (lo := 26) (hi := 26) (by decide) (x_7.toInt + 26) (by decide) (by omega) (by omega), hC_28.ar (by omega) (lo := 0) (hi := 6449) (by decide) (x_7.toInt + 26) (by decide) (by omega) (by omega), hA_23 40 (by decide)]
            have es_69 : A_58 40 (x_7.toInt + 5).toNat = A 40 (x_7.toInt + 5).toNat := by rw [hC_58.ar (by omega) (lo := 5) (hi := 5) (by decide) (x_7.toInt + 5) (by decide) (by omega) (by omega), hC_28.ar (by omega) (lo := 0) (hi := 6449) (by decide) (x_7.toInt + 5) (by decide) (by omega) (by omega), hA_23 40 (by decide)]
            have es_70 : A_58 40 (x_7.toInt + 9).toNat = A 40 (x_7.toInt + 9).toNat := by rw [hC_58.ar (by omega) (lo := 9) (hi := 9) (by decide) (x_7.toInt + 9) (by decide) (by omega) (by omega), hC_28.ar (by omega) (lo := 0) (hi := 6449) (by decide) (x_7.toInt + 9) (by decide) (by omega) (by omega), hA_23 40 (by decide)]
            have hnx_71 := (aRc x1.toInt (by omega) (by omega)).1.2
            rw [← hbo_20] at hnx_71
            unfold nX at hnx_71
            have h9_71 : (A_58 40 (x_7.toInt + 9).toNat).toInt = x2.toInt := by rw [es_70]; omega
            have hny_71 := hnx_71 (by rw [es_69]; omega) (by omega)
            rw [h9_71] at hny_71
            clear hnx_71
            have hq_67 : nL (A_58 40) x_7.toInt x2.toInt (A_58 40 (x_7.toInt + 26).toNat).toInt := by exact hny_71.2.2.2
            have ev_73 : f_28 11 = f_23 11 := by rw [hF_28 11 (by decide)]
            have hq_72 : (f_28 11).toInt ≤ 1950000000 := by rw [ev_73] <;> (first | assumption | omega | (intros; omega))
            have ev_75 : f_28 9 = f 9 := by rw [hF_28 9 (by decide), hF_23 9 (by decide), hE_16, pk_un (show 9 ≠ 7 by decide)]
            have hq_74 : (f_28 9).toInt ≤ 1950000000 := by rw [ev_75] <;> (first | assumption | omega | (intros; omega))
            refine mcV (zrV (As := [.int x_7, .int x1, .int x2, .int x3]) (b := a0) (rest := []) C hs hP hS (c_X12_doLay l D K hM f_28 A_58 hT a0 ha0 hk0 x_7 x1 x2 x3 hbs_11 hq_63 hq_64 hq_66 hq_67 hq_72 hq_74) m_X12_doLay wm_X12_238 (zrecv hs hP ha0 (zF_11 hk0) rfl) ⟨by decide, by decide⟩ hl.1 (Nat.le_of_ble_eq_true rfl) dX12_play_124) hS (fun f_76 A_76 H locs p_76 hP hS => ?_)
            obtain ⟨hT, hA_76, hF_76, hC_76, hW_76, pp_76⟩ := p_76
            have pp_76 : (f_28 9).toInt ≤ (f_76 9).toInt ∧ (f_76 9).toInt ≤ (f_28 9).toInt + 2 ∧ (f_28 11).toInt ≤ (f_76 11).toInt ∧ (f_76 11).toInt ≤ (f_28 11).toInt + 13 ∧ ((f_28 12).toInt ≠ 0 → (f_76 11).toInt = (f_28 11).toInt) ∧ rowN (A_76 40) x_7.toInt := pp_76
            have pp0_76 := zHid.mk pp_76
            have ev_77 : f_28 11 = f_23 11 := by rw [hF_28 11 (by decide)]
            have ev_78 : f_28 12 = f 12 := by rw [hF_28 12 (by decide), hF_23 12 (by decide), hE_16, pk_un (show 12 ≠ 7 by decide)]
            have ev_79 : f_28 9 = f 9 := by rw [hF_28 9 (by decide), hF_23 9 (by decide), hE_16, pk_un (show 9 ≠ 7 by decide)]
            rw [ev_77, ev_78, ev_79] at pp_76
            have pc_76 := pp_76.1
            have pd_76 := pp_76.2.1
            have pa_76 := pp_76.2.2.1
            have pb_76 := pp_76.2.2.2.1
            have qq_76 := zHid.mk pp_76.2.2.2.2.1
            replace pp_76 := pp_76.2.2.2.2.2
            have FA := frA FA hA_76 (by decide)
            have FF := frF FF hF_76 (by decide)
            have aRc := aR.do (t := x1.toInt) aRc hTo (by omega) (fC.mv hC_76 (by omega)) (by decide) (by rw [← hbo_20]; exact pp0_76.2.2.2.2.2) (by decide) (by decide) (by decide)
            refine lv_iload hx hb dX12_play_127 (lv_at hl 0 rfl) ?_
            have ev_80 : f_76 23 = f_28 23 := by rw [hF_76 23 (by decide)]
            exact maI hQ hx hb hr hlk hP hS ⟨hT, FA, FF, ⟨(aRc.mono (by omega)), (cOk.m1 (by rw [ev_80]; exact pp0_28.1)), by omega, by omega⟩⟩ dX12_play_129
        · skip
          refine lv_aload_n hx hb dX12_play_68 rfl (lv_at hl 2 rfl) ?_
          refine lv_iload hx hb dX12_play_69 (lv_at hl 0 rfl) ?_
          refine lv_iload_n hx hb dX12_play_71 rfl (lv_at hl 3 rfl) ?_
          refine lv_iload_n hx hb dX12_play_72 rfl (lv_at hl 4 rfl) ?_
          refine lv_aload_n hx hb dX12_play_73 rfl (lv_at hl 2 rfl) ?_
          refine mg_17 C hs hP ha0 hk0 wf_X12_198 dX12_play_74 ?_
          have hTo := hT
          have g_81 := z_rng x_23
          have g_82 := z_rng (f_23 17)
          have ev_84 : f_23 9 = f 9 := by rw [hF_23 9 (by decide), hE_16, pk_un (show 9 ≠ 7 by decide)]
          have hq_83 : (f_23 9).toInt ≤ 2000000000 := by rw [ev_84] <;> (first | assumption | omega | (intros; omega))
          refine mcV (zrV (As := [.int x_23, .int x1, .int x2, .int (f_23 17)]) (b := a0) (rest := []) C hs hP hS (c_X12_find l D K hM f_23 A_23 hT a0 ha0 hk0 x_23 x1 x2 (f_23 17) hq_83) m_X12_find wm_X12_232 (zrecv hs hP ha0 (zF_11 hk0) rfl) ⟨by decide, by decide⟩ hl.1 (Nat.le_of_ble_eq_true rfl) dX12_play_77) hS (fun f_85 A_85 H locs p_85 hP hS => ?_)
          obtain ⟨hT, hA_85, hF_85, pp_85⟩ := p_85
          have pp_85 : (f_23 9).toInt ≤ (f_85 9).toInt ∧ (f_85 9).toInt ≤ (f_23 9).toInt + 1 := pp_85
          have pp0_85 := zHid.mk pp_85
          have ev_86 : f_23 9 = f 9 := by rw [hF_23 9 (by decide), hE_16, pk_un (show 9 ≠ 7 by decide)]
          rw [ev_86] at pp_85
          have FA := frA FA hA_85 (by decide)
          have FF := frF FF hF_85 (by decide)
          have aRc : aR (A_85 40) (N) := by rw [hA_85 40 (by decide)]; exact aRc
          refine lv_bipush (v := (-10)) hx hb dX12_play_80 (by decide) ?_
          refine lv_iload hx hb dX12_play_82 (lv_at hl 0 rfl) ?_
          refine lv_isub hx hb dX12_play_84 ?_
          refine lv_topi (fun x_87 ex_87 => ?_)
          have ev_88 : f_85 11 = f_23 11 := by rw [hF_85 11 (by decide)]
          have ev_89 : f_85 23 = f 23 := by rw [hF_85 23 (by decide), hF_23 23 (by decide), hE_16, pk_un (show 23 ≠ 7 by decide)]
          have ev_90 : f_85 20 = f 20 := by rw [hF_85 20 (by decide), hF_23 20 (by decide), hE_16, pk_un (show 20 ≠ 7 by decide)]
          have ev_91 : A_85 40 = A 40 := by rw [hA_85 40 (by decide), hA_23 40 (by decide)]
          exact maI hQ hx hb hr hlk hP hS ⟨hT, FA, FF, ⟨(aRc.mono (by omega)), (by rw [ev_89, ev_90, ev_91]; exact hp0.2.1), by rw [ev_88] <;> omega, by omega⟩⟩ dX12_play_85
      · skip
        refine lv_bipush (v := (-4)) hx hb dX12_play_38 (by decide) ?_
        exact maI hQ hx hb hr hlk hP hS ⟨hT, FA, FF, ⟨(aRc.mono (by omega)), hp0.2.1, by omega, by omega⟩⟩ dX12_play_40
    · skip
      replace pp_4 := pp_4.2 c_6
      refine lv_bipush (v := (-2)) hx hb dX12_play_15 (by decide) ?_
      exact maI hQ hx hb hr hlk hP hS ⟨hT, FA, FF, ⟨(aRc.mono (by omega)), hp0.2.1, by omega, by omega⟩⟩ dX12_play_17
set_option maxHeartbeats 4000000 in
set_option maxRecDepth 100000 in
theorem c_X12_lay (l : Launch) (D : va_G) (K : zK) (hM : mK K) (f : Nat → Int32) (A : Nat → Nat → Int32) (hT : mT f A) (N : Int) (a0 : Nat) (ha0 : a0 ∈ zl K) (hk0 : zk K a0 = 11) (x1 : Int32) (x2 : Int32) (x3 : Int32) (hp0 : okk N f A) (hp1 : 0 ≤ N ∧ N ≤ 600) : Met l yX12_lay (zc yX12_lay cX12_lay 4 (some .int)) (rmd 7) (va_Pc [.ref a0, .int x1, .int x2, .int x3] (zB D K (mV K f A))) (mQi D K (fun r f' A' => mT f' A' ∧ (∀ k, k ∉ ([40, 42, 48, 50, 53, 55] : List Nat) → A' k = A k) ∧ (∀ k, k ∉ ([7, 9, 11, 14, 16, 17, 23] : List Nat) → f' k = f k) ∧ okk (N + 1) f' A')) 0 0 (zA K) := by
  refine zin (by decide) (Nat.le_of_ble_eq_true rfl) ?_
  intro p e s m args below meth c ls Q hQ C hr hlk hP hs hl
  have C : CallFix p m c cX12_lay 4 s args zw RX12 := C
  obtain ⟨hx, hb, hml, hown, hts⟩ := id C
  have hO := hM.1
  have hS : va_S (zA K) s.heap s.heap [] := va_S.rf
  have FA : ∀ k, k ∉ ([40, 42, 48, 50, 53, 55] : List Nat) → A k = A k := fun _ _ => rfl
  have FF : ∀ k, k ∉ ([7, 9, 11, 14, 16, 17, 23] : List Nat) → f k = f k := fun _ _ => rfl
  have hl : lv_has ls 4 [(0, .ref a0), (1, .int x1), (2, .int x2), (3, .int x3)] := hl
  have aRc := hp0.1
  have hbud := hp0.2.2
  refine lv_aload_n hx hb dX12_lay_0 rfl (lv_at hl 0 rfl) ?_
  refine lv_iload_n hx hb dX12_lay_1 rfl (lv_at hl 1 rfl) ?_
  refine lv_iload_n hx hb dX12_lay_2 rfl (lv_at hl 2 rfl) ?_
  refine lv_iload_n hx hb dX12_lay_3 rfl (lv_at hl 3 rfl) ?_
  refine lv_iconst (v := 0) hx hb dX12_lay_4 (by decide) ?_
  have hTo := hT
  have g_1 := z_rng x1
  have g_2 := z_rng x2
  have g_3 := z_rng x3
  have hq_4 : okk N f A := by ((try simp only [ti_0]); first | assumption | omega | (intros; omega))
  have hq_5 : 0 ≤ N ∧ N ≤ 600 := by ((try simp only [ti_0]); first | assumption | omega | (intros; omega))
  refine mcI (zrV (As := [.int x1, .int x2, .int x3, .int 0]) (b := a0) (rest := []) C hs hP hS (c_X12_play l D K hM f A hT N a0 ha0 hk0 x1 x2 x3 0 hq_4 hq_5) m_X12_play wm_X12_241 (zrecv hs hP ha0 (zF_11 hk0) rfl) ⟨by decide, by decide⟩ hl.1 (Nat.le_of_ble_eq_true rfl) dX12_lay_5) hS (fun x_6 f_6 A_6 H locs p_6 hP hS => ?_)
  obtain ⟨hT, hA_6, hF_6, pp_6⟩ := p_6
  have pp_6 : okk (N + 1) f_6 A_6 := pp_6
  have pp0_6 := zHid.mk pp_6
  try simp only [ti_0] at pp_6
  have FA := frA FA hA_6 (by decide)
  have FF := frF FF hF_6 (by decide)
  exact maI hQ hx hb hr hlk hP hS ⟨hT, FA, FF, pp0_6⟩ dX12_lay_8
set_option maxHeartbeats 4000000 in
set_option maxRecDepth 100000 in
theorem c_X12_revoke (l : Launch) (D : va_G) (K : zK) (hM : mK K) (f : Nat → Int32) (A : Nat → Nat → Int32) (hT : mT f A) (N : Int) (a0 : Nat) (ha0 : a0 ∈ zl K) (hk0 : zk K a0 = 11) (x1 : Int32) (x2 : Int32) (x3 : Int32) (hp0 : okk N f A) (hp1 : 0 ≤ N ∧ N ≤ 600) : Met l yX12_revoke (zc yX12_revoke cX12_revoke 4 (some .int)) (rmd 7) (va_Pc [.ref a0, .int x1, .int x2, .int x3] (zB D K (mV K f A))) (mQi D K (fun r f' A' => mT f' A' ∧ (∀ k, k ∉ ([40, 42, 48, 50, 53, 55] : List Nat) → A' k = A k) ∧ (∀ k, k ∉ ([7, 9, 11, 14, 16, 17, 23] : List Nat) → f' k = f k) ∧ okk (N + 1) f' A')) 0 0 (zA K) := by
  refine zin (by decide) (Nat.le_of_ble_eq_true rfl) ?_
  intro p e s m args below meth c ls Q hQ C hr hlk hP hs hl
  have C : CallFix p m c cX12_revoke 4 s args zw RX12 := C
  obtain ⟨hx, hb, hml, hown, hts⟩ := id C
  have hO := hM.1
  have hS : va_S (zA K) s.heap s.heap [] := va_S.rf
  have FA : ∀ k, k ∉ ([40, 42, 48, 50, 53, 55] : List Nat) → A k = A k := fun _ _ => rfl
  have FF : ∀ k, k ∉ ([7, 9, 11, 14, 16, 17, 23] : List Nat) → f k = f k := fun _ _ => rfl
  have hl : lv_has ls 4 [(0, .ref a0), (1, .int x1), (2, .int x2), (3, .int x3)] := hl
  have aRc := hp0.1
  have hbud := hp0.2.2
  refine lv_aload_n hx hb dX12_revoke_0 rfl (lv_at hl 0 rfl) ?_
  refine lv_iload_n hx hb dX12_revoke_1 rfl (lv_at hl 1 rfl) ?_
  refine lv_iload_n hx hb dX12_revoke_2 rfl (lv_at hl 2 rfl) ?_
  refine lv_iload_n hx hb dX12_revoke_3 rfl (lv_at hl 3 rfl) ?_
  refine lv_iconst (v := 1) hx hb dX12_revoke_4 (by decide) ?_
  have hTo := hT
  have g_1 := z_rng x1
  have g_2 := z_rng x2
  have g_3 := z_rng x3
  have hq_4 : okk N f A := by ((try simp only [ti_1]); first | assumption | omega | (intros; omega))
  have hq_5 : 0 ≤ N ∧ N ≤ 600 := by ((try simp only [ti_1]); first | assumption | omega | (intros; omega))
  refine mcI (zrV (As := [.int x1, .int x2, .int x3, .int 1]) (b := a0) (rest := []) C hs hP hS (c_X12_play l D K hM f A hT N a0 ha0 hk0 x1 x2 x3 1 hq_4 hq_5) m_X12_play wm_X12_241 (zrecv hs hP ha0 (zF_11 hk0) rfl) ⟨by decide, by decide⟩ hl.1 (Nat.le_of_ble_eq_true rfl) dX12_revoke_5) hS (fun x_6 f_6 A_6 H locs p_6 hP hS => ?_)
  obtain ⟨hT, hA_6, hF_6, pp_6⟩ := p_6
  have pp_6 : okk (N + 1) f_6 A_6 := pp_6
  have pp0_6 := zHid.mk pp_6
  try simp only [ti_1] at pp_6
  have FA := frA FA hA_6 (by decide)
  have FF := frF FF hF_6 (by decide)
  exact maI hQ hx hb hr hlk hP hS ⟨hT, FA, FF, pp0_6⟩ dX12_revoke_8
