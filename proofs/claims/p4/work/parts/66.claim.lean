set_option maxHeartbeats 4000000 in
set_option maxRecDepth 100000 in
theorem c_X12_claim (l : Launch) (D : va_G) (K : zK) (hM : mK K) (f : Nat → Int32) (A : Nat → Nat → Int32) (hT : mT f A) (N : Int) (a0 : Nat) (ha0 : a0 ∈ zl K) (hk0 : zk K a0 = 11) (x1 : Int32) (x2 : Int32) (x3 : Int32) (hp0 : okk N f A) (hp1 : 0 ≤ N ∧ N ≤ 600) : Met l yX12_claim (zc yX12_claim cX12_claim 5 (some .int)) (rmd 7) (va_Pc [.ref a0, .int x1, .int x2, .int x3] (zB D K (mV K f A))) (mQi D K (fun r f' A' => mT f' A' ∧ (∀ k, k ∉ ([40, 42, 48, 50, 53, 55, 58, 59, 61, 62, 66, 69, 70, 71, 72, 73] : List Nat) → A' k = A k) ∧ (∀ k, k ∉ ([9, 11, 12, 14, 16, 20, 23, 24, 25, 27, 28, 34, 35] : List Nat) → f' k = f k) ∧ okk (N + 1) f' A')) 0 0 (zA K) := by
  refine zin (by decide) (Nat.le_of_ble_eq_true rfl) ?_
  intro p e s m args below meth c ls Q hQ C hr hlk hP hs hl
  have C : CallFix p m c cX12_claim 5 s args zw RX12 := C
  obtain ⟨hx, hb, hml, hown, hts⟩ := id C
  have hO := hM.1
  have hS : va_S (zA K) s.heap s.heap [] := va_S.rf
  have FA : ∀ k, k ∉ ([40, 42, 48, 50, 53, 55, 58, 59, 61, 62, 66, 69, 70, 71, 72, 73] : List Nat) → A k = A k := fun _ _ => rfl
  have FF : ∀ k, k ∉ ([9, 11, 12, 14, 16, 20, 23, 24, 25, 27, 28, 34, 35] : List Nat) → f k = f k := fun _ _ => rfl
  have hl : lv_has ls 5 [(0, .ref a0), (1, .int x1), (2, .int x2), (3, .int x3)] := hl
  have aRc := hp0.1
  have hbud := hp0.2.2
  refine lv_aload_n hx hb dX12_claim_0 rfl (lv_at hl 0 rfl) ?_
  refine lv_iload_n hx hb dX12_claim_1 rfl (lv_at hl 1 rfl) ?_
  have hTo := hT
  refine zcS (zrV (As := [.int x1]) (b := a0) (rest := []) C hs hP hS (c_X12_isTable l D K hM f A hT a0 ha0 hk0 x1) m_X12_isTable wm_X12_107 (zrecv hs hP ha0 (zF_11 hk0) rfl) ⟨by decide, by decide⟩ hl.1 (Nat.le_of_ble_eq_true rfl) dX12_claim_2) (fun x_1 p_1 => ?_)
  have pp_1 : (x_1.toInt ≠ 0 → 0 ≤ x1.toInt ∧ x1.toInt ≤ 3) := p_1.2
  have g_2 := z_rng x1
  refine bz_eq (tgt := 17) hx hb rfl dX12_claim_5 (by decide) (fun c_3 => ?_) (fun c_3 => ?_)
  · skip
    clear pp_1
    refine lv_bipush (v := (-2)) hx hb dX12_claim_17 (by decide) ?_
    exact maI hQ hx hb hr hlk hP hS ⟨hT, FA, FF, ⟨(aRc.mono (by omega)), hp0.2.1, by omega, by omega⟩⟩ dX12_claim_19
  · skip
    replace pp_1 := pp_1 c_3
    refine lv_iload_n hx hb dX12_claim_8 rfl (lv_at hl 2 rfl) ?_
    refine lv_iconst (v := 0) hx hb dX12_claim_9 (by decide) ?_
    refine lv_iconst (v := 1) hx hb dX12_claim_10 (by decide) ?_
    have hTo := hT
    refine zcS (zrS (As := [.int x2, .int 0, .int 1]) (rest := []) C hs hP hS (c_X12_in l D K hM f A hT x2 0 1) m_X12_in wm_X12_91 ⟨by decide, by decide⟩ hl.1 (Nat.le_of_ble_eq_true rfl) dX12_claim_11) (fun x_4 p_4 => ?_)
    have pp_4 : (x_4.toInt ≠ 0 → (0 : Int32).toInt ≤ x2.toInt ∧ x2.toInt ≤ (1 : Int32).toInt) ∧ (x_4.toInt = 0 → x2.toInt < (0 : Int32).toInt ∨ (1 : Int32).toInt < x2.toInt) := p_4.2
    try simp only [ti_0, ti_1] at pp_4
    have g_5 := z_rng x2
    refine bz_ne (tgt := 20) hx hb rfl dX12_claim_14 (by decide) (fun c_6 => ?_) (fun c_6 => ?_)
    · skip
      replace pp_4 := pp_4.1 c_6
      refine lv_iload_n hx hb dX12_claim_20 rfl (lv_at hl 3 rfl) ?_
      refine lv_iconst (v := 0) hx hb dX12_claim_21 (by decide) ?_
      refine lv_iconst (v := 4) hx hb dX12_claim_22 (by decide) ?_
      have hTo := hT
      refine zcS (zrS (As := [.int x3, .int 0, .int 4]) (rest := []) C hs hP hS (c_X12_in l D K hM f A hT x3 0 4) m_X12_in wm_X12_91 ⟨by decide, by decide⟩ hl.1 (Nat.le_of_ble_eq_true rfl) dX12_claim_23) (fun x_7 p_7 => ?_)
      have pp_7 : (x_7.toInt ≠ 0 → (0 : Int32).toInt ≤ x3.toInt ∧ x3.toInt ≤ (4 : Int32).toInt) ∧ (x_7.toInt = 0 → x3.toInt < (0 : Int32).toInt ∨ (4 : Int32).toInt < x3.toInt) := p_7.2
      try simp only [ti_0, ti_4] at pp_7
      have g_8 := z_rng x3
      refine bz_ne (tgt := 32) hx hb rfl dX12_claim_26 (by decide) (fun c_9 => ?_) (fun c_9 => ?_)
      · skip
        replace pp_7 := pp_7.1 c_9
        refine lv_sipush (v := 1290) hx hb dX12_claim_32 (by decide) ?_
        refine lv_iload_n hx hb dX12_claim_35 rfl (lv_at hl 1 rfl) ?_
        refine lv_imul hx hb dX12_claim_36 ?_
        refine lv_topi (fun x_10 ex_10 => ?_)
        refine lv_istore (lv' := [(4, .int x_10), (0, .ref a0), (1, .int x1), (2, .int x2), (3, .int x3)]) hx hb dX12_claim_37 hl (by decide) rfl (fun ls hl => ?_)
        refine lv_aload_n hx hb dX12_claim_39 rfl (lv_at hl 1 rfl) ?_
        refine lv_iload hx hb dX12_claim_40 (lv_at hl 0 rfl) ?_
        have hTo := hT
        obtain ⟨f_10, l_10, u_10⟩ := z_mul ex_10 ti_1290 rfl
        try replace f_10 : x_10.toInt = 1290 * x1.toInt := by omega
        clear l_10 u_10
        have hbs_11 : zRow x_10.toInt := zRow.of (t := x1.toInt) (by omega) (by omega)
        have hbl_hbs_11 := hbs_11.lin
        refine zcS (zrV (As := [.int x_10]) (b := a0) (rest := []) C hs hP hS (c_X12_isEnd l D K hM f A hT a0 ha0 hk0 x_10 hbs_11) m_X12_isEnd wm_X12_301 (zrecv hs hP ha0 (zF_11 hk0) rfl) ⟨by decide, by decide⟩ hl.1 (Nat.le_of_ble_eq_true rfl) dX12_claim_42) (fun x_12 p_12 => ?_)
        have pp_12 : (x_12.toInt ≠ 0 → (A 40 (x_10.toInt + 5).toNat).toInt = 1 ∧ h4 (A 40) x_10.toInt 4) := p_12.2
        refine bz_ne (tgt := 51) hx hb rfl dX12_claim_45 (by decide) (fun c_13 => ?_) (fun c_13 => ?_)
        · skip
          replace pp_12 := pp_12 c_13
          refine lv_aload_n hx hb dX12_claim_51 rfl (lv_at hl 1 rfl) ?_
          refine lv_iload_n hx hb dX12_claim_52 rfl (lv_at hl 2 rfl) ?_
          refine lv_iload hx hb dX12_claim_53 (lv_at hl 0 rfl) ?_
          refine lv_iload_n hx hb dX12_claim_55 rfl (lv_at hl 3 rfl) ?_
          have hTo := hT
          have hbo_15 : x_10.toInt = 1290 * x1.toInt := by omega
          have hq_14 : h4 (A 40) x_10.toInt 4 := by (exact pp_12.2)
          have hq_16 : ((f 23).toInt = x1.toInt → aOk (A 40) x_10.toInt (f 20).toInt) := by (intro h9; rw [hbo_15]; exact hp0.2.1 x1.toInt (by omega) (by omega) h9 (by rw [← hbo_15]; exact pp_12.1))
          have hq_17 : (f 11).toInt ≤ 1950000000 := by (first | assumption | omega | (intros; omega))
          refine mcI (zrV (As := [.int x1, .int x_10, .int x2]) (b := a0) (rest := []) C hs hP hS (c_X12_sureAt l D K hM f A hT a0 ha0 hk0 x1 x_10 x2 hbs_11 hq_14 hq_16 hq_17) m_X12_sureAt wm_X12_307 (zrecv hs hP ha0 (zF_11 hk0) rfl) ⟨by decide, by decide⟩ hl.1 (Nat.le_of_ble_eq_true rfl) dX12_claim_56) hS (fun x_18 f_18 A_18 H locs p_18 hP hS => ?_)
          obtain ⟨hT, hA_18, hF_18, pp_18⟩ := p_18
          have pp_18 : (f_18 11).toInt = (f 11).toInt ∧ (f_18 12).toInt = (f 12).toInt ∧ aOk (A 40) x_10.toInt (f_18 20).toInt ∧ (f_18 23).toInt = x1.toInt := pp_18
          have pp0_18 := zHid.mk pp_18
          have FA := frA FA hA_18 (by decide)
          have FF := frF FF hF_18 (by decide)
          have aRc : aR (A_18 40) (N) := by rw [hA_18 40 (by decide)]; exact aRc
          have cOc : cOk (f_18 23).toInt (f_18 20).toInt (A 40) := cOk.so (t := x1.toInt) pp0_18.2.2.2 (by rw [← hbo_15]; exact pp0_18.2.2.1)
          have p11_18 := pp0_18.1
          clear pp_18
          refine lv_iload_n hx hb dX12_claim_59 rfl (lv_at hl 4 rfl) ?_
          refine bi_ge (tgt := 65) hx hb rfl rfl dX12_claim_60 (by decide) (fun c_19 => ?_) (fun c_19 => ?_)
          · skip
            refine lv_aload_n hx hb dX12_claim_65 rfl (lv_at hl 1 rfl) ?_
            refine lv_iload_n hx hb dX12_claim_66 rfl (lv_at hl 2 rfl) ?_
            have hTo := hT
            have hq_20 : 0 ≤ x1.toInt ∧ x1.toInt ≤ 3 := by (first | assumption | omega | (intros; omega))
            refine mcV (zrV (As := [.int x1]) (b := a0) (rest := []) C hs hP hS (c_X12_keep l D K hM f_18 A_18 hT a0 ha0 hk0 x1 hq_20) m_X12_keep wm_X12_165 (zrecv hs hP ha0 (zF_11 hk0) rfl) ⟨by decide, by decide⟩ hl.1 (Nat.le_of_ble_eq_true rfl) dX12_claim_67) hS (fun f_21 A_21 H locs p_21 hP hS => ?_)
            obtain ⟨hT, hA_21, hF_21, hC_21, pp_21⟩ := p_21
            have pp_21 : (f_21 23).toInt = -1 ∧ (∀ n9 : Int, aR (A_18 40) n9 → aR (A_21 40) n9) := pp_21
            have pp0_21 := zHid.mk pp_21
            have ev_22 : A_18 40 = A 40 := by rw [hA_18 40 (by decide)]
            rw [ev_22] at pp_21
            have FA := frA FA hA_21 (by decide)
            have FF := frF FF hF_21 (by decide)
            have aRc := pp0_21.2 _ aRc
            refine lv_aload_n hx hb dX12_claim_70 rfl (lv_at hl 1 rfl) ?_
            refine lv_iload hx hb dX12_claim_71 (lv_at hl 0 rfl) ?_
            refine lv_bipush (v := 6) hx hb dX12_claim_73 (by decide) ?_
            refine lv_iload_n hx hb dX12_claim_75 rfl (lv_at hl 3 rfl) ?_
            refine lv_iload_n hx hb dX12_claim_76 rfl (lv_at hl 4 rfl) ?_
            refine lv_iconst (v := 0) hx hb dX12_claim_77 (by decide) ?_
            have hTo := hT
            have es_24 : A_21 40 (x_10.toInt + 44).toNat = A 40 (x_10.toInt + 44).toNat := by rw [hC_21.ar (by omega) (lo := 0) (hi := 6449) (by decide) (x_10.toInt + 44) (by decide) (by omega) (by omega), hA_18 40 (by decide)]
            have hq_23 : (A_21 40 (x_10.toInt + 44).toNat).toInt ≤ 1000000000 := by (have h9 := (aRc x1.toInt (by omega) (by omega)).2.2; rw [← hbo_15] at h9; omega)
            refine mcV (zrV (As := [.int x_10, .int 6, .int x2, .int x3, .int 0]) (b := a0) (rest := []) C hs hP hS (c_X12_tell l D K hM f_21 A_21 hT a0 ha0 hk0 x_10 6 x2 x3 0 hbs_11 hq_23) m_X12_tell wm_X12_171 (zrecv hs hP ha0 (zF_11 hk0) rfl) ⟨by decide, by decide⟩ hl.1 (Nat.le_of_ble_eq_true rfl) dX12_claim_78) hS (fun f_25 A_25 H locs p_25 hP hS => ?_)
            obtain ⟨hT, hA_25, hF_25, hC_25, pp_25⟩ := p_25
            have pp_25 : (A_25 40 (x_10.toInt + 44).toNat).toInt = (A_21 40 (x_10.toInt + 44).toNat).toInt + 1 ∧ (((6 : Int32).toInt ≠ 0 → 0 ≤ x2.toInt ∧ x2.toInt ≤ 3) → ((6 : Int32).toInt = 1 → 0 ≤ x3.toInt ∧ x3.toInt < (A_21 40 (x_10.toInt + 1).toNat).toInt) → ((6 : Int32).toInt = 6 → x2.toInt ≤ 1) → tO (A_21 40) x_10.toInt → tO (A_25 40) x_10.toInt) := pp_25
            have pp0_25 := zHid.mk pp_25
            try simp only [ti_0, ti_6] at pp_25
            have hff_25 : f_21 = f_25 := funext (fun k9 => (hF_25 k9 List.not_mem_nil).symm)
            subst hff_25
            have FA := frA FA hA_25 (by decide)
            have FF := frF FF hF_25 (by decide)
            have aRc := aR.tl (t := x1.toInt) aRc hTo (by omega) (fC.mv hC_25 (by omega)) (by rw [← hbo_15]; exact pp0_25.1) (by rw [← hbo_15]; exact pp0_25.2 (fun _ => by omega) (fun h9 => absurd h9 (by rw [ti_6]; decide)) (fun _ => by omega))
            refine lv_aload_n hx hb dX12_claim_81 rfl (lv_at hl 1 rfl) ?_
            refine lv_iload hx hb dX12_claim_82 (lv_at hl 0 rfl) ?_
            refine lv_iload_n hx hb dX12_claim_84 rfl (lv_at hl 2 rfl) ?_
            refine lv_iload_n hx hb dX12_claim_85 rfl (lv_at hl 3 rfl) ?_
            refine lv_iload_n hx hb dX12_claim_86 rfl (lv_at hl 4 rfl) ?_
            have hTo := hT
            have hq_26 : 0 ≤ x2.toInt ∧ x2.toInt ≤ 1 := by (first | assumption | omega | (intros; omega))
            have hq_27 : rowP (A_25 40) x_10.toInt := by rw [hbo_15]; exact (aRc x1.toInt (by omega) (by omega)).1.1
            have ev_29 : f_21 11 = f_18 11 := by rw [hF_21 11 (by decide)]
            have hq_28 : (f_21 11).toInt ≤ 1960000000 := by rw [ev_29] <;> (first | assumption | omega | (intros; omega))
            have ev_31 : f_21 9 = f 9 := by rw [hF_21 9 (by decide), hF_18 9 (by decide)]
            have hq_30 : (f_21 9).toInt ≤ 1960000000 := by rw [ev_31] <;> (first | assumption | omega | (intros; omega))
            refine mcV (zrV (As := [.int x_10, .int x1, .int x2, .int x3]) (b := a0) (rest := []) C hs hP hS (c_X12_doClaim l D K hM f_21 A_25 hT a0 ha0 hk0 x_10 x1 x2 x3 hbs_11 hq_26 hq_27 hq_28 hq_30) m_X12_doClaim wm_X12_310 (zrecv hs hP ha0 (zF_11 hk0) rfl) ⟨by decide, by decide⟩ hl.1 (Nat.le_of_ble_eq_true rfl) dX12_claim_87) hS (fun f_32 A_32 H locs p_32 hP hS => ?_)
            obtain ⟨hT, hA_32, hF_32, hC_32, hW_32, pp_32⟩ := p_32
            have pp_32 : (f_21 9).toInt ≤ (f_32 9).toInt ∧ (f_32 9).toInt ≤ (f_21 9).toInt + 2 ∧ (f_21 11).toInt ≤ (f_32 11).toInt ∧ (f_32 11).toInt ≤ (f_21 11).toInt + 6 ∧ ((f_21 12).toInt ≠ 0 → (f_32 11).toInt = (f_21 11).toInt) ∧ rowN (A_32 40) x_10.toInt := pp_32
            have pp0_32 := zHid.mk pp_32
            have ev_33 : f_21 11 = f_18 11 := by rw [hF_21 11 (by decide)]
            have ev_34 : f_21 12 = f_18 12 := by rw [hF_21 12 (by decide)]
            have ev_35 : f_21 9 = f 9 := by rw [hF_21 9 (by decide), hF_18 9 (by decide)]
            rw [ev_33, ev_34, ev_35] at pp_32
            have pc_32 := pp_32.1
            have pd_32 := pp_32.2.1
            have pa_32 := pp_32.2.2.1
            have pb_32 := pp_32.2.2.2.1
            have qq_32 := zHid.mk pp_32.2.2.2.2.1
            replace pp_32 := pp_32.2.2.2.2.2
            have FA := frA FA hA_32 (by decide)
            have FF := frF FF hF_32 (by decide)
            have aRc := aR.do (t := x1.toInt) aRc hTo (by omega) (fC.mv hC_32 (by omega)) (by decide) (by rw [← hbo_15]; exact pp0_32.2.2.2.2.2) (by decide) (by decide) (by decide)
            refine lv_iconst (v := 1) hx hb dX12_claim_90 (by decide) ?_
            have ev_36 : f_32 23 = f_21 23 := by rw [hF_32 23 (by decide)]
            exact maI hQ hx hb hr hlk hP hS ⟨hT, FA, FF, ⟨(aRc.mono (by omega)), (cOk.m1 (by rw [ev_36]; exact pp0_21.1)), by omega, by omega⟩⟩ dX12_claim_91
          · skip
            refine lv_iconst (v := 0) hx hb dX12_claim_63 (by decide) ?_
            have ev_37 : f_18 9 = f 9 := by rw [hF_18 9 (by decide)]
            have ev_38 : A_18 40 = A 40 := by rw [hA_18 40 (by decide)]
            exact maI hQ hx hb hr hlk hP hS ⟨hT, FA, FF, ⟨(aRc.mono (by omega)), (by rw [ev_38]; exact cOc), by omega, by rw [ev_37] <;> omega⟩⟩ dX12_claim_64
        · skip
          clear pp_12
          refine lv_bipush (v := (-4)) hx hb dX12_claim_48 (by decide) ?_
          exact maI hQ hx hb hr hlk hP hS ⟨hT, FA, FF, ⟨(aRc.mono (by omega)), hp0.2.1, by omega, by omega⟩⟩ dX12_claim_50
      · skip
        replace pp_7 := pp_7.2 c_9
        refine lv_bipush (v := (-3)) hx hb dX12_claim_29 (by decide) ?_
        exact maI hQ hx hb hr hlk hP hS ⟨hT, FA, FF, ⟨(aRc.mono (by omega)), hp0.2.1, by omega, by omega⟩⟩ dX12_claim_31
    · skip
      replace pp_4 := pp_4.2 c_6
      refine lv_bipush (v := (-2)) hx hb dX12_claim_17 (by decide) ?_
      exact maI hQ hx hb hr hlk hP hS ⟨hT, FA, FF, ⟨(aRc.mono (by omega)), hp0.2.1, by omega, by omega⟩⟩ dX12_claim_19
set_option maxHeartbeats 4000000 in
set_option maxRecDepth 100000 in
theorem c_X12_best (l : Launch) (D : va_G) (K : zK) (hM : mK K) (f : Nat → Int32) (A : Nat → Nat → Int32) (hT : mT f A) (N : Int) (a0 : Nat) (ha0 : a0 ∈ zl K) (hk0 : zk K a0 = 11) (x1 : Int32) (x2 : Int32) (hp0 : okk N f A) (hp1 : 0 ≤ N ∧ N ≤ 600) : Met l yX12_best (zc yX12_best cX12_best 4 (some .int)) (rmd 7) (va_Pc [.ref a0, .int x1, .int x2] (zB D K (mV K f A))) (mQi D K (fun r f' A' => mT f' A' ∧ (∀ k, k ∉ ([50, 53, 55, 58, 59, 61, 62, 66, 69, 70, 71, 72, 73] : List Nat) → A' k = A k) ∧ (∀ k, k ∉ ([11, 12, 14, 16, 20, 23, 24, 25, 27, 28, 34, 35] : List Nat) → f' k = f k) ∧ okk (N + 1) f' A')) 0 0 (zA K) := by
  refine zin (by decide) (Nat.le_of_ble_eq_true rfl) ?_
  intro p e s m args below meth c ls Q hQ C hr hlk hP hs hl
  have C : CallFix p m c cX12_best 4 s args zw RX12 := C
  obtain ⟨hx, hb, hml, hown, hts⟩ := id C
  have hO := hM.1
  have hS : va_S (zA K) s.heap s.heap [] := va_S.rf
  have FA : ∀ k, k ∉ ([50, 53, 55, 58, 59, 61, 62, 66, 69, 70, 71, 72, 73] : List Nat) → A k = A k := fun _ _ => rfl
  have FF : ∀ k, k ∉ ([11, 12, 14, 16, 20, 23, 24, 25, 27, 28, 34, 35] : List Nat) → f k = f k := fun _ _ => rfl
  have hl : lv_has ls 4 [(0, .ref a0), (1, .int x1), (2, .int x2)] := hl
  have aRc := hp0.1
  have hbud := hp0.2.2
  refine lv_aload_n hx hb dX12_best_0 rfl (lv_at hl 0 rfl) ?_
  refine lv_iload_n hx hb dX12_best_1 rfl (lv_at hl 1 rfl) ?_
  refine lv_iload_n hx hb dX12_best_2 rfl (lv_at hl 2 rfl) ?_
  have hTo := hT
  refine zcS (zrV (As := [.int x1, .int x2]) (b := a0) (rest := []) C hs hP hS (c_X12_endBars l D K hM f A hT a0 ha0 hk0 x1 x2) m_X12_endBars wm_X12_304 (zrecv hs hP ha0 (zF_11 hk0) rfl) ⟨by decide, by decide⟩ hl.1 (Nat.le_of_ble_eq_true rfl) dX12_best_3) (fun x_1 p_1 => ?_)
  have pp_1 : (0 ≤ x_1.toInt → 0 ≤ x1.toInt ∧ x1.toInt ≤ 3 ∧ 0 ≤ x2.toInt ∧ x2.toInt ≤ 1 ∧ (A 40 (1290 * x1.toInt + 5).toNat).toInt = 1 ∧ h4 (A 40) (1290 * x1.toInt) 4) := p_1
  have g_2 := z_rng x1
  have g_3 := z_rng x2
  refine lv_istore_n (lv' := [(3, .int x_1), (0, .ref a0), (1, .int x1), (2, .int x2)]) hx hb dX12_best_6 rfl hl (by decide) rfl (fun ls hl => ?_)
  refine lv_iload_n hx hb dX12_best_7 rfl (lv_at hl 0 rfl) ?_
  refine bz_ge (tgt := 15) hx hb rfl dX12_best_8 (by decide) (fun c_4 => ?_) (fun c_4 => ?_)
  · skip
    refine lv_aload_n hx hb dX12_best_15 rfl (lv_at hl 1 rfl) ?_
    refine lv_iload_n hx hb dX12_best_16 rfl (lv_at hl 2 rfl) ?_
    refine lv_sipush (v := 1290) hx hb dX12_best_17 (by decide) ?_
    refine lv_iload_n hx hb dX12_best_20 rfl (lv_at hl 2 rfl) ?_
    refine lv_imul hx hb dX12_best_21 ?_
    refine lv_topi (fun x_5 ex_5 => ?_)
    refine lv_iload_n hx hb dX12_best_22 rfl (lv_at hl 3 rfl) ?_
    have hTo := hT
    obtain ⟨f_5, l_5, u_5⟩ := z_mul ex_5 ti_1290 rfl
    try replace f_5 : x_5.toInt = 1290 * x1.toInt := by omega
    clear l_5 u_5
    have hbs_6 : zRow x_5.toInt := zRow.of (t := x1.toInt) (by omega) (by omega)
    have hbl_hbs_6 := hbs_6.lin
    have hbo_8 : x_5.toInt = 1290 * x1.toInt := by omega
    have hq_7 : h4 (A 40) x_5.toInt 4 := by (rw [hbo_8]; exact (pp_1 (by omega)).2.2.2.2.2)
    have hq_9 : ((f 23).toInt = x1.toInt → aOk (A 40) x_5.toInt (f 20).toInt) := by (intro h9; rw [hbo_8]; exact hp0.2.1 x1.toInt (by omega) (by omega) h9 (pp_1 (by omega)).2.2.2.2.1)
    have hq_10 : (f 11).toInt ≤ 1950000000 := by (first | assumption | omega | (intros; omega))
    refine mcI (zrV (As := [.int x1, .int x_5, .int x2]) (b := a0) (rest := []) C hs hP hS (c_X12_sureAt l D K hM f A hT a0 ha0 hk0 x1 x_5 x2 hbs_6 hq_7 hq_9 hq_10) m_X12_sureAt wm_X12_307 (zrecv hs hP ha0 (zF_11 hk0) rfl) ⟨by decide, by decide⟩ hl.1 (Nat.le_of_ble_eq_true rfl) dX12_best_23) hS (fun x_11 f_11 A_11 H locs p_11 hP hS => ?_)
    obtain ⟨hT, hA_11, hF_11, pp_11⟩ := p_11
    have pp_11 : (f_11 11).toInt = (f 11).toInt ∧ (f_11 12).toInt = (f 12).toInt ∧ aOk (A 40) x_5.toInt (f_11 20).toInt ∧ (f_11 23).toInt = x1.toInt := pp_11
    have pp0_11 := zHid.mk pp_11
    have FA := frA FA hA_11 (by decide)
    have FF := frF FF hF_11 (by decide)
    have aRc : aR (A_11 40) (N) := by rw [hA_11 40 (by decide)]; exact aRc
    have cOc : cOk (f_11 23).toInt (f_11 20).toInt (A 40) := cOk.so (t := x1.toInt) pp0_11.2.2.2 (by rw [← hbo_8]; exact pp0_11.2.2.1)
    have p11_11 := pp0_11.1
    clear pp_11
    have ev_12 : f_11 9 = f 9 := by rw [hF_11 9 (by decide)]
    have ev_13 : A_11 40 = A 40 := by rw [hA_11 40 (by decide)]
    exact maI hQ hx hb hr hlk hP hS ⟨hT, FA, FF, ⟨(aRc.mono (by omega)), (by rw [ev_13]; exact cOc), by omega, by rw [ev_12] <;> omega⟩⟩ dX12_best_26
  · skip
    refine lv_iload_n hx hb dX12_best_11 rfl (lv_at hl 0 rfl) ?_
    refine lv_goto (tgt := 26) hx hb dX12_best_12 (by decide) ?_
    exact maI hQ hx hb hr hlk hP hS ⟨hT, FA, FF, ⟨(aRc.mono (by omega)), hp0.2.1, by omega, by omega⟩⟩ dX12_best_26
set_option maxHeartbeats 4000000 in
set_option maxRecDepth 100000 in
theorem c_X12_check (l : Launch) (D : va_G) (K : zK) (hM : mK K) (f : Nat → Int32) (A : Nat → Nat → Int32) (hT : mT f A) (N : Int) (a0 : Nat) (ha0 : a0 ∈ zl K) (hk0 : zk K a0 = 11) (x1 : Int32) (x2 : Int32) (hp0 : okk N f A) (hp1 : 0 ≤ N ∧ N ≤ 600) : Met l yX12_check (zc yX12_check cX12_check 6 (some .int)) (rmd 7) (va_Pc [.ref a0, .int x1, .int x2] (zB D K (mV K f A))) (mQi D K (fun r f' A' => mT f' A' ∧ (∀ k, k ∉ ([50, 53, 55, 58, 59, 61, 62, 66, 69, 70, 71, 72, 73] : List Nat) → A' k = A k) ∧ (∀ k, k ∉ ([11, 12, 14, 16, 20, 23, 24, 25, 27, 28, 34, 35] : List Nat) → f' k = f k) ∧ okk (N + 1) f' A')) 0 0 (zA K) := by
  refine zin (by decide) (Nat.le_of_ble_eq_true rfl) ?_
  intro p e s m args below meth c ls Q hQ C hr hlk hP hs hl
  have C : CallFix p m c cX12_check 6 s args zw RX12 := C
  obtain ⟨hx, hb, hml, hown, hts⟩ := id C
  have hO := hM.1
  have hS : va_S (zA K) s.heap s.heap [] := va_S.rf
  have FA : ∀ k, k ∉ ([50, 53, 55, 58, 59, 61, 62, 66, 69, 70, 71, 72, 73] : List Nat) → A k = A k := fun _ _ => rfl
  have FF : ∀ k, k ∉ ([11, 12, 14, 16, 20, 23, 24, 25, 27, 28, 34, 35] : List Nat) → f k = f k := fun _ _ => rfl
  have hl : lv_has ls 6 [(0, .ref a0), (1, .int x1), (2, .int x2)] := hl
  have aRc := hp0.1
  have hbud := hp0.2.2
  refine lv_aload_n hx hb dX12_check_0 rfl (lv_at hl 0 rfl) ?_
  refine lv_iload_n hx hb dX12_check_1 rfl (lv_at hl 1 rfl) ?_
  refine lv_iload_n hx hb dX12_check_2 rfl (lv_at hl 2 rfl) ?_
  have hTo := hT
  refine zcS (zrV (As := [.int x1, .int x2]) (b := a0) (rest := []) C hs hP hS (c_X12_endBars l D K hM f A hT a0 ha0 hk0 x1 x2) m_X12_endBars wm_X12_304 (zrecv hs hP ha0 (zF_11 hk0) rfl) ⟨by decide, by decide⟩ hl.1 (Nat.le_of_ble_eq_true rfl) dX12_check_3) (fun x_1 p_1 => ?_)
  have pp_1 : (0 ≤ x_1.toInt → 0 ≤ x1.toInt ∧ x1.toInt ≤ 3 ∧ 0 ≤ x2.toInt ∧ x2.toInt ≤ 1 ∧ (A 40 (1290 * x1.toInt + 5).toNat).toInt = 1 ∧ h4 (A 40) (1290 * x1.toInt) 4) := p_1
  have g_2 := z_rng x1
  have g_3 := z_rng x2
  refine lv_istore_n (lv' := [(3, .int x_1), (0, .ref a0), (1, .int x1), (2, .int x2)]) hx hb dX12_check_6 rfl hl (by decide) rfl (fun ls hl => ?_)
  refine lv_iload_n hx hb dX12_check_7 rfl (lv_at hl 0 rfl) ?_
  refine bz_ge (tgt := 13) hx hb rfl dX12_check_8 (by decide) (fun c_4 => ?_) (fun c_4 => ?_)
  · skip
    refine lv_sipush (v := 1290) hx hb dX12_check_13 (by decide) ?_
    refine lv_iload_n hx hb dX12_check_16 rfl (lv_at hl 2 rfl) ?_
    refine lv_imul hx hb dX12_check_17 ?_
    refine lv_topi (fun x_5 ex_5 => ?_)
    refine lv_istore (lv' := [(4, .int x_5), (3, .int x_1), (0, .ref a0), (1, .int x1), (2, .int x2)]) hx hb dX12_check_18 hl (by decide) rfl (fun ls hl => ?_)
    refine lv_aload_n hx hb dX12_check_20 rfl (lv_at hl 2 rfl) ?_
    refine lv_iload_n hx hb dX12_check_21 rfl (lv_at hl 3 rfl) ?_
    refine lv_iload hx hb dX12_check_22 (lv_at hl 0 rfl) ?_
    refine lv_iload_n hx hb dX12_check_24 rfl (lv_at hl 4 rfl) ?_
    have hTo := hT
    obtain ⟨f_5, l_5, u_5⟩ := z_mul ex_5 ti_1290 rfl
    try replace f_5 : x_5.toInt = 1290 * x1.toInt := by omega
    clear l_5 u_5
    have hbs_6 : zRow x_5.toInt := zRow.of (t := x1.toInt) (by omega) (by omega)
    have hbl_hbs_6 := hbs_6.lin
    have hbo_8 : x_5.toInt = 1290 * x1.toInt := by omega
    have hq_7 : h4 (A 40) x_5.toInt 4 := by (rw [hbo_8]; exact (pp_1 (by omega)).2.2.2.2.2)
    have hq_9 : ((f 23).toInt = x1.toInt → aOk (A 40) x_5.toInt (f 20).toInt) := by (intro h9; rw [hbo_8]; exact hp0.2.1 x1.toInt (by omega) (by omega) h9 (pp_1 (by omega)).2.2.2.2.1)
    have hq_10 : (f 11).toInt ≤ 1950000000 := by (first | assumption | omega | (intros; omega))
    refine mcI (zrV (As := [.int x1, .int x_5, .int x2]) (b := a0) (rest := []) C hs hP hS (c_X12_sureAt l D K hM f A hT a0 ha0 hk0 x1 x_5 x2 hbs_6 hq_7 hq_9 hq_10) m_X12_sureAt wm_X12_307 (zrecv hs hP ha0 (zF_11 hk0) rfl) ⟨by decide, by decide⟩ hl.1 (Nat.le_of_ble_eq_true rfl) dX12_check_25) hS (fun x_11 f_11 A_11 H locs p_11 hP hS => ?_)
    obtain ⟨hT, hA_11, hF_11, pp_11⟩ := p_11
    have pp_11 : (f_11 11).toInt = (f 11).toInt ∧ (f_11 12).toInt = (f 12).toInt ∧ aOk (A 40) x_5.toInt (f_11 20).toInt ∧ (f_11 23).toInt = x1.toInt := pp_11
    have pp0_11 := zHid.mk pp_11
    have FA := frA FA hA_11 (by decide)
    have FF := frF FF hF_11 (by decide)
    have aRc : aR (A_11 40) (N) := by rw [hA_11 40 (by decide)]; exact aRc
    have cOc : cOk (f_11 23).toInt (f_11 20).toInt (A 40) := cOk.so (t := x1.toInt) pp0_11.2.2.2 (by rw [← hbo_8]; exact pp0_11.2.2.1)
    have p11_11 := pp0_11.1
    clear pp_11
    refine lv_istore (lv' := [(5, .int x_11), (4, .int x_5), (3, .int x_1), (0, .ref a0), (1, .int x1), (2, .int x2)]) hx hb dX12_check_28 hl (by decide) rfl (fun ls hl => ?_)
    refine lv_aload_n hx hb dX12_check_30 rfl (lv_at hl 3 rfl) ?_
    refine mg_0 C hs hP ha0 hk0 wf_X12_8 dX12_check_31 ?_
    have hf_12 := hO.r (j := 0) ha0 hk0 (rfl : zX 11 0 = some (40, 47730))
    refine lv_iload hx hb dX12_check_34 (lv_at hl 1 rfl) ?_
    refine lv_bipush (v := 9) hx hb dX12_check_36 (by decide) ?_
    refine lv_iadd hx hb dX12_check_38 ?_
    refine lv_topi (fun x_13 ex_13 => ?_)
    have hi_hr_14 : zEq x_13.toInt (x_5.toInt + 9) := by
      obtain ⟨f_13, l_13, u_13⟩ := z_add ex_13 rfl ti_9
      try replace f_13 : x_13.toInt = x_5.toInt + 9 := by omega
      clear l_13 u_13
      show x_13.toInt = (x_5.toInt + 9)
      omega
    have hl_hr_14 : (9 : Int) ≤ 9 ∧ 9 ≤ (9 : Int) := by decide
    have hid_hr_14 : (x_5.toInt + 9) = x_5.toInt + (9) := by simp only [Int.add_assoc, Int.add_sub_assoc]
    have hr_14 := z_cell (lo := 9) (hi := 9) hbs_6 hi_hr_14 hid_hr_14 hl_hr_14 (by decide)
    replace hid_hr_14 : zEq (x_5.toInt + 9) (x_5.toInt + (9)) := hid_hr_14
    have hin_15 : vp_in x_13 (zn K (zr K a0 0)) := vp_in_iff.mpr (by rw [(hf_12.2.2 (by decide))]; exact hr_14.in)
    refine mld_40 C hs hP hf_12.1 hf_12.2.1 hin_15 dX12_check_39 ?_
    have ep_16 : x_13.toNatClampNeg = (x_5.toInt + 9).toNat := z_posE hi_hr_14
    rw [ep_16]
    have ev_17 : A_11 40 (x_5.toInt + 9).toNat = A 40 (x_5.toInt + 9).toNat := by rw [hA_11 40 (by decide)]
    have tv_18 := rv_9 hT hr_14
    rw [ep_16] at tv_18
    rw [ev_17] at tv_18
    rw [ev_17]
    clear ep_16
    refine lv_iconst (v := (-1)) hx hb dX12_check_40 (by decide) ?_
    refine bi_eq (tgt := 71) hx hb rfl ti_m1 dX12_check_41 (by decide) (fun c_19 => ?_) (fun c_19 => ?_)
    · skip
      refine lv_iconst (v := 1) hx hb dX12_check_71 (by decide) ?_
      refine lv_goto (tgt := 76) hx hb dX12_check_72 (by decide) ?_
      have ev_20 : f_11 9 = f 9 := by rw [hF_11 9 (by decide)]
      have ev_21 : A_11 40 = A 40 := by rw [hA_11 40 (by decide)]
      exact maI hQ hx hb hr hlk hP hS ⟨hT, FA, FF, ⟨(aRc.mono (by omega)), (by rw [ev_21]; exact cOc), by omega, by rw [ev_20] <;> omega⟩⟩ dX12_check_76
    · skip
      refine lv_aload_n hx hb dX12_check_44 rfl (lv_at hl 3 rfl) ?_
      refine mg_22 C hs hP ha0 hk0 wf_X12_53 dX12_check_45 ?_
      have hf_22 := hO.r (j := 22) ha0 hk0 (rfl : zX 11 22 = some (62, 262144))
      refine lv_iconst (v := 4) hx hb dX12_check_48 (by decide) ?_
      refine lv_aload_n hx hb dX12_check_49 rfl (lv_at hl 3 rfl) ?_
      refine mg_20 C hs hP ha0 hk0 wf_X12_286 dX12_check_50 ?_
      have tf_23 : 0 ≤ (f_11 20).toInt ∧ (f_11 20).toInt ≤ 65535 := hT.1 20
      refine lv_imul hx hb dX12_check_53 ?_
      refine lv_topi (fun x_24 ex_24 => ?_)
      refine lv_aload_n hx hb dX12_check_54 rfl (lv_at hl 3 rfl) ?_
      refine mg_0 C hs hP ha0 hk0 wf_X12_8 dX12_check_55 ?_
      refine lv_iload hx hb dX12_check_58 (lv_at hl 1 rfl) ?_
      refine lv_bipush (v := 9) hx hb dX12_check_60 (by decide) ?_
      refine lv_iadd hx hb dX12_check_62 ?_
      refine lv_topi (fun x_25 ex_25 => ?_)
      have hi_hr_26 : zEq x_25.toInt (x_5.toInt + 9) := by
        obtain ⟨f_25, l_25, u_25⟩ := z_add ex_25 rfl ti_9
        try replace f_25 : x_25.toInt = x_5.toInt + 9 := by omega
        clear l_25 u_25
        show x_25.toInt = (x_5.toInt + 9)
        omega
      have hl_hr_26 : (9 : Int) ≤ 9 ∧ 9 ≤ (9 : Int) := by decide
      have hid_hr_26 : (x_5.toInt + 9) = x_5.toInt + (9) := by simp only [Int.add_assoc, Int.add_sub_assoc]
      have hr_26 := z_cell (lo := 9) (hi := 9) hbs_6 hi_hr_26 hid_hr_26 hl_hr_26 (by decide)
      replace hid_hr_26 : zEq (x_5.toInt + 9) (x_5.toInt + (9)) := hid_hr_26
      have hin_27 : vp_in x_25 (zn K (zr K a0 0)) := vp_in_iff.mpr (by rw [(hf_12.2.2 (by decide))]; exact hr_26.in)
      refine mld_40 C hs hP hf_12.1 hf_12.2.1 hin_27 dX12_check_63 ?_
      have ep_28 : x_25.toNatClampNeg = (x_5.toInt + 9).toNat := z_posE hi_hr_26
      rw [ep_28]
      have ev_29 : A_11 40 (x_5.toInt + 9).toNat = A 40 (x_5.toInt + 9).toNat := by rw [hA_11 40 (by decide)]
      rw [ev_29]
      clear ep_28
      refine lv_iadd hx hb dX12_check_64 ?_
      refine lv_topi (fun x_30 ex_30 => ?_)
      have g_32 := z_rng (f_11 20)
      obtain ⟨f_24, l_24, u_24⟩ := z_mul ex_24 ti_4 rfl
      try replace f_24 : x_24.toInt = 4 * (f_11 20).toInt := by omega
      clear l_24 u_24
      have g_33 := z_rng (A 40 (x_5.toInt + 9).toNat)
      obtain ⟨f_30, l_30, u_30⟩ := z_add ex_30 rfl rfl
      try replace f_30 : x_30.toInt = x_24.toInt + (A 40 (x_5.toInt + 9).toNat).toInt := by omega
      clear l_30 u_30
      have hin_31 : vp_in x_30 (zn K (zr K a0 22)) := vp_in_iff.mpr (by rw [(hf_22.2.2 (by decide))]; refine ⟨?_, ?_⟩ <;> omega)
      refine mld_62 C hs hP hf_22.1 hf_22.2.1 hin_31 dX12_check_65 ?_
      refine lv_iload hx hb dX12_check_66 (lv_at hl 0 rfl) ?_
      refine bi_lt (tgt := 75) hx hb rfl rfl dX12_check_68 (by decide) (fun c_34 => ?_) (fun c_34 => ?_)
      · skip
        refine lv_iconst (v := 0) hx hb dX12_check_75 (by decide) ?_
        have ev_35 : f_11 9 = f 9 := by rw [hF_11 9 (by decide)]
        have ev_36 : A_11 40 = A 40 := by rw [hA_11 40 (by decide)]
        exact maI hQ hx hb hr hlk hP hS ⟨hT, FA, FF, ⟨(aRc.mono (by omega)), (by rw [ev_36]; exact cOc), by omega, by rw [ev_35] <;> omega⟩⟩ dX12_check_76
      · skip
        refine lv_iconst (v := 1) hx hb dX12_check_71 (by decide) ?_
        refine lv_goto (tgt := 76) hx hb dX12_check_72 (by decide) ?_
        have ev_37 : f_11 9 = f 9 := by rw [hF_11 9 (by decide)]
        have ev_38 : A_11 40 = A 40 := by rw [hA_11 40 (by decide)]
        exact maI hQ hx hb hr hlk hP hS ⟨hT, FA, FF, ⟨(aRc.mono (by omega)), (by rw [ev_38]; exact cOc), by omega, by rw [ev_37] <;> omega⟩⟩ dX12_check_76
  · skip
    refine lv_iload_n hx hb dX12_check_11 rfl (lv_at hl 0 rfl) ?_
    exact maI hQ hx hb hr hlk hP hS ⟨hT, FA, FF, ⟨(aRc.mono (by omega)), hp0.2.1, by omega, by omega⟩⟩ dX12_check_12
