set_option maxHeartbeats 4000000 in
set_option maxRecDepth 100000 in
theorem c_X12_keep (l : Launch) (D : va_G) (K : zK) (hM : mK K) (f : Nat → Int32) (A : Nat → Nat → Int32) (hT : mT f A) (a0 : Nat) (ha0 : a0 ∈ zl K) (hk0 : zk K a0 = 11) (x1 : Int32) (hp0 : 0 ≤ x1.toInt ∧ x1.toInt ≤ 3) : Met l yX12_keep (zc yX12_keep cX12_keep 3 none) (rmd 1) (va_Pc [.ref a0, .int x1] (zB D K (mV K f A))) (mQv D K (fun f' A' => mT f' A' ∧ (∀ k, k ∉ ([40, 42] : List Nat) → A' k = A k) ∧ (∀ k, k ∉ ([23] : List Nat) → f' k = f k) ∧ fC (A 40) (A' 40) 0 ([(6450, 47729)] : List (Int × Int)) ∧ (f' 23).toInt = -1 ∧ (∀ n9 : Int, aR (A 40) n9 → aR (A' 40) n9))) 0 0 (zA K) := by
  refine zin (by decide) (Nat.le_of_ble_eq_true rfl) ?_
  intro p e s m args below meth c ls Q hQ C hr hlk hP hs hl
  have C : CallFix p m c cX12_keep 3 s args zw RX12 := C
  obtain ⟨hx, hb, hml, hown, hts⟩ := id C
  have hO := hM.1
  have hS : va_S (zA K) s.heap s.heap [] := va_S.rf
  have FA : ∀ k, k ∉ ([40, 42] : List Nat) → A k = A k := fun _ _ => rfl
  have FF : ∀ k, k ∉ ([23] : List Nat) → f k = f k := fun _ _ => rfl
  have FC : fC (A 40) (A 40) 0 ([(6450, 47729)] : List (Int × Int)) := fun _ _ _ => rfl
  have hl : lv_has ls 3 [(0, .ref a0), (1, .int x1)] := hl
  have aRn : ∀ n9 : Int, aR (A 40) n9 → aR (A 40) n9 := fun _ h9 => h9
  refine lv_aload_n hx hb dX12_keep_0 rfl (lv_at hl 0 rfl) ?_
  refine lv_iconst (v := (-1)) hx hb dX12_keep_1 (by decide) ?_
  refine mp_23 C hM hs hP hS ha0 hT hk0 wf_X12_56 trivial dX12_keep_2 (fun f_1 H locs hE_1 hT hP hS => ?_)
  have FF := frF FF (frFu hE_1) (by decide)
  refine lv_aload_n hx hb dX12_keep_5 rfl (lv_at hl 0 rfl) ?_
  refine mg_2 C hs hP ha0 hk0 wf_X12_18 dX12_keep_6 ?_
  have hf_2 := hO.r (j := 2) ha0 hk0 (rfl : zX 11 2 = some (42, 4))
  refine lv_iload_n hx hb dX12_keep_9 rfl (lv_at hl 1 rfl) ?_
  have g_4 := z_rng x1
  have hin_3 : vp_in x1 (zn K (zr K a0 2)) := vp_in_iff.mpr (by rw [(hf_2.2.2 (by decide))]; refine ⟨?_, ?_⟩ <;> omega)
  refine mld_42 C hs hP hf_2.1 hf_2.2.1 hin_3 dX12_keep_10 ?_
  have tv_5 := ra_42 hT (vp_in_iff.mp hin_3).1 (by have h7 := (vp_in_iff.mp hin_3).2; rw [(hf_2.2.2 (by decide))] at h7; exact h7)
  refine lv_bipush (v := 8) hx hb dX12_keep_11 (by decide) ?_
  refine bi_ne (tgt := 61) hx hb rfl ti_8 dX12_keep_13 (by decide) (fun c_6 => ?_) (fun c_6 => ?_)
  · skip
    refine lv_aload_n hx hb dX12_keep_61 rfl (lv_at hl 0 rfl) ?_
    refine lv_iload_n hx hb dX12_keep_62 rfl (lv_at hl 1 rfl) ?_
    refine lv_iconst (v := 5) hx hb dX12_keep_63 (by decide) ?_
    refine lv_bipush (v := 8) hx hb dX12_keep_64 (by decide) ?_
    refine lv_iload_n hx hb dX12_keep_66 rfl (lv_at hl 1 rfl) ?_
    refine lv_imul hx hb dX12_keep_67 ?_
    refine lv_topi (fun x_7 ex_7 => ?_)
    refine lv_iadd hx hb dX12_keep_68 ?_
    refine lv_topi (fun x_8 ex_8 => ?_)
    refine lv_aload_n hx hb dX12_keep_69 rfl (lv_at hl 0 rfl) ?_
    refine mg_2 C hs hP ha0 hk0 wf_X12_18 dX12_keep_70 ?_
    refine lv_iload_n hx hb dX12_keep_73 rfl (lv_at hl 1 rfl) ?_
    have hin_9 : vp_in x1 (zn K (zr K a0 2)) := vp_in_iff.mpr (by rw [(hf_2.2.2 (by decide))]; refine ⟨?_, ?_⟩ <;> omega)
    refine mld_42 C hs hP hf_2.1 hf_2.2.1 hin_9 dX12_keep_74 ?_
    refine lv_iadd hx hb dX12_keep_75 ?_
    refine lv_topi (fun x_10 ex_10 => ?_)
    have hTo := hT
    obtain ⟨f_7, l_7, u_7⟩ := z_mul ex_7 ti_8 rfl
    try replace f_7 : x_7.toInt = 8 * x1.toInt := by omega
    clear l_7 u_7
    obtain ⟨f_8, l_8, u_8⟩ := z_add ex_8 ti_5 rfl
    try replace f_8 : x_8.toInt = 5 + x_7.toInt := by omega
    clear l_8 u_8
    have g_11 := z_rng (A 42 x1.toNatClampNeg)
    obtain ⟨f_10, l_10, u_10⟩ := z_add ex_10 rfl rfl
    try replace f_10 : x_10.toInt = x_8.toInt + (A 42 x1.toNatClampNeg).toInt := by omega
    clear l_10 u_10
    have hq_12 : 0 ≤ x1.toInt ∧ x1.toInt ≤ 36 := by (first | assumption | omega | (intros; omega))
    have hq_13 : 0 ≤ x_10.toInt ∧ x_10.toInt ≤ 36 := by (first | assumption | omega | (intros; omega))
    have hq_14 : x1.toInt ≠ x_10.toInt := by (first | assumption | omega | (intros; omega))
    refine mcV (zrV (As := [.int x1, .int x_10]) (b := a0) (rest := []) C hs hP hS (c_X12_copy l D K hM f_1 A hT a0 ha0 hk0 x1 x_10 hq_12 hq_13 hq_14) m_X12_copy wm_X12_95 (zrecv hs hP ha0 (zF_11 hk0) rfl) ⟨by decide, by decide⟩ hl.1 (Nat.le_of_ble_eq_true rfl) dX12_keep_76) hS (fun f_15 A_15 H locs p_15 hP hS => ?_)
    obtain ⟨hT, hA_15, hF_15, hC_15, pp_15⟩ := p_15
    have pp_15 : cpy (A 40) (A_15 40) (1290 * x_10.toInt) (1290 * x1.toInt) 1290 := pp_15
    have pp0_15 := zHid.mk pp_15
    have hff_15 : f_1 = f_15 := funext (fun k9 => (hF_15 k9 List.not_mem_nil).symm)
    subst hff_15
    have FA := frA FA hA_15 (by decide)
    have FF := frF FF hF_15 (by decide)
    have FC := fC.tr FC (fC.up (lo := 6450) (hi := 47729) hC_15 (by omega)) (by decide)
    have aRn : ∀ n9 : Int, aR (A 40) n9 → aR (A_15 40) n9 := fun n9 h9 => aR.cp (t := x_10.toInt) (s := x1.toInt) (aRn n9 h9) hTo (by omega) (by omega) hC_15 pp0_15
    refine lv_aload_n hx hb dX12_keep_79 rfl (lv_at hl 0 rfl) ?_
    refine mg_2 C hs hP ha0 hk0 wf_X12_18 dX12_keep_80 ?_
    refine lv_iload_n hx hb dX12_keep_83 rfl (lv_at hl 1 rfl) ?_
    refine lv_dup2_11 hx hb dX12_keep_84 rfl rfl ?_
    have hin_16 : vp_in x1 (zn K (zr K a0 2)) := vp_in_iff.mpr (by rw [(hf_2.2.2 (by decide))]; refine ⟨?_, ?_⟩ <;> omega)
    refine mld_42 C hs hP hf_2.1 hf_2.2.1 hin_16 dX12_keep_85 ?_
    have ev_17 : A_15 42 x1.toNatClampNeg = A 42 x1.toNatClampNeg := by rw [hA_15 42 (by decide)]
    rw [ev_17]
    refine lv_iconst (v := 1) hx hb dX12_keep_86 (by decide) ?_
    refine lv_iadd hx hb dX12_keep_87 ?_
    refine lv_topi (fun x_18 ex_18 => ?_)
    have hTo := hT
    have hin_19 : vp_in x1 (zn K (zr K a0 2)) := vp_in_iff.mpr (by rw [(hf_2.2.2 (by decide))]; refine ⟨?_, ?_⟩ <;> omega)
    obtain ⟨f_18, l_18, u_18⟩ := z_add ex_18 rfl ti_1
    try replace f_18 : x_18.toInt = (A 42 x1.toNatClampNeg).toInt + 1 := by omega
    clear l_18 u_18
    refine mst_42 C hM hs hP hS hf_2.1 hT hf_2.2.1 hin_19 (show 0 ≤ x_18.toInt ∧ x_18.toInt ≤ 8 from by omega) dX12_keep_88 (fun A_20 H locs hE_20 hT hP hS => ?_)
    have FA := frA FA (frAu hE_20) (by decide)
    have FC := fC.eq FC (frAu hE_20 40 (by decide))
    have aRn : ∀ n9 : Int, aR (A 40) n9 → aR (A_20 40) n9 := by rw [frAu hE_20 40 (by decide)]; exact aRn
    have ev_21 : f_1 23 = ((-1) : Int32) := by rw [hE_1, pk_us]
    have ev_21_i : (f_1 23).toInt = -1 := by rw [ev_21, ti_m1]
    exact maV hQ hx hb hr hlk hP hS ⟨hT, FA, FF, FC, ⟨by rw [ev_21]; exact ti_m1, aRn⟩⟩ dX12_keep_89
  · skip
    refine lv_iconst (v := 0) hx hb dX12_keep_16 (by decide) ?_
    refine lv_istore_n (lv' := [(2, .int 0), (0, .ref a0), (1, .int x1)]) hx hb dX12_keep_17 rfl hl (by decide) rfl (fun ls hl => ?_)
    have L_18_23 : ∀ (n_23 : Nat) (A_24 : Nat → Nat → Int32) (H : Heap) (locs : List Loc) (y_22 : Int32) (ls : Array Slot), (2147483648 - y_22.toInt).toNat < n_23 → 0 ≤ y_22.toInt → y_22.toInt ≤ 7 → (∀ n9 : Int, aR (A 40) n9 → aR (A_24 40) n9) → (A_24 42 x1.toNatClampNeg).toInt = 8 → (∀ k, k ∉ ([40, 42] : List Nat) → A_24 k = A k) → fC (A 40) (A_24 40) 0 ([(6450, 47729)] : List (Int × Int)) → mT f_1 A_24 → va_P D vwCl (zW K (mV K f_1 A_24)) H → va_S (zA K) s.heap H locs → lv_has ls 3 [(2, .int y_22), (0, .ref a0), (1, .int x1)] → W p l e (rmd 1) s m args below meth c H locs 0 0 Q (F0 m 18 ls []) := by
      intro n_23
      induction n_23 with
      | zero => intro A_24 H locs y_22 ls hm_23; exact absurd hm_23 (Nat.not_lt_zero _)
      | succ n_23 ih_23 =>
        intro A_24 H locs y_22 ls hm_23 iv_24_0 iv_24_1 iv_24_2 iv_24_3 FA_24 FC_24 hT hP hS hl
        have FA := FA_24
        have FC := FC_24
        have aRn := iv_24_2
        refine lv_iload_n hx hb dX12_keep_18 rfl (lv_at hl 0 rfl) ?_
        refine lv_bipush (v := 7) hx hb dX12_keep_19 (by decide) ?_
        refine bi_ge (tgt := 51) hx hb rfl ti_7 dX12_keep_21 (by decide) (fun c_26 => ?_) (fun c_26 => ?_)
        · skip
          refine lv_aload_n hx hb dX12_keep_51 rfl (lv_at hl 1 rfl) ?_
          refine mg_2 C hs hP ha0 hk0 wf_X12_18 dX12_keep_52 ?_
          refine lv_iload_n hx hb dX12_keep_55 rfl (lv_at hl 2 rfl) ?_
          refine lv_dup2_11 hx hb dX12_keep_56 rfl rfl ?_
          have hin_27 : vp_in x1 (zn K (zr K a0 2)) := vp_in_iff.mpr (by rw [(hf_2.2.2 (by decide))]; refine ⟨?_, ?_⟩ <;> omega)
          refine mld_42 C hs hP hf_2.1 hf_2.2.1 hin_27 dX12_keep_57 ?_
          have tv_28 := ra_42 hT (vp_in_iff.mp hin_27).1 (by have h7 := (vp_in_iff.mp hin_27).2; rw [(hf_2.2.2 (by decide))] at h7; exact h7)
          refine lv_iconst (v := 1) hx hb dX12_keep_58 (by decide) ?_
          refine lv_isub hx hb dX12_keep_59 ?_
          refine lv_topi (fun x_29 ex_29 => ?_)
          have hTo := hT
          have hin_30 : vp_in x1 (zn K (zr K a0 2)) := vp_in_iff.mpr (by rw [(hf_2.2.2 (by decide))]; refine ⟨?_, ?_⟩ <;> omega)
          have g_32 := z_rng (A_24 42 x1.toNatClampNeg)
          obtain ⟨f_29, l_29, u_29⟩ := z_sub ex_29 rfl ti_1
          try replace f_29 : x_29.toInt = (A_24 42 x1.toNatClampNeg).toInt - 1 := by omega
          clear l_29 u_29
          refine mst_42 C hM hs hP hS hf_2.1 hT hf_2.2.1 hin_30 (show 0 ≤ x_29.toInt ∧ x_29.toInt ≤ 8 from by omega) dX12_keep_60 (fun A_31 H locs hE_31 hT hP hS => ?_)
          have FA := frA FA (frAu hE_31) (by decide)
          have FC := fC.eq FC (frAu hE_31 40 (by decide))
          have aRn : ∀ n9 : Int, aR (A 40) n9 → aR (A_31 40) n9 := by rw [frAu hE_31 40 (by decide)]; exact aRn
          refine lv_aload_n hx hb dX12_keep_61 rfl (lv_at hl 1 rfl) ?_
          refine lv_iload_n hx hb dX12_keep_62 rfl (lv_at hl 2 rfl) ?_
          refine lv_iconst (v := 5) hx hb dX12_keep_63 (by decide) ?_
          refine lv_bipush (v := 8) hx hb dX12_keep_64 (by decide) ?_
          refine lv_iload_n hx hb dX12_keep_66 rfl (lv_at hl 2 rfl) ?_
          refine lv_imul hx hb dX12_keep_67 ?_
          refine lv_topi (fun x_33 ex_33 => ?_)
          refine lv_iadd hx hb dX12_keep_68 ?_
          refine lv_topi (fun x_34 ex_34 => ?_)
          refine lv_aload_n hx hb dX12_keep_69 rfl (lv_at hl 1 rfl) ?_
          refine mg_2 C hs hP ha0 hk0 wf_X12_18 dX12_keep_70 ?_
          refine lv_iload_n hx hb dX12_keep_73 rfl (lv_at hl 2 rfl) ?_
          have hin_35 : vp_in x1 (zn K (zr K a0 2)) := vp_in_iff.mpr (by rw [(hf_2.2.2 (by decide))]; refine ⟨?_, ?_⟩ <;> omega)
          refine mld_42 C hs hP hf_2.1 hf_2.2.1 hin_35 dX12_keep_74 ?_
          have ev_36 : A_31 42 x1.toNatClampNeg = x_29 := by rw [hE_31, va_up_self, pk_us]
          have tv_37 := ra_42 hT (vp_in_iff.mp hin_35).1 (by have h7 := (vp_in_iff.mp hin_35).2; rw [(hf_2.2.2 (by decide))] at h7; exact h7)
          rw [ev_36] at tv_37
          rw [ev_36]
          refine lv_iadd hx hb dX12_keep_75 ?_
          refine lv_topi (fun x_38 ex_38 => ?_)
          have hTo := hT
          obtain ⟨f_33, l_33, u_33⟩ := z_mul ex_33 ti_8 rfl
          try replace f_33 : x_33.toInt = 8 * x1.toInt := by omega
          clear l_33 u_33
          obtain ⟨f_34, l_34, u_34⟩ := z_add ex_34 ti_5 rfl
          try replace f_34 : x_34.toInt = 5 + x_33.toInt := by omega
          clear l_34 u_34
          obtain ⟨f_38, l_38, u_38⟩ := z_add ex_38 rfl rfl
          try replace f_38 : x_38.toInt = x_34.toInt + x_29.toInt := by omega
          clear l_38 u_38
          have hq_39 : 0 ≤ x1.toInt ∧ x1.toInt ≤ 36 := by (first | assumption | omega | (intros; omega))
          have hq_40 : 0 ≤ x_38.toInt ∧ x_38.toInt ≤ 36 := by (first | assumption | omega | (intros; omega))
          have hq_41 : x1.toInt ≠ x_38.toInt := by (first | assumption | omega | (intros; omega))
          refine mcV (zrV (As := [.int x1, .int x_38]) (b := a0) (rest := []) C hs hP hS (c_X12_copy l D K hM f_1 A_31 hT a0 ha0 hk0 x1 x_38 hq_39 hq_40 hq_41) m_X12_copy wm_X12_95 (zrecv hs hP ha0 (zF_11 hk0) rfl) ⟨by decide, by decide⟩ hl.1 (Nat.le_of_ble_eq_true rfl) dX12_keep_76) hS (fun f_42 A_42 H locs p_42 hP hS => ?_)
          obtain ⟨hT, hA_42, hF_42, hC_42, pp_42⟩ := p_42
          have pp_42 : cpy (A_31 40) (A_42 40) (1290 * x_38.toInt) (1290 * x1.toInt) 1290 := pp_42
          have pp0_42 := zHid.mk pp_42
          have ev_43 : A_31 40 = A_24 40 := by rw [hE_31, va_up_ne _ _ (show 40 ≠ 42 by decide)]
          rw [ev_43] at pp_42
          have hff_42 : f_1 = f_42 := funext (fun k9 => (hF_42 k9 List.not_mem_nil).symm)
          subst hff_42
          have FA := frA FA hA_42 (by decide)
          have FF := frF FF hF_42 (by decide)
          have FC := fC.tr FC (fC.up (lo := 6450) (hi := 47729) hC_42 (by omega)) (by decide)
          have aRn : ∀ n9 : Int, aR (A 40) n9 → aR (A_42 40) n9 := fun n9 h9 => aR.cp (t := x_38.toInt) (s := x1.toInt) (aRn n9 h9) hTo (by omega) (by omega) hC_42 pp0_42
          refine lv_aload_n hx hb dX12_keep_79 rfl (lv_at hl 1 rfl) ?_
          refine mg_2 C hs hP ha0 hk0 wf_X12_18 dX12_keep_80 ?_
          refine lv_iload_n hx hb dX12_keep_83 rfl (lv_at hl 2 rfl) ?_
          refine lv_dup2_11 hx hb dX12_keep_84 rfl rfl ?_
          have hin_44 : vp_in x1 (zn K (zr K a0 2)) := vp_in_iff.mpr (by rw [(hf_2.2.2 (by decide))]; refine ⟨?_, ?_⟩ <;> omega)
          refine mld_42 C hs hP hf_2.1 hf_2.2.1 hin_44 dX12_keep_85 ?_
          have ev_45 : A_42 42 x1.toNatClampNeg = x_29 := by rw [hA_42 42 (by decide), hE_31, va_up_self, pk_us]
          rw [ev_45]
          refine lv_iconst (v := 1) hx hb dX12_keep_86 (by decide) ?_
          refine lv_iadd hx hb dX12_keep_87 ?_
          refine lv_topi (fun x_46 ex_46 => ?_)
          have hTo := hT
          have hin_47 : vp_in x1 (zn K (zr K a0 2)) := vp_in_iff.mpr (by rw [(hf_2.2.2 (by decide))]; refine ⟨?_, ?_⟩ <;> omega)
          obtain ⟨f_46, l_46, u_46⟩ := z_add ex_46 rfl ti_1
          try replace f_46 : x_46.toInt = x_29.toInt + 1 := by omega
          clear l_46 u_46
          refine mst_42 C hM hs hP hS hf_2.1 hT hf_2.2.1 hin_47 (show 0 ≤ x_46.toInt ∧ x_46.toInt ≤ 8 from by omega) dX12_keep_88 (fun A_48 H locs hE_48 hT hP hS => ?_)
          have FA := frA FA (frAu hE_48) (by decide)
          have FC := fC.eq FC (frAu hE_48 40 (by decide))
          have aRn : ∀ n9 : Int, aR (A 40) n9 → aR (A_48 40) n9 := by rw [frAu hE_48 40 (by decide)]; exact aRn
          have ev_49 : f_1 23 = ((-1) : Int32) := by rw [hE_1, pk_us]
          have ev_49_i : (f_1 23).toInt = -1 := by rw [ev_49, ti_m1]
          exact maV hQ hx hb hr hlk hP hS ⟨hT, FA, FF, FC, ⟨by rw [ev_49]; exact ti_m1, aRn⟩⟩ dX12_keep_89
        · skip
          refine lv_aload_n hx hb dX12_keep_24 rfl (lv_at hl 1 rfl) ?_
          refine lv_bipush (v := 6) hx hb dX12_keep_25 (by decide) ?_
          refine lv_bipush (v := 8) hx hb dX12_keep_27 (by decide) ?_
          refine lv_iload_n hx hb dX12_keep_29 rfl (lv_at hl 2 rfl) ?_
          refine lv_imul hx hb dX12_keep_30 ?_
          refine lv_topi (fun x_50 ex_50 => ?_)
          refine lv_iadd hx hb dX12_keep_31 ?_
          refine lv_topi (fun x_51 ex_51 => ?_)
          refine lv_iload_n hx hb dX12_keep_32 rfl (lv_at hl 0 rfl) ?_
          refine lv_iadd hx hb dX12_keep_33 ?_
          refine lv_topi (fun x_52 ex_52 => ?_)
          refine lv_iconst (v := 5) hx hb dX12_keep_34 (by decide) ?_
          refine lv_bipush (v := 8) hx hb dX12_keep_35 (by decide) ?_
          refine lv_iload_n hx hb dX12_keep_37 rfl (lv_at hl 2 rfl) ?_
          refine lv_imul hx hb dX12_keep_38 ?_
          refine lv_topi (fun x_53 ex_53 => ?_)
          refine lv_iadd hx hb dX12_keep_39 ?_
          refine lv_topi (fun x_54 ex_54 => ?_)
          refine lv_iload_n hx hb dX12_keep_40 rfl (lv_at hl 0 rfl) ?_
          refine lv_iadd hx hb dX12_keep_41 ?_
          refine lv_topi (fun x_55 ex_55 => ?_)
          have hTo := hT
          obtain ⟨f_50, l_50, u_50⟩ := z_mul ex_50 ti_8 rfl
          try replace f_50 : x_50.toInt = 8 * x1.toInt := by omega
          clear l_50 u_50
          obtain ⟨f_51, l_51, u_51⟩ := z_add ex_51 ti_6 rfl
          try replace f_51 : x_51.toInt = 6 + x_50.toInt := by omega
          clear l_51 u_51
          have g_56 := z_rng y_22
          obtain ⟨f_52, l_52, u_52⟩ := z_add ex_52 rfl rfl
          try replace f_52 : x_52.toInt = x_51.toInt + y_22.toInt := by omega
          clear l_52 u_52
          obtain ⟨f_53, l_53, u_53⟩ := z_mul ex_53 ti_8 rfl
          try replace f_53 : x_53.toInt = 8 * x1.toInt := by omega
          clear l_53 u_53
          obtain ⟨f_54, l_54, u_54⟩ := z_add ex_54 ti_5 rfl
          try replace f_54 : x_54.toInt = 5 + x_53.toInt := by omega
          clear l_54 u_54
          obtain ⟨f_55, l_55, u_55⟩ := z_add ex_55 rfl rfl
          try replace f_55 : x_55.toInt = x_54.toInt + y_22.toInt := by omega
          clear l_55 u_55
          have hq_57 : 0 ≤ x_52.toInt ∧ x_52.toInt ≤ 36 := by (first | assumption | omega | (intros; omega))
          have hq_58 : 0 ≤ x_55.toInt ∧ x_55.toInt ≤ 36 := by (first | assumption | omega | (intros; omega))
          have hq_59 : x_52.toInt ≠ x_55.toInt := by (first | assumption | omega | (intros; omega))
          refine mcV (zrV (As := [.int x_52, .int x_55]) (b := a0) (rest := []) C hs hP hS (c_X12_copy l D K hM f_1 A_24 hT a0 ha0 hk0 x_52 x_55 hq_57 hq_58 hq_59) m_X12_copy wm_X12_95 (zrecv hs hP ha0 (zF_11 hk0) rfl) ⟨by decide, by decide⟩ hl.1 (Nat.le_of_ble_eq_true rfl) dX12_keep_42) hS (fun f_60 A_60 H locs p_60 hP hS => ?_)
          obtain ⟨hT, hA_60, hF_60, hC_60, pp_60⟩ := p_60
          have pp_60 : cpy (A_24 40) (A_60 40) (1290 * x_55.toInt) (1290 * x_52.toInt) 1290 := pp_60
          have pp0_60 := zHid.mk pp_60
          have hff_60 : f_1 = f_60 := funext (fun k9 => (hF_60 k9 List.not_mem_nil).symm)
          subst hff_60
          have FA := frA FA hA_60 (by decide)
          have FF := frF FF hF_60 (by decide)
          have FC := fC.tr FC (fC.up (lo := 6450) (hi := 47729) hC_60 (by omega)) (by decide)
          have aRn : ∀ n9 : Int, aR (A 40) n9 → aR (A_60 40) n9 := fun n9 h9 => aR.cp (t := x_55.toInt) (s := x_52.toInt) (aRn n9 h9) hTo (by omega) (by omega) hC_60 pp0_60
          obtain ⟨x_61, ex_61⟩ : ∃ y : Int32, y = y_22 + 1 := ⟨_, rfl⟩
          refine lv_iinc (v := x_61) (lv' := [(2, .int x_61), (0, .ref a0), (1, .int x1)]) hx hb dX12_keep_45 hl (k := 0) rfl (by rw [ex_61]; rfl) (by decide) rfl (fun ls hl => ?_)
          refine lv_goto (tgt := 18) hx hb dX12_keep_48 (by decide) ?_
          obtain ⟨f_61, l_61, u_61⟩ := z_add ex_61 rfl ti_1
          try replace f_61 : x_61.toInt = y_22.toInt + 1 := by omega
          clear l_61 u_61
          have ev_62 : A_60 42 = A_24 42 := by rw [hA_60 42 (by decide)]
          exact ih_23 A_60 _ _ x_61 _ (by omega) (by omega) (by omega) aRn (by rw [ev_62]; exact iv_24_3) FA FC hT hP hS (lv_sub hl [0, 1, 2] rfl)
    have g_63 := z_rng (A 42 x1.toNatClampNeg)
    exact L_18_23 _ A _ _ 0 _ (Nat.lt_succ_self _) (by (try simp only [ti_0]); omega) (by rw [ti_0]; decide) aRn (by omega) FA FC hT hP hS (lv_sub hl [0, 1, 2] rfl)
set_option maxHeartbeats 4000000 in
set_option maxRecDepth 100000 in
theorem c2_X12_isCard (l : Launch) (D : va_G) (K : zK) (hM : mK K) (f : Nat → Int32) (A : Nat → Nat → Int32) (hT : mT f A) (a0 : Nat) (ha0 : a0 ∈ zl K) (hk0 : zk K a0 = 11) (x1 : Int32) (x2 : Int32) (hp0 : 0 ≤ x1.toInt ∧ x1.toInt ≤ 3) : Met l yX12_isCard (zc yX12_isCard cX12_isCard 3 (some .boolean)) (rmd 1) (va_Pc [.ref a0, .int x1, .int x2] (zB D K (mV K f A))) (vp_Si (fun r => (r = 0 ∨ r = 1) ∧ (r.toInt ≠ 0 → 0 ≤ x2.toInt ∧ x2.toInt ≤ 59 ∧ x2.toInt < (A 40 (1290 * x1.toInt + 1).toNat).toInt))) 0 0 (fun _ => False) := by
  refine zin (by decide) (Nat.le_of_ble_eq_true rfl) ?_
  intro p e s m args below meth c ls Q hQ C hr hlk hP hs hl
  have C : CallFix p m c cX12_isCard 3 s args zw RX12 := C
  obtain ⟨hx, hb, hml, hown, hts⟩ := id C
  have hO := hM.1
  have hS : va_S (zA K) s.heap s.heap [] := va_S.rf
  have hl : lv_has ls 3 [(0, .ref a0), (1, .int x1), (2, .int x2)] := hl
  refine lv_iload_n hx hb dX12_isCard_0 rfl (lv_at hl 2 rfl) ?_
  refine lv_iconst (v := 0) hx hb dX12_isCard_1 (by decide) ?_
  refine lv_aload_n hx hb dX12_isCard_2 rfl (lv_at hl 0 rfl) ?_
  refine mg_0 C hs hP ha0 hk0 wf_X12_8 dX12_isCard_3 ?_
  have hf_1 := hO.r (j := 0) ha0 hk0 (rfl : zX 11 0 = some (40, 47730))
  refine lv_sipush (v := 1290) hx hb dX12_isCard_6 (by decide) ?_
  refine lv_iload_n hx hb dX12_isCard_9 rfl (lv_at hl 1 rfl) ?_
  refine lv_imul hx hb dX12_isCard_10 ?_
  refine lv_topi (fun x_2 ex_2 => ?_)
  refine lv_iconst (v := 1) hx hb dX12_isCard_11 (by decide) ?_
  refine lv_iadd hx hb dX12_isCard_12 ?_
  refine lv_topi (fun x_3 ex_3 => ?_)
  have g_6 := z_rng x1
  obtain ⟨f_2, l_2, u_2⟩ := z_mul ex_2 ti_1290 rfl
  try replace f_2 : x_2.toInt = 1290 * x1.toInt := by omega
  clear l_2 u_2
  have hbs_5 : zRow x_2.toInt := zRow.of (t := x1.toInt) (by omega) (by omega)
  have hbl_hbs_5 := hbs_5.lin
  have hi_hr_4 : zEq x_3.toInt (x_2.toInt + 1) := by
    obtain ⟨f_3, l_3, u_3⟩ := z_add ex_3 rfl ti_1
    try replace f_3 : x_3.toInt = x_2.toInt + 1 := by omega
    clear l_3 u_3
    show x_3.toInt = (x_2.toInt + 1)
    omega
  have hl_hr_4 : (1 : Int) ≤ 1 ∧ 1 ≤ (1 : Int) := by decide
  have hid_hr_4 : (x_2.toInt + 1) = x_2.toInt + (1) := by simp only [Int.add_assoc, Int.add_sub_assoc]
  have hr_4 := z_cell (lo := 1) (hi := 1) hbs_5 hi_hr_4 hid_hr_4 hl_hr_4 (by decide)
  replace hid_hr_4 : zEq (x_2.toInt + 1) (x_2.toInt + (1)) := hid_hr_4
  have hin_7 : vp_in x_3 (zn K (zr K a0 0)) := vp_in_iff.mpr (by rw [(hf_1.2.2 (by decide))]; exact hr_4.in)
  refine mld_40 C hs hP hf_1.1 hf_1.2.1 hin_7 dX12_isCard_13 ?_
  have ep_8 : x_3.toNatClampNeg = (x_2.toInt + 1).toNat := z_posE hi_hr_4
  rw [ep_8]
  have tv_9 := rv_1 hT hr_4
  rw [ep_8] at tv_9
  clear ep_8
  refine lv_iconst (v := 1) hx hb dX12_isCard_14 (by decide) ?_
  refine lv_isub hx hb dX12_isCard_15 ?_
  refine lv_topi (fun x_10 ex_10 => ?_)
  refine zcS (zrS (As := [.int x2, .int 0, .int x_10]) (rest := []) C hs hP hS (c_X12_in l D K hM f A hT x2 0 x_10) m_X12_in wm_X12_91 ⟨by decide, by decide⟩ hl.1 (Nat.le_of_ble_eq_true rfl) dX12_isCard_16) (fun x_11 p_11 => ?_)
  have pp_11 : (x_11.toInt ≠ 0 → (0 : Int32).toInt ≤ x2.toInt ∧ x2.toInt ≤ x_10.toInt) ∧ (x_11.toInt = 0 → x2.toInt < (0 : Int32).toInt ∨ x_10.toInt < x2.toInt) := p_11.2
  try simp only [ti_0] at pp_11
  have g_12 := z_rng x2
  have g_13 := z_rng (A 40 (x_2.toInt + 1).toNat)
  obtain ⟨f_10, l_10, u_10⟩ := z_sub ex_10 rfl ti_1
  try replace f_10 : x_10.toInt = (A 40 (x_2.toInt + 1).toNat).toInt - 1 := by omega
  clear l_10 u_10
  have hbo_14 : x_2.toInt = 1290 * x1.toInt := by omega
  have g_15 := z_rng x_11
  exact zaSz hQ hx hb hr hlk p_11.1 ⟨p_11.1, (fun h9 => by rw [← hbo_14]; have h8 := pp_11.1 h9; omega)⟩ dX12_isCard_19
