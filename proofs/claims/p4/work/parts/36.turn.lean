set_option maxHeartbeats 4000000 in
set_option maxRecDepth 100000 in
theorem c_X12_seatFrom (l : Launch) (D : va_G) (K : zK) (hM : mK K) (f : Nat → Int32) (A : Nat → Nat → Int32) (hT : mT f A) (a0 : Nat) (ha0 : a0 ∈ zl K) (hk0 : zk K a0 = 11) (x1 : Int32) (x2 : Int32) (hp0 : zRow x1.toInt) (hp1 : 0 ≤ x2.toInt ∧ x2.toInt ≤ 4) : Met l yX12_seatFrom (zc yX12_seatFrom cX12_seatFrom 7 (some .int)) (rmd 1) (va_Pc [.ref a0, .int x1, .int x2] (zB D K (mV K f A))) (vp_Si (fun r => (r.toInt = -1 ∨ (0 ≤ r.toInt ∧ r.toInt ≤ 3 ∧ 1 ≤ (A 40 (x1.toInt + r.toInt + 22).toNat).toInt ∧ nL (A 40) x1.toInt r.toInt (A 40 (x1.toInt + 26).toNat).toInt)))) 0 0 (fun _ => False) := by
  refine zin (by decide) (Nat.le_of_ble_eq_true rfl) ?_
  intro p e s m args below meth c ls Q hQ C hr hlk hP hs hl
  have C : CallFix p m c cX12_seatFrom 7 s args zw RX12 := C
  obtain ⟨hx, hb, hml, hown, hts⟩ := id C
  have hO := hM.1
  have hS : va_S (zA K) s.heap s.heap [] := va_S.rf
  have hl : lv_has ls 7 [(0, .ref a0), (1, .int x1), (2, .int x2)] := hl
  have hb0 := hp0.lin
  refine lv_iconst (v := 0) hx hb dX12_seatFrom_0 (by decide) ?_
  refine lv_istore_n (lv' := [(3, .int 0), (0, .ref a0), (1, .int x1), (2, .int x2)]) hx hb dX12_seatFrom_1 rfl hl (by decide) rfl (fun ls hl => ?_)
  have L_2_2 : ∀ (n_2 : Nat) (y_1 : Int32) (ls : Array Slot), (2147483648 - y_1.toInt).toNat < n_2 → 0 ≤ y_1.toInt → lv_has ls 7 [(3, .int y_1), (0, .ref a0), (1, .int x1), (2, .int x2)] → W p l e (rmd 1) s m args below meth c s.heap [] 0 0 Q (F0 m 2 ls []) := by
    intro n_2
    induction n_2 with
    | zero => intro y_1 ls hm_2; exact absurd hm_2 (Nat.not_lt_zero _)
    | succ n_2 ih_2 =>
      intro y_1 ls hm_2 iv_3_0 hl
      refine lv_iload_n hx hb dX12_seatFrom_2 rfl (lv_at hl 0 rfl) ?_
      refine lv_iconst (v := 4) hx hb dX12_seatFrom_3 (by decide) ?_
      refine bi_ge (tgt := 93) hx hb rfl ti_4 dX12_seatFrom_4 (by decide) (fun c_4 => ?_) (fun c_4 => ?_)
      · skip
        refine lv_iconst (v := (-1)) hx hb dX12_seatFrom_93 (by decide) ?_
        exact zaS hQ hx hb hr hlk (Or.inl ti_m1) dX12_seatFrom_94
      · skip
        refine lv_iload_n hx hb dX12_seatFrom_7 rfl (lv_at hl 3 rfl) ?_
        refine lv_iload_n hx hb dX12_seatFrom_8 rfl (lv_at hl 0 rfl) ?_
        refine lv_iadd hx hb dX12_seatFrom_9 ?_
        refine lv_topi (fun x_5 ex_5 => ?_)
        refine lv_iconst (v := 4) hx hb dX12_seatFrom_10 (by decide) ?_
        refine lv_irem hx hb dX12_seatFrom_11 (by decide) ?_
        refine lv_topi (fun x_6 ex_6 => ?_)
        refine lv_istore (lv' := [(4, .int x_6), (3, .int y_1), (0, .ref a0), (1, .int x1), (2, .int x2)]) hx hb dX12_seatFrom_12 hl (by decide) rfl (fun ls hl => ?_)
        refine lv_iconst (v := 0) hx hb dX12_seatFrom_14 (by decide) ?_
        refine lv_istore (lv' := [(5, .int 0), (4, .int x_6), (3, .int y_1), (0, .ref a0), (1, .int x1), (2, .int x2)]) hx hb dX12_seatFrom_15 hl (by decide) rfl (fun ls hl => ?_)
        refine lv_iconst (v := 0) hx hb dX12_seatFrom_17 (by decide) ?_
        refine lv_istore (lv' := [(6, .int 0), (5, .int 0), (4, .int x_6), (3, .int y_1), (0, .ref a0), (1, .int x1), (2, .int x2)]) hx hb dX12_seatFrom_18 hl (by decide) rfl (fun ls hl => ?_)
        have L_20_9 : ∀ (n_9 : Nat) (y_7 : Int32) (y_8 : Int32) (ls : Array Slot), (2147483648 - y_7.toInt).toNat < n_9 → 0 ≤ y_7.toInt → (y_8.toInt = 0 → nL (A 40) x1.toInt x_6.toInt y_7.toInt) → lv_has ls 7 [(6, .int y_7), (5, .int y_8), (4, .int x_6), (3, .int y_1), (0, .ref a0), (1, .int x1), (2, .int x2)] → W p l e (rmd 1) s m args below meth c s.heap [] 0 0 Q (F0 m 20 ls []) := by
          intro n_9
          induction n_9 with
          | zero => intro y_7 y_8 ls hm_9; exact absurd hm_9 (Nat.not_lt_zero _)
          | succ n_9 ih_9 =>
            intro y_7 y_8 ls hm_9 iv_10_0 iv_10_1 hl
            refine lv_iload hx hb dX12_seatFrom_20 (lv_at hl 0 rfl) ?_
            refine lv_aload_n hx hb dX12_seatFrom_22 rfl (lv_at hl 4 rfl) ?_
            refine mg_0 C hs hP ha0 hk0 wf_X12_8 dX12_seatFrom_23 ?_
            have hf_11 := hO.r (j := 0) ha0 hk0 (rfl : zX 11 0 = some (40, 47730))
            refine lv_iload_n hx hb dX12_seatFrom_26 rfl (lv_at hl 5 rfl) ?_
            refine lv_bipush (v := 26) hx hb dX12_seatFrom_27 (by decide) ?_
            refine lv_iadd hx hb dX12_seatFrom_29 ?_
            refine lv_topi (fun x_12 ex_12 => ?_)
            have hi_hr_13 : zEq x_12.toInt (x1.toInt + 26) := by
              have g_14 := z_rng x1
              obtain ⟨f_12, l_12, u_12⟩ := z_add ex_12 rfl ti_26
              try replace f_12 : x_12.toInt = x1.toInt + 26 := by omega
              clear l_12 u_12
              show x_12.toInt = (x1.toInt + 26)
              omega
            have hl_hr_13 : (26 : Int) ≤ 26 ∧ 26 ≤ (26 : Int) := by decide
            have hid_hr_13 : (x1.toInt + 26) = x1.toInt + (26) := by simp only [Int.add_assoc, Int.add_sub_assoc]
            have hr_13 := z_cell (lo := 26) (hi := 26) hp0 hi_hr_13 hid_hr_13 hl_hr_13 (by decide)
            replace hid_hr_13 : zEq (x1.toInt + 26) (x1.toInt + (26)) := hid_hr_13
            have hin_15 : vp_in x_12 (zn K (zr K a0 0)) := vp_in_iff.mpr (by rw [(hf_11.2.2 (by decide))]; exact hr_13.in)
            refine mld_40 C hs hP hf_11.1 hf_11.2.1 hin_15 dX12_seatFrom_30 ?_
            have ep_16 : x_12.toNatClampNeg = (x1.toInt + 26).toNat := z_posE hi_hr_13
            rw [ep_16]
            have tv_17 := rv_26 hT hr_13
            rw [ep_16] at tv_17
            refine bi_ge (tgt := 69) hx hb rfl rfl dX12_seatFrom_31 (by decide) (fun c_18 => ?_) (fun c_18 => ?_)
            · skip
              refine lv_iload hx hb dX12_seatFrom_69 (lv_at hl 1 rfl) ?_
              refine bz_ne (tgt := 87) hx hb rfl dX12_seatFrom_71 (by decide) (fun c_19 => ?_) (fun c_19 => ?_)
              · skip
                obtain ⟨x_20, ex_20⟩ : ∃ y : Int32, y = y_1 + 1 := ⟨_, rfl⟩
                refine lv_iinc (v := x_20) (lv' := [(3, .int x_20), (6, .int y_7), (5, .int y_8), (4, .int x_6), (0, .ref a0), (1, .int x1), (2, .int x2)]) hx hb dX12_seatFrom_87 hl (k := 3) rfl (by rw [ex_20]; rfl) (by decide) rfl (fun ls hl => ?_)
                refine lv_goto (tgt := 2) hx hb dX12_seatFrom_90 (by decide) ?_
                have g_21 := z_rng y_1
                obtain ⟨f_20, l_20, u_20⟩ := z_add ex_20 rfl ti_1
                try replace f_20 : x_20.toInt = y_1.toInt + 1 := by omega
                clear l_20 u_20
                have g_22 := z_rng (A 40 (x1.toInt + 26).toNat)
                have g_23 := z_rng y_7
                have g_24 := z_rng y_8
                exact ih_2 x_20 _ (by omega) (by omega) (lv_sub hl [0, 4, 5, 6] rfl)
              · skip
                refine lv_aload_n hx hb dX12_seatFrom_74 rfl (lv_at hl 4 rfl) ?_
                refine lv_iload_n hx hb dX12_seatFrom_75 rfl (lv_at hl 5 rfl) ?_
                refine lv_iload hx hb dX12_seatFrom_76 (lv_at hl 2 rfl) ?_
                have g_25 := z_rng x1
                have g_26 := z_rng x2
                have g_27 := z_rng y_1
                obtain ⟨f_5, l_5, u_5⟩ := z_add ex_5 rfl rfl
                try replace f_5 : x_5.toInt = x2.toInt + y_1.toInt := by omega
                clear l_5 u_5
                have f_6 := z_rem ex_6 rfl ti_4 (by decide)
                have hq_28 : 0 ≤ x_6.toInt ∧ x_6.toInt ≤ 3 := by (first | assumption | omega | (intros; omega))
                refine zcS (zrV (As := [.int x1, .int x_6]) (b := a0) (rest := []) C hs hP hS (c_X12_canLay l D K hM f A hT a0 ha0 hk0 x1 x_6 hp0 hq_28) m_X12_canLay wm_X12_147 (zrecv hs hP ha0 (zF_11 hk0) rfl) ⟨by decide, by decide⟩ hl.1 (Nat.le_of_ble_eq_true rfl) dX12_seatFrom_78) (fun x_29 p_29 => ?_)
                have pp_29 : (x_29.toInt ≠ 0 → 1 ≤ (A 40 (x1.toInt + x_6.toInt + 22).toNat).toInt) := p_29.2
                refine bz_eq (tgt := 87) hx hb rfl dX12_seatFrom_81 (by decide) (fun c_30 => ?_) (fun c_30 => ?_)
                · skip
                  clear pp_29
                  obtain ⟨x_31, ex_31⟩ : ∃ y : Int32, y = y_1 + 1 := ⟨_, rfl⟩
                  refine lv_iinc (v := x_31) (lv' := [(3, .int x_31), (6, .int y_7), (5, .int y_8), (4, .int x_6), (0, .ref a0), (1, .int x1), (2, .int x2)]) hx hb dX12_seatFrom_87 hl (k := 3) rfl (by rw [ex_31]; rfl) (by decide) rfl (fun ls hl => ?_)
                  refine lv_goto (tgt := 2) hx hb dX12_seatFrom_90 (by decide) ?_
                  obtain ⟨f_31, l_31, u_31⟩ := z_add ex_31 rfl ti_1
                  try replace f_31 : x_31.toInt = y_1.toInt + 1 := by omega
                  clear l_31 u_31
                  have g_32 := z_rng (A 40 (x1.toInt + 26).toNat)
                  have g_33 := z_rng x_29
                  have g_34 := z_rng y_7
                  have g_35 := z_rng y_8
                  exact ih_2 x_31 _ (by omega) (by omega) (lv_sub hl [0, 4, 5, 6] rfl)
                · skip
                  replace pp_29 := pp_29 c_30
                  refine lv_iload hx hb dX12_seatFrom_84 (lv_at hl 2 rfl) ?_
                  exact zaS hQ hx hb hr hlk (Or.inr ⟨by omega, by omega, pp_29, nL.mono (iv_10_1 c_19) (by omega)⟩) dX12_seatFrom_86
            · skip
              refine lv_iload hx hb dX12_seatFrom_34 (lv_at hl 1 rfl) ?_
              refine bz_ne (tgt := 56) hx hb rfl dX12_seatFrom_36 (by decide) (fun c_36 => ?_) (fun c_36 => ?_)
              · skip
                refine lv_iconst (v := 1) hx hb dX12_seatFrom_56 (by decide) ?_
                refine lv_goto (tgt := 61) hx hb dX12_seatFrom_57 (by decide) ?_
                refine lv_istore (lv' := [(5, .int 1), (6, .int y_7), (4, .int x_6), (3, .int y_1), (0, .ref a0), (1, .int x1), (2, .int x2)]) hx hb dX12_seatFrom_61 hl (by decide) rfl (fun ls hl => ?_)
                obtain ⟨x_37, ex_37⟩ : ∃ y : Int32, y = y_7 + 1 := ⟨_, rfl⟩
                refine lv_iinc (v := x_37) (lv' := [(6, .int x_37), (5, .int 1), (4, .int x_6), (3, .int y_1), (0, .ref a0), (1, .int x1), (2, .int x2)]) hx hb dX12_seatFrom_63 hl (k := 1) rfl (by rw [ex_37]; rfl) (by decide) rfl (fun ls hl => ?_)
                refine lv_goto (tgt := 20) hx hb dX12_seatFrom_66 (by decide) ?_
                have g_38 := z_rng y_7
                obtain ⟨f_37, l_37, u_37⟩ := z_add ex_37 rfl ti_1
                try replace f_37 : x_37.toInt = y_7.toInt + 1 := by omega
                clear l_37 u_37
                have g_39 := z_rng (A 40 (x1.toInt + 26).toNat)
                have g_40 := z_rng y_8
                exact ih_9 x_37 1 _ (by omega) (by (try simp only [ti_1]); omega) (fun h9 => by rw [ti_1] at h9; omega) (lv_sub hl [0, 1, 2, 3, 4, 5, 6] rfl)
              · skip
                refine lv_aload_n hx hb dX12_seatFrom_39 rfl (lv_at hl 4 rfl) ?_
                refine mg_0 C hs hP ha0 hk0 wf_X12_8 dX12_seatFrom_40 ?_
                refine lv_iload_n hx hb dX12_seatFrom_43 rfl (lv_at hl 5 rfl) ?_
                refine lv_bipush (v := 31) hx hb dX12_seatFrom_44 (by decide) ?_
                refine lv_iadd hx hb dX12_seatFrom_46 ?_
                refine lv_topi (fun x_41 ex_41 => ?_)
                refine lv_iload hx hb dX12_seatFrom_47 (lv_at hl 0 rfl) ?_
                refine lv_iadd hx hb dX12_seatFrom_49 ?_
                refine lv_topi (fun x_42 ex_42 => ?_)
                have hi_hr_43 : zEq x_42.toInt (x1.toInt + y_7.toInt + 31) := by
                  have g_44 := z_rng x1
                  obtain ⟨f_41, l_41, u_41⟩ := z_add ex_41 rfl ti_31
                  try replace f_41 : x_41.toInt = x1.toInt + 31 := by omega
                  clear l_41 u_41
                  have g_45 := z_rng y_7
                  obtain ⟨f_42, l_42, u_42⟩ := z_add ex_42 rfl rfl
                  try replace f_42 : x_42.toInt = x_41.toInt + y_7.toInt := by omega
                  clear l_42 u_42
                  show x_42.toInt = (x1.toInt + y_7.toInt + 31)
                  omega
                have hl_hr_43 : 31 ≤ y_7.toInt + 31 ∧ y_7.toInt + 31 ≤ 34 := by
                  have g_46 := z_rng x1
                  have g_47 := z_rng y_7
                  omega
                have hid_hr_43 : (x1.toInt + y_7.toInt + 31) = x1.toInt + (y_7.toInt + 31) := by simp only [Int.add_assoc, Int.add_sub_assoc]
                have hr_43 := z_cell (lo := 31) (hi := 34) hp0 hi_hr_43 hid_hr_43 hl_hr_43 (by decide)
                replace hid_hr_43 : zEq (x1.toInt + y_7.toInt + 31) (x1.toInt + (y_7.toInt + 31)) := hid_hr_43
                have hin_48 : vp_in x_42 (zn K (zr K a0 0)) := vp_in_iff.mpr (by rw [(hf_11.2.2 (by decide))]; exact hr_43.in)
                refine mld_40 C hs hP hf_11.1 hf_11.2.1 hin_48 dX12_seatFrom_50 ?_
                have ep_49 : x_42.toNatClampNeg = (x1.toInt + y_7.toInt + 31).toNat := z_posE hi_hr_43
                rw [ep_49]
                have tv_50 := rv_31 hT hr_43
                rw [ep_49] at tv_50
                refine lv_iload hx hb dX12_seatFrom_51 (lv_at hl 2 rfl) ?_
                refine bi_ne (tgt := 60) hx hb rfl rfl dX12_seatFrom_53 (by decide) (fun c_51 => ?_) (fun c_51 => ?_)
                · skip
                  refine lv_iconst (v := 0) hx hb dX12_seatFrom_60 (by decide) ?_
                  refine lv_istore (lv' := [(5, .int 0), (6, .int y_7), (4, .int x_6), (3, .int y_1), (0, .ref a0), (1, .int x1), (2, .int x2)]) hx hb dX12_seatFrom_61 hl (by decide) rfl (fun ls hl => ?_)
                  obtain ⟨x_52, ex_52⟩ : ∃ y : Int32, y = y_7 + 1 := ⟨_, rfl⟩
                  refine lv_iinc (v := x_52) (lv' := [(6, .int x_52), (5, .int 0), (4, .int x_6), (3, .int y_1), (0, .ref a0), (1, .int x1), (2, .int x2)]) hx hb dX12_seatFrom_63 hl (k := 1) rfl (by rw [ex_52]; rfl) (by decide) rfl (fun ls hl => ?_)
                  refine lv_goto (tgt := 20) hx hb dX12_seatFrom_66 (by decide) ?_
                  have g_53 := z_rng y_7
                  obtain ⟨f_52, l_52, u_52⟩ := z_add ex_52 rfl ti_1
                  try replace f_52 : x_52.toInt = y_7.toInt + 1 := by omega
                  clear l_52 u_52
                  have g_54 := z_rng (A 40 (x1.toInt + 26).toNat)
                  have g_55 := z_rng (A 40 (x1.toInt + y_7.toInt + 31).toNat)
                  have g_56 := z_rng x_6
                  have g_57 := z_rng x2
                  have g_58 := z_rng y_1
                  obtain ⟨f_5, l_5, u_5⟩ := z_add ex_5 rfl rfl
                  try replace f_5 : x_5.toInt = x2.toInt + y_1.toInt := by omega
                  clear l_5 u_5
                  have f_6 := z_rem ex_6 rfl ti_4 (by decide)
                  have g_59 := z_rng y_8
                  exact ih_9 x_52 0 _ (by omega) (by (try simp only [ti_0]); omega) (fun _ => nL.s (iv_10_1 c_36) (by omega) c_51) (lv_sub hl [0, 1, 2, 3, 4, 5, 6] rfl)
                · skip
                  refine lv_iconst (v := 1) hx hb dX12_seatFrom_56 (by decide) ?_
                  refine lv_goto (tgt := 61) hx hb dX12_seatFrom_57 (by decide) ?_
                  refine lv_istore (lv' := [(5, .int 1), (6, .int y_7), (4, .int x_6), (3, .int y_1), (0, .ref a0), (1, .int x1), (2, .int x2)]) hx hb dX12_seatFrom_61 hl (by decide) rfl (fun ls hl => ?_)
                  obtain ⟨x_60, ex_60⟩ : ∃ y : Int32, y = y_7 + 1 := ⟨_, rfl⟩
                  refine lv_iinc (v := x_60) (lv' := [(6, .int x_60), (5, .int 1), (4, .int x_6), (3, .int y_1), (0, .ref a0), (1, .int x1), (2, .int x2)]) hx hb dX12_seatFrom_63 hl (k := 1) rfl (by rw [ex_60]; rfl) (by decide) rfl (fun ls hl => ?_)
                  refine lv_goto (tgt := 20) hx hb dX12_seatFrom_66 (by decide) ?_
                  have g_61 := z_rng y_7
                  obtain ⟨f_60, l_60, u_60⟩ := z_add ex_60 rfl ti_1
                  try replace f_60 : x_60.toInt = y_7.toInt + 1 := by omega
                  clear l_60 u_60
                  have g_62 := z_rng (A 40 (x1.toInt + 26).toNat)
                  have g_63 := z_rng (A 40 (x1.toInt + y_7.toInt + 31).toNat)
                  have g_64 := z_rng x_6
                  have g_65 := z_rng x2
                  have g_66 := z_rng y_1
                  obtain ⟨f_5, l_5, u_5⟩ := z_add ex_5 rfl rfl
                  try replace f_5 : x_5.toInt = x2.toInt + y_1.toInt := by omega
                  clear l_5 u_5
                  have f_6 := z_rem ex_6 rfl ti_4 (by decide)
                  have g_67 := z_rng y_8
                  exact ih_9 x_60 1 _ (by omega) (by (try simp only [ti_1]); omega) (fun h9 => by rw [ti_1] at h9; omega) (lv_sub hl [0, 1, 2, 3, 4, 5, 6] rfl)
        have g_68 := z_rng y_1
        exact L_20_9 _ 0 0 _ (Nat.lt_succ_self _) (by (try simp only [ti_0]); omega) (fun _ => nL.z (by rw [ti_0]; decide)) (lv_sub hl [0, 1, 2, 3, 4, 5, 6] rfl)
  exact L_2_2 _ 0 _ (Nat.lt_succ_self _) (by (try simp only [ti_0]); omega) (lv_sub hl [0, 1, 2, 3] rfl)
set_option maxHeartbeats 4000000 in
set_option maxRecDepth 100000 in
theorem c_X12_isEnd (l : Launch) (D : va_G) (K : zK) (hM : mK K) (f : Nat → Int32) (A : Nat → Nat → Int32) (hT : mT f A) (a0 : Nat) (ha0 : a0 ∈ zl K) (hk0 : zk K a0 = 11) (x1 : Int32) (hp0 : zRow x1.toInt) : Met l yX12_isEnd (zc yX12_isEnd cX12_isEnd 5 (some .boolean)) (rmd 0) (va_Pc [.ref a0, .int x1] (zB D K (mV K f A))) (vp_Si (fun r => (r = 0 ∨ r = 1) ∧ (r.toInt ≠ 0 → (A 40 (x1.toInt + 5).toNat).toInt = 1 ∧ h4 (A 40) x1.toInt 4))) 0 0 (fun _ => False) := by
  refine zin (by decide) (Nat.le_of_ble_eq_true rfl) ?_
  intro p e s m args below meth c ls Q hQ C hr hlk hP hs hl
  have C : CallFix p m c cX12_isEnd 5 s args zw RX12 := C
  obtain ⟨hx, hb, hml, hown, hts⟩ := id C
  have hO := hM.1
  have hS : va_S (zA K) s.heap s.heap [] := va_S.rf
  have hl : lv_has ls 5 [(0, .ref a0), (1, .int x1)] := hl
  have hb0 := hp0.lin
  refine lv_aload_n hx hb dX12_isEnd_0 rfl (lv_at hl 0 rfl) ?_
  refine mg_0 C hs hP ha0 hk0 wf_X12_8 dX12_isEnd_1 ?_
  have hf_1 := hO.r (j := 0) ha0 hk0 (rfl : zX 11 0 = some (40, 47730))
  refine lv_iload_n hx hb dX12_isEnd_4 rfl (lv_at hl 1 rfl) ?_
  refine lv_iconst (v := 5) hx hb dX12_isEnd_5 (by decide) ?_
  refine lv_iadd hx hb dX12_isEnd_6 ?_
  refine lv_topi (fun x_2 ex_2 => ?_)
  have hi_hr_3 : zEq x_2.toInt (x1.toInt + 5) := by
    have g_4 := z_rng x1
    obtain ⟨f_2, l_2, u_2⟩ := z_add ex_2 rfl ti_5
    try replace f_2 : x_2.toInt = x1.toInt + 5 := by omega
    clear l_2 u_2
    show x_2.toInt = (x1.toInt + 5)
    omega
  have hl_hr_3 : (5 : Int) ≤ 5 ∧ 5 ≤ (5 : Int) := by decide
  have hid_hr_3 : (x1.toInt + 5) = x1.toInt + (5) := by simp only [Int.add_assoc, Int.add_sub_assoc]
  have hr_3 := z_cell (lo := 2) (hi := 8) hp0 hi_hr_3 hid_hr_3 hl_hr_3 (by decide)
  replace hid_hr_3 : zEq (x1.toInt + 5) (x1.toInt + (5)) := hid_hr_3
  have hin_5 : vp_in x_2 (zn K (zr K a0 0)) := vp_in_iff.mpr (by rw [(hf_1.2.2 (by decide))]; exact hr_3.in)
  refine mld_40 C hs hP hf_1.1 hf_1.2.1 hin_5 dX12_isEnd_7 ?_
  have ep_6 : x_2.toNatClampNeg = (x1.toInt + 5).toNat := z_posE hi_hr_3
  rw [ep_6]
  refine lv_iconst (v := 1) hx hb dX12_isEnd_8 (by decide) ?_
  refine bi_ne (tgt := 28) hx hb rfl ti_1 dX12_isEnd_9 (by decide) (fun c_7 => ?_) (fun c_7 => ?_)
  · skip
    refine lv_iconst (v := 0) hx hb dX12_isEnd_28 (by decide) ?_
    refine lv_istore_n (lv' := [(2, .int 0), (0, .ref a0), (1, .int x1)]) hx hb dX12_isEnd_29 rfl hl (by decide) rfl (fun ls hl => ?_)
    refine lv_iconst (v := 0) hx hb dX12_isEnd_30 (by decide) ?_
    refine lv_istore_n (lv' := [(3, .int 0), (2, .int 0), (0, .ref a0), (1, .int x1)]) hx hb dX12_isEnd_31 rfl hl (by decide) rfl (fun ls hl => ?_)
    have L_32_10 : ∀ (n_10 : Nat) (y_8 : Int32) (y_9 : Int32) (ls : Array Slot), (2147483648 - y_8.toInt).toNat < n_10 → (y_9 = 0 ∨ y_9 = 1) → 0 ≤ y_8.toInt → y_8.toInt ≤ 4 → (y_9.toInt ≠ 0 → (A 40 (x1.toInt + 5).toNat).toInt = 1 ∧ h4 (A 40) x1.toInt y_8.toInt) → lv_has ls 5 [(3, .int y_8), (2, .int y_9), (0, .ref a0), (1, .int x1)] → W p l e (rmd 0) s m args below meth c s.heap [] 0 0 Q (F0 m 32 ls []) := by
      intro n_10
      induction n_10 with
      | zero => intro y_8 y_9 ls hm_10; exact absurd hm_10 (Nat.not_lt_zero _)
      | succ n_10 ih_10 =>
        intro y_8 y_9 ls hm_10 hb_y_9 iv_11_0 iv_11_1 iv_11_2 hl
        refine lv_iload_n hx hb dX12_isEnd_32 rfl (lv_at hl 0 rfl) ?_
        refine lv_iconst (v := 4) hx hb dX12_isEnd_33 (by decide) ?_
        refine bi_ge (tgt := 135) hx hb rfl ti_4 dX12_isEnd_34 (by decide) (fun c_12 => ?_) (fun c_12 => ?_)
        · skip
          refine lv_iload_n hx hb dX12_isEnd_135 rfl (lv_at hl 1 rfl) ?_
          exact zaSz hQ hx hb hr hlk hb_y_9 ⟨hb_y_9, (fun h9 => ⟨(iv_11_2 h9).1, h4.e (iv_11_2 h9).2 (by omega)⟩)⟩ dX12_isEnd_136
        · skip
          refine lv_iload_n hx hb dX12_isEnd_37 rfl (lv_at hl 1 rfl) ?_
          refine bz_eq (tgt := 60) hx hb rfl dX12_isEnd_38 (by decide) (fun c_13 => ?_) (fun c_13 => ?_)
          · skip
            refine lv_iconst (v := 0) hx hb dX12_isEnd_60 (by decide) ?_
            refine lv_istore_n (lv' := [(2, .int 0), (3, .int y_8), (0, .ref a0), (1, .int x1)]) hx hb dX12_isEnd_61 rfl hl (by decide) rfl (fun ls hl => ?_)
            refine lv_iconst (v := 0) hx hb dX12_isEnd_62 (by decide) ?_
            refine lv_istore (lv' := [(4, .int 0), (2, .int 0), (3, .int y_8), (0, .ref a0), (1, .int x1)]) hx hb dX12_isEnd_63 hl (by decide) rfl (fun ls hl => ?_)
            have L_65_16 : ∀ (n_16 : Nat) (y_14 : Int32) (y_15 : Int32) (ls : Array Slot), (2147483648 - y_14.toInt).toNat < n_16 → (y_15 = 0 ∨ y_15 = 1) → 0 ≤ y_14.toInt → (y_15.toInt ≠ 0 → (A 40 (x1.toInt + 5).toNat).toInt = 1 ∧ h4 (A 40) x1.toInt y_8.toInt ∧ (A 40 (x1.toInt + y_8.toInt + 22).toNat).toInt ≤ 4) → lv_has ls 5 [(4, .int y_14), (2, .int y_15), (3, .int y_8), (0, .ref a0), (1, .int x1)] → W p l e (rmd 0) s m args below meth c s.heap [] 0 0 Q (F0 m 65 ls []) := by
              intro n_16
              induction n_16 with
              | zero => intro y_14 y_15 ls hm_16; exact absurd hm_16 (Nat.not_lt_zero _)
              | succ n_16 ih_16 =>
                intro y_14 y_15 ls hm_16 hb_y_15 iv_17_0 iv_17_1 hl
                refine lv_iload_n hx hb dX12_isEnd_65 rfl (lv_at hl 1 rfl) ?_
                refine bz_eq (tgt := 129) hx hb rfl dX12_isEnd_66 (by decide) (fun c_18 => ?_) (fun c_18 => ?_)
                · skip
                  obtain ⟨x_19, ex_19⟩ : ∃ y : Int32, y = y_8 + 1 := ⟨_, rfl⟩
                  refine lv_iinc (v := x_19) (lv' := [(3, .int x_19), (4, .int y_14), (2, .int y_15), (0, .ref a0), (1, .int x1)]) hx hb dX12_isEnd_129 hl (k := 2) rfl (by rw [ex_19]; rfl) (by decide) rfl (fun ls hl => ?_)
                  refine lv_goto (tgt := 32) hx hb dX12_isEnd_132 (by decide) ?_
                  have g_20 := z_rng y_8
                  obtain ⟨f_19, l_19, u_19⟩ := z_add ex_19 rfl ti_1
                  try replace f_19 : x_19.toInt = y_8.toInt + 1 := by omega
                  clear l_19 u_19
                  have g_21 := z_rng y_15
                  exact ih_10 x_19 y_15 _ (by omega) hb_y_15 (by omega) (by omega) (fun h9 => ⟨(iv_17_1 h9).1, h4.s (iv_17_1 h9).2.1 (by omega) (iv_17_1 h9).2.2⟩) (lv_sub hl [0, 2, 3, 4] rfl)
                · skip
                  refine lv_iload hx hb dX12_isEnd_69 (lv_at hl 0 rfl) ?_
                  refine lv_aload_n hx hb dX12_isEnd_71 rfl (lv_at hl 3 rfl) ?_
                  refine mg_0 C hs hP ha0 hk0 wf_X12_8 dX12_isEnd_72 ?_
                  refine lv_iload_n hx hb dX12_isEnd_75 rfl (lv_at hl 4 rfl) ?_
                  refine lv_bipush (v := 22) hx hb dX12_isEnd_76 (by decide) ?_
                  refine lv_iadd hx hb dX12_isEnd_78 ?_
                  refine lv_topi (fun x_22 ex_22 => ?_)
                  refine lv_iload_n hx hb dX12_isEnd_79 rfl (lv_at hl 2 rfl) ?_
                  refine lv_iadd hx hb dX12_isEnd_80 ?_
                  refine lv_topi (fun x_23 ex_23 => ?_)
                  have hi_hr_24 : zEq x_23.toInt (x1.toInt + y_8.toInt + 22) := by
                    have g_25 := z_rng x1
                    obtain ⟨f_22, l_22, u_22⟩ := z_add ex_22 rfl ti_22
                    try replace f_22 : x_22.toInt = x1.toInt + 22 := by omega
                    clear l_22 u_22
                    have g_26 := z_rng y_8
                    obtain ⟨f_23, l_23, u_23⟩ := z_add ex_23 rfl rfl
                    try replace f_23 : x_23.toInt = x_22.toInt + y_8.toInt := by omega
                    clear l_23 u_23
                    show x_23.toInt = (x1.toInt + y_8.toInt + 22)
                    omega
                  have hl_hr_24 : 22 ≤ y_8.toInt + 22 ∧ y_8.toInt + 22 ≤ 25 := by
                    have g_27 := z_rng x1
                    have g_28 := z_rng y_8
                    omega
                  have hid_hr_24 : (x1.toInt + y_8.toInt + 22) = x1.toInt + (y_8.toInt + 22) := by simp only [Int.add_assoc, Int.add_sub_assoc]
                  have hr_24 := z_cell (lo := 22) (hi := 25) hp0 hi_hr_24 hid_hr_24 hl_hr_24 (by decide)
                  replace hid_hr_24 : zEq (x1.toInt + y_8.toInt + 22) (x1.toInt + (y_8.toInt + 22)) := hid_hr_24
                  have hin_29 : vp_in x_23 (zn K (zr K a0 0)) := vp_in_iff.mpr (by rw [(hf_1.2.2 (by decide))]; exact hr_24.in)
                  refine mld_40 C hs hP hf_1.1 hf_1.2.1 hin_29 dX12_isEnd_81 ?_
                  have ep_30 : x_23.toNatClampNeg = (x1.toInt + y_8.toInt + 22).toNat := z_posE hi_hr_24
                  rw [ep_30]
                  have tv_31 := rv_22 hT hr_24
                  rw [ep_30] at tv_31
                  refine bi_ge (tgt := 129) hx hb rfl rfl dX12_isEnd_82 (by decide) (fun c_32 => ?_) (fun c_32 => ?_)
                  · skip
                    obtain ⟨x_33, ex_33⟩ : ∃ y : Int32, y = y_8 + 1 := ⟨_, rfl⟩
                    refine lv_iinc (v := x_33) (lv' := [(3, .int x_33), (4, .int y_14), (2, .int y_15), (0, .ref a0), (1, .int x1)]) hx hb dX12_isEnd_129 hl (k := 2) rfl (by rw [ex_33]; rfl) (by decide) rfl (fun ls hl => ?_)
                    refine lv_goto (tgt := 32) hx hb dX12_isEnd_132 (by decide) ?_
                    have g_34 := z_rng y_8
                    obtain ⟨f_33, l_33, u_33⟩ := z_add ex_33 rfl ti_1
                    try replace f_33 : x_33.toInt = y_8.toInt + 1 := by omega
                    clear l_33 u_33
                    have g_35 := z_rng y_15
                    have g_36 := z_rng (A 40 (x1.toInt + y_8.toInt + 22).toNat)
                    have g_37 := z_rng y_14
                    exact ih_10 x_33 y_15 _ (by omega) hb_y_15 (by omega) (by omega) (fun h9 => ⟨(iv_17_1 h9).1, h4.s (iv_17_1 h9).2.1 (by omega) (iv_17_1 h9).2.2⟩) (lv_sub hl [0, 2, 3, 4] rfl)
                  · skip
                    refine lv_aload_n hx hb dX12_isEnd_85 rfl (lv_at hl 3 rfl) ?_
                    refine mg_0 C hs hP ha0 hk0 wf_X12_8 dX12_isEnd_86 ?_
                    refine lv_iload_n hx hb dX12_isEnd_89 rfl (lv_at hl 4 rfl) ?_
                    refine lv_bipush (v := 50) hx hb dX12_isEnd_90 (by decide) ?_
                    refine lv_iadd hx hb dX12_isEnd_92 ?_
                    refine lv_topi (fun x_38 ex_38 => ?_)
                    refine lv_aload_n hx hb dX12_isEnd_93 rfl (lv_at hl 3 rfl) ?_
                    refine mg_0 C hs hP ha0 hk0 wf_X12_8 dX12_isEnd_94 ?_
                    refine lv_iload_n hx hb dX12_isEnd_97 rfl (lv_at hl 4 rfl) ?_
                    refine lv_sipush (v := 230) hx hb dX12_isEnd_98 (by decide) ?_
                    refine lv_iadd hx hb dX12_isEnd_101 ?_
                    refine lv_topi (fun x_39 ex_39 => ?_)
                    refine lv_bipush (v := 60) hx hb dX12_isEnd_102 (by decide) ?_
                    refine lv_iload_n hx hb dX12_isEnd_104 rfl (lv_at hl 2 rfl) ?_
                    refine lv_imul hx hb dX12_isEnd_105 ?_
                    refine lv_topi (fun x_40 ex_40 => ?_)
                    refine lv_iadd hx hb dX12_isEnd_106 ?_
                    refine lv_topi (fun x_41 ex_41 => ?_)
                    refine lv_iload hx hb dX12_isEnd_107 (lv_at hl 0 rfl) ?_
                    refine lv_iadd hx hb dX12_isEnd_109 ?_
                    refine lv_topi (fun x_42 ex_42 => ?_)
                    have hi_hr_43 : zEq x_42.toInt (x1.toInt + y_14.toInt + 60 * y_8.toInt + 230) := by
                      have g_44 := z_rng x1
                      obtain ⟨f_39, l_39, u_39⟩ := z_add ex_39 rfl ti_230
                      try replace f_39 : x_39.toInt = x1.toInt + 230 := by omega
                      clear l_39 u_39
                      have g_45 := z_rng y_8
                      obtain ⟨f_40, l_40, u_40⟩ := z_mul ex_40 ti_60 rfl
                      try replace f_40 : x_40.toInt = 60 * y_8.toInt := by omega
                      clear l_40 u_40
                      obtain ⟨f_41, l_41, u_41⟩ := z_add ex_41 rfl rfl
                      try replace f_41 : x_41.toInt = x_39.toInt + x_40.toInt := by omega
                      clear l_41 u_41
                      have g_46 := z_rng y_14
                      obtain ⟨f_42, l_42, u_42⟩ := z_add ex_42 rfl rfl
                      try replace f_42 : x_42.toInt = x_41.toInt + y_14.toInt := by omega
                      clear l_42 u_42
                      show x_42.toInt = (x1.toInt + y_14.toInt + 60 * y_8.toInt + 230)
                      omega
                    have hl_hr_43 : 230 ≤ y_14.toInt + 60 * y_8.toInt + 230 ∧ y_14.toInt + 60 * y_8.toInt + 230 ≤ 469 := by
                      have g_47 := z_rng x1
                      have g_48 := z_rng y_8
                      have g_49 := z_rng y_14
                      omega
                    have hid_hr_43 : (x1.toInt + y_14.toInt + 60 * y_8.toInt + 230) = x1.toInt + (y_14.toInt + 60 * y_8.toInt + 230) := by simp only [Int.add_assoc, Int.add_sub_assoc]
                    have hr_43 := z_cell (lo := 170) (hi := 469) hp0 hi_hr_43 hid_hr_43 hl_hr_43 (by decide)
                    replace hid_hr_43 : zEq (x1.toInt + y_14.toInt + 60 * y_8.toInt + 230) (x1.toInt + (y_14.toInt + 60 * y_8.toInt + 230)) := hid_hr_43
                    have hin_50 : vp_in x_42 (zn K (zr K a0 0)) := vp_in_iff.mpr (by rw [(hf_1.2.2 (by decide))]; exact hr_43.in)
                    refine mld_40 C hs hP hf_1.1 hf_1.2.1 hin_50 dX12_isEnd_110 ?_
                    have ep_51 : x_42.toNatClampNeg = (x1.toInt + y_14.toInt + 60 * y_8.toInt + 230).toNat := z_posE hi_hr_43
                    rw [ep_51]
                    have tv_52 := rv_170 hT hr_43
                    rw [ep_51] at tv_52
                    refine lv_iadd hx hb dX12_isEnd_111 ?_
                    refine lv_topi (fun x_53 ex_53 => ?_)
                    have hi_hr_54 : zEq x_53.toInt (x1.toInt + (A 40 (x1.toInt + y_14.toInt + 60 * y_8.toInt + 230).toNat).toInt + 50) := by
                      have g_55 := z_rng x1
                      obtain ⟨f_38, l_38, u_38⟩ := z_add ex_38 rfl ti_50
                      try replace f_38 : x_38.toInt = x1.toInt + 50 := by omega
                      clear l_38 u_38
                      have g_56 := z_rng (A 40 (x1.toInt + y_14.toInt + 60 * y_8.toInt + 230).toNat)
                      obtain ⟨f_53, l_53, u_53⟩ := z_add ex_53 rfl rfl
                      try replace f_53 : x_53.toInt = x_38.toInt + (A 40 (x1.toInt + y_14.toInt + 60 * y_8.toInt + 230).toNat).toInt := by omega
                      clear l_53 u_53
                      show x_53.toInt = (x1.toInt + (A 40 (x1.toInt + y_14.toInt + 60 * y_8.toInt + 230).toNat).toInt + 50)
                      omega
                    have hl_hr_54 : 50 ≤ (A 40 (x1.toInt + y_14.toInt + 60 * y_8.toInt + 230).toNat).toInt + 50 ∧ (A 40 (x1.toInt + y_14.toInt + 60 * y_8.toInt + 230).toNat).toInt + 50 ≤ 109 := by
                      have g_57 := z_rng x1
                      have g_58 := z_rng (A 40 (x1.toInt + y_14.toInt + 60 * y_8.toInt + 230).toNat)
                      omega
                    have hid_hr_54 : (x1.toInt + (A 40 (x1.toInt + y_14.toInt + 60 * y_8.toInt + 230).toNat).toInt + 50) = x1.toInt + ((A 40 (x1.toInt + y_14.toInt + 60 * y_8.toInt + 230).toNat).toInt + 50) := by simp only [Int.add_assoc, Int.add_sub_assoc]
                    have hr_54 := z_cell (lo := 45) (hi := 169) hp0 hi_hr_54 hid_hr_54 hl_hr_54 (by decide)
                    replace hid_hr_54 : zEq (x1.toInt + (A 40 (x1.toInt + y_14.toInt + 60 * y_8.toInt + 230).toNat).toInt + 50) (x1.toInt + ((A 40 (x1.toInt + y_14.toInt + 60 * y_8.toInt + 230).toNat).toInt + 50)) := hid_hr_54
                    have hin_59 : vp_in x_53 (zn K (zr K a0 0)) := vp_in_iff.mpr (by rw [(hf_1.2.2 (by decide))]; exact hr_54.in)
                    refine mld_40 C hs hP hf_1.1 hf_1.2.1 hin_59 dX12_isEnd_112 ?_
                    have ep_60 : x_53.toNatClampNeg = (x1.toInt + (A 40 (x1.toInt + y_14.toInt + 60 * y_8.toInt + 230).toNat).toInt + 50).toNat := z_posE hi_hr_54
                    rw [ep_60]
                    refine lv_iconst (v := 3) hx hb dX12_isEnd_113 (by decide) ?_
                    refine bi_eq (tgt := 121) hx hb rfl ti_3 dX12_isEnd_114 (by decide) (fun c_61 => ?_) (fun c_61 => ?_)
                    · skip
                      refine lv_iconst (v := 0) hx hb dX12_isEnd_121 (by decide) ?_
                      refine lv_istore_n (lv' := [(2, .int 0), (4, .int y_14), (3, .int y_8), (0, .ref a0), (1, .int x1)]) hx hb dX12_isEnd_122 rfl hl (by decide) rfl (fun ls hl => ?_)
                      obtain ⟨x_62, ex_62⟩ : ∃ y : Int32, y = y_14 + 1 := ⟨_, rfl⟩
                      refine lv_iinc (v := x_62) (lv' := [(4, .int x_62), (2, .int 0), (3, .int y_8), (0, .ref a0), (1, .int x1)]) hx hb dX12_isEnd_123 hl (k := 1) rfl (by rw [ex_62]; rfl) (by decide) rfl (fun ls hl => ?_)
                      refine lv_goto (tgt := 65) hx hb dX12_isEnd_126 (by decide) ?_
                      have g_63 := z_rng y_14
                      obtain ⟨f_62, l_62, u_62⟩ := z_add ex_62 rfl ti_1
                      try replace f_62 : x_62.toInt = y_14.toInt + 1 := by omega
                      clear l_62 u_62
                      have g_64 := z_rng (A 40 (x1.toInt + (A 40 (x1.toInt + y_14.toInt + 60 * y_8.toInt + 230).toNat).toInt + 50).toNat)
                      have g_65 := z_rng (A 40 (x1.toInt + y_8.toInt + 22).toNat)
                      have g_66 := z_rng y_15
                      exact ih_16 x_62 0 _ (by omega) (Or.inl rfl) (by (try simp only [ti_0]); omega) (fun h9 => by rw [ti_0] at h9; omega) (lv_sub hl [0, 1, 2, 3, 4] rfl)
                    · skip
                      refine lv_iconst (v := 1) hx hb dX12_isEnd_117 (by decide) ?_
                      refine lv_goto (tgt := 122) hx hb dX12_isEnd_118 (by decide) ?_
                      refine lv_istore_n (lv' := [(2, .int 1), (4, .int y_14), (3, .int y_8), (0, .ref a0), (1, .int x1)]) hx hb dX12_isEnd_122 rfl hl (by decide) rfl (fun ls hl => ?_)
                      obtain ⟨x_67, ex_67⟩ : ∃ y : Int32, y = y_14 + 1 := ⟨_, rfl⟩
                      refine lv_iinc (v := x_67) (lv' := [(4, .int x_67), (2, .int 1), (3, .int y_8), (0, .ref a0), (1, .int x1)]) hx hb dX12_isEnd_123 hl (k := 1) rfl (by rw [ex_67]; rfl) (by decide) rfl (fun ls hl => ?_)
                      refine lv_goto (tgt := 65) hx hb dX12_isEnd_126 (by decide) ?_
                      have g_68 := z_rng y_14
                      obtain ⟨f_67, l_67, u_67⟩ := z_add ex_67 rfl ti_1
                      try replace f_67 : x_67.toInt = y_14.toInt + 1 := by omega
                      clear l_67 u_67
                      have g_69 := z_rng (A 40 (x1.toInt + (A 40 (x1.toInt + y_14.toInt + 60 * y_8.toInt + 230).toNat).toInt + 50).toNat)
                      have g_70 := z_rng (A 40 (x1.toInt + y_8.toInt + 22).toNat)
                      have g_71 := z_rng y_15
                      exact ih_16 x_67 1 _ (by omega) (Or.inr rfl) (by (try simp only [ti_1]); omega) (fun _ => iv_17_1 c_18) (lv_sub hl [0, 1, 2, 3, 4] rfl)
            have g_72 := z_rng y_8
            have g_73 := z_rng y_9
            exact L_65_16 _ 0 0 _ (Nat.lt_succ_self _) (Or.inl rfl) (by (try simp only [ti_0]); omega) (fun h9 => by rw [ti_0] at h9; omega) (lv_sub hl [0, 1, 2, 3, 4] rfl)
          · skip
            refine lv_aload_n hx hb dX12_isEnd_41 rfl (lv_at hl 2 rfl) ?_
            refine mg_0 C hs hP ha0 hk0 wf_X12_8 dX12_isEnd_42 ?_
            refine lv_iload_n hx hb dX12_isEnd_45 rfl (lv_at hl 3 rfl) ?_
            refine lv_bipush (v := 22) hx hb dX12_isEnd_46 (by decide) ?_
            refine lv_iadd hx hb dX12_isEnd_48 ?_
            refine lv_topi (fun x_74 ex_74 => ?_)
            refine lv_iload_n hx hb dX12_isEnd_49 rfl (lv_at hl 0 rfl) ?_
            refine lv_iadd hx hb dX12_isEnd_50 ?_
            refine lv_topi (fun x_75 ex_75 => ?_)
            have hi_hr_76 : zEq x_75.toInt (x1.toInt + y_8.toInt + 22) := by
              have g_77 := z_rng x1
              obtain ⟨f_74, l_74, u_74⟩ := z_add ex_74 rfl ti_22
              try replace f_74 : x_74.toInt = x1.toInt + 22 := by omega
              clear l_74 u_74
              have g_78 := z_rng y_8
              obtain ⟨f_75, l_75, u_75⟩ := z_add ex_75 rfl rfl
              try replace f_75 : x_75.toInt = x_74.toInt + y_8.toInt := by omega
              clear l_75 u_75
              show x_75.toInt = (x1.toInt + y_8.toInt + 22)
              omega
            have hl_hr_76 : 22 ≤ y_8.toInt + 22 ∧ y_8.toInt + 22 ≤ 25 := by
              have g_79 := z_rng x1
              have g_80 := z_rng y_8
              omega
            have hid_hr_76 : (x1.toInt + y_8.toInt + 22) = x1.toInt + (y_8.toInt + 22) := by simp only [Int.add_assoc, Int.add_sub_assoc]
            have hr_76 := z_cell (lo := 22) (hi := 25) hp0 hi_hr_76 hid_hr_76 hl_hr_76 (by decide)
            replace hid_hr_76 : zEq (x1.toInt + y_8.toInt + 22) (x1.toInt + (y_8.toInt + 22)) := hid_hr_76
            have hin_81 : vp_in x_75 (zn K (zr K a0 0)) := vp_in_iff.mpr (by rw [(hf_1.2.2 (by decide))]; exact hr_76.in)
            refine mld_40 C hs hP hf_1.1 hf_1.2.1 hin_81 dX12_isEnd_51 ?_
            have ep_82 : x_75.toNatClampNeg = (x1.toInt + y_8.toInt + 22).toNat := z_posE hi_hr_76
            rw [ep_82]
            have tv_83 := rv_22 hT hr_76
            rw [ep_82] at tv_83
            refine lv_iconst (v := 4) hx hb dX12_isEnd_52 (by decide) ?_
            refine bi_gt (tgt := 60) hx hb rfl ti_4 dX12_isEnd_53 (by decide) (fun c_84 => ?_) (fun c_84 => ?_)
            · skip
              refine lv_iconst (v := 0) hx hb dX12_isEnd_60 (by decide) ?_
              refine lv_istore_n (lv' := [(2, .int 0), (3, .int y_8), (0, .ref a0), (1, .int x1)]) hx hb dX12_isEnd_61 rfl hl (by decide) rfl (fun ls hl => ?_)
              refine lv_iconst (v := 0) hx hb dX12_isEnd_62 (by decide) ?_
              refine lv_istore (lv' := [(4, .int 0), (2, .int 0), (3, .int y_8), (0, .ref a0), (1, .int x1)]) hx hb dX12_isEnd_63 hl (by decide) rfl (fun ls hl => ?_)
              have L_65_87 : ∀ (n_87 : Nat) (y_85 : Int32) (y_86 : Int32) (ls : Array Slot), (2147483648 - y_85.toInt).toNat < n_87 → (y_86 = 0 ∨ y_86 = 1) → 0 ≤ y_85.toInt → (y_86.toInt ≠ 0 → (A 40 (x1.toInt + 5).toNat).toInt = 1 ∧ h4 (A 40) x1.toInt y_8.toInt ∧ (A 40 (x1.toInt + y_8.toInt + 22).toNat).toInt ≤ 4) → lv_has ls 5 [(4, .int y_85), (2, .int y_86), (3, .int y_8), (0, .ref a0), (1, .int x1)] → W p l e (rmd 0) s m args below meth c s.heap [] 0 0 Q (F0 m 65 ls []) := by
                intro n_87
                induction n_87 with
                | zero => intro y_85 y_86 ls hm_87; exact absurd hm_87 (Nat.not_lt_zero _)
                | succ n_87 ih_87 =>
                  intro y_85 y_86 ls hm_87 hb_y_86 iv_88_0 iv_88_1 hl
                  refine lv_iload_n hx hb dX12_isEnd_65 rfl (lv_at hl 1 rfl) ?_
                  refine bz_eq (tgt := 129) hx hb rfl dX12_isEnd_66 (by decide) (fun c_89 => ?_) (fun c_89 => ?_)
                  · skip
                    obtain ⟨x_90, ex_90⟩ : ∃ y : Int32, y = y_8 + 1 := ⟨_, rfl⟩
                    refine lv_iinc (v := x_90) (lv' := [(3, .int x_90), (4, .int y_85), (2, .int y_86), (0, .ref a0), (1, .int x1)]) hx hb dX12_isEnd_129 hl (k := 2) rfl (by rw [ex_90]; rfl) (by decide) rfl (fun ls hl => ?_)
                    refine lv_goto (tgt := 32) hx hb dX12_isEnd_132 (by decide) ?_
                    have g_91 := z_rng y_8
                    obtain ⟨f_90, l_90, u_90⟩ := z_add ex_90 rfl ti_1
                    try replace f_90 : x_90.toInt = y_8.toInt + 1 := by omega
                    clear l_90 u_90
                    have g_92 := z_rng y_86
                    exact ih_10 x_90 y_86 _ (by omega) hb_y_86 (by omega) (by omega) (fun h9 => ⟨(iv_88_1 h9).1, h4.s (iv_88_1 h9).2.1 (by omega) (iv_88_1 h9).2.2⟩) (lv_sub hl [0, 2, 3, 4] rfl)
                  · skip
                    refine lv_iload hx hb dX12_isEnd_69 (lv_at hl 0 rfl) ?_
                    refine lv_aload_n hx hb dX12_isEnd_71 rfl (lv_at hl 3 rfl) ?_
                    refine mg_0 C hs hP ha0 hk0 wf_X12_8 dX12_isEnd_72 ?_
                    refine lv_iload_n hx hb dX12_isEnd_75 rfl (lv_at hl 4 rfl) ?_
                    refine lv_bipush (v := 22) hx hb dX12_isEnd_76 (by decide) ?_
                    refine lv_iadd hx hb dX12_isEnd_78 ?_
                    refine lv_topi (fun x_93 ex_93 => ?_)
                    refine lv_iload_n hx hb dX12_isEnd_79 rfl (lv_at hl 2 rfl) ?_
                    refine lv_iadd hx hb dX12_isEnd_80 ?_
                    refine lv_topi (fun x_94 ex_94 => ?_)
                    have hi_hr_95 : zEq x_94.toInt (x1.toInt + y_8.toInt + 22) := by
                      have g_96 := z_rng x1
                      obtain ⟨f_93, l_93, u_93⟩ := z_add ex_93 rfl ti_22
                      try replace f_93 : x_93.toInt = x1.toInt + 22 := by omega
                      clear l_93 u_93
                      have g_97 := z_rng y_8
                      obtain ⟨f_94, l_94, u_94⟩ := z_add ex_94 rfl rfl
                      try replace f_94 : x_94.toInt = x_93.toInt + y_8.toInt := by omega
                      clear l_94 u_94
                      show x_94.toInt = (x1.toInt + y_8.toInt + 22)
                      omega
                    have hl_hr_95 : 22 ≤ y_8.toInt + 22 ∧ y_8.toInt + 22 ≤ 25 := by
                      have g_98 := z_rng x1
                      have g_99 := z_rng y_8
                      omega
                    have hid_hr_95 : (x1.toInt + y_8.toInt + 22) = x1.toInt + (y_8.toInt + 22) := by simp only [Int.add_assoc, Int.add_sub_assoc]
                    have hr_95 := z_cell (lo := 22) (hi := 25) hp0 hi_hr_95 hid_hr_95 hl_hr_95 (by decide)
                    replace hid_hr_95 : zEq (x1.toInt + y_8.toInt + 22) (x1.toInt + (y_8.toInt + 22)) := hid_hr_95
                    have hin_100 : vp_in x_94 (zn K (zr K a0 0)) := vp_in_iff.mpr (by rw [(hf_1.2.2 (by decide))]; exact hr_95.in)
                    refine mld_40 C hs hP hf_1.1 hf_1.2.1 hin_100 dX12_isEnd_81 ?_
                    have ep_101 : x_94.toNatClampNeg = (x1.toInt + y_8.toInt + 22).toNat := z_posE hi_hr_95
                    rw [ep_101]
                    refine bi_ge (tgt := 129) hx hb rfl rfl dX12_isEnd_82 (by decide) (fun c_102 => ?_) (fun c_102 => ?_)
                    · skip
                      obtain ⟨x_103, ex_103⟩ : ∃ y : Int32, y = y_8 + 1 := ⟨_, rfl⟩
                      refine lv_iinc (v := x_103) (lv' := [(3, .int x_103), (4, .int y_85), (2, .int y_86), (0, .ref a0), (1, .int x1)]) hx hb dX12_isEnd_129 hl (k := 2) rfl (by rw [ex_103]; rfl) (by decide) rfl (fun ls hl => ?_)
                      refine lv_goto (tgt := 32) hx hb dX12_isEnd_132 (by decide) ?_
                      have g_104 := z_rng y_8
                      obtain ⟨f_103, l_103, u_103⟩ := z_add ex_103 rfl ti_1
                      try replace f_103 : x_103.toInt = y_8.toInt + 1 := by omega
                      clear l_103 u_103
                      have g_105 := z_rng y_86
                      have g_106 := z_rng (A 40 (x1.toInt + y_8.toInt + 22).toNat)
                      have g_107 := z_rng y_85
                      exact ih_10 x_103 y_86 _ (by omega) hb_y_86 (by omega) (by omega) (fun h9 => ⟨(iv_88_1 h9).1, h4.s (iv_88_1 h9).2.1 (by omega) (iv_88_1 h9).2.2⟩) (lv_sub hl [0, 2, 3, 4] rfl)
                    · skip
                      refine lv_aload_n hx hb dX12_isEnd_85 rfl (lv_at hl 3 rfl) ?_
                      refine mg_0 C hs hP ha0 hk0 wf_X12_8 dX12_isEnd_86 ?_
                      refine lv_iload_n hx hb dX12_isEnd_89 rfl (lv_at hl 4 rfl) ?_
                      refine lv_bipush (v := 50) hx hb dX12_isEnd_90 (by decide) ?_
                      refine lv_iadd hx hb dX12_isEnd_92 ?_
                      refine lv_topi (fun x_108 ex_108 => ?_)
                      refine lv_aload_n hx hb dX12_isEnd_93 rfl (lv_at hl 3 rfl) ?_
                      refine mg_0 C hs hP ha0 hk0 wf_X12_8 dX12_isEnd_94 ?_
                      refine lv_iload_n hx hb dX12_isEnd_97 rfl (lv_at hl 4 rfl) ?_
                      refine lv_sipush (v := 230) hx hb dX12_isEnd_98 (by decide) ?_
                      refine lv_iadd hx hb dX12_isEnd_101 ?_
                      refine lv_topi (fun x_109 ex_109 => ?_)
                      refine lv_bipush (v := 60) hx hb dX12_isEnd_102 (by decide) ?_
                      refine lv_iload_n hx hb dX12_isEnd_104 rfl (lv_at hl 2 rfl) ?_
                      refine lv_imul hx hb dX12_isEnd_105 ?_
                      refine lv_topi (fun x_110 ex_110 => ?_)
                      refine lv_iadd hx hb dX12_isEnd_106 ?_
                      refine lv_topi (fun x_111 ex_111 => ?_)
                      refine lv_iload hx hb dX12_isEnd_107 (lv_at hl 0 rfl) ?_
                      refine lv_iadd hx hb dX12_isEnd_109 ?_
                      refine lv_topi (fun x_112 ex_112 => ?_)
                      have hi_hr_113 : zEq x_112.toInt (x1.toInt + 60 * y_8.toInt + y_85.toInt + 230) := by
                        have g_114 := z_rng x1
                        obtain ⟨f_109, l_109, u_109⟩ := z_add ex_109 rfl ti_230
                        try replace f_109 : x_109.toInt = x1.toInt + 230 := by omega
                        clear l_109 u_109
                        have g_115 := z_rng y_8
                        obtain ⟨f_110, l_110, u_110⟩ := z_mul ex_110 ti_60 rfl
                        try replace f_110 : x_110.toInt = 60 * y_8.toInt := by omega
                        clear l_110 u_110
                        obtain ⟨f_111, l_111, u_111⟩ := z_add ex_111 rfl rfl
                        try replace f_111 : x_111.toInt = x_109.toInt + x_110.toInt := by omega
                        clear l_111 u_111
                        have g_116 := z_rng y_85
                        obtain ⟨f_112, l_112, u_112⟩ := z_add ex_112 rfl rfl
                        try replace f_112 : x_112.toInt = x_111.toInt + y_85.toInt := by omega
                        clear l_112 u_112
                        show x_112.toInt = (x1.toInt + 60 * y_8.toInt + y_85.toInt + 230)
                        omega
                      have hl_hr_113 : 230 ≤ 60 * y_8.toInt + y_85.toInt + 230 ∧ 60 * y_8.toInt + y_85.toInt + 230 ≤ 469 := by
                        have g_117 := z_rng x1
                        have g_118 := z_rng y_8
                        have g_119 := z_rng y_85
                        omega
                      have hid_hr_113 : (x1.toInt + 60 * y_8.toInt + y_85.toInt + 230) = x1.toInt + (60 * y_8.toInt + y_85.toInt + 230) := by simp only [Int.add_assoc, Int.add_sub_assoc]
                      have hr_113 := z_cell (lo := 170) (hi := 469) hp0 hi_hr_113 hid_hr_113 hl_hr_113 (by decide)
                      replace hid_hr_113 : zEq (x1.toInt + 60 * y_8.toInt + y_85.toInt + 230) (x1.toInt + (60 * y_8.toInt + y_85.toInt + 230)) := hid_hr_113
                      have hin_120 : vp_in x_112 (zn K (zr K a0 0)) := vp_in_iff.mpr (by rw [(hf_1.2.2 (by decide))]; exact hr_113.in)
                      refine mld_40 C hs hP hf_1.1 hf_1.2.1 hin_120 dX12_isEnd_110 ?_
                      have ep_121 : x_112.toNatClampNeg = (x1.toInt + 60 * y_8.toInt + y_85.toInt + 230).toNat := z_posE hi_hr_113
                      rw [ep_121]
                      have tv_122 := rv_170 hT hr_113
                      rw [ep_121] at tv_122
                      refine lv_iadd hx hb dX12_isEnd_111 ?_
                      refine lv_topi (fun x_123 ex_123 => ?_)
                      have hi_hr_124 : zEq x_123.toInt (x1.toInt + (A 40 (x1.toInt + 60 * y_8.toInt + y_85.toInt + 230).toNat).toInt + 50) := by
                        have g_125 := z_rng x1
                        obtain ⟨f_108, l_108, u_108⟩ := z_add ex_108 rfl ti_50
                        try replace f_108 : x_108.toInt = x1.toInt + 50 := by omega
                        clear l_108 u_108
                        have g_126 := z_rng (A 40 (x1.toInt + 60 * y_8.toInt + y_85.toInt + 230).toNat)
                        obtain ⟨f_123, l_123, u_123⟩ := z_add ex_123 rfl rfl
                        try replace f_123 : x_123.toInt = x_108.toInt + (A 40 (x1.toInt + 60 * y_8.toInt + y_85.toInt + 230).toNat).toInt := by omega
                        clear l_123 u_123
                        show x_123.toInt = (x1.toInt + (A 40 (x1.toInt + 60 * y_8.toInt + y_85.toInt + 230).toNat).toInt + 50)
                        omega
                      have hl_hr_124 : 50 ≤ (A 40 (x1.toInt + 60 * y_8.toInt + y_85.toInt + 230).toNat).toInt + 50 ∧ (A 40 (x1.toInt + 60 * y_8.toInt + y_85.toInt + 230).toNat).toInt + 50 ≤ 109 := by
                        have g_127 := z_rng x1
                        have g_128 := z_rng (A 40 (x1.toInt + 60 * y_8.toInt + y_85.toInt + 230).toNat)
                        omega
                      have hid_hr_124 : (x1.toInt + (A 40 (x1.toInt + 60 * y_8.toInt + y_85.toInt + 230).toNat).toInt + 50) = x1.toInt + ((A 40 (x1.toInt + 60 * y_8.toInt + y_85.toInt + 230).toNat).toInt + 50) := by simp only [Int.add_assoc, Int.add_sub_assoc]
                      have hr_124 := z_cell (lo := 45) (hi := 169) hp0 hi_hr_124 hid_hr_124 hl_hr_124 (by decide)
                      replace hid_hr_124 : zEq (x1.toInt + (A 40 (x1.toInt + 60 * y_8.toInt + y_85.toInt + 230).toNat).toInt + 50) (x1.toInt + ((A 40 (x1.toInt + 60 * y_8.toInt + y_85.toInt + 230).toNat).toInt + 50)) := hid_hr_124
                      have hin_129 : vp_in x_123 (zn K (zr K a0 0)) := vp_in_iff.mpr (by rw [(hf_1.2.2 (by decide))]; exact hr_124.in)
                      refine mld_40 C hs hP hf_1.1 hf_1.2.1 hin_129 dX12_isEnd_112 ?_
                      have ep_130 : x_123.toNatClampNeg = (x1.toInt + (A 40 (x1.toInt + 60 * y_8.toInt + y_85.toInt + 230).toNat).toInt + 50).toNat := z_posE hi_hr_124
                      rw [ep_130]
                      refine lv_iconst (v := 3) hx hb dX12_isEnd_113 (by decide) ?_
                      refine bi_eq (tgt := 121) hx hb rfl ti_3 dX12_isEnd_114 (by decide) (fun c_131 => ?_) (fun c_131 => ?_)
                      · skip
                        refine lv_iconst (v := 0) hx hb dX12_isEnd_121 (by decide) ?_
                        refine lv_istore_n (lv' := [(2, .int 0), (4, .int y_85), (3, .int y_8), (0, .ref a0), (1, .int x1)]) hx hb dX12_isEnd_122 rfl hl (by decide) rfl (fun ls hl => ?_)
                        obtain ⟨x_132, ex_132⟩ : ∃ y : Int32, y = y_85 + 1 := ⟨_, rfl⟩
                        refine lv_iinc (v := x_132) (lv' := [(4, .int x_132), (2, .int 0), (3, .int y_8), (0, .ref a0), (1, .int x1)]) hx hb dX12_isEnd_123 hl (k := 1) rfl (by rw [ex_132]; rfl) (by decide) rfl (fun ls hl => ?_)
                        refine lv_goto (tgt := 65) hx hb dX12_isEnd_126 (by decide) ?_
                        have g_133 := z_rng y_85
                        obtain ⟨f_132, l_132, u_132⟩ := z_add ex_132 rfl ti_1
                        try replace f_132 : x_132.toInt = y_85.toInt + 1 := by omega
                        clear l_132 u_132
                        have g_134 := z_rng (A 40 (x1.toInt + (A 40 (x1.toInt + 60 * y_8.toInt + y_85.toInt + 230).toNat).toInt + 50).toNat)
                        have g_135 := z_rng (A 40 (x1.toInt + y_8.toInt + 22).toNat)
                        have g_136 := z_rng y_86
                        exact ih_87 x_132 0 _ (by omega) (Or.inl rfl) (by (try simp only [ti_0]); omega) (fun h9 => by rw [ti_0] at h9; omega) (lv_sub hl [0, 1, 2, 3, 4] rfl)
                      · skip
                        refine lv_iconst (v := 1) hx hb dX12_isEnd_117 (by decide) ?_
                        refine lv_goto (tgt := 122) hx hb dX12_isEnd_118 (by decide) ?_
                        refine lv_istore_n (lv' := [(2, .int 1), (4, .int y_85), (3, .int y_8), (0, .ref a0), (1, .int x1)]) hx hb dX12_isEnd_122 rfl hl (by decide) rfl (fun ls hl => ?_)
                        obtain ⟨x_137, ex_137⟩ : ∃ y : Int32, y = y_85 + 1 := ⟨_, rfl⟩
                        refine lv_iinc (v := x_137) (lv' := [(4, .int x_137), (2, .int 1), (3, .int y_8), (0, .ref a0), (1, .int x1)]) hx hb dX12_isEnd_123 hl (k := 1) rfl (by rw [ex_137]; rfl) (by decide) rfl (fun ls hl => ?_)
                        refine lv_goto (tgt := 65) hx hb dX12_isEnd_126 (by decide) ?_
                        have g_138 := z_rng y_85
                        obtain ⟨f_137, l_137, u_137⟩ := z_add ex_137 rfl ti_1
                        try replace f_137 : x_137.toInt = y_85.toInt + 1 := by omega
                        clear l_137 u_137
                        have g_139 := z_rng (A 40 (x1.toInt + (A 40 (x1.toInt + 60 * y_8.toInt + y_85.toInt + 230).toNat).toInt + 50).toNat)
                        have g_140 := z_rng (A 40 (x1.toInt + y_8.toInt + 22).toNat)
                        have g_141 := z_rng y_86
                        exact ih_87 x_137 1 _ (by omega) (Or.inr rfl) (by (try simp only [ti_1]); omega) (fun _ => iv_88_1 c_89) (lv_sub hl [0, 1, 2, 3, 4] rfl)
              have g_142 := z_rng (A 40 (x1.toInt + y_8.toInt + 22).toNat)
              have g_143 := z_rng y_8
              have g_144 := z_rng y_9
              exact L_65_87 _ 0 0 _ (Nat.lt_succ_self _) (Or.inl rfl) (by (try simp only [ti_0]); omega) (fun h9 => by rw [ti_0] at h9; omega) (lv_sub hl [0, 1, 2, 3, 4] rfl)
            · skip
              refine lv_iconst (v := 1) hx hb dX12_isEnd_56 (by decide) ?_
              refine lv_goto (tgt := 61) hx hb dX12_isEnd_57 (by decide) ?_
              refine lv_istore_n (lv' := [(2, .int 1), (3, .int y_8), (0, .ref a0), (1, .int x1)]) hx hb dX12_isEnd_61 rfl hl (by decide) rfl (fun ls hl => ?_)
              refine lv_iconst (v := 0) hx hb dX12_isEnd_62 (by decide) ?_
              refine lv_istore (lv' := [(4, .int 0), (2, .int 1), (3, .int y_8), (0, .ref a0), (1, .int x1)]) hx hb dX12_isEnd_63 hl (by decide) rfl (fun ls hl => ?_)
              have L_65_147 : ∀ (n_147 : Nat) (y_145 : Int32) (y_146 : Int32) (ls : Array Slot), (2147483648 - y_145.toInt).toNat < n_147 → (y_146 = 0 ∨ y_146 = 1) → 0 ≤ y_145.toInt → (y_146.toInt ≠ 0 → (A 40 (x1.toInt + 5).toNat).toInt = 1 ∧ h4 (A 40) x1.toInt y_8.toInt ∧ (A 40 (x1.toInt + y_8.toInt + 22).toNat).toInt ≤ 4) → lv_has ls 5 [(4, .int y_145), (2, .int y_146), (3, .int y_8), (0, .ref a0), (1, .int x1)] → W p l e (rmd 0) s m args below meth c s.heap [] 0 0 Q (F0 m 65 ls []) := by
                intro n_147
                induction n_147 with
                | zero => intro y_145 y_146 ls hm_147; exact absurd hm_147 (Nat.not_lt_zero _)
                | succ n_147 ih_147 =>
                  intro y_145 y_146 ls hm_147 hb_y_146 iv_148_0 iv_148_1 hl
                  refine lv_iload_n hx hb dX12_isEnd_65 rfl (lv_at hl 1 rfl) ?_
                  refine bz_eq (tgt := 129) hx hb rfl dX12_isEnd_66 (by decide) (fun c_149 => ?_) (fun c_149 => ?_)
                  · skip
                    obtain ⟨x_150, ex_150⟩ : ∃ y : Int32, y = y_8 + 1 := ⟨_, rfl⟩
                    refine lv_iinc (v := x_150) (lv' := [(3, .int x_150), (4, .int y_145), (2, .int y_146), (0, .ref a0), (1, .int x1)]) hx hb dX12_isEnd_129 hl (k := 2) rfl (by rw [ex_150]; rfl) (by decide) rfl (fun ls hl => ?_)
                    refine lv_goto (tgt := 32) hx hb dX12_isEnd_132 (by decide) ?_
                    have g_151 := z_rng y_8
                    obtain ⟨f_150, l_150, u_150⟩ := z_add ex_150 rfl ti_1
                    try replace f_150 : x_150.toInt = y_8.toInt + 1 := by omega
                    clear l_150 u_150
                    have g_152 := z_rng y_146
                    exact ih_10 x_150 y_146 _ (by omega) hb_y_146 (by omega) (by omega) (fun h9 => ⟨(iv_148_1 h9).1, h4.s (iv_148_1 h9).2.1 (by omega) (iv_148_1 h9).2.2⟩) (lv_sub hl [0, 2, 3, 4] rfl)
                  · skip
                    refine lv_iload hx hb dX12_isEnd_69 (lv_at hl 0 rfl) ?_
                    refine lv_aload_n hx hb dX12_isEnd_71 rfl (lv_at hl 3 rfl) ?_
                    refine mg_0 C hs hP ha0 hk0 wf_X12_8 dX12_isEnd_72 ?_
                    refine lv_iload_n hx hb dX12_isEnd_75 rfl (lv_at hl 4 rfl) ?_
                    refine lv_bipush (v := 22) hx hb dX12_isEnd_76 (by decide) ?_
                    refine lv_iadd hx hb dX12_isEnd_78 ?_
                    refine lv_topi (fun x_153 ex_153 => ?_)
                    refine lv_iload_n hx hb dX12_isEnd_79 rfl (lv_at hl 2 rfl) ?_
                    refine lv_iadd hx hb dX12_isEnd_80 ?_
                    refine lv_topi (fun x_154 ex_154 => ?_)
                    have hi_hr_155 : zEq x_154.toInt (x1.toInt + y_8.toInt + 22) := by
                      have g_156 := z_rng x1
                      obtain ⟨f_153, l_153, u_153⟩ := z_add ex_153 rfl ti_22
                      try replace f_153 : x_153.toInt = x1.toInt + 22 := by omega
                      clear l_153 u_153
                      have g_157 := z_rng y_8
                      obtain ⟨f_154, l_154, u_154⟩ := z_add ex_154 rfl rfl
                      try replace f_154 : x_154.toInt = x_153.toInt + y_8.toInt := by omega
                      clear l_154 u_154
                      show x_154.toInt = (x1.toInt + y_8.toInt + 22)
                      omega
                    have hl_hr_155 : 22 ≤ y_8.toInt + 22 ∧ y_8.toInt + 22 ≤ 25 := by
                      have g_158 := z_rng x1
                      have g_159 := z_rng y_8
                      omega
                    have hid_hr_155 : (x1.toInt + y_8.toInt + 22) = x1.toInt + (y_8.toInt + 22) := by simp only [Int.add_assoc, Int.add_sub_assoc]
                    have hr_155 := z_cell (lo := 22) (hi := 25) hp0 hi_hr_155 hid_hr_155 hl_hr_155 (by decide)
                    replace hid_hr_155 : zEq (x1.toInt + y_8.toInt + 22) (x1.toInt + (y_8.toInt + 22)) := hid_hr_155
                    have hin_160 : vp_in x_154 (zn K (zr K a0 0)) := vp_in_iff.mpr (by rw [(hf_1.2.2 (by decide))]; exact hr_155.in)
                    refine mld_40 C hs hP hf_1.1 hf_1.2.1 hin_160 dX12_isEnd_81 ?_
                    have ep_161 : x_154.toNatClampNeg = (x1.toInt + y_8.toInt + 22).toNat := z_posE hi_hr_155
                    rw [ep_161]
                    refine bi_ge (tgt := 129) hx hb rfl rfl dX12_isEnd_82 (by decide) (fun c_162 => ?_) (fun c_162 => ?_)
                    · skip
                      obtain ⟨x_163, ex_163⟩ : ∃ y : Int32, y = y_8 + 1 := ⟨_, rfl⟩
                      refine lv_iinc (v := x_163) (lv' := [(3, .int x_163), (4, .int y_145), (2, .int y_146), (0, .ref a0), (1, .int x1)]) hx hb dX12_isEnd_129 hl (k := 2) rfl (by rw [ex_163]; rfl) (by decide) rfl (fun ls hl => ?_)
                      refine lv_goto (tgt := 32) hx hb dX12_isEnd_132 (by decide) ?_
                      have g_164 := z_rng y_8
                      obtain ⟨f_163, l_163, u_163⟩ := z_add ex_163 rfl ti_1
                      try replace f_163 : x_163.toInt = y_8.toInt + 1 := by omega
                      clear l_163 u_163
                      have g_165 := z_rng y_146
                      have g_166 := z_rng (A 40 (x1.toInt + y_8.toInt + 22).toNat)
                      have g_167 := z_rng y_145
                      exact ih_10 x_163 y_146 _ (by omega) hb_y_146 (by omega) (by omega) (fun h9 => ⟨(iv_148_1 h9).1, h4.s (iv_148_1 h9).2.1 (by omega) (iv_148_1 h9).2.2⟩) (lv_sub hl [0, 2, 3, 4] rfl)
                    · skip
                      refine lv_aload_n hx hb dX12_isEnd_85 rfl (lv_at hl 3 rfl) ?_
                      refine mg_0 C hs hP ha0 hk0 wf_X12_8 dX12_isEnd_86 ?_
                      refine lv_iload_n hx hb dX12_isEnd_89 rfl (lv_at hl 4 rfl) ?_
                      refine lv_bipush (v := 50) hx hb dX12_isEnd_90 (by decide) ?_
                      refine lv_iadd hx hb dX12_isEnd_92 ?_
                      refine lv_topi (fun x_168 ex_168 => ?_)
                      refine lv_aload_n hx hb dX12_isEnd_93 rfl (lv_at hl 3 rfl) ?_
                      refine mg_0 C hs hP ha0 hk0 wf_X12_8 dX12_isEnd_94 ?_
                      refine lv_iload_n hx hb dX12_isEnd_97 rfl (lv_at hl 4 rfl) ?_
                      refine lv_sipush (v := 230) hx hb dX12_isEnd_98 (by decide) ?_
                      refine lv_iadd hx hb dX12_isEnd_101 ?_
                      refine lv_topi (fun x_169 ex_169 => ?_)
                      refine lv_bipush (v := 60) hx hb dX12_isEnd_102 (by decide) ?_
                      refine lv_iload_n hx hb dX12_isEnd_104 rfl (lv_at hl 2 rfl) ?_
                      refine lv_imul hx hb dX12_isEnd_105 ?_
                      refine lv_topi (fun x_170 ex_170 => ?_)
                      refine lv_iadd hx hb dX12_isEnd_106 ?_
                      refine lv_topi (fun x_171 ex_171 => ?_)
                      refine lv_iload hx hb dX12_isEnd_107 (lv_at hl 0 rfl) ?_
                      refine lv_iadd hx hb dX12_isEnd_109 ?_
                      refine lv_topi (fun x_172 ex_172 => ?_)
                      have hi_hr_173 : zEq x_172.toInt (x1.toInt + y_145.toInt + 60 * y_8.toInt + 230) := by
                        have g_174 := z_rng x1
                        obtain ⟨f_169, l_169, u_169⟩ := z_add ex_169 rfl ti_230
                        try replace f_169 : x_169.toInt = x1.toInt + 230 := by omega
                        clear l_169 u_169
                        have g_175 := z_rng y_8
                        obtain ⟨f_170, l_170, u_170⟩ := z_mul ex_170 ti_60 rfl
                        try replace f_170 : x_170.toInt = 60 * y_8.toInt := by omega
                        clear l_170 u_170
                        obtain ⟨f_171, l_171, u_171⟩ := z_add ex_171 rfl rfl
                        try replace f_171 : x_171.toInt = x_169.toInt + x_170.toInt := by omega
                        clear l_171 u_171
                        have g_176 := z_rng y_145
                        obtain ⟨f_172, l_172, u_172⟩ := z_add ex_172 rfl rfl
                        try replace f_172 : x_172.toInt = x_171.toInt + y_145.toInt := by omega
                        clear l_172 u_172
                        show x_172.toInt = (x1.toInt + y_145.toInt + 60 * y_8.toInt + 230)
                        omega
                      have hl_hr_173 : 230 ≤ y_145.toInt + 60 * y_8.toInt + 230 ∧ y_145.toInt + 60 * y_8.toInt + 230 ≤ 469 := by
                        have g_177 := z_rng x1
                        have g_178 := z_rng y_8
                        have g_179 := z_rng y_145
                        omega
                      have hid_hr_173 : (x1.toInt + y_145.toInt + 60 * y_8.toInt + 230) = x1.toInt + (y_145.toInt + 60 * y_8.toInt + 230) := by simp only [Int.add_assoc, Int.add_sub_assoc]
                      have hr_173 := z_cell (lo := 170) (hi := 469) hp0 hi_hr_173 hid_hr_173 hl_hr_173 (by decide)
                      replace hid_hr_173 : zEq (x1.toInt + y_145.toInt + 60 * y_8.toInt + 230) (x1.toInt + (y_145.toInt + 60 * y_8.toInt + 230)) := hid_hr_173
                      have hin_180 : vp_in x_172 (zn K (zr K a0 0)) := vp_in_iff.mpr (by rw [(hf_1.2.2 (by decide))]; exact hr_173.in)
                      refine mld_40 C hs hP hf_1.1 hf_1.2.1 hin_180 dX12_isEnd_110 ?_
                      have ep_181 : x_172.toNatClampNeg = (x1.toInt + y_145.toInt + 60 * y_8.toInt + 230).toNat := z_posE hi_hr_173
                      rw [ep_181]
                      have tv_182 := rv_170 hT hr_173
                      rw [ep_181] at tv_182
                      refine lv_iadd hx hb dX12_isEnd_111 ?_
                      refine lv_topi (fun x_183 ex_183 => ?_)
                      have hi_hr_184 : zEq x_183.toInt (x1.toInt + (A 40 (x1.toInt + y_145.toInt + 60 * y_8.toInt + 230).toNat).toInt + 50) := by
                        have g_185 := z_rng x1
                        obtain ⟨f_168, l_168, u_168⟩ := z_add ex_168 rfl ti_50
                        try replace f_168 : x_168.toInt = x1.toInt + 50 := by omega
                        clear l_168 u_168
                        have g_186 := z_rng (A 40 (x1.toInt + y_145.toInt + 60 * y_8.toInt + 230).toNat)
                        obtain ⟨f_183, l_183, u_183⟩ := z_add ex_183 rfl rfl
                        try replace f_183 : x_183.toInt = x_168.toInt + (A 40 (x1.toInt + y_145.toInt + 60 * y_8.toInt + 230).toNat).toInt := by omega
                        clear l_183 u_183
                        show x_183.toInt = (x1.toInt + (A 40 (x1.toInt + y_145.toInt + 60 * y_8.toInt + 230).toNat).toInt + 50)
                        omega
                      have hl_hr_184 : 50 ≤ (A 40 (x1.toInt + y_145.toInt + 60 * y_8.toInt + 230).toNat).toInt + 50 ∧ (A 40 (x1.toInt + y_145.toInt + 60 * y_8.toInt + 230).toNat).toInt + 50 ≤ 109 := by
                        have g_187 := z_rng x1
                        have g_188 := z_rng (A 40 (x1.toInt + y_145.toInt + 60 * y_8.toInt + 230).toNat)
                        omega
                      have hid_hr_184 : (x1.toInt + (A 40 (x1.toInt + y_145.toInt + 60 * y_8.toInt + 230).toNat).toInt + 50) = x1.toInt + ((A 40 (x1.toInt + y_145.toInt + 60 * y_8.toInt + 230).toNat).toInt + 50) := by simp only [Int.add_assoc, Int.add_sub_assoc]
                      have hr_184 := z_cell (lo := 45) (hi := 169) hp0 hi_hr_184 hid_hr_184 hl_hr_184 (by decide)
                      replace hid_hr_184 : zEq (x1.toInt + (A 40 (x1.toInt + y_145.toInt + 60 * y_8.toInt + 230).toNat).toInt + 50) (x1.toInt + ((A 40 (x1.toInt + y_145.toInt + 60 * y_8.toInt + 230).toNat).toInt + 50)) := hid_hr_184
                      have hin_189 : vp_in x_183 (zn K (zr K a0 0)) := vp_in_iff.mpr (by rw [(hf_1.2.2 (by decide))]; exact hr_184.in)
                      refine mld_40 C hs hP hf_1.1 hf_1.2.1 hin_189 dX12_isEnd_112 ?_
                      have ep_190 : x_183.toNatClampNeg = (x1.toInt + (A 40 (x1.toInt + y_145.toInt + 60 * y_8.toInt + 230).toNat).toInt + 50).toNat := z_posE hi_hr_184
                      rw [ep_190]
                      refine lv_iconst (v := 3) hx hb dX12_isEnd_113 (by decide) ?_
                      refine bi_eq (tgt := 121) hx hb rfl ti_3 dX12_isEnd_114 (by decide) (fun c_191 => ?_) (fun c_191 => ?_)
                      · skip
                        refine lv_iconst (v := 0) hx hb dX12_isEnd_121 (by decide) ?_
                        refine lv_istore_n (lv' := [(2, .int 0), (4, .int y_145), (3, .int y_8), (0, .ref a0), (1, .int x1)]) hx hb dX12_isEnd_122 rfl hl (by decide) rfl (fun ls hl => ?_)
                        obtain ⟨x_192, ex_192⟩ : ∃ y : Int32, y = y_145 + 1 := ⟨_, rfl⟩
                        refine lv_iinc (v := x_192) (lv' := [(4, .int x_192), (2, .int 0), (3, .int y_8), (0, .ref a0), (1, .int x1)]) hx hb dX12_isEnd_123 hl (k := 1) rfl (by rw [ex_192]; rfl) (by decide) rfl (fun ls hl => ?_)
                        refine lv_goto (tgt := 65) hx hb dX12_isEnd_126 (by decide) ?_
                        have g_193 := z_rng y_145
                        obtain ⟨f_192, l_192, u_192⟩ := z_add ex_192 rfl ti_1
                        try replace f_192 : x_192.toInt = y_145.toInt + 1 := by omega
                        clear l_192 u_192
                        have g_194 := z_rng (A 40 (x1.toInt + (A 40 (x1.toInt + y_145.toInt + 60 * y_8.toInt + 230).toNat).toInt + 50).toNat)
                        have g_195 := z_rng (A 40 (x1.toInt + y_8.toInt + 22).toNat)
                        have g_196 := z_rng y_146
                        exact ih_147 x_192 0 _ (by omega) (Or.inl rfl) (by (try simp only [ti_0]); omega) (fun h9 => by rw [ti_0] at h9; omega) (lv_sub hl [0, 1, 2, 3, 4] rfl)
                      · skip
                        refine lv_iconst (v := 1) hx hb dX12_isEnd_117 (by decide) ?_
                        refine lv_goto (tgt := 122) hx hb dX12_isEnd_118 (by decide) ?_
                        refine lv_istore_n (lv' := [(2, .int 1), (4, .int y_145), (3, .int y_8), (0, .ref a0), (1, .int x1)]) hx hb dX12_isEnd_122 rfl hl (by decide) rfl (fun ls hl => ?_)
                        obtain ⟨x_197, ex_197⟩ : ∃ y : Int32, y = y_145 + 1 := ⟨_, rfl⟩
                        refine lv_iinc (v := x_197) (lv' := [(4, .int x_197), (2, .int 1), (3, .int y_8), (0, .ref a0), (1, .int x1)]) hx hb dX12_isEnd_123 hl (k := 1) rfl (by rw [ex_197]; rfl) (by decide) rfl (fun ls hl => ?_)
                        refine lv_goto (tgt := 65) hx hb dX12_isEnd_126 (by decide) ?_
                        have g_198 := z_rng y_145
                        obtain ⟨f_197, l_197, u_197⟩ := z_add ex_197 rfl ti_1
                        try replace f_197 : x_197.toInt = y_145.toInt + 1 := by omega
                        clear l_197 u_197
                        have g_199 := z_rng (A 40 (x1.toInt + (A 40 (x1.toInt + y_145.toInt + 60 * y_8.toInt + 230).toNat).toInt + 50).toNat)
                        have g_200 := z_rng (A 40 (x1.toInt + y_8.toInt + 22).toNat)
                        have g_201 := z_rng y_146
                        exact ih_147 x_197 1 _ (by omega) (Or.inr rfl) (by (try simp only [ti_1]); omega) (fun _ => iv_148_1 c_149) (lv_sub hl [0, 1, 2, 3, 4] rfl)
              have g_202 := z_rng (A 40 (x1.toInt + y_8.toInt + 22).toNat)
              have g_203 := z_rng y_8
              have g_204 := z_rng y_9
              exact L_65_147 _ 0 1 _ (Nat.lt_succ_self _) (Or.inr rfl) (by (try simp only [ti_0, ti_1]); omega) (fun _ => ⟨(iv_11_2 c_13).1, (iv_11_2 c_13).2, by omega⟩) (lv_sub hl [0, 1, 2, 3, 4] rfl)
    have g_205 := z_rng (A 40 (x1.toInt + 5).toNat)
    exact L_32_10 _ 0 0 _ (Nat.lt_succ_self _) (Or.inl rfl) (by (try simp only [ti_0]); omega) (by rw [ti_0]; omega) (fun h9 => by rw [ti_0] at h9; omega) (lv_sub hl [0, 1, 2, 3] rfl)
  · skip
    refine lv_aload_n hx hb dX12_isEnd_12 rfl (lv_at hl 0 rfl) ?_
    refine mg_0 C hs hP ha0 hk0 wf_X12_8 dX12_isEnd_13 ?_
    refine lv_iload_n hx hb dX12_isEnd_16 rfl (lv_at hl 1 rfl) ?_
    refine lv_bipush (v := 26) hx hb dX12_isEnd_17 (by decide) ?_
    refine lv_iadd hx hb dX12_isEnd_19 ?_
    refine lv_topi (fun x_206 ex_206 => ?_)
    have hi_hr_207 : zEq x_206.toInt (x1.toInt + 26) := by
      have g_208 := z_rng x1
      obtain ⟨f_206, l_206, u_206⟩ := z_add ex_206 rfl ti_26
      try replace f_206 : x_206.toInt = x1.toInt + 26 := by omega
      clear l_206 u_206
      show x_206.toInt = (x1.toInt + 26)
      omega
    have hl_hr_207 : (26 : Int) ≤ 26 ∧ 26 ≤ (26 : Int) := by decide
    have hid_hr_207 : (x1.toInt + 26) = x1.toInt + (26) := by simp only [Int.add_assoc, Int.add_sub_assoc]
    have hr_207 := z_cell (lo := 26) (hi := 26) hp0 hi_hr_207 hid_hr_207 hl_hr_207 (by decide)
    replace hid_hr_207 : zEq (x1.toInt + 26) (x1.toInt + (26)) := hid_hr_207
    have hin_209 : vp_in x_206 (zn K (zr K a0 0)) := vp_in_iff.mpr (by rw [(hf_1.2.2 (by decide))]; exact hr_207.in)
    refine mld_40 C hs hP hf_1.1 hf_1.2.1 hin_209 dX12_isEnd_20 ?_
    have ep_210 : x_206.toNatClampNeg = (x1.toInt + 26).toNat := z_posE hi_hr_207
    rw [ep_210]
    have tv_211 := rv_26 hT hr_207
    rw [ep_210] at tv_211
    refine bz_ne (tgt := 28) hx hb rfl dX12_isEnd_21 (by decide) (fun c_212 => ?_) (fun c_212 => ?_)
    · skip
      refine lv_iconst (v := 0) hx hb dX12_isEnd_28 (by decide) ?_
      refine lv_istore_n (lv' := [(2, .int 0), (0, .ref a0), (1, .int x1)]) hx hb dX12_isEnd_29 rfl hl (by decide) rfl (fun ls hl => ?_)
      refine lv_iconst (v := 0) hx hb dX12_isEnd_30 (by decide) ?_
      refine lv_istore_n (lv' := [(3, .int 0), (2, .int 0), (0, .ref a0), (1, .int x1)]) hx hb dX12_isEnd_31 rfl hl (by decide) rfl (fun ls hl => ?_)
      have L_32_215 : ∀ (n_215 : Nat) (y_213 : Int32) (y_214 : Int32) (ls : Array Slot), (2147483648 - y_213.toInt).toNat < n_215 → (y_214 = 0 ∨ y_214 = 1) → 0 ≤ y_213.toInt → y_213.toInt ≤ 4 → (y_214.toInt ≠ 0 → (A 40 (x1.toInt + 5).toNat).toInt = 1 ∧ h4 (A 40) x1.toInt y_213.toInt) → lv_has ls 5 [(3, .int y_213), (2, .int y_214), (0, .ref a0), (1, .int x1)] → W p l e (rmd 0) s m args below meth c s.heap [] 0 0 Q (F0 m 32 ls []) := by
        intro n_215
        induction n_215 with
        | zero => intro y_213 y_214 ls hm_215; exact absurd hm_215 (Nat.not_lt_zero _)
        | succ n_215 ih_215 =>
          intro y_213 y_214 ls hm_215 hb_y_214 iv_216_0 iv_216_1 iv_216_2 hl
          refine lv_iload_n hx hb dX12_isEnd_32 rfl (lv_at hl 0 rfl) ?_
          refine lv_iconst (v := 4) hx hb dX12_isEnd_33 (by decide) ?_
          refine bi_ge (tgt := 135) hx hb rfl ti_4 dX12_isEnd_34 (by decide) (fun c_217 => ?_) (fun c_217 => ?_)
          · skip
            refine lv_iload_n hx hb dX12_isEnd_135 rfl (lv_at hl 1 rfl) ?_
            exact zaSz hQ hx hb hr hlk hb_y_214 ⟨hb_y_214, (fun h9 => ⟨(iv_216_2 h9).1, h4.e (iv_216_2 h9).2 (by omega)⟩)⟩ dX12_isEnd_136
          · skip
            refine lv_iload_n hx hb dX12_isEnd_37 rfl (lv_at hl 1 rfl) ?_
            refine bz_eq (tgt := 60) hx hb rfl dX12_isEnd_38 (by decide) (fun c_218 => ?_) (fun c_218 => ?_)
            · skip
              refine lv_iconst (v := 0) hx hb dX12_isEnd_60 (by decide) ?_
              refine lv_istore_n (lv' := [(2, .int 0), (3, .int y_213), (0, .ref a0), (1, .int x1)]) hx hb dX12_isEnd_61 rfl hl (by decide) rfl (fun ls hl => ?_)
              refine lv_iconst (v := 0) hx hb dX12_isEnd_62 (by decide) ?_
              refine lv_istore (lv' := [(4, .int 0), (2, .int 0), (3, .int y_213), (0, .ref a0), (1, .int x1)]) hx hb dX12_isEnd_63 hl (by decide) rfl (fun ls hl => ?_)
              have L_65_221 : ∀ (n_221 : Nat) (y_219 : Int32) (y_220 : Int32) (ls : Array Slot), (2147483648 - y_219.toInt).toNat < n_221 → (y_220 = 0 ∨ y_220 = 1) → 0 ≤ y_219.toInt → (y_220.toInt ≠ 0 → (A 40 (x1.toInt + 5).toNat).toInt = 1 ∧ h4 (A 40) x1.toInt y_213.toInt ∧ (A 40 (x1.toInt + y_213.toInt + 22).toNat).toInt ≤ 4) → lv_has ls 5 [(4, .int y_219), (2, .int y_220), (3, .int y_213), (0, .ref a0), (1, .int x1)] → W p l e (rmd 0) s m args below meth c s.heap [] 0 0 Q (F0 m 65 ls []) := by
                intro n_221
                induction n_221 with
                | zero => intro y_219 y_220 ls hm_221; exact absurd hm_221 (Nat.not_lt_zero _)
                | succ n_221 ih_221 =>
                  intro y_219 y_220 ls hm_221 hb_y_220 iv_222_0 iv_222_1 hl
                  refine lv_iload_n hx hb dX12_isEnd_65 rfl (lv_at hl 1 rfl) ?_
                  refine bz_eq (tgt := 129) hx hb rfl dX12_isEnd_66 (by decide) (fun c_223 => ?_) (fun c_223 => ?_)
                  · skip
                    obtain ⟨x_224, ex_224⟩ : ∃ y : Int32, y = y_213 + 1 := ⟨_, rfl⟩
                    refine lv_iinc (v := x_224) (lv' := [(3, .int x_224), (4, .int y_219), (2, .int y_220), (0, .ref a0), (1, .int x1)]) hx hb dX12_isEnd_129 hl (k := 2) rfl (by rw [ex_224]; rfl) (by decide) rfl (fun ls hl => ?_)
                    refine lv_goto (tgt := 32) hx hb dX12_isEnd_132 (by decide) ?_
                    have g_225 := z_rng y_213
                    obtain ⟨f_224, l_224, u_224⟩ := z_add ex_224 rfl ti_1
                    try replace f_224 : x_224.toInt = y_213.toInt + 1 := by omega
                    clear l_224 u_224
                    have g_226 := z_rng y_220
                    exact ih_215 x_224 y_220 _ (by omega) hb_y_220 (by omega) (by omega) (fun h9 => ⟨(iv_222_1 h9).1, h4.s (iv_222_1 h9).2.1 (by omega) (iv_222_1 h9).2.2⟩) (lv_sub hl [0, 2, 3, 4] rfl)
                  · skip
                    refine lv_iload hx hb dX12_isEnd_69 (lv_at hl 0 rfl) ?_
                    refine lv_aload_n hx hb dX12_isEnd_71 rfl (lv_at hl 3 rfl) ?_
                    refine mg_0 C hs hP ha0 hk0 wf_X12_8 dX12_isEnd_72 ?_
                    refine lv_iload_n hx hb dX12_isEnd_75 rfl (lv_at hl 4 rfl) ?_
                    refine lv_bipush (v := 22) hx hb dX12_isEnd_76 (by decide) ?_
                    refine lv_iadd hx hb dX12_isEnd_78 ?_
                    refine lv_topi (fun x_227 ex_227 => ?_)
                    refine lv_iload_n hx hb dX12_isEnd_79 rfl (lv_at hl 2 rfl) ?_
                    refine lv_iadd hx hb dX12_isEnd_80 ?_
                    refine lv_topi (fun x_228 ex_228 => ?_)
                    have hi_hr_229 : zEq x_228.toInt (x1.toInt + y_213.toInt + 22) := by
                      have g_230 := z_rng x1
                      obtain ⟨f_227, l_227, u_227⟩ := z_add ex_227 rfl ti_22
                      try replace f_227 : x_227.toInt = x1.toInt + 22 := by omega
                      clear l_227 u_227
                      have g_231 := z_rng y_213
                      obtain ⟨f_228, l_228, u_228⟩ := z_add ex_228 rfl rfl
                      try replace f_228 : x_228.toInt = x_227.toInt + y_213.toInt := by omega
                      clear l_228 u_228
                      show x_228.toInt = (x1.toInt + y_213.toInt + 22)
                      omega
                    have hl_hr_229 : 22 ≤ y_213.toInt + 22 ∧ y_213.toInt + 22 ≤ 25 := by
                      have g_232 := z_rng x1
                      have g_233 := z_rng y_213
                      omega
                    have hid_hr_229 : (x1.toInt + y_213.toInt + 22) = x1.toInt + (y_213.toInt + 22) := by simp only [Int.add_assoc, Int.add_sub_assoc]
                    have hr_229 := z_cell (lo := 22) (hi := 25) hp0 hi_hr_229 hid_hr_229 hl_hr_229 (by decide)
                    replace hid_hr_229 : zEq (x1.toInt + y_213.toInt + 22) (x1.toInt + (y_213.toInt + 22)) := hid_hr_229
                    have hin_234 : vp_in x_228 (zn K (zr K a0 0)) := vp_in_iff.mpr (by rw [(hf_1.2.2 (by decide))]; exact hr_229.in)
                    refine mld_40 C hs hP hf_1.1 hf_1.2.1 hin_234 dX12_isEnd_81 ?_
                    have ep_235 : x_228.toNatClampNeg = (x1.toInt + y_213.toInt + 22).toNat := z_posE hi_hr_229
                    rw [ep_235]
                    have tv_236 := rv_22 hT hr_229
                    rw [ep_235] at tv_236
                    refine bi_ge (tgt := 129) hx hb rfl rfl dX12_isEnd_82 (by decide) (fun c_237 => ?_) (fun c_237 => ?_)
                    · skip
                      obtain ⟨x_238, ex_238⟩ : ∃ y : Int32, y = y_213 + 1 := ⟨_, rfl⟩
                      refine lv_iinc (v := x_238) (lv' := [(3, .int x_238), (4, .int y_219), (2, .int y_220), (0, .ref a0), (1, .int x1)]) hx hb dX12_isEnd_129 hl (k := 2) rfl (by rw [ex_238]; rfl) (by decide) rfl (fun ls hl => ?_)
                      refine lv_goto (tgt := 32) hx hb dX12_isEnd_132 (by decide) ?_
                      have g_239 := z_rng y_213
                      obtain ⟨f_238, l_238, u_238⟩ := z_add ex_238 rfl ti_1
                      try replace f_238 : x_238.toInt = y_213.toInt + 1 := by omega
                      clear l_238 u_238
                      have g_240 := z_rng y_220
                      have g_241 := z_rng (A 40 (x1.toInt + y_213.toInt + 22).toNat)
                      have g_242 := z_rng y_219
                      exact ih_215 x_238 y_220 _ (by omega) hb_y_220 (by omega) (by omega) (fun h9 => ⟨(iv_222_1 h9).1, h4.s (iv_222_1 h9).2.1 (by omega) (iv_222_1 h9).2.2⟩) (lv_sub hl [0, 2, 3, 4] rfl)
                    · skip
                      refine lv_aload_n hx hb dX12_isEnd_85 rfl (lv_at hl 3 rfl) ?_
                      refine mg_0 C hs hP ha0 hk0 wf_X12_8 dX12_isEnd_86 ?_
                      refine lv_iload_n hx hb dX12_isEnd_89 rfl (lv_at hl 4 rfl) ?_
                      refine lv_bipush (v := 50) hx hb dX12_isEnd_90 (by decide) ?_
                      refine lv_iadd hx hb dX12_isEnd_92 ?_
                      refine lv_topi (fun x_243 ex_243 => ?_)
                      refine lv_aload_n hx hb dX12_isEnd_93 rfl (lv_at hl 3 rfl) ?_
                      refine mg_0 C hs hP ha0 hk0 wf_X12_8 dX12_isEnd_94 ?_
                      refine lv_iload_n hx hb dX12_isEnd_97 rfl (lv_at hl 4 rfl) ?_
                      refine lv_sipush (v := 230) hx hb dX12_isEnd_98 (by decide) ?_
                      refine lv_iadd hx hb dX12_isEnd_101 ?_
                      refine lv_topi (fun x_244 ex_244 => ?_)
                      refine lv_bipush (v := 60) hx hb dX12_isEnd_102 (by decide) ?_
                      refine lv_iload_n hx hb dX12_isEnd_104 rfl (lv_at hl 2 rfl) ?_
                      refine lv_imul hx hb dX12_isEnd_105 ?_
                      refine lv_topi (fun x_245 ex_245 => ?_)
                      refine lv_iadd hx hb dX12_isEnd_106 ?_
                      refine lv_topi (fun x_246 ex_246 => ?_)
                      refine lv_iload hx hb dX12_isEnd_107 (lv_at hl 0 rfl) ?_
                      refine lv_iadd hx hb dX12_isEnd_109 ?_
                      refine lv_topi (fun x_247 ex_247 => ?_)
                      have hi_hr_248 : zEq x_247.toInt (x1.toInt + 60 * y_213.toInt + y_219.toInt + 230) := by
                        have g_249 := z_rng x1
                        obtain ⟨f_244, l_244, u_244⟩ := z_add ex_244 rfl ti_230
                        try replace f_244 : x_244.toInt = x1.toInt + 230 := by omega
                        clear l_244 u_244
                        have g_250 := z_rng y_213
                        obtain ⟨f_245, l_245, u_245⟩ := z_mul ex_245 ti_60 rfl
                        try replace f_245 : x_245.toInt = 60 * y_213.toInt := by omega
                        clear l_245 u_245
                        obtain ⟨f_246, l_246, u_246⟩ := z_add ex_246 rfl rfl
                        try replace f_246 : x_246.toInt = x_244.toInt + x_245.toInt := by omega
                        clear l_246 u_246
                        have g_251 := z_rng y_219
                        obtain ⟨f_247, l_247, u_247⟩ := z_add ex_247 rfl rfl
                        try replace f_247 : x_247.toInt = x_246.toInt + y_219.toInt := by omega
                        clear l_247 u_247
                        show x_247.toInt = (x1.toInt + 60 * y_213.toInt + y_219.toInt + 230)
                        omega
                      have hl_hr_248 : 230 ≤ 60 * y_213.toInt + y_219.toInt + 230 ∧ 60 * y_213.toInt + y_219.toInt + 230 ≤ 469 := by
                        have g_252 := z_rng x1
                        have g_253 := z_rng y_213
                        have g_254 := z_rng y_219
                        omega
                      have hid_hr_248 : (x1.toInt + 60 * y_213.toInt + y_219.toInt + 230) = x1.toInt + (60 * y_213.toInt + y_219.toInt + 230) := by simp only [Int.add_assoc, Int.add_sub_assoc]
                      have hr_248 := z_cell (lo := 170) (hi := 469) hp0 hi_hr_248 hid_hr_248 hl_hr_248 (by decide)
                      replace hid_hr_248 : zEq (x1.toInt + 60 * y_213.toInt + y_219.toInt + 230) (x1.toInt + (60 * y_213.toInt + y_219.toInt + 230)) := hid_hr_248
                      have hin_255 : vp_in x_247 (zn K (zr K a0 0)) := vp_in_iff.mpr (by rw [(hf_1.2.2 (by decide))]; exact hr_248.in)
                      refine mld_40 C hs hP hf_1.1 hf_1.2.1 hin_255 dX12_isEnd_110 ?_
                      have ep_256 : x_247.toNatClampNeg = (x1.toInt + 60 * y_213.toInt + y_219.toInt + 230).toNat := z_posE hi_hr_248
                      rw [ep_256]
                      have tv_257 := rv_170 hT hr_248
                      rw [ep_256] at tv_257
                      refine lv_iadd hx hb dX12_isEnd_111 ?_
                      refine lv_topi (fun x_258 ex_258 => ?_)
                      have hi_hr_259 : zEq x_258.toInt (x1.toInt + (A 40 (x1.toInt + 60 * y_213.toInt + y_219.toInt + 230).toNat).toInt + 50) := by
                        have g_260 := z_rng x1
                        obtain ⟨f_243, l_243, u_243⟩ := z_add ex_243 rfl ti_50
                        try replace f_243 : x_243.toInt = x1.toInt + 50 := by omega
                        clear l_243 u_243
                        have g_261 := z_rng (A 40 (x1.toInt + 60 * y_213.toInt + y_219.toInt + 230).toNat)
                        obtain ⟨f_258, l_258, u_258⟩ := z_add ex_258 rfl rfl
                        try replace f_258 : x_258.toInt = x_243.toInt + (A 40 (x1.toInt + 60 * y_213.toInt + y_219.toInt + 230).toNat).toInt := by omega
                        clear l_258 u_258
                        show x_258.toInt = (x1.toInt + (A 40 (x1.toInt + 60 * y_213.toInt + y_219.toInt + 230).toNat).toInt + 50)
                        omega
                      have hl_hr_259 : 50 ≤ (A 40 (x1.toInt + 60 * y_213.toInt + y_219.toInt + 230).toNat).toInt + 50 ∧ (A 40 (x1.toInt + 60 * y_213.toInt + y_219.toInt + 230).toNat).toInt + 50 ≤ 109 := by
                        have g_262 := z_rng x1
                        have g_263 := z_rng (A 40 (x1.toInt + 60 * y_213.toInt + y_219.toInt + 230).toNat)
                        omega
                      have hid_hr_259 : (x1.toInt + (A 40 (x1.toInt + 60 * y_213.toInt + y_219.toInt + 230).toNat).toInt + 50) = x1.toInt + ((A 40 (x1.toInt + 60 * y_213.toInt + y_219.toInt + 230).toNat).toInt + 50) := by simp only [Int.add_assoc, Int.add_sub_assoc]
                      have hr_259 := z_cell (lo := 45) (hi := 169) hp0 hi_hr_259 hid_hr_259 hl_hr_259 (by decide)
                      replace hid_hr_259 : zEq (x1.toInt + (A 40 (x1.toInt + 60 * y_213.toInt + y_219.toInt + 230).toNat).toInt + 50) (x1.toInt + ((A 40 (x1.toInt + 60 * y_213.toInt + y_219.toInt + 230).toNat).toInt + 50)) := hid_hr_259
                      have hin_264 : vp_in x_258 (zn K (zr K a0 0)) := vp_in_iff.mpr (by rw [(hf_1.2.2 (by decide))]; exact hr_259.in)
                      refine mld_40 C hs hP hf_1.1 hf_1.2.1 hin_264 dX12_isEnd_112 ?_
                      have ep_265 : x_258.toNatClampNeg = (x1.toInt + (A 40 (x1.toInt + 60 * y_213.toInt + y_219.toInt + 230).toNat).toInt + 50).toNat := z_posE hi_hr_259
                      rw [ep_265]
                      refine lv_iconst (v := 3) hx hb dX12_isEnd_113 (by decide) ?_
                      refine bi_eq (tgt := 121) hx hb rfl ti_3 dX12_isEnd_114 (by decide) (fun c_266 => ?_) (fun c_266 => ?_)
                      · skip
                        refine lv_iconst (v := 0) hx hb dX12_isEnd_121 (by decide) ?_
                        refine lv_istore_n (lv' := [(2, .int 0), (4, .int y_219), (3, .int y_213), (0, .ref a0), (1, .int x1)]) hx hb dX12_isEnd_122 rfl hl (by decide) rfl (fun ls hl => ?_)
                        obtain ⟨x_267, ex_267⟩ : ∃ y : Int32, y = y_219 + 1 := ⟨_, rfl⟩
                        refine lv_iinc (v := x_267) (lv' := [(4, .int x_267), (2, .int 0), (3, .int y_213), (0, .ref a0), (1, .int x1)]) hx hb dX12_isEnd_123 hl (k := 1) rfl (by rw [ex_267]; rfl) (by decide) rfl (fun ls hl => ?_)
                        refine lv_goto (tgt := 65) hx hb dX12_isEnd_126 (by decide) ?_
                        have g_268 := z_rng y_219
                        obtain ⟨f_267, l_267, u_267⟩ := z_add ex_267 rfl ti_1
                        try replace f_267 : x_267.toInt = y_219.toInt + 1 := by omega
                        clear l_267 u_267
                        have g_269 := z_rng (A 40 (x1.toInt + (A 40 (x1.toInt + 60 * y_213.toInt + y_219.toInt + 230).toNat).toInt + 50).toNat)
                        have g_270 := z_rng (A 40 (x1.toInt + y_213.toInt + 22).toNat)
                        have g_271 := z_rng y_220
                        exact ih_221 x_267 0 _ (by omega) (Or.inl rfl) (by (try simp only [ti_0]); omega) (fun h9 => by rw [ti_0] at h9; omega) (lv_sub hl [0, 1, 2, 3, 4] rfl)
                      · skip
                        refine lv_iconst (v := 1) hx hb dX12_isEnd_117 (by decide) ?_
                        refine lv_goto (tgt := 122) hx hb dX12_isEnd_118 (by decide) ?_
                        refine lv_istore_n (lv' := [(2, .int 1), (4, .int y_219), (3, .int y_213), (0, .ref a0), (1, .int x1)]) hx hb dX12_isEnd_122 rfl hl (by decide) rfl (fun ls hl => ?_)
                        obtain ⟨x_272, ex_272⟩ : ∃ y : Int32, y = y_219 + 1 := ⟨_, rfl⟩
                        refine lv_iinc (v := x_272) (lv' := [(4, .int x_272), (2, .int 1), (3, .int y_213), (0, .ref a0), (1, .int x1)]) hx hb dX12_isEnd_123 hl (k := 1) rfl (by rw [ex_272]; rfl) (by decide) rfl (fun ls hl => ?_)
                        refine lv_goto (tgt := 65) hx hb dX12_isEnd_126 (by decide) ?_
                        have g_273 := z_rng y_219
                        obtain ⟨f_272, l_272, u_272⟩ := z_add ex_272 rfl ti_1
                        try replace f_272 : x_272.toInt = y_219.toInt + 1 := by omega
                        clear l_272 u_272
                        have g_274 := z_rng (A 40 (x1.toInt + (A 40 (x1.toInt + 60 * y_213.toInt + y_219.toInt + 230).toNat).toInt + 50).toNat)
                        have g_275 := z_rng (A 40 (x1.toInt + y_213.toInt + 22).toNat)
                        have g_276 := z_rng y_220
                        exact ih_221 x_272 1 _ (by omega) (Or.inr rfl) (by (try simp only [ti_1]); omega) (fun _ => iv_222_1 c_223) (lv_sub hl [0, 1, 2, 3, 4] rfl)
              have g_277 := z_rng y_213
              have g_278 := z_rng y_214
              exact L_65_221 _ 0 0 _ (Nat.lt_succ_self _) (Or.inl rfl) (by (try simp only [ti_0]); omega) (fun h9 => by rw [ti_0] at h9; omega) (lv_sub hl [0, 1, 2, 3, 4] rfl)
            · skip
              refine lv_aload_n hx hb dX12_isEnd_41 rfl (lv_at hl 2 rfl) ?_
              refine mg_0 C hs hP ha0 hk0 wf_X12_8 dX12_isEnd_42 ?_
              refine lv_iload_n hx hb dX12_isEnd_45 rfl (lv_at hl 3 rfl) ?_
              refine lv_bipush (v := 22) hx hb dX12_isEnd_46 (by decide) ?_
              refine lv_iadd hx hb dX12_isEnd_48 ?_
              refine lv_topi (fun x_279 ex_279 => ?_)
              refine lv_iload_n hx hb dX12_isEnd_49 rfl (lv_at hl 0 rfl) ?_
              refine lv_iadd hx hb dX12_isEnd_50 ?_
              refine lv_topi (fun x_280 ex_280 => ?_)
              have hi_hr_281 : zEq x_280.toInt (x1.toInt + y_213.toInt + 22) := by
                have g_282 := z_rng x1
                obtain ⟨f_279, l_279, u_279⟩ := z_add ex_279 rfl ti_22
                try replace f_279 : x_279.toInt = x1.toInt + 22 := by omega
                clear l_279 u_279
                have g_283 := z_rng y_213
                obtain ⟨f_280, l_280, u_280⟩ := z_add ex_280 rfl rfl
                try replace f_280 : x_280.toInt = x_279.toInt + y_213.toInt := by omega
                clear l_280 u_280
                show x_280.toInt = (x1.toInt + y_213.toInt + 22)
                omega
              have hl_hr_281 : 22 ≤ y_213.toInt + 22 ∧ y_213.toInt + 22 ≤ 25 := by
                have g_284 := z_rng x1
                have g_285 := z_rng y_213
                omega
              have hid_hr_281 : (x1.toInt + y_213.toInt + 22) = x1.toInt + (y_213.toInt + 22) := by simp only [Int.add_assoc, Int.add_sub_assoc]
              have hr_281 := z_cell (lo := 22) (hi := 25) hp0 hi_hr_281 hid_hr_281 hl_hr_281 (by decide)
              replace hid_hr_281 : zEq (x1.toInt + y_213.toInt + 22) (x1.toInt + (y_213.toInt + 22)) := hid_hr_281
              have hin_286 : vp_in x_280 (zn K (zr K a0 0)) := vp_in_iff.mpr (by rw [(hf_1.2.2 (by decide))]; exact hr_281.in)
              refine mld_40 C hs hP hf_1.1 hf_1.2.1 hin_286 dX12_isEnd_51 ?_
              have ep_287 : x_280.toNatClampNeg = (x1.toInt + y_213.toInt + 22).toNat := z_posE hi_hr_281
              rw [ep_287]
              have tv_288 := rv_22 hT hr_281
              rw [ep_287] at tv_288
              refine lv_iconst (v := 4) hx hb dX12_isEnd_52 (by decide) ?_
              refine bi_gt (tgt := 60) hx hb rfl ti_4 dX12_isEnd_53 (by decide) (fun c_289 => ?_) (fun c_289 => ?_)
              · skip
                refine lv_iconst (v := 0) hx hb dX12_isEnd_60 (by decide) ?_
                refine lv_istore_n (lv' := [(2, .int 0), (3, .int y_213), (0, .ref a0), (1, .int x1)]) hx hb dX12_isEnd_61 rfl hl (by decide) rfl (fun ls hl => ?_)
                refine lv_iconst (v := 0) hx hb dX12_isEnd_62 (by decide) ?_
                refine lv_istore (lv' := [(4, .int 0), (2, .int 0), (3, .int y_213), (0, .ref a0), (1, .int x1)]) hx hb dX12_isEnd_63 hl (by decide) rfl (fun ls hl => ?_)
                have L_65_292 : ∀ (n_292 : Nat) (y_290 : Int32) (y_291 : Int32) (ls : Array Slot), (2147483648 - y_290.toInt).toNat < n_292 → (y_291 = 0 ∨ y_291 = 1) → 0 ≤ y_290.toInt → (y_291.toInt ≠ 0 → (A 40 (x1.toInt + 5).toNat).toInt = 1 ∧ h4 (A 40) x1.toInt y_213.toInt ∧ (A 40 (x1.toInt + y_213.toInt + 22).toNat).toInt ≤ 4) → lv_has ls 5 [(4, .int y_290), (2, .int y_291), (3, .int y_213), (0, .ref a0), (1, .int x1)] → W p l e (rmd 0) s m args below meth c s.heap [] 0 0 Q (F0 m 65 ls []) := by
                  intro n_292
                  induction n_292 with
                  | zero => intro y_290 y_291 ls hm_292; exact absurd hm_292 (Nat.not_lt_zero _)
                  | succ n_292 ih_292 =>
                    intro y_290 y_291 ls hm_292 hb_y_291 iv_293_0 iv_293_1 hl
                    refine lv_iload_n hx hb dX12_isEnd_65 rfl (lv_at hl 1 rfl) ?_
                    refine bz_eq (tgt := 129) hx hb rfl dX12_isEnd_66 (by decide) (fun c_294 => ?_) (fun c_294 => ?_)
                    · skip
                      obtain ⟨x_295, ex_295⟩ : ∃ y : Int32, y = y_213 + 1 := ⟨_, rfl⟩
                      refine lv_iinc (v := x_295) (lv' := [(3, .int x_295), (4, .int y_290), (2, .int y_291), (0, .ref a0), (1, .int x1)]) hx hb dX12_isEnd_129 hl (k := 2) rfl (by rw [ex_295]; rfl) (by decide) rfl (fun ls hl => ?_)
                      refine lv_goto (tgt := 32) hx hb dX12_isEnd_132 (by decide) ?_
                      have g_296 := z_rng y_213
                      obtain ⟨f_295, l_295, u_295⟩ := z_add ex_295 rfl ti_1
                      try replace f_295 : x_295.toInt = y_213.toInt + 1 := by omega
                      clear l_295 u_295
                      have g_297 := z_rng y_291
                      exact ih_215 x_295 y_291 _ (by omega) hb_y_291 (by omega) (by omega) (fun h9 => ⟨(iv_293_1 h9).1, h4.s (iv_293_1 h9).2.1 (by omega) (iv_293_1 h9).2.2⟩) (lv_sub hl [0, 2, 3, 4] rfl)
                    · skip
                      refine lv_iload hx hb dX12_isEnd_69 (lv_at hl 0 rfl) ?_
                      refine lv_aload_n hx hb dX12_isEnd_71 rfl (lv_at hl 3 rfl) ?_
                      refine mg_0 C hs hP ha0 hk0 wf_X12_8 dX12_isEnd_72 ?_
                      refine lv_iload_n hx hb dX12_isEnd_75 rfl (lv_at hl 4 rfl) ?_
                      refine lv_bipush (v := 22) hx hb dX12_isEnd_76 (by decide) ?_
                      refine lv_iadd hx hb dX12_isEnd_78 ?_
                      refine lv_topi (fun x_298 ex_298 => ?_)
                      refine lv_iload_n hx hb dX12_isEnd_79 rfl (lv_at hl 2 rfl) ?_
                      refine lv_iadd hx hb dX12_isEnd_80 ?_
                      refine lv_topi (fun x_299 ex_299 => ?_)
                      have hi_hr_300 : zEq x_299.toInt (x1.toInt + y_213.toInt + 22) := by
                        have g_301 := z_rng x1
                        obtain ⟨f_298, l_298, u_298⟩ := z_add ex_298 rfl ti_22
                        try replace f_298 : x_298.toInt = x1.toInt + 22 := by omega
                        clear l_298 u_298
                        have g_302 := z_rng y_213
                        obtain ⟨f_299, l_299, u_299⟩ := z_add ex_299 rfl rfl
                        try replace f_299 : x_299.toInt = x_298.toInt + y_213.toInt := by omega
                        clear l_299 u_299
                        show x_299.toInt = (x1.toInt + y_213.toInt + 22)
                        omega
                      have hl_hr_300 : 22 ≤ y_213.toInt + 22 ∧ y_213.toInt + 22 ≤ 25 := by
                        have g_303 := z_rng x1
                        have g_304 := z_rng y_213
                        omega
                      have hid_hr_300 : (x1.toInt + y_213.toInt + 22) = x1.toInt + (y_213.toInt + 22) := by simp only [Int.add_assoc, Int.add_sub_assoc]
                      have hr_300 := z_cell (lo := 22) (hi := 25) hp0 hi_hr_300 hid_hr_300 hl_hr_300 (by decide)
                      replace hid_hr_300 : zEq (x1.toInt + y_213.toInt + 22) (x1.toInt + (y_213.toInt + 22)) := hid_hr_300
                      have hin_305 : vp_in x_299 (zn K (zr K a0 0)) := vp_in_iff.mpr (by rw [(hf_1.2.2 (by decide))]; exact hr_300.in)
                      refine mld_40 C hs hP hf_1.1 hf_1.2.1 hin_305 dX12_isEnd_81 ?_
                      have ep_306 : x_299.toNatClampNeg = (x1.toInt + y_213.toInt + 22).toNat := z_posE hi_hr_300
                      rw [ep_306]
                      refine bi_ge (tgt := 129) hx hb rfl rfl dX12_isEnd_82 (by decide) (fun c_307 => ?_) (fun c_307 => ?_)
                      · skip
                        obtain ⟨x_308, ex_308⟩ : ∃ y : Int32, y = y_213 + 1 := ⟨_, rfl⟩
                        refine lv_iinc (v := x_308) (lv' := [(3, .int x_308), (4, .int y_290), (2, .int y_291), (0, .ref a0), (1, .int x1)]) hx hb dX12_isEnd_129 hl (k := 2) rfl (by rw [ex_308]; rfl) (by decide) rfl (fun ls hl => ?_)
                        refine lv_goto (tgt := 32) hx hb dX12_isEnd_132 (by decide) ?_
                        have g_309 := z_rng y_213
                        obtain ⟨f_308, l_308, u_308⟩ := z_add ex_308 rfl ti_1
                        try replace f_308 : x_308.toInt = y_213.toInt + 1 := by omega
                        clear l_308 u_308
                        have g_310 := z_rng y_291
                        have g_311 := z_rng (A 40 (x1.toInt + y_213.toInt + 22).toNat)
                        have g_312 := z_rng y_290
                        exact ih_215 x_308 y_291 _ (by omega) hb_y_291 (by omega) (by omega) (fun h9 => ⟨(iv_293_1 h9).1, h4.s (iv_293_1 h9).2.1 (by omega) (iv_293_1 h9).2.2⟩) (lv_sub hl [0, 2, 3, 4] rfl)
                      · skip
                        refine lv_aload_n hx hb dX12_isEnd_85 rfl (lv_at hl 3 rfl) ?_
                        refine mg_0 C hs hP ha0 hk0 wf_X12_8 dX12_isEnd_86 ?_
                        refine lv_iload_n hx hb dX12_isEnd_89 rfl (lv_at hl 4 rfl) ?_
                        refine lv_bipush (v := 50) hx hb dX12_isEnd_90 (by decide) ?_
                        refine lv_iadd hx hb dX12_isEnd_92 ?_
                        refine lv_topi (fun x_313 ex_313 => ?_)
                        refine lv_aload_n hx hb dX12_isEnd_93 rfl (lv_at hl 3 rfl) ?_
                        refine mg_0 C hs hP ha0 hk0 wf_X12_8 dX12_isEnd_94 ?_
                        refine lv_iload_n hx hb dX12_isEnd_97 rfl (lv_at hl 4 rfl) ?_
                        refine lv_sipush (v := 230) hx hb dX12_isEnd_98 (by decide) ?_
                        refine lv_iadd hx hb dX12_isEnd_101 ?_
                        refine lv_topi (fun x_314 ex_314 => ?_)
                        refine lv_bipush (v := 60) hx hb dX12_isEnd_102 (by decide) ?_
                        refine lv_iload_n hx hb dX12_isEnd_104 rfl (lv_at hl 2 rfl) ?_
                        refine lv_imul hx hb dX12_isEnd_105 ?_
                        refine lv_topi (fun x_315 ex_315 => ?_)
                        refine lv_iadd hx hb dX12_isEnd_106 ?_
                        refine lv_topi (fun x_316 ex_316 => ?_)
                        refine lv_iload hx hb dX12_isEnd_107 (lv_at hl 0 rfl) ?_
                        refine lv_iadd hx hb dX12_isEnd_109 ?_
                        refine lv_topi (fun x_317 ex_317 => ?_)
                        have hi_hr_318 : zEq x_317.toInt (x1.toInt + 60 * y_213.toInt + y_290.toInt + 230) := by
                          have g_319 := z_rng x1
                          obtain ⟨f_314, l_314, u_314⟩ := z_add ex_314 rfl ti_230
                          try replace f_314 : x_314.toInt = x1.toInt + 230 := by omega
                          clear l_314 u_314
                          have g_320 := z_rng y_213
                          obtain ⟨f_315, l_315, u_315⟩ := z_mul ex_315 ti_60 rfl
                          try replace f_315 : x_315.toInt = 60 * y_213.toInt := by omega
                          clear l_315 u_315
                          obtain ⟨f_316, l_316, u_316⟩ := z_add ex_316 rfl rfl
                          try replace f_316 : x_316.toInt = x_314.toInt + x_315.toInt := by omega
                          clear l_316 u_316
                          have g_321 := z_rng y_290
                          obtain ⟨f_317, l_317, u_317⟩ := z_add ex_317 rfl rfl
                          try replace f_317 : x_317.toInt = x_316.toInt + y_290.toInt := by omega
                          clear l_317 u_317
                          show x_317.toInt = (x1.toInt + 60 * y_213.toInt + y_290.toInt + 230)
                          omega
                        have hl_hr_318 : 230 ≤ 60 * y_213.toInt + y_290.toInt + 230 ∧ 60 * y_213.toInt + y_290.toInt + 230 ≤ 469 := by
                          have g_322 := z_rng x1
                          have g_323 := z_rng y_213
                          have g_324 := z_rng y_290
                          omega
                        have hid_hr_318 : (x1.toInt + 60 * y_213.toInt + y_290.toInt + 230) = x1.toInt + (60 * y_213.toInt + y_290.toInt + 230) := by simp only [Int.add_assoc, Int.add_sub_assoc]
                        have hr_318 := z_cell (lo := 170) (hi := 469) hp0 hi_hr_318 hid_hr_318 hl_hr_318 (by decide)
                        replace hid_hr_318 : zEq (x1.toInt + 60 * y_213.toInt + y_290.toInt + 230) (x1.toInt + (60 * y_213.toInt + y_290.toInt + 230)) := hid_hr_318
                        have hin_325 : vp_in x_317 (zn K (zr K a0 0)) := vp_in_iff.mpr (by rw [(hf_1.2.2 (by decide))]; exact hr_318.in)
                        refine mld_40 C hs hP hf_1.1 hf_1.2.1 hin_325 dX12_isEnd_110 ?_
                        have ep_326 : x_317.toNatClampNeg = (x1.toInt + 60 * y_213.toInt + y_290.toInt + 230).toNat := z_posE hi_hr_318
                        rw [ep_326]
                        have tv_327 := rv_170 hT hr_318
                        rw [ep_326] at tv_327
                        refine lv_iadd hx hb dX12_isEnd_111 ?_
                        refine lv_topi (fun x_328 ex_328 => ?_)
                        have hi_hr_329 : zEq x_328.toInt (x1.toInt + (A 40 (x1.toInt + 60 * y_213.toInt + y_290.toInt + 230).toNat).toInt + 50) := by
                          have g_330 := z_rng x1
                          obtain ⟨f_313, l_313, u_313⟩ := z_add ex_313 rfl ti_50
                          try replace f_313 : x_313.toInt = x1.toInt + 50 := by omega
                          clear l_313 u_313
                          have g_331 := z_rng (A 40 (x1.toInt + 60 * y_213.toInt + y_290.toInt + 230).toNat)
                          obtain ⟨f_328, l_328, u_328⟩ := z_add ex_328 rfl rfl
                          try replace f_328 : x_328.toInt = x_313.toInt + (A 40 (x1.toInt + 60 * y_213.toInt + y_290.toInt + 230).toNat).toInt := by omega
                          clear l_328 u_328
                          show x_328.toInt = (x1.toInt + (A 40 (x1.toInt + 60 * y_213.toInt + y_290.toInt + 230).toNat).toInt + 50)
                          omega
                        have hl_hr_329 : 50 ≤ (A 40 (x1.toInt + 60 * y_213.toInt + y_290.toInt + 230).toNat).toInt + 50 ∧ (A 40 (x1.toInt + 60 * y_213.toInt + y_290.toInt + 230).toNat).toInt + 50 ≤ 109 := by
                          have g_332 := z_rng x1
                          have g_333 := z_rng (A 40 (x1.toInt + 60 * y_213.toInt + y_290.toInt + 230).toNat)
                          omega
                        have hid_hr_329 : (x1.toInt + (A 40 (x1.toInt + 60 * y_213.toInt + y_290.toInt + 230).toNat).toInt + 50) = x1.toInt + ((A 40 (x1.toInt + 60 * y_213.toInt + y_290.toInt + 230).toNat).toInt + 50) := by simp only [Int.add_assoc, Int.add_sub_assoc]
                        have hr_329 := z_cell (lo := 45) (hi := 169) hp0 hi_hr_329 hid_hr_329 hl_hr_329 (by decide)
                        replace hid_hr_329 : zEq (x1.toInt + (A 40 (x1.toInt + 60 * y_213.toInt + y_290.toInt + 230).toNat).toInt + 50) (x1.toInt + ((A 40 (x1.toInt + 60 * y_213.toInt + y_290.toInt + 230).toNat).toInt + 50)) := hid_hr_329
                        have hin_334 : vp_in x_328 (zn K (zr K a0 0)) := vp_in_iff.mpr (by rw [(hf_1.2.2 (by decide))]; exact hr_329.in)
                        refine mld_40 C hs hP hf_1.1 hf_1.2.1 hin_334 dX12_isEnd_112 ?_
                        have ep_335 : x_328.toNatClampNeg = (x1.toInt + (A 40 (x1.toInt + 60 * y_213.toInt + y_290.toInt + 230).toNat).toInt + 50).toNat := z_posE hi_hr_329
                        rw [ep_335]
                        refine lv_iconst (v := 3) hx hb dX12_isEnd_113 (by decide) ?_
                        refine bi_eq (tgt := 121) hx hb rfl ti_3 dX12_isEnd_114 (by decide) (fun c_336 => ?_) (fun c_336 => ?_)
                        · skip
                          refine lv_iconst (v := 0) hx hb dX12_isEnd_121 (by decide) ?_
                          refine lv_istore_n (lv' := [(2, .int 0), (4, .int y_290), (3, .int y_213), (0, .ref a0), (1, .int x1)]) hx hb dX12_isEnd_122 rfl hl (by decide) rfl (fun ls hl => ?_)
                          obtain ⟨x_337, ex_337⟩ : ∃ y : Int32, y = y_290 + 1 := ⟨_, rfl⟩
                          refine lv_iinc (v := x_337) (lv' := [(4, .int x_337), (2, .int 0), (3, .int y_213), (0, .ref a0), (1, .int x1)]) hx hb dX12_isEnd_123 hl (k := 1) rfl (by rw [ex_337]; rfl) (by decide) rfl (fun ls hl => ?_)
                          refine lv_goto (tgt := 65) hx hb dX12_isEnd_126 (by decide) ?_
                          have g_338 := z_rng y_290
                          obtain ⟨f_337, l_337, u_337⟩ := z_add ex_337 rfl ti_1
                          try replace f_337 : x_337.toInt = y_290.toInt + 1 := by omega
                          clear l_337 u_337
                          have g_339 := z_rng (A 40 (x1.toInt + (A 40 (x1.toInt + 60 * y_213.toInt + y_290.toInt + 230).toNat).toInt + 50).toNat)
                          have g_340 := z_rng (A 40 (x1.toInt + y_213.toInt + 22).toNat)
                          have g_341 := z_rng y_291
                          exact ih_292 x_337 0 _ (by omega) (Or.inl rfl) (by (try simp only [ti_0]); omega) (fun h9 => by rw [ti_0] at h9; omega) (lv_sub hl [0, 1, 2, 3, 4] rfl)
                        · skip
                          refine lv_iconst (v := 1) hx hb dX12_isEnd_117 (by decide) ?_
                          refine lv_goto (tgt := 122) hx hb dX12_isEnd_118 (by decide) ?_
                          refine lv_istore_n (lv' := [(2, .int 1), (4, .int y_290), (3, .int y_213), (0, .ref a0), (1, .int x1)]) hx hb dX12_isEnd_122 rfl hl (by decide) rfl (fun ls hl => ?_)
                          obtain ⟨x_342, ex_342⟩ : ∃ y : Int32, y = y_290 + 1 := ⟨_, rfl⟩
                          refine lv_iinc (v := x_342) (lv' := [(4, .int x_342), (2, .int 1), (3, .int y_213), (0, .ref a0), (1, .int x1)]) hx hb dX12_isEnd_123 hl (k := 1) rfl (by rw [ex_342]; rfl) (by decide) rfl (fun ls hl => ?_)
                          refine lv_goto (tgt := 65) hx hb dX12_isEnd_126 (by decide) ?_
                          have g_343 := z_rng y_290
                          obtain ⟨f_342, l_342, u_342⟩ := z_add ex_342 rfl ti_1
                          try replace f_342 : x_342.toInt = y_290.toInt + 1 := by omega
                          clear l_342 u_342
                          have g_344 := z_rng (A 40 (x1.toInt + (A 40 (x1.toInt + 60 * y_213.toInt + y_290.toInt + 230).toNat).toInt + 50).toNat)
                          have g_345 := z_rng (A 40 (x1.toInt + y_213.toInt + 22).toNat)
                          have g_346 := z_rng y_291
                          exact ih_292 x_342 1 _ (by omega) (Or.inr rfl) (by (try simp only [ti_1]); omega) (fun _ => iv_293_1 c_294) (lv_sub hl [0, 1, 2, 3, 4] rfl)
                have g_347 := z_rng (A 40 (x1.toInt + y_213.toInt + 22).toNat)
                have g_348 := z_rng y_213
                have g_349 := z_rng y_214
                exact L_65_292 _ 0 0 _ (Nat.lt_succ_self _) (Or.inl rfl) (by (try simp only [ti_0]); omega) (fun h9 => by rw [ti_0] at h9; omega) (lv_sub hl [0, 1, 2, 3, 4] rfl)
              · skip
                refine lv_iconst (v := 1) hx hb dX12_isEnd_56 (by decide) ?_
                refine lv_goto (tgt := 61) hx hb dX12_isEnd_57 (by decide) ?_
                refine lv_istore_n (lv' := [(2, .int 1), (3, .int y_213), (0, .ref a0), (1, .int x1)]) hx hb dX12_isEnd_61 rfl hl (by decide) rfl (fun ls hl => ?_)
                refine lv_iconst (v := 0) hx hb dX12_isEnd_62 (by decide) ?_
                refine lv_istore (lv' := [(4, .int 0), (2, .int 1), (3, .int y_213), (0, .ref a0), (1, .int x1)]) hx hb dX12_isEnd_63 hl (by decide) rfl (fun ls hl => ?_)
                have L_65_352 : ∀ (n_352 : Nat) (y_350 : Int32) (y_351 : Int32) (ls : Array Slot), (2147483648 - y_350.toInt).toNat < n_352 → (y_351 = 0 ∨ y_351 = 1) → 0 ≤ y_350.toInt → (y_351.toInt ≠ 0 → (A 40 (x1.toInt + 5).toNat).toInt = 1 ∧ h4 (A 40) x1.toInt y_213.toInt ∧ (A 40 (x1.toInt + y_213.toInt + 22).toNat).toInt ≤ 4) → lv_has ls 5 [(4, .int y_350), (2, .int y_351), (3, .int y_213), (0, .ref a0), (1, .int x1)] → W p l e (rmd 0) s m args below meth c s.heap [] 0 0 Q (F0 m 65 ls []) := by
                  intro n_352
                  induction n_352 with
                  | zero => intro y_350 y_351 ls hm_352; exact absurd hm_352 (Nat.not_lt_zero _)
                  | succ n_352 ih_352 =>
                    intro y_350 y_351 ls hm_352 hb_y_351 iv_353_0 iv_353_1 hl
                    refine lv_iload_n hx hb dX12_isEnd_65 rfl (lv_at hl 1 rfl) ?_
                    refine bz_eq (tgt := 129) hx hb rfl dX12_isEnd_66 (by decide) (fun c_354 => ?_) (fun c_354 => ?_)
                    · skip
                      obtain ⟨x_355, ex_355⟩ : ∃ y : Int32, y = y_213 + 1 := ⟨_, rfl⟩
                      refine lv_iinc (v := x_355) (lv' := [(3, .int x_355), (4, .int y_350), (2, .int y_351), (0, .ref a0), (1, .int x1)]) hx hb dX12_isEnd_129 hl (k := 2) rfl (by rw [ex_355]; rfl) (by decide) rfl (fun ls hl => ?_)
                      refine lv_goto (tgt := 32) hx hb dX12_isEnd_132 (by decide) ?_
                      have g_356 := z_rng y_213
                      obtain ⟨f_355, l_355, u_355⟩ := z_add ex_355 rfl ti_1
                      try replace f_355 : x_355.toInt = y_213.toInt + 1 := by omega
                      clear l_355 u_355
                      have g_357 := z_rng y_351
                      exact ih_215 x_355 y_351 _ (by omega) hb_y_351 (by omega) (by omega) (fun h9 => ⟨(iv_353_1 h9).1, h4.s (iv_353_1 h9).2.1 (by omega) (iv_353_1 h9).2.2⟩) (lv_sub hl [0, 2, 3, 4] rfl)
                    · skip
                      refine lv_iload hx hb dX12_isEnd_69 (lv_at hl 0 rfl) ?_
                      refine lv_aload_n hx hb dX12_isEnd_71 rfl (lv_at hl 3 rfl) ?_
                      refine mg_0 C hs hP ha0 hk0 wf_X12_8 dX12_isEnd_72 ?_
                      refine lv_iload_n hx hb dX12_isEnd_75 rfl (lv_at hl 4 rfl) ?_
                      refine lv_bipush (v := 22) hx hb dX12_isEnd_76 (by decide) ?_
                      refine lv_iadd hx hb dX12_isEnd_78 ?_
                      refine lv_topi (fun x_358 ex_358 => ?_)
                      refine lv_iload_n hx hb dX12_isEnd_79 rfl (lv_at hl 2 rfl) ?_
                      refine lv_iadd hx hb dX12_isEnd_80 ?_
                      refine lv_topi (fun x_359 ex_359 => ?_)
                      have hi_hr_360 : zEq x_359.toInt (x1.toInt + y_213.toInt + 22) := by
                        have g_361 := z_rng x1
                        obtain ⟨f_358, l_358, u_358⟩ := z_add ex_358 rfl ti_22
                        try replace f_358 : x_358.toInt = x1.toInt + 22 := by omega
                        clear l_358 u_358
                        have g_362 := z_rng y_213
                        obtain ⟨f_359, l_359, u_359⟩ := z_add ex_359 rfl rfl
                        try replace f_359 : x_359.toInt = x_358.toInt + y_213.toInt := by omega
                        clear l_359 u_359
                        show x_359.toInt = (x1.toInt + y_213.toInt + 22)
                        omega
                      have hl_hr_360 : 22 ≤ y_213.toInt + 22 ∧ y_213.toInt + 22 ≤ 25 := by
                        have g_363 := z_rng x1
                        have g_364 := z_rng y_213
                        omega
                      have hid_hr_360 : (x1.toInt + y_213.toInt + 22) = x1.toInt + (y_213.toInt + 22) := by simp only [Int.add_assoc, Int.add_sub_assoc]
                      have hr_360 := z_cell (lo := 22) (hi := 25) hp0 hi_hr_360 hid_hr_360 hl_hr_360 (by decide)
                      replace hid_hr_360 : zEq (x1.toInt + y_213.toInt + 22) (x1.toInt + (y_213.toInt + 22)) := hid_hr_360
                      have hin_365 : vp_in x_359 (zn K (zr K a0 0)) := vp_in_iff.mpr (by rw [(hf_1.2.2 (by decide))]; exact hr_360.in)
                      refine mld_40 C hs hP hf_1.1 hf_1.2.1 hin_365 dX12_isEnd_81 ?_
                      have ep_366 : x_359.toNatClampNeg = (x1.toInt + y_213.toInt + 22).toNat := z_posE hi_hr_360
                      rw [ep_366]
                      refine bi_ge (tgt := 129) hx hb rfl rfl dX12_isEnd_82 (by decide) (fun c_367 => ?_) (fun c_367 => ?_)
                      · skip
                        obtain ⟨x_368, ex_368⟩ : ∃ y : Int32, y = y_213 + 1 := ⟨_, rfl⟩
                        refine lv_iinc (v := x_368) (lv' := [(3, .int x_368), (4, .int y_350), (2, .int y_351), (0, .ref a0), (1, .int x1)]) hx hb dX12_isEnd_129 hl (k := 2) rfl (by rw [ex_368]; rfl) (by decide) rfl (fun ls hl => ?_)
                        refine lv_goto (tgt := 32) hx hb dX12_isEnd_132 (by decide) ?_
                        have g_369 := z_rng y_213
                        obtain ⟨f_368, l_368, u_368⟩ := z_add ex_368 rfl ti_1
                        try replace f_368 : x_368.toInt = y_213.toInt + 1 := by omega
                        clear l_368 u_368
                        have g_370 := z_rng y_351
                        have g_371 := z_rng (A 40 (x1.toInt + y_213.toInt + 22).toNat)
                        have g_372 := z_rng y_350
                        exact ih_215 x_368 y_351 _ (by omega) hb_y_351 (by omega) (by omega) (fun h9 => ⟨(iv_353_1 h9).1, h4.s (iv_353_1 h9).2.1 (by omega) (iv_353_1 h9).2.2⟩) (lv_sub hl [0, 2, 3, 4] rfl)
                      · skip
                        refine lv_aload_n hx hb dX12_isEnd_85 rfl (lv_at hl 3 rfl) ?_
                        refine mg_0 C hs hP ha0 hk0 wf_X12_8 dX12_isEnd_86 ?_
                        refine lv_iload_n hx hb dX12_isEnd_89 rfl (lv_at hl 4 rfl) ?_
                        refine lv_bipush (v := 50) hx hb dX12_isEnd_90 (by decide) ?_
                        refine lv_iadd hx hb dX12_isEnd_92 ?_
                        refine lv_topi (fun x_373 ex_373 => ?_)
                        refine lv_aload_n hx hb dX12_isEnd_93 rfl (lv_at hl 3 rfl) ?_
                        refine mg_0 C hs hP ha0 hk0 wf_X12_8 dX12_isEnd_94 ?_
                        refine lv_iload_n hx hb dX12_isEnd_97 rfl (lv_at hl 4 rfl) ?_
                        refine lv_sipush (v := 230) hx hb dX12_isEnd_98 (by decide) ?_
                        refine lv_iadd hx hb dX12_isEnd_101 ?_
                        refine lv_topi (fun x_374 ex_374 => ?_)
                        refine lv_bipush (v := 60) hx hb dX12_isEnd_102 (by decide) ?_
                        refine lv_iload_n hx hb dX12_isEnd_104 rfl (lv_at hl 2 rfl) ?_
                        refine lv_imul hx hb dX12_isEnd_105 ?_
                        refine lv_topi (fun x_375 ex_375 => ?_)
                        refine lv_iadd hx hb dX12_isEnd_106 ?_
                        refine lv_topi (fun x_376 ex_376 => ?_)
                        refine lv_iload hx hb dX12_isEnd_107 (lv_at hl 0 rfl) ?_
                        refine lv_iadd hx hb dX12_isEnd_109 ?_
                        refine lv_topi (fun x_377 ex_377 => ?_)
                        have hi_hr_378 : zEq x_377.toInt (x1.toInt + 60 * y_213.toInt + y_350.toInt + 230) := by
                          have g_379 := z_rng x1
                          obtain ⟨f_374, l_374, u_374⟩ := z_add ex_374 rfl ti_230
                          try replace f_374 : x_374.toInt = x1.toInt + 230 := by omega
                          clear l_374 u_374
                          have g_380 := z_rng y_213
                          obtain ⟨f_375, l_375, u_375⟩ := z_mul ex_375 ti_60 rfl
                          try replace f_375 : x_375.toInt = 60 * y_213.toInt := by omega
                          clear l_375 u_375
                          obtain ⟨f_376, l_376, u_376⟩ := z_add ex_376 rfl rfl
                          try replace f_376 : x_376.toInt = x_374.toInt + x_375.toInt := by omega
                          clear l_376 u_376
                          have g_381 := z_rng y_350
                          obtain ⟨f_377, l_377, u_377⟩ := z_add ex_377 rfl rfl
                          try replace f_377 : x_377.toInt = x_376.toInt + y_350.toInt := by omega
                          clear l_377 u_377
                          show x_377.toInt = (x1.toInt + 60 * y_213.toInt + y_350.toInt + 230)
                          omega
                        have hl_hr_378 : 230 ≤ 60 * y_213.toInt + y_350.toInt + 230 ∧ 60 * y_213.toInt + y_350.toInt + 230 ≤ 469 := by
                          have g_382 := z_rng x1
                          have g_383 := z_rng y_213
                          have g_384 := z_rng y_350
                          omega
                        have hid_hr_378 : (x1.toInt + 60 * y_213.toInt + y_350.toInt + 230) = x1.toInt + (60 * y_213.toInt + y_350.toInt + 230) := by simp only [Int.add_assoc, Int.add_sub_assoc]
                        have hr_378 := z_cell (lo := 170) (hi := 469) hp0 hi_hr_378 hid_hr_378 hl_hr_378 (by decide)
                        replace hid_hr_378 : zEq (x1.toInt + 60 * y_213.toInt + y_350.toInt + 230) (x1.toInt + (60 * y_213.toInt + y_350.toInt + 230)) := hid_hr_378
                        have hin_385 : vp_in x_377 (zn K (zr K a0 0)) := vp_in_iff.mpr (by rw [(hf_1.2.2 (by decide))]; exact hr_378.in)
                        refine mld_40 C hs hP hf_1.1 hf_1.2.1 hin_385 dX12_isEnd_110 ?_
                        have ep_386 : x_377.toNatClampNeg = (x1.toInt + 60 * y_213.toInt + y_350.toInt + 230).toNat := z_posE hi_hr_378
                        rw [ep_386]
                        have tv_387 := rv_170 hT hr_378
                        rw [ep_386] at tv_387
                        refine lv_iadd hx hb dX12_isEnd_111 ?_
                        refine lv_topi (fun x_388 ex_388 => ?_)
                        have hi_hr_389 : zEq x_388.toInt (x1.toInt + (A 40 (x1.toInt + 60 * y_213.toInt + y_350.toInt + 230).toNat).toInt + 50) := by
                          have g_390 := z_rng x1
                          obtain ⟨f_373, l_373, u_373⟩ := z_add ex_373 rfl ti_50
                          try replace f_373 : x_373.toInt = x1.toInt + 50 := by omega
                          clear l_373 u_373
                          have g_391 := z_rng (A 40 (x1.toInt + 60 * y_213.toInt + y_350.toInt + 230).toNat)
                          obtain ⟨f_388, l_388, u_388⟩ := z_add ex_388 rfl rfl
                          try replace f_388 : x_388.toInt = x_373.toInt + (A 40 (x1.toInt + 60 * y_213.toInt + y_350.toInt + 230).toNat).toInt := by omega
                          clear l_388 u_388
                          show x_388.toInt = (x1.toInt + (A 40 (x1.toInt + 60 * y_213.toInt + y_350.toInt + 230).toNat).toInt + 50)
                          omega
                        have hl_hr_389 : 50 ≤ (A 40 (x1.toInt + 60 * y_213.toInt + y_350.toInt + 230).toNat).toInt + 50 ∧ (A 40 (x1.toInt + 60 * y_213.toInt + y_350.toInt + 230).toNat).toInt + 50 ≤ 109 := by
                          have g_392 := z_rng x1
                          have g_393 := z_rng (A 40 (x1.toInt + 60 * y_213.toInt + y_350.toInt + 230).toNat)
                          omega
                        have hid_hr_389 : (x1.toInt + (A 40 (x1.toInt + 60 * y_213.toInt + y_350.toInt + 230).toNat).toInt + 50) = x1.toInt + ((A 40 (x1.toInt + 60 * y_213.toInt + y_350.toInt + 230).toNat).toInt + 50) := by simp only [Int.add_assoc, Int.add_sub_assoc]
                        have hr_389 := z_cell (lo := 45) (hi := 169) hp0 hi_hr_389 hid_hr_389 hl_hr_389 (by decide)
                        replace hid_hr_389 : zEq (x1.toInt + (A 40 (x1.toInt + 60 * y_213.toInt + y_350.toInt + 230).toNat).toInt + 50) (x1.toInt + ((A 40 (x1.toInt + 60 * y_213.toInt + y_350.toInt + 230).toNat).toInt + 50)) := hid_hr_389
                        have hin_394 : vp_in x_388 (zn K (zr K a0 0)) := vp_in_iff.mpr (by rw [(hf_1.2.2 (by decide))]; exact hr_389.in)
                        refine mld_40 C hs hP hf_1.1 hf_1.2.1 hin_394 dX12_isEnd_112 ?_
                        have ep_395 : x_388.toNatClampNeg = (x1.toInt + (A 40 (x1.toInt + 60 * y_213.toInt + y_350.toInt + 230).toNat).toInt + 50).toNat := z_posE hi_hr_389
                        rw [ep_395]
                        refine lv_iconst (v := 3) hx hb dX12_isEnd_113 (by decide) ?_
                        refine bi_eq (tgt := 121) hx hb rfl ti_3 dX12_isEnd_114 (by decide) (fun c_396 => ?_) (fun c_396 => ?_)
                        · skip
                          refine lv_iconst (v := 0) hx hb dX12_isEnd_121 (by decide) ?_
                          refine lv_istore_n (lv' := [(2, .int 0), (4, .int y_350), (3, .int y_213), (0, .ref a0), (1, .int x1)]) hx hb dX12_isEnd_122 rfl hl (by decide) rfl (fun ls hl => ?_)
                          obtain ⟨x_397, ex_397⟩ : ∃ y : Int32, y = y_350 + 1 := ⟨_, rfl⟩
                          refine lv_iinc (v := x_397) (lv' := [(4, .int x_397), (2, .int 0), (3, .int y_213), (0, .ref a0), (1, .int x1)]) hx hb dX12_isEnd_123 hl (k := 1) rfl (by rw [ex_397]; rfl) (by decide) rfl (fun ls hl => ?_)
                          refine lv_goto (tgt := 65) hx hb dX12_isEnd_126 (by decide) ?_
                          have g_398 := z_rng y_350
                          obtain ⟨f_397, l_397, u_397⟩ := z_add ex_397 rfl ti_1
                          try replace f_397 : x_397.toInt = y_350.toInt + 1 := by omega
                          clear l_397 u_397
                          have g_399 := z_rng (A 40 (x1.toInt + (A 40 (x1.toInt + 60 * y_213.toInt + y_350.toInt + 230).toNat).toInt + 50).toNat)
                          have g_400 := z_rng (A 40 (x1.toInt + y_213.toInt + 22).toNat)
                          have g_401 := z_rng y_351
                          exact ih_352 x_397 0 _ (by omega) (Or.inl rfl) (by (try simp only [ti_0]); omega) (fun h9 => by rw [ti_0] at h9; omega) (lv_sub hl [0, 1, 2, 3, 4] rfl)
                        · skip
                          refine lv_iconst (v := 1) hx hb dX12_isEnd_117 (by decide) ?_
                          refine lv_goto (tgt := 122) hx hb dX12_isEnd_118 (by decide) ?_
                          refine lv_istore_n (lv' := [(2, .int 1), (4, .int y_350), (3, .int y_213), (0, .ref a0), (1, .int x1)]) hx hb dX12_isEnd_122 rfl hl (by decide) rfl (fun ls hl => ?_)
                          obtain ⟨x_402, ex_402⟩ : ∃ y : Int32, y = y_350 + 1 := ⟨_, rfl⟩
                          refine lv_iinc (v := x_402) (lv' := [(4, .int x_402), (2, .int 1), (3, .int y_213), (0, .ref a0), (1, .int x1)]) hx hb dX12_isEnd_123 hl (k := 1) rfl (by rw [ex_402]; rfl) (by decide) rfl (fun ls hl => ?_)
                          refine lv_goto (tgt := 65) hx hb dX12_isEnd_126 (by decide) ?_
                          have g_403 := z_rng y_350
                          obtain ⟨f_402, l_402, u_402⟩ := z_add ex_402 rfl ti_1
                          try replace f_402 : x_402.toInt = y_350.toInt + 1 := by omega
                          clear l_402 u_402
                          have g_404 := z_rng (A 40 (x1.toInt + (A 40 (x1.toInt + 60 * y_213.toInt + y_350.toInt + 230).toNat).toInt + 50).toNat)
                          have g_405 := z_rng (A 40 (x1.toInt + y_213.toInt + 22).toNat)
                          have g_406 := z_rng y_351
                          exact ih_352 x_402 1 _ (by omega) (Or.inr rfl) (by (try simp only [ti_1]); omega) (fun _ => iv_353_1 c_354) (lv_sub hl [0, 1, 2, 3, 4] rfl)
                have g_407 := z_rng (A 40 (x1.toInt + y_213.toInt + 22).toNat)
                have g_408 := z_rng y_213
                have g_409 := z_rng y_214
                exact L_65_352 _ 0 1 _ (Nat.lt_succ_self _) (Or.inr rfl) (by (try simp only [ti_0, ti_1]); omega) (fun _ => ⟨(iv_216_2 c_218).1, (iv_216_2 c_218).2, by omega⟩) (lv_sub hl [0, 1, 2, 3, 4] rfl)
      have g_410 := z_rng (A 40 (x1.toInt + 26).toNat)
      have g_411 := z_rng (A 40 (x1.toInt + 5).toNat)
      exact L_32_215 _ 0 0 _ (Nat.lt_succ_self _) (Or.inl rfl) (by (try simp only [ti_0]); omega) (by rw [ti_0]; omega) (fun h9 => by rw [ti_0] at h9; omega) (lv_sub hl [0, 1, 2, 3] rfl)
    · skip
      refine lv_iconst (v := 1) hx hb dX12_isEnd_24 (by decide) ?_
      refine lv_goto (tgt := 29) hx hb dX12_isEnd_25 (by decide) ?_
      refine lv_istore_n (lv' := [(2, .int 1), (0, .ref a0), (1, .int x1)]) hx hb dX12_isEnd_29 rfl hl (by decide) rfl (fun ls hl => ?_)
      refine lv_iconst (v := 0) hx hb dX12_isEnd_30 (by decide) ?_
      refine lv_istore_n (lv' := [(3, .int 0), (2, .int 1), (0, .ref a0), (1, .int x1)]) hx hb dX12_isEnd_31 rfl hl (by decide) rfl (fun ls hl => ?_)
      have L_32_414 : ∀ (n_414 : Nat) (y_412 : Int32) (y_413 : Int32) (ls : Array Slot), (2147483648 - y_412.toInt).toNat < n_414 → (y_413 = 0 ∨ y_413 = 1) → 0 ≤ y_412.toInt → y_412.toInt ≤ 4 → (y_413.toInt ≠ 0 → (A 40 (x1.toInt + 5).toNat).toInt = 1 ∧ h4 (A 40) x1.toInt y_412.toInt) → lv_has ls 5 [(3, .int y_412), (2, .int y_413), (0, .ref a0), (1, .int x1)] → W p l e (rmd 0) s m args below meth c s.heap [] 0 0 Q (F0 m 32 ls []) := by
        intro n_414
        induction n_414 with
        | zero => intro y_412 y_413 ls hm_414; exact absurd hm_414 (Nat.not_lt_zero _)
        | succ n_414 ih_414 =>
          intro y_412 y_413 ls hm_414 hb_y_413 iv_415_0 iv_415_1 iv_415_2 hl
          refine lv_iload_n hx hb dX12_isEnd_32 rfl (lv_at hl 0 rfl) ?_
          refine lv_iconst (v := 4) hx hb dX12_isEnd_33 (by decide) ?_
          refine bi_ge (tgt := 135) hx hb rfl ti_4 dX12_isEnd_34 (by decide) (fun c_416 => ?_) (fun c_416 => ?_)
          · skip
            refine lv_iload_n hx hb dX12_isEnd_135 rfl (lv_at hl 1 rfl) ?_
            exact zaSz hQ hx hb hr hlk hb_y_413 ⟨hb_y_413, (fun h9 => ⟨(iv_415_2 h9).1, h4.e (iv_415_2 h9).2 (by omega)⟩)⟩ dX12_isEnd_136
          · skip
            refine lv_iload_n hx hb dX12_isEnd_37 rfl (lv_at hl 1 rfl) ?_
            refine bz_eq (tgt := 60) hx hb rfl dX12_isEnd_38 (by decide) (fun c_417 => ?_) (fun c_417 => ?_)
            · skip
              refine lv_iconst (v := 0) hx hb dX12_isEnd_60 (by decide) ?_
              refine lv_istore_n (lv' := [(2, .int 0), (3, .int y_412), (0, .ref a0), (1, .int x1)]) hx hb dX12_isEnd_61 rfl hl (by decide) rfl (fun ls hl => ?_)
              refine lv_iconst (v := 0) hx hb dX12_isEnd_62 (by decide) ?_
              refine lv_istore (lv' := [(4, .int 0), (2, .int 0), (3, .int y_412), (0, .ref a0), (1, .int x1)]) hx hb dX12_isEnd_63 hl (by decide) rfl (fun ls hl => ?_)
              have L_65_420 : ∀ (n_420 : Nat) (y_418 : Int32) (y_419 : Int32) (ls : Array Slot), (2147483648 - y_418.toInt).toNat < n_420 → (y_419 = 0 ∨ y_419 = 1) → 0 ≤ y_418.toInt → (y_419.toInt ≠ 0 → (A 40 (x1.toInt + 5).toNat).toInt = 1 ∧ h4 (A 40) x1.toInt y_412.toInt ∧ (A 40 (x1.toInt + y_412.toInt + 22).toNat).toInt ≤ 4) → lv_has ls 5 [(4, .int y_418), (2, .int y_419), (3, .int y_412), (0, .ref a0), (1, .int x1)] → W p l e (rmd 0) s m args below meth c s.heap [] 0 0 Q (F0 m 65 ls []) := by
                intro n_420
                induction n_420 with
                | zero => intro y_418 y_419 ls hm_420; exact absurd hm_420 (Nat.not_lt_zero _)
                | succ n_420 ih_420 =>
                  intro y_418 y_419 ls hm_420 hb_y_419 iv_421_0 iv_421_1 hl
                  refine lv_iload_n hx hb dX12_isEnd_65 rfl (lv_at hl 1 rfl) ?_
                  refine bz_eq (tgt := 129) hx hb rfl dX12_isEnd_66 (by decide) (fun c_422 => ?_) (fun c_422 => ?_)
                  · skip
                    obtain ⟨x_423, ex_423⟩ : ∃ y : Int32, y = y_412 + 1 := ⟨_, rfl⟩
                    refine lv_iinc (v := x_423) (lv' := [(3, .int x_423), (4, .int y_418), (2, .int y_419), (0, .ref a0), (1, .int x1)]) hx hb dX12_isEnd_129 hl (k := 2) rfl (by rw [ex_423]; rfl) (by decide) rfl (fun ls hl => ?_)
                    refine lv_goto (tgt := 32) hx hb dX12_isEnd_132 (by decide) ?_
                    have g_424 := z_rng y_412
                    obtain ⟨f_423, l_423, u_423⟩ := z_add ex_423 rfl ti_1
                    try replace f_423 : x_423.toInt = y_412.toInt + 1 := by omega
                    clear l_423 u_423
                    have g_425 := z_rng y_419
                    exact ih_414 x_423 y_419 _ (by omega) hb_y_419 (by omega) (by omega) (fun h9 => ⟨(iv_421_1 h9).1, h4.s (iv_421_1 h9).2.1 (by omega) (iv_421_1 h9).2.2⟩) (lv_sub hl [0, 2, 3, 4] rfl)
                  · skip
                    refine lv_iload hx hb dX12_isEnd_69 (lv_at hl 0 rfl) ?_
                    refine lv_aload_n hx hb dX12_isEnd_71 rfl (lv_at hl 3 rfl) ?_
                    refine mg_0 C hs hP ha0 hk0 wf_X12_8 dX12_isEnd_72 ?_
                    refine lv_iload_n hx hb dX12_isEnd_75 rfl (lv_at hl 4 rfl) ?_
                    refine lv_bipush (v := 22) hx hb dX12_isEnd_76 (by decide) ?_
                    refine lv_iadd hx hb dX12_isEnd_78 ?_
                    refine lv_topi (fun x_426 ex_426 => ?_)
                    refine lv_iload_n hx hb dX12_isEnd_79 rfl (lv_at hl 2 rfl) ?_
                    refine lv_iadd hx hb dX12_isEnd_80 ?_
                    refine lv_topi (fun x_427 ex_427 => ?_)
                    have hi_hr_428 : zEq x_427.toInt (x1.toInt + y_412.toInt + 22) := by
                      have g_429 := z_rng x1
                      obtain ⟨f_426, l_426, u_426⟩ := z_add ex_426 rfl ti_22
                      try replace f_426 : x_426.toInt = x1.toInt + 22 := by omega
                      clear l_426 u_426
                      have g_430 := z_rng y_412
                      obtain ⟨f_427, l_427, u_427⟩ := z_add ex_427 rfl rfl
                      try replace f_427 : x_427.toInt = x_426.toInt + y_412.toInt := by omega
                      clear l_427 u_427
                      show x_427.toInt = (x1.toInt + y_412.toInt + 22)
                      omega
                    have hl_hr_428 : 22 ≤ y_412.toInt + 22 ∧ y_412.toInt + 22 ≤ 25 := by
                      have g_431 := z_rng x1
                      have g_432 := z_rng y_412
                      omega
                    have hid_hr_428 : (x1.toInt + y_412.toInt + 22) = x1.toInt + (y_412.toInt + 22) := by simp only [Int.add_assoc, Int.add_sub_assoc]
                    have hr_428 := z_cell (lo := 22) (hi := 25) hp0 hi_hr_428 hid_hr_428 hl_hr_428 (by decide)
                    replace hid_hr_428 : zEq (x1.toInt + y_412.toInt + 22) (x1.toInt + (y_412.toInt + 22)) := hid_hr_428
                    have hin_433 : vp_in x_427 (zn K (zr K a0 0)) := vp_in_iff.mpr (by rw [(hf_1.2.2 (by decide))]; exact hr_428.in)
                    refine mld_40 C hs hP hf_1.1 hf_1.2.1 hin_433 dX12_isEnd_81 ?_
                    have ep_434 : x_427.toNatClampNeg = (x1.toInt + y_412.toInt + 22).toNat := z_posE hi_hr_428
                    rw [ep_434]
                    have tv_435 := rv_22 hT hr_428
                    rw [ep_434] at tv_435
                    refine bi_ge (tgt := 129) hx hb rfl rfl dX12_isEnd_82 (by decide) (fun c_436 => ?_) (fun c_436 => ?_)
                    · skip
                      obtain ⟨x_437, ex_437⟩ : ∃ y : Int32, y = y_412 + 1 := ⟨_, rfl⟩
                      refine lv_iinc (v := x_437) (lv' := [(3, .int x_437), (4, .int y_418), (2, .int y_419), (0, .ref a0), (1, .int x1)]) hx hb dX12_isEnd_129 hl (k := 2) rfl (by rw [ex_437]; rfl) (by decide) rfl (fun ls hl => ?_)
                      refine lv_goto (tgt := 32) hx hb dX12_isEnd_132 (by decide) ?_
                      have g_438 := z_rng y_412
                      obtain ⟨f_437, l_437, u_437⟩ := z_add ex_437 rfl ti_1
                      try replace f_437 : x_437.toInt = y_412.toInt + 1 := by omega
                      clear l_437 u_437
                      have g_439 := z_rng y_419
                      have g_440 := z_rng (A 40 (x1.toInt + y_412.toInt + 22).toNat)
                      have g_441 := z_rng y_418
                      exact ih_414 x_437 y_419 _ (by omega) hb_y_419 (by omega) (by omega) (fun h9 => ⟨(iv_421_1 h9).1, h4.s (iv_421_1 h9).2.1 (by omega) (iv_421_1 h9).2.2⟩) (lv_sub hl [0, 2, 3, 4] rfl)
                    · skip
                      refine lv_aload_n hx hb dX12_isEnd_85 rfl (lv_at hl 3 rfl) ?_
                      refine mg_0 C hs hP ha0 hk0 wf_X12_8 dX12_isEnd_86 ?_
                      refine lv_iload_n hx hb dX12_isEnd_89 rfl (lv_at hl 4 rfl) ?_
                      refine lv_bipush (v := 50) hx hb dX12_isEnd_90 (by decide) ?_
                      refine lv_iadd hx hb dX12_isEnd_92 ?_
                      refine lv_topi (fun x_442 ex_442 => ?_)
                      refine lv_aload_n hx hb dX12_isEnd_93 rfl (lv_at hl 3 rfl) ?_
                      refine mg_0 C hs hP ha0 hk0 wf_X12_8 dX12_isEnd_94 ?_
                      refine lv_iload_n hx hb dX12_isEnd_97 rfl (lv_at hl 4 rfl) ?_
                      refine lv_sipush (v := 230) hx hb dX12_isEnd_98 (by decide) ?_
                      refine lv_iadd hx hb dX12_isEnd_101 ?_
                      refine lv_topi (fun x_443 ex_443 => ?_)
                      refine lv_bipush (v := 60) hx hb dX12_isEnd_102 (by decide) ?_
                      refine lv_iload_n hx hb dX12_isEnd_104 rfl (lv_at hl 2 rfl) ?_
                      refine lv_imul hx hb dX12_isEnd_105 ?_
                      refine lv_topi (fun x_444 ex_444 => ?_)
                      refine lv_iadd hx hb dX12_isEnd_106 ?_
                      refine lv_topi (fun x_445 ex_445 => ?_)
                      refine lv_iload hx hb dX12_isEnd_107 (lv_at hl 0 rfl) ?_
                      refine lv_iadd hx hb dX12_isEnd_109 ?_
                      refine lv_topi (fun x_446 ex_446 => ?_)
                      have hi_hr_447 : zEq x_446.toInt (x1.toInt + 60 * y_412.toInt + y_418.toInt + 230) := by
                        have g_448 := z_rng x1
                        obtain ⟨f_443, l_443, u_443⟩ := z_add ex_443 rfl ti_230
                        try replace f_443 : x_443.toInt = x1.toInt + 230 := by omega
                        clear l_443 u_443
                        have g_449 := z_rng y_412
                        obtain ⟨f_444, l_444, u_444⟩ := z_mul ex_444 ti_60 rfl
                        try replace f_444 : x_444.toInt = 60 * y_412.toInt := by omega
                        clear l_444 u_444
                        obtain ⟨f_445, l_445, u_445⟩ := z_add ex_445 rfl rfl
                        try replace f_445 : x_445.toInt = x_443.toInt + x_444.toInt := by omega
                        clear l_445 u_445
                        have g_450 := z_rng y_418
                        obtain ⟨f_446, l_446, u_446⟩ := z_add ex_446 rfl rfl
                        try replace f_446 : x_446.toInt = x_445.toInt + y_418.toInt := by omega
                        clear l_446 u_446
                        show x_446.toInt = (x1.toInt + 60 * y_412.toInt + y_418.toInt + 230)
                        omega
                      have hl_hr_447 : 230 ≤ 60 * y_412.toInt + y_418.toInt + 230 ∧ 60 * y_412.toInt + y_418.toInt + 230 ≤ 469 := by
                        have g_451 := z_rng x1
                        have g_452 := z_rng y_412
                        have g_453 := z_rng y_418
                        omega
                      have hid_hr_447 : (x1.toInt + 60 * y_412.toInt + y_418.toInt + 230) = x1.toInt + (60 * y_412.toInt + y_418.toInt + 230) := by simp only [Int.add_assoc, Int.add_sub_assoc]
                      have hr_447 := z_cell (lo := 170) (hi := 469) hp0 hi_hr_447 hid_hr_447 hl_hr_447 (by decide)
                      replace hid_hr_447 : zEq (x1.toInt + 60 * y_412.toInt + y_418.toInt + 230) (x1.toInt + (60 * y_412.toInt + y_418.toInt + 230)) := hid_hr_447
                      have hin_454 : vp_in x_446 (zn K (zr K a0 0)) := vp_in_iff.mpr (by rw [(hf_1.2.2 (by decide))]; exact hr_447.in)
                      refine mld_40 C hs hP hf_1.1 hf_1.2.1 hin_454 dX12_isEnd_110 ?_
                      have ep_455 : x_446.toNatClampNeg = (x1.toInt + 60 * y_412.toInt + y_418.toInt + 230).toNat := z_posE hi_hr_447
                      rw [ep_455]
                      have tv_456 := rv_170 hT hr_447
                      rw [ep_455] at tv_456
                      refine lv_iadd hx hb dX12_isEnd_111 ?_
                      refine lv_topi (fun x_457 ex_457 => ?_)
                      have hi_hr_458 : zEq x_457.toInt (x1.toInt + (A 40 (x1.toInt + 60 * y_412.toInt + y_418.toInt + 230).toNat).toInt + 50) := by
                        have g_459 := z_rng x1
                        obtain ⟨f_442, l_442, u_442⟩ := z_add ex_442 rfl ti_50
                        try replace f_442 : x_442.toInt = x1.toInt + 50 := by omega
                        clear l_442 u_442
                        have g_460 := z_rng (A 40 (x1.toInt + 60 * y_412.toInt + y_418.toInt + 230).toNat)
                        obtain ⟨f_457, l_457, u_457⟩ := z_add ex_457 rfl rfl
                        try replace f_457 : x_457.toInt = x_442.toInt + (A 40 (x1.toInt + 60 * y_412.toInt + y_418.toInt + 230).toNat).toInt := by omega
                        clear l_457 u_457
                        show x_457.toInt = (x1.toInt + (A 40 (x1.toInt + 60 * y_412.toInt + y_418.toInt + 230).toNat).toInt + 50)
                        omega
                      have hl_hr_458 : 50 ≤ (A 40 (x1.toInt + 60 * y_412.toInt + y_418.toInt + 230).toNat).toInt + 50 ∧ (A 40 (x1.toInt + 60 * y_412.toInt + y_418.toInt + 230).toNat).toInt + 50 ≤ 109 := by
                        have g_461 := z_rng x1
                        have g_462 := z_rng (A 40 (x1.toInt + 60 * y_412.toInt + y_418.toInt + 230).toNat)
                        omega
                      have hid_hr_458 : (x1.toInt + (A 40 (x1.toInt + 60 * y_412.toInt + y_418.toInt + 230).toNat).toInt + 50) = x1.toInt + ((A 40 (x1.toInt + 60 * y_412.toInt + y_418.toInt + 230).toNat).toInt + 50) := by simp only [Int.add_assoc, Int.add_sub_assoc]
                      have hr_458 := z_cell (lo := 45) (hi := 169) hp0 hi_hr_458 hid_hr_458 hl_hr_458 (by decide)
                      replace hid_hr_458 : zEq (x1.toInt + (A 40 (x1.toInt + 60 * y_412.toInt + y_418.toInt + 230).toNat).toInt + 50) (x1.toInt + ((A 40 (x1.toInt + 60 * y_412.toInt + y_418.toInt + 230).toNat).toInt + 50)) := hid_hr_458
                      have hin_463 : vp_in x_457 (zn K (zr K a0 0)) := vp_in_iff.mpr (by rw [(hf_1.2.2 (by decide))]; exact hr_458.in)
                      refine mld_40 C hs hP hf_1.1 hf_1.2.1 hin_463 dX12_isEnd_112 ?_
                      have ep_464 : x_457.toNatClampNeg = (x1.toInt + (A 40 (x1.toInt + 60 * y_412.toInt + y_418.toInt + 230).toNat).toInt + 50).toNat := z_posE hi_hr_458
                      rw [ep_464]
                      refine lv_iconst (v := 3) hx hb dX12_isEnd_113 (by decide) ?_
                      refine bi_eq (tgt := 121) hx hb rfl ti_3 dX12_isEnd_114 (by decide) (fun c_465 => ?_) (fun c_465 => ?_)
                      · skip
                        refine lv_iconst (v := 0) hx hb dX12_isEnd_121 (by decide) ?_
                        refine lv_istore_n (lv' := [(2, .int 0), (4, .int y_418), (3, .int y_412), (0, .ref a0), (1, .int x1)]) hx hb dX12_isEnd_122 rfl hl (by decide) rfl (fun ls hl => ?_)
                        obtain ⟨x_466, ex_466⟩ : ∃ y : Int32, y = y_418 + 1 := ⟨_, rfl⟩
                        refine lv_iinc (v := x_466) (lv' := [(4, .int x_466), (2, .int 0), (3, .int y_412), (0, .ref a0), (1, .int x1)]) hx hb dX12_isEnd_123 hl (k := 1) rfl (by rw [ex_466]; rfl) (by decide) rfl (fun ls hl => ?_)
                        refine lv_goto (tgt := 65) hx hb dX12_isEnd_126 (by decide) ?_
                        have g_467 := z_rng y_418
                        obtain ⟨f_466, l_466, u_466⟩ := z_add ex_466 rfl ti_1
                        try replace f_466 : x_466.toInt = y_418.toInt + 1 := by omega
                        clear l_466 u_466
                        have g_468 := z_rng (A 40 (x1.toInt + (A 40 (x1.toInt + 60 * y_412.toInt + y_418.toInt + 230).toNat).toInt + 50).toNat)
                        have g_469 := z_rng (A 40 (x1.toInt + y_412.toInt + 22).toNat)
                        have g_470 := z_rng y_419
                        exact ih_420 x_466 0 _ (by omega) (Or.inl rfl) (by (try simp only [ti_0]); omega) (fun h9 => by rw [ti_0] at h9; omega) (lv_sub hl [0, 1, 2, 3, 4] rfl)
                      · skip
                        refine lv_iconst (v := 1) hx hb dX12_isEnd_117 (by decide) ?_
                        refine lv_goto (tgt := 122) hx hb dX12_isEnd_118 (by decide) ?_
                        refine lv_istore_n (lv' := [(2, .int 1), (4, .int y_418), (3, .int y_412), (0, .ref a0), (1, .int x1)]) hx hb dX12_isEnd_122 rfl hl (by decide) rfl (fun ls hl => ?_)
                        obtain ⟨x_471, ex_471⟩ : ∃ y : Int32, y = y_418 + 1 := ⟨_, rfl⟩
                        refine lv_iinc (v := x_471) (lv' := [(4, .int x_471), (2, .int 1), (3, .int y_412), (0, .ref a0), (1, .int x1)]) hx hb dX12_isEnd_123 hl (k := 1) rfl (by rw [ex_471]; rfl) (by decide) rfl (fun ls hl => ?_)
                        refine lv_goto (tgt := 65) hx hb dX12_isEnd_126 (by decide) ?_
                        have g_472 := z_rng y_418
                        obtain ⟨f_471, l_471, u_471⟩ := z_add ex_471 rfl ti_1
                        try replace f_471 : x_471.toInt = y_418.toInt + 1 := by omega
                        clear l_471 u_471
                        have g_473 := z_rng (A 40 (x1.toInt + (A 40 (x1.toInt + 60 * y_412.toInt + y_418.toInt + 230).toNat).toInt + 50).toNat)
                        have g_474 := z_rng (A 40 (x1.toInt + y_412.toInt + 22).toNat)
                        have g_475 := z_rng y_419
                        exact ih_420 x_471 1 _ (by omega) (Or.inr rfl) (by (try simp only [ti_1]); omega) (fun _ => iv_421_1 c_422) (lv_sub hl [0, 1, 2, 3, 4] rfl)
              have g_476 := z_rng y_412
              have g_477 := z_rng y_413
              exact L_65_420 _ 0 0 _ (Nat.lt_succ_self _) (Or.inl rfl) (by (try simp only [ti_0]); omega) (fun h9 => by rw [ti_0] at h9; omega) (lv_sub hl [0, 1, 2, 3, 4] rfl)
            · skip
              refine lv_aload_n hx hb dX12_isEnd_41 rfl (lv_at hl 2 rfl) ?_
              refine mg_0 C hs hP ha0 hk0 wf_X12_8 dX12_isEnd_42 ?_
              refine lv_iload_n hx hb dX12_isEnd_45 rfl (lv_at hl 3 rfl) ?_
              refine lv_bipush (v := 22) hx hb dX12_isEnd_46 (by decide) ?_
              refine lv_iadd hx hb dX12_isEnd_48 ?_
              refine lv_topi (fun x_478 ex_478 => ?_)
              refine lv_iload_n hx hb dX12_isEnd_49 rfl (lv_at hl 0 rfl) ?_
              refine lv_iadd hx hb dX12_isEnd_50 ?_
              refine lv_topi (fun x_479 ex_479 => ?_)
              have hi_hr_480 : zEq x_479.toInt (x1.toInt + y_412.toInt + 22) := by
                have g_481 := z_rng x1
                obtain ⟨f_478, l_478, u_478⟩ := z_add ex_478 rfl ti_22
                try replace f_478 : x_478.toInt = x1.toInt + 22 := by omega
                clear l_478 u_478
                have g_482 := z_rng y_412
                obtain ⟨f_479, l_479, u_479⟩ := z_add ex_479 rfl rfl
                try replace f_479 : x_479.toInt = x_478.toInt + y_412.toInt := by omega
                clear l_479 u_479
                show x_479.toInt = (x1.toInt + y_412.toInt + 22)
                omega
              have hl_hr_480 : 22 ≤ y_412.toInt + 22 ∧ y_412.toInt + 22 ≤ 25 := by
                have g_483 := z_rng x1
                have g_484 := z_rng y_412
                omega
              have hid_hr_480 : (x1.toInt + y_412.toInt + 22) = x1.toInt + (y_412.toInt + 22) := by simp only [Int.add_assoc, Int.add_sub_assoc]
              have hr_480 := z_cell (lo := 22) (hi := 25) hp0 hi_hr_480 hid_hr_480 hl_hr_480 (by decide)
              replace hid_hr_480 : zEq (x1.toInt + y_412.toInt + 22) (x1.toInt + (y_412.toInt + 22)) := hid_hr_480
              have hin_485 : vp_in x_479 (zn K (zr K a0 0)) := vp_in_iff.mpr (by rw [(hf_1.2.2 (by decide))]; exact hr_480.in)
              refine mld_40 C hs hP hf_1.1 hf_1.2.1 hin_485 dX12_isEnd_51 ?_
              have ep_486 : x_479.toNatClampNeg = (x1.toInt + y_412.toInt + 22).toNat := z_posE hi_hr_480
              rw [ep_486]
              have tv_487 := rv_22 hT hr_480
              rw [ep_486] at tv_487
              refine lv_iconst (v := 4) hx hb dX12_isEnd_52 (by decide) ?_
              refine bi_gt (tgt := 60) hx hb rfl ti_4 dX12_isEnd_53 (by decide) (fun c_488 => ?_) (fun c_488 => ?_)
              · skip
                refine lv_iconst (v := 0) hx hb dX12_isEnd_60 (by decide) ?_
                refine lv_istore_n (lv' := [(2, .int 0), (3, .int y_412), (0, .ref a0), (1, .int x1)]) hx hb dX12_isEnd_61 rfl hl (by decide) rfl (fun ls hl => ?_)
                refine lv_iconst (v := 0) hx hb dX12_isEnd_62 (by decide) ?_
                refine lv_istore (lv' := [(4, .int 0), (2, .int 0), (3, .int y_412), (0, .ref a0), (1, .int x1)]) hx hb dX12_isEnd_63 hl (by decide) rfl (fun ls hl => ?_)
                have L_65_491 : ∀ (n_491 : Nat) (y_489 : Int32) (y_490 : Int32) (ls : Array Slot), (2147483648 - y_489.toInt).toNat < n_491 → (y_490 = 0 ∨ y_490 = 1) → 0 ≤ y_489.toInt → (y_490.toInt ≠ 0 → (A 40 (x1.toInt + 5).toNat).toInt = 1 ∧ h4 (A 40) x1.toInt y_412.toInt ∧ (A 40 (x1.toInt + y_412.toInt + 22).toNat).toInt ≤ 4) → lv_has ls 5 [(4, .int y_489), (2, .int y_490), (3, .int y_412), (0, .ref a0), (1, .int x1)] → W p l e (rmd 0) s m args below meth c s.heap [] 0 0 Q (F0 m 65 ls []) := by
                  intro n_491
                  induction n_491 with
                  | zero => intro y_489 y_490 ls hm_491; exact absurd hm_491 (Nat.not_lt_zero _)
                  | succ n_491 ih_491 =>
                    intro y_489 y_490 ls hm_491 hb_y_490 iv_492_0 iv_492_1 hl
                    refine lv_iload_n hx hb dX12_isEnd_65 rfl (lv_at hl 1 rfl) ?_
                    refine bz_eq (tgt := 129) hx hb rfl dX12_isEnd_66 (by decide) (fun c_493 => ?_) (fun c_493 => ?_)
                    · skip
                      obtain ⟨x_494, ex_494⟩ : ∃ y : Int32, y = y_412 + 1 := ⟨_, rfl⟩
                      refine lv_iinc (v := x_494) (lv' := [(3, .int x_494), (4, .int y_489), (2, .int y_490), (0, .ref a0), (1, .int x1)]) hx hb dX12_isEnd_129 hl (k := 2) rfl (by rw [ex_494]; rfl) (by decide) rfl (fun ls hl => ?_)
                      refine lv_goto (tgt := 32) hx hb dX12_isEnd_132 (by decide) ?_
                      have g_495 := z_rng y_412
                      obtain ⟨f_494, l_494, u_494⟩ := z_add ex_494 rfl ti_1
                      try replace f_494 : x_494.toInt = y_412.toInt + 1 := by omega
                      clear l_494 u_494
                      have g_496 := z_rng y_490
                      exact ih_414 x_494 y_490 _ (by omega) hb_y_490 (by omega) (by omega) (fun h9 => ⟨(iv_492_1 h9).1, h4.s (iv_492_1 h9).2.1 (by omega) (iv_492_1 h9).2.2⟩) (lv_sub hl [0, 2, 3, 4] rfl)
                    · skip
                      refine lv_iload hx hb dX12_isEnd_69 (lv_at hl 0 rfl) ?_
                      refine lv_aload_n hx hb dX12_isEnd_71 rfl (lv_at hl 3 rfl) ?_
                      refine mg_0 C hs hP ha0 hk0 wf_X12_8 dX12_isEnd_72 ?_
                      refine lv_iload_n hx hb dX12_isEnd_75 rfl (lv_at hl 4 rfl) ?_
                      refine lv_bipush (v := 22) hx hb dX12_isEnd_76 (by decide) ?_
                      refine lv_iadd hx hb dX12_isEnd_78 ?_
                      refine lv_topi (fun x_497 ex_497 => ?_)
                      refine lv_iload_n hx hb dX12_isEnd_79 rfl (lv_at hl 2 rfl) ?_
                      refine lv_iadd hx hb dX12_isEnd_80 ?_
                      refine lv_topi (fun x_498 ex_498 => ?_)
                      have hi_hr_499 : zEq x_498.toInt (x1.toInt + y_412.toInt + 22) := by
                        have g_500 := z_rng x1
                        obtain ⟨f_497, l_497, u_497⟩ := z_add ex_497 rfl ti_22
                        try replace f_497 : x_497.toInt = x1.toInt + 22 := by omega
                        clear l_497 u_497
                        have g_501 := z_rng y_412
                        obtain ⟨f_498, l_498, u_498⟩ := z_add ex_498 rfl rfl
                        try replace f_498 : x_498.toInt = x_497.toInt + y_412.toInt := by omega
                        clear l_498 u_498
                        show x_498.toInt = (x1.toInt + y_412.toInt + 22)
                        omega
                      have hl_hr_499 : 22 ≤ y_412.toInt + 22 ∧ y_412.toInt + 22 ≤ 25 := by
                        have g_502 := z_rng x1
                        have g_503 := z_rng y_412
                        omega
                      have hid_hr_499 : (x1.toInt + y_412.toInt + 22) = x1.toInt + (y_412.toInt + 22) := by simp only [Int.add_assoc, Int.add_sub_assoc]
                      have hr_499 := z_cell (lo := 22) (hi := 25) hp0 hi_hr_499 hid_hr_499 hl_hr_499 (by decide)
                      replace hid_hr_499 : zEq (x1.toInt + y_412.toInt + 22) (x1.toInt + (y_412.toInt + 22)) := hid_hr_499
                      have hin_504 : vp_in x_498 (zn K (zr K a0 0)) := vp_in_iff.mpr (by rw [(hf_1.2.2 (by decide))]; exact hr_499.in)
                      refine mld_40 C hs hP hf_1.1 hf_1.2.1 hin_504 dX12_isEnd_81 ?_
                      have ep_505 : x_498.toNatClampNeg = (x1.toInt + y_412.toInt + 22).toNat := z_posE hi_hr_499
                      rw [ep_505]
                      refine bi_ge (tgt := 129) hx hb rfl rfl dX12_isEnd_82 (by decide) (fun c_506 => ?_) (fun c_506 => ?_)
                      · skip
                        obtain ⟨x_507, ex_507⟩ : ∃ y : Int32, y = y_412 + 1 := ⟨_, rfl⟩
                        refine lv_iinc (v := x_507) (lv' := [(3, .int x_507), (4, .int y_489), (2, .int y_490), (0, .ref a0), (1, .int x1)]) hx hb dX12_isEnd_129 hl (k := 2) rfl (by rw [ex_507]; rfl) (by decide) rfl (fun ls hl => ?_)
                        refine lv_goto (tgt := 32) hx hb dX12_isEnd_132 (by decide) ?_
                        have g_508 := z_rng y_412
                        obtain ⟨f_507, l_507, u_507⟩ := z_add ex_507 rfl ti_1
                        try replace f_507 : x_507.toInt = y_412.toInt + 1 := by omega
                        clear l_507 u_507
                        have g_509 := z_rng y_490
                        have g_510 := z_rng (A 40 (x1.toInt + y_412.toInt + 22).toNat)
                        have g_511 := z_rng y_489
                        exact ih_414 x_507 y_490 _ (by omega) hb_y_490 (by omega) (by omega) (fun h9 => ⟨(iv_492_1 h9).1, h4.s (iv_492_1 h9).2.1 (by omega) (iv_492_1 h9).2.2⟩) (lv_sub hl [0, 2, 3, 4] rfl)
                      · skip
                        refine lv_aload_n hx hb dX12_isEnd_85 rfl (lv_at hl 3 rfl) ?_
                        refine mg_0 C hs hP ha0 hk0 wf_X12_8 dX12_isEnd_86 ?_
                        refine lv_iload_n hx hb dX12_isEnd_89 rfl (lv_at hl 4 rfl) ?_
                        refine lv_bipush (v := 50) hx hb dX12_isEnd_90 (by decide) ?_
                        refine lv_iadd hx hb dX12_isEnd_92 ?_
                        refine lv_topi (fun x_512 ex_512 => ?_)
                        refine lv_aload_n hx hb dX12_isEnd_93 rfl (lv_at hl 3 rfl) ?_
                        refine mg_0 C hs hP ha0 hk0 wf_X12_8 dX12_isEnd_94 ?_
                        refine lv_iload_n hx hb dX12_isEnd_97 rfl (lv_at hl 4 rfl) ?_
                        refine lv_sipush (v := 230) hx hb dX12_isEnd_98 (by decide) ?_
                        refine lv_iadd hx hb dX12_isEnd_101 ?_
                        refine lv_topi (fun x_513 ex_513 => ?_)
                        refine lv_bipush (v := 60) hx hb dX12_isEnd_102 (by decide) ?_
                        refine lv_iload_n hx hb dX12_isEnd_104 rfl (lv_at hl 2 rfl) ?_
                        refine lv_imul hx hb dX12_isEnd_105 ?_
                        refine lv_topi (fun x_514 ex_514 => ?_)
                        refine lv_iadd hx hb dX12_isEnd_106 ?_
                        refine lv_topi (fun x_515 ex_515 => ?_)
                        refine lv_iload hx hb dX12_isEnd_107 (lv_at hl 0 rfl) ?_
                        refine lv_iadd hx hb dX12_isEnd_109 ?_
                        refine lv_topi (fun x_516 ex_516 => ?_)
                        have hi_hr_517 : zEq x_516.toInt (x1.toInt + 60 * y_412.toInt + y_489.toInt + 230) := by
                          have g_518 := z_rng x1
                          obtain ⟨f_513, l_513, u_513⟩ := z_add ex_513 rfl ti_230
                          try replace f_513 : x_513.toInt = x1.toInt + 230 := by omega
                          clear l_513 u_513
                          have g_519 := z_rng y_412
                          obtain ⟨f_514, l_514, u_514⟩ := z_mul ex_514 ti_60 rfl
                          try replace f_514 : x_514.toInt = 60 * y_412.toInt := by omega
                          clear l_514 u_514
                          obtain ⟨f_515, l_515, u_515⟩ := z_add ex_515 rfl rfl
                          try replace f_515 : x_515.toInt = x_513.toInt + x_514.toInt := by omega
                          clear l_515 u_515
                          have g_520 := z_rng y_489
                          obtain ⟨f_516, l_516, u_516⟩ := z_add ex_516 rfl rfl
                          try replace f_516 : x_516.toInt = x_515.toInt + y_489.toInt := by omega
                          clear l_516 u_516
                          show x_516.toInt = (x1.toInt + 60 * y_412.toInt + y_489.toInt + 230)
                          omega
                        have hl_hr_517 : 230 ≤ 60 * y_412.toInt + y_489.toInt + 230 ∧ 60 * y_412.toInt + y_489.toInt + 230 ≤ 469 := by
                          have g_521 := z_rng x1
                          have g_522 := z_rng y_412
                          have g_523 := z_rng y_489
                          omega
                        have hid_hr_517 : (x1.toInt + 60 * y_412.toInt + y_489.toInt + 230) = x1.toInt + (60 * y_412.toInt + y_489.toInt + 230) := by simp only [Int.add_assoc, Int.add_sub_assoc]
                        have hr_517 := z_cell (lo := 170) (hi := 469) hp0 hi_hr_517 hid_hr_517 hl_hr_517 (by decide)
                        replace hid_hr_517 : zEq (x1.toInt + 60 * y_412.toInt + y_489.toInt + 230) (x1.toInt + (60 * y_412.toInt + y_489.toInt + 230)) := hid_hr_517
                        have hin_524 : vp_in x_516 (zn K (zr K a0 0)) := vp_in_iff.mpr (by rw [(hf_1.2.2 (by decide))]; exact hr_517.in)
                        refine mld_40 C hs hP hf_1.1 hf_1.2.1 hin_524 dX12_isEnd_110 ?_
                        have ep_525 : x_516.toNatClampNeg = (x1.toInt + 60 * y_412.toInt + y_489.toInt + 230).toNat := z_posE hi_hr_517
                        rw [ep_525]
                        have tv_526 := rv_170 hT hr_517
                        rw [ep_525] at tv_526
                        refine lv_iadd hx hb dX12_isEnd_111 ?_
                        refine lv_topi (fun x_527 ex_527 => ?_)
                        have hi_hr_528 : zEq x_527.toInt (x1.toInt + (A 40 (x1.toInt + 60 * y_412.toInt + y_489.toInt + 230).toNat).toInt + 50) := by
                          have g_529 := z_rng x1
                          obtain ⟨f_512, l_512, u_512⟩ := z_add ex_512 rfl ti_50
                          try replace f_512 : x_512.toInt = x1.toInt + 50 := by omega
                          clear l_512 u_512
                          have g_530 := z_rng (A 40 (x1.toInt + 60 * y_412.toInt + y_489.toInt + 230).toNat)
                          obtain ⟨f_527, l_527, u_527⟩ := z_add ex_527 rfl rfl
                          try replace f_527 : x_527.toInt = x_512.toInt + (A 40 (x1.toInt + 60 * y_412.toInt + y_489.toInt + 230).toNat).toInt := by omega
                          clear l_527 u_527
                          show x_527.toInt = (x1.toInt + (A 40 (x1.toInt + 60 * y_412.toInt + y_489.toInt + 230).toNat).toInt + 50)
                          omega
                        have hl_hr_528 : 50 ≤ (A 40 (x1.toInt + 60 * y_412.toInt + y_489.toInt + 230).toNat).toInt + 50 ∧ (A 40 (x1.toInt + 60 * y_412.toInt + y_489.toInt + 230).toNat).toInt + 50 ≤ 109 := by
                          have g_531 := z_rng x1
                          have g_532 := z_rng (A 40 (x1.toInt + 60 * y_412.toInt + y_489.toInt + 230).toNat)
                          omega
                        have hid_hr_528 : (x1.toInt + (A 40 (x1.toInt + 60 * y_412.toInt + y_489.toInt + 230).toNat).toInt + 50) = x1.toInt + ((A 40 (x1.toInt + 60 * y_412.toInt + y_489.toInt + 230).toNat).toInt + 50) := by simp only [Int.add_assoc, Int.add_sub_assoc]
                        have hr_528 := z_cell (lo := 45) (hi := 169) hp0 hi_hr_528 hid_hr_528 hl_hr_528 (by decide)
                        replace hid_hr_528 : zEq (x1.toInt + (A 40 (x1.toInt + 60 * y_412.toInt + y_489.toInt + 230).toNat).toInt + 50) (x1.toInt + ((A 40 (x1.toInt + 60 * y_412.toInt + y_489.toInt + 230).toNat).toInt + 50)) := hid_hr_528
                        have hin_533 : vp_in x_527 (zn K (zr K a0 0)) := vp_in_iff.mpr (by rw [(hf_1.2.2 (by decide))]; exact hr_528.in)
                        refine mld_40 C hs hP hf_1.1 hf_1.2.1 hin_533 dX12_isEnd_112 ?_
                        have ep_534 : x_527.toNatClampNeg = (x1.toInt + (A 40 (x1.toInt + 60 * y_412.toInt + y_489.toInt + 230).toNat).toInt + 50).toNat := z_posE hi_hr_528
                        rw [ep_534]
                        refine lv_iconst (v := 3) hx hb dX12_isEnd_113 (by decide) ?_
                        refine bi_eq (tgt := 121) hx hb rfl ti_3 dX12_isEnd_114 (by decide) (fun c_535 => ?_) (fun c_535 => ?_)
                        · skip
                          refine lv_iconst (v := 0) hx hb dX12_isEnd_121 (by decide) ?_
                          refine lv_istore_n (lv' := [(2, .int 0), (4, .int y_489), (3, .int y_412), (0, .ref a0), (1, .int x1)]) hx hb dX12_isEnd_122 rfl hl (by decide) rfl (fun ls hl => ?_)
                          obtain ⟨x_536, ex_536⟩ : ∃ y : Int32, y = y_489 + 1 := ⟨_, rfl⟩
                          refine lv_iinc (v := x_536) (lv' := [(4, .int x_536), (2, .int 0), (3, .int y_412), (0, .ref a0), (1, .int x1)]) hx hb dX12_isEnd_123 hl (k := 1) rfl (by rw [ex_536]; rfl) (by decide) rfl (fun ls hl => ?_)
                          refine lv_goto (tgt := 65) hx hb dX12_isEnd_126 (by decide) ?_
                          have g_537 := z_rng y_489
                          obtain ⟨f_536, l_536, u_536⟩ := z_add ex_536 rfl ti_1
                          try replace f_536 : x_536.toInt = y_489.toInt + 1 := by omega
                          clear l_536 u_536
                          have g_538 := z_rng (A 40 (x1.toInt + (A 40 (x1.toInt + 60 * y_412.toInt + y_489.toInt + 230).toNat).toInt + 50).toNat)
                          have g_539 := z_rng (A 40 (x1.toInt + y_412.toInt + 22).toNat)
                          have g_540 := z_rng y_490
                          exact ih_491 x_536 0 _ (by omega) (Or.inl rfl) (by (try simp only [ti_0]); omega) (fun h9 => by rw [ti_0] at h9; omega) (lv_sub hl [0, 1, 2, 3, 4] rfl)
                        · skip
                          refine lv_iconst (v := 1) hx hb dX12_isEnd_117 (by decide) ?_
                          refine lv_goto (tgt := 122) hx hb dX12_isEnd_118 (by decide) ?_
                          refine lv_istore_n (lv' := [(2, .int 1), (4, .int y_489), (3, .int y_412), (0, .ref a0), (1, .int x1)]) hx hb dX12_isEnd_122 rfl hl (by decide) rfl (fun ls hl => ?_)
                          obtain ⟨x_541, ex_541⟩ : ∃ y : Int32, y = y_489 + 1 := ⟨_, rfl⟩
                          refine lv_iinc (v := x_541) (lv' := [(4, .int x_541), (2, .int 1), (3, .int y_412), (0, .ref a0), (1, .int x1)]) hx hb dX12_isEnd_123 hl (k := 1) rfl (by rw [ex_541]; rfl) (by decide) rfl (fun ls hl => ?_)
                          refine lv_goto (tgt := 65) hx hb dX12_isEnd_126 (by decide) ?_
                          have g_542 := z_rng y_489
                          obtain ⟨f_541, l_541, u_541⟩ := z_add ex_541 rfl ti_1
                          try replace f_541 : x_541.toInt = y_489.toInt + 1 := by omega
                          clear l_541 u_541
                          have g_543 := z_rng (A 40 (x1.toInt + (A 40 (x1.toInt + 60 * y_412.toInt + y_489.toInt + 230).toNat).toInt + 50).toNat)
                          have g_544 := z_rng (A 40 (x1.toInt + y_412.toInt + 22).toNat)
                          have g_545 := z_rng y_490
                          exact ih_491 x_541 1 _ (by omega) (Or.inr rfl) (by (try simp only [ti_1]); omega) (fun _ => iv_492_1 c_493) (lv_sub hl [0, 1, 2, 3, 4] rfl)
                have g_546 := z_rng (A 40 (x1.toInt + y_412.toInt + 22).toNat)
                have g_547 := z_rng y_412
                have g_548 := z_rng y_413
                exact L_65_491 _ 0 0 _ (Nat.lt_succ_self _) (Or.inl rfl) (by (try simp only [ti_0]); omega) (fun h9 => by rw [ti_0] at h9; omega) (lv_sub hl [0, 1, 2, 3, 4] rfl)
              · skip
                refine lv_iconst (v := 1) hx hb dX12_isEnd_56 (by decide) ?_
                refine lv_goto (tgt := 61) hx hb dX12_isEnd_57 (by decide) ?_
                refine lv_istore_n (lv' := [(2, .int 1), (3, .int y_412), (0, .ref a0), (1, .int x1)]) hx hb dX12_isEnd_61 rfl hl (by decide) rfl (fun ls hl => ?_)
                refine lv_iconst (v := 0) hx hb dX12_isEnd_62 (by decide) ?_
                refine lv_istore (lv' := [(4, .int 0), (2, .int 1), (3, .int y_412), (0, .ref a0), (1, .int x1)]) hx hb dX12_isEnd_63 hl (by decide) rfl (fun ls hl => ?_)
                have L_65_551 : ∀ (n_551 : Nat) (y_549 : Int32) (y_550 : Int32) (ls : Array Slot), (2147483648 - y_549.toInt).toNat < n_551 → (y_550 = 0 ∨ y_550 = 1) → 0 ≤ y_549.toInt → (y_550.toInt ≠ 0 → (A 40 (x1.toInt + 5).toNat).toInt = 1 ∧ h4 (A 40) x1.toInt y_412.toInt ∧ (A 40 (x1.toInt + y_412.toInt + 22).toNat).toInt ≤ 4) → lv_has ls 5 [(4, .int y_549), (2, .int y_550), (3, .int y_412), (0, .ref a0), (1, .int x1)] → W p l e (rmd 0) s m args below meth c s.heap [] 0 0 Q (F0 m 65 ls []) := by
                  intro n_551
                  induction n_551 with
                  | zero => intro y_549 y_550 ls hm_551; exact absurd hm_551 (Nat.not_lt_zero _)
                  | succ n_551 ih_551 =>
                    intro y_549 y_550 ls hm_551 hb_y_550 iv_552_0 iv_552_1 hl
                    refine lv_iload_n hx hb dX12_isEnd_65 rfl (lv_at hl 1 rfl) ?_
                    refine bz_eq (tgt := 129) hx hb rfl dX12_isEnd_66 (by decide) (fun c_553 => ?_) (fun c_553 => ?_)
                    · skip
                      obtain ⟨x_554, ex_554⟩ : ∃ y : Int32, y = y_412 + 1 := ⟨_, rfl⟩
                      refine lv_iinc (v := x_554) (lv' := [(3, .int x_554), (4, .int y_549), (2, .int y_550), (0, .ref a0), (1, .int x1)]) hx hb dX12_isEnd_129 hl (k := 2) rfl (by rw [ex_554]; rfl) (by decide) rfl (fun ls hl => ?_)
                      refine lv_goto (tgt := 32) hx hb dX12_isEnd_132 (by decide) ?_
                      have g_555 := z_rng y_412
                      obtain ⟨f_554, l_554, u_554⟩ := z_add ex_554 rfl ti_1
                      try replace f_554 : x_554.toInt = y_412.toInt + 1 := by omega
                      clear l_554 u_554
                      have g_556 := z_rng y_550
                      exact ih_414 x_554 y_550 _ (by omega) hb_y_550 (by omega) (by omega) (fun h9 => ⟨(iv_552_1 h9).1, h4.s (iv_552_1 h9).2.1 (by omega) (iv_552_1 h9).2.2⟩) (lv_sub hl [0, 2, 3, 4] rfl)
                    · skip
                      refine lv_iload hx hb dX12_isEnd_69 (lv_at hl 0 rfl) ?_
                      refine lv_aload_n hx hb dX12_isEnd_71 rfl (lv_at hl 3 rfl) ?_
                      refine mg_0 C hs hP ha0 hk0 wf_X12_8 dX12_isEnd_72 ?_
                      refine lv_iload_n hx hb dX12_isEnd_75 rfl (lv_at hl 4 rfl) ?_
                      refine lv_bipush (v := 22) hx hb dX12_isEnd_76 (by decide) ?_
                      refine lv_iadd hx hb dX12_isEnd_78 ?_
                      refine lv_topi (fun x_557 ex_557 => ?_)
                      refine lv_iload_n hx hb dX12_isEnd_79 rfl (lv_at hl 2 rfl) ?_
                      refine lv_iadd hx hb dX12_isEnd_80 ?_
                      refine lv_topi (fun x_558 ex_558 => ?_)
                      have hi_hr_559 : zEq x_558.toInt (x1.toInt + y_412.toInt + 22) := by
                        have g_560 := z_rng x1
                        obtain ⟨f_557, l_557, u_557⟩ := z_add ex_557 rfl ti_22
                        try replace f_557 : x_557.toInt = x1.toInt + 22 := by omega
                        clear l_557 u_557
                        have g_561 := z_rng y_412
                        obtain ⟨f_558, l_558, u_558⟩ := z_add ex_558 rfl rfl
                        try replace f_558 : x_558.toInt = x_557.toInt + y_412.toInt := by omega
                        clear l_558 u_558
                        show x_558.toInt = (x1.toInt + y_412.toInt + 22)
                        omega
                      have hl_hr_559 : 22 ≤ y_412.toInt + 22 ∧ y_412.toInt + 22 ≤ 25 := by
                        have g_562 := z_rng x1
                        have g_563 := z_rng y_412
                        omega
                      have hid_hr_559 : (x1.toInt + y_412.toInt + 22) = x1.toInt + (y_412.toInt + 22) := by simp only [Int.add_assoc, Int.add_sub_assoc]
                      have hr_559 := z_cell (lo := 22) (hi := 25) hp0 hi_hr_559 hid_hr_559 hl_hr_559 (by decide)
                      replace hid_hr_559 : zEq (x1.toInt + y_412.toInt + 22) (x1.toInt + (y_412.toInt + 22)) := hid_hr_559
                      have hin_564 : vp_in x_558 (zn K (zr K a0 0)) := vp_in_iff.mpr (by rw [(hf_1.2.2 (by decide))]; exact hr_559.in)
                      refine mld_40 C hs hP hf_1.1 hf_1.2.1 hin_564 dX12_isEnd_81 ?_
                      have ep_565 : x_558.toNatClampNeg = (x1.toInt + y_412.toInt + 22).toNat := z_posE hi_hr_559
                      rw [ep_565]
                      refine bi_ge (tgt := 129) hx hb rfl rfl dX12_isEnd_82 (by decide) (fun c_566 => ?_) (fun c_566 => ?_)
                      · skip
                        obtain ⟨x_567, ex_567⟩ : ∃ y : Int32, y = y_412 + 1 := ⟨_, rfl⟩
                        refine lv_iinc (v := x_567) (lv' := [(3, .int x_567), (4, .int y_549), (2, .int y_550), (0, .ref a0), (1, .int x1)]) hx hb dX12_isEnd_129 hl (k := 2) rfl (by rw [ex_567]; rfl) (by decide) rfl (fun ls hl => ?_)
                        refine lv_goto (tgt := 32) hx hb dX12_isEnd_132 (by decide) ?_
                        have g_568 := z_rng y_412
                        obtain ⟨f_567, l_567, u_567⟩ := z_add ex_567 rfl ti_1
                        try replace f_567 : x_567.toInt = y_412.toInt + 1 := by omega
                        clear l_567 u_567
                        have g_569 := z_rng y_550
                        have g_570 := z_rng (A 40 (x1.toInt + y_412.toInt + 22).toNat)
                        have g_571 := z_rng y_549
                        exact ih_414 x_567 y_550 _ (by omega) hb_y_550 (by omega) (by omega) (fun h9 => ⟨(iv_552_1 h9).1, h4.s (iv_552_1 h9).2.1 (by omega) (iv_552_1 h9).2.2⟩) (lv_sub hl [0, 2, 3, 4] rfl)
                      · skip
                        refine lv_aload_n hx hb dX12_isEnd_85 rfl (lv_at hl 3 rfl) ?_
                        refine mg_0 C hs hP ha0 hk0 wf_X12_8 dX12_isEnd_86 ?_
                        refine lv_iload_n hx hb dX12_isEnd_89 rfl (lv_at hl 4 rfl) ?_
                        refine lv_bipush (v := 50) hx hb dX12_isEnd_90 (by decide) ?_
                        refine lv_iadd hx hb dX12_isEnd_92 ?_
                        refine lv_topi (fun x_572 ex_572 => ?_)
                        refine lv_aload_n hx hb dX12_isEnd_93 rfl (lv_at hl 3 rfl) ?_
                        refine mg_0 C hs hP ha0 hk0 wf_X12_8 dX12_isEnd_94 ?_
                        refine lv_iload_n hx hb dX12_isEnd_97 rfl (lv_at hl 4 rfl) ?_
                        refine lv_sipush (v := 230) hx hb dX12_isEnd_98 (by decide) ?_
                        refine lv_iadd hx hb dX12_isEnd_101 ?_
                        refine lv_topi (fun x_573 ex_573 => ?_)
                        refine lv_bipush (v := 60) hx hb dX12_isEnd_102 (by decide) ?_
                        refine lv_iload_n hx hb dX12_isEnd_104 rfl (lv_at hl 2 rfl) ?_
                        refine lv_imul hx hb dX12_isEnd_105 ?_
                        refine lv_topi (fun x_574 ex_574 => ?_)
                        refine lv_iadd hx hb dX12_isEnd_106 ?_
                        refine lv_topi (fun x_575 ex_575 => ?_)
                        refine lv_iload hx hb dX12_isEnd_107 (lv_at hl 0 rfl) ?_
                        refine lv_iadd hx hb dX12_isEnd_109 ?_
                        refine lv_topi (fun x_576 ex_576 => ?_)
                        have hi_hr_577 : zEq x_576.toInt (x1.toInt + 60 * y_412.toInt + y_549.toInt + 230) := by
                          have g_578 := z_rng x1
                          obtain ⟨f_573, l_573, u_573⟩ := z_add ex_573 rfl ti_230
                          try replace f_573 : x_573.toInt = x1.toInt + 230 := by omega
                          clear l_573 u_573
                          have g_579 := z_rng y_412
                          obtain ⟨f_574, l_574, u_574⟩ := z_mul ex_574 ti_60 rfl
                          try replace f_574 : x_574.toInt = 60 * y_412.toInt := by omega
                          clear l_574 u_574
                          obtain ⟨f_575, l_575, u_575⟩ := z_add ex_575 rfl rfl
                          try replace f_575 : x_575.toInt = x_573.toInt + x_574.toInt := by omega
                          clear l_575 u_575
                          have g_580 := z_rng y_549
                          obtain ⟨f_576, l_576, u_576⟩ := z_add ex_576 rfl rfl
                          try replace f_576 : x_576.toInt = x_575.toInt + y_549.toInt := by omega
                          clear l_576 u_576
                          show x_576.toInt = (x1.toInt + 60 * y_412.toInt + y_549.toInt + 230)
                          omega
                        have hl_hr_577 : 230 ≤ 60 * y_412.toInt + y_549.toInt + 230 ∧ 60 * y_412.toInt + y_549.toInt + 230 ≤ 469 := by
                          have g_581 := z_rng x1
                          have g_582 := z_rng y_412
                          have g_583 := z_rng y_549
                          omega
                        have hid_hr_577 : (x1.toInt + 60 * y_412.toInt + y_549.toInt + 230) = x1.toInt + (60 * y_412.toInt + y_549.toInt + 230) := by simp only [Int.add_assoc, Int.add_sub_assoc]
                        have hr_577 := z_cell (lo := 170) (hi := 469) hp0 hi_hr_577 hid_hr_577 hl_hr_577 (by decide)
                        replace hid_hr_577 : zEq (x1.toInt + 60 * y_412.toInt + y_549.toInt + 230) (x1.toInt + (60 * y_412.toInt + y_549.toInt + 230)) := hid_hr_577
                        have hin_584 : vp_in x_576 (zn K (zr K a0 0)) := vp_in_iff.mpr (by rw [(hf_1.2.2 (by decide))]; exact hr_577.in)
                        refine mld_40 C hs hP hf_1.1 hf_1.2.1 hin_584 dX12_isEnd_110 ?_
                        have ep_585 : x_576.toNatClampNeg = (x1.toInt + 60 * y_412.toInt + y_549.toInt + 230).toNat := z_posE hi_hr_577
                        rw [ep_585]
                        have tv_586 := rv_170 hT hr_577
                        rw [ep_585] at tv_586
                        refine lv_iadd hx hb dX12_isEnd_111 ?_
                        refine lv_topi (fun x_587 ex_587 => ?_)
                        have hi_hr_588 : zEq x_587.toInt (x1.toInt + (A 40 (x1.toInt + 60 * y_412.toInt + y_549.toInt + 230).toNat).toInt + 50) := by
                          have g_589 := z_rng x1
                          obtain ⟨f_572, l_572, u_572⟩ := z_add ex_572 rfl ti_50
                          try replace f_572 : x_572.toInt = x1.toInt + 50 := by omega
                          clear l_572 u_572
                          have g_590 := z_rng (A 40 (x1.toInt + 60 * y_412.toInt + y_549.toInt + 230).toNat)
                          obtain ⟨f_587, l_587, u_587⟩ := z_add ex_587 rfl rfl
                          try replace f_587 : x_587.toInt = x_572.toInt + (A 40 (x1.toInt + 60 * y_412.toInt + y_549.toInt + 230).toNat).toInt := by omega
                          clear l_587 u_587
                          show x_587.toInt = (x1.toInt + (A 40 (x1.toInt + 60 * y_412.toInt + y_549.toInt + 230).toNat).toInt + 50)
                          omega
                        have hl_hr_588 : 50 ≤ (A 40 (x1.toInt + 60 * y_412.toInt + y_549.toInt + 230).toNat).toInt + 50 ∧ (A 40 (x1.toInt + 60 * y_412.toInt + y_549.toInt + 230).toNat).toInt + 50 ≤ 109 := by
                          have g_591 := z_rng x1
                          have g_592 := z_rng (A 40 (x1.toInt + 60 * y_412.toInt + y_549.toInt + 230).toNat)
                          omega
                        have hid_hr_588 : (x1.toInt + (A 40 (x1.toInt + 60 * y_412.toInt + y_549.toInt + 230).toNat).toInt + 50) = x1.toInt + ((A 40 (x1.toInt + 60 * y_412.toInt + y_549.toInt + 230).toNat).toInt + 50) := by simp only [Int.add_assoc, Int.add_sub_assoc]
                        have hr_588 := z_cell (lo := 45) (hi := 169) hp0 hi_hr_588 hid_hr_588 hl_hr_588 (by decide)
                        replace hid_hr_588 : zEq (x1.toInt + (A 40 (x1.toInt + 60 * y_412.toInt + y_549.toInt + 230).toNat).toInt + 50) (x1.toInt + ((A 40 (x1.toInt + 60 * y_412.toInt + y_549.toInt + 230).toNat).toInt + 50)) := hid_hr_588
                        have hin_593 : vp_in x_587 (zn K (zr K a0 0)) := vp_in_iff.mpr (by rw [(hf_1.2.2 (by decide))]; exact hr_588.in)
                        refine mld_40 C hs hP hf_1.1 hf_1.2.1 hin_593 dX12_isEnd_112 ?_
                        have ep_594 : x_587.toNatClampNeg = (x1.toInt + (A 40 (x1.toInt + 60 * y_412.toInt + y_549.toInt + 230).toNat).toInt + 50).toNat := z_posE hi_hr_588
                        rw [ep_594]
                        refine lv_iconst (v := 3) hx hb dX12_isEnd_113 (by decide) ?_
                        refine bi_eq (tgt := 121) hx hb rfl ti_3 dX12_isEnd_114 (by decide) (fun c_595 => ?_) (fun c_595 => ?_)
                        · skip
                          refine lv_iconst (v := 0) hx hb dX12_isEnd_121 (by decide) ?_
                          refine lv_istore_n (lv' := [(2, .int 0), (4, .int y_549), (3, .int y_412), (0, .ref a0), (1, .int x1)]) hx hb dX12_isEnd_122 rfl hl (by decide) rfl (fun ls hl => ?_)
                          obtain ⟨x_596, ex_596⟩ : ∃ y : Int32, y = y_549 + 1 := ⟨_, rfl⟩
                          refine lv_iinc (v := x_596) (lv' := [(4, .int x_596), (2, .int 0), (3, .int y_412), (0, .ref a0), (1, .int x1)]) hx hb dX12_isEnd_123 hl (k := 1) rfl (by rw [ex_596]; rfl) (by decide) rfl (fun ls hl => ?_)
                          refine lv_goto (tgt := 65) hx hb dX12_isEnd_126 (by decide) ?_
                          have g_597 := z_rng y_549
                          obtain ⟨f_596, l_596, u_596⟩ := z_add ex_596 rfl ti_1
                          try replace f_596 : x_596.toInt = y_549.toInt + 1 := by omega
                          clear l_596 u_596
                          have g_598 := z_rng (A 40 (x1.toInt + (A 40 (x1.toInt + 60 * y_412.toInt + y_549.toInt + 230).toNat).toInt + 50).toNat)
                          have g_599 := z_rng (A 40 (x1.toInt + y_412.toInt + 22).toNat)
                          have g_600 := z_rng y_550
                          exact ih_551 x_596 0 _ (by omega) (Or.inl rfl) (by (try simp only [ti_0]); omega) (fun h9 => by rw [ti_0] at h9; omega) (lv_sub hl [0, 1, 2, 3, 4] rfl)
                        · skip
                          refine lv_iconst (v := 1) hx hb dX12_isEnd_117 (by decide) ?_
                          refine lv_goto (tgt := 122) hx hb dX12_isEnd_118 (by decide) ?_
                          refine lv_istore_n (lv' := [(2, .int 1), (4, .int y_549), (3, .int y_412), (0, .ref a0), (1, .int x1)]) hx hb dX12_isEnd_122 rfl hl (by decide) rfl (fun ls hl => ?_)
                          obtain ⟨x_601, ex_601⟩ : ∃ y : Int32, y = y_549 + 1 := ⟨_, rfl⟩
                          refine lv_iinc (v := x_601) (lv' := [(4, .int x_601), (2, .int 1), (3, .int y_412), (0, .ref a0), (1, .int x1)]) hx hb dX12_isEnd_123 hl (k := 1) rfl (by rw [ex_601]; rfl) (by decide) rfl (fun ls hl => ?_)
                          refine lv_goto (tgt := 65) hx hb dX12_isEnd_126 (by decide) ?_
                          have g_602 := z_rng y_549
                          obtain ⟨f_601, l_601, u_601⟩ := z_add ex_601 rfl ti_1
                          try replace f_601 : x_601.toInt = y_549.toInt + 1 := by omega
                          clear l_601 u_601
                          have g_603 := z_rng (A 40 (x1.toInt + (A 40 (x1.toInt + 60 * y_412.toInt + y_549.toInt + 230).toNat).toInt + 50).toNat)
                          have g_604 := z_rng (A 40 (x1.toInt + y_412.toInt + 22).toNat)
                          have g_605 := z_rng y_550
                          exact ih_551 x_601 1 _ (by omega) (Or.inr rfl) (by (try simp only [ti_1]); omega) (fun _ => iv_552_1 c_553) (lv_sub hl [0, 1, 2, 3, 4] rfl)
                have g_606 := z_rng (A 40 (x1.toInt + y_412.toInt + 22).toNat)
                have g_607 := z_rng y_412
                have g_608 := z_rng y_413
                exact L_65_551 _ 0 1 _ (Nat.lt_succ_self _) (Or.inr rfl) (by (try simp only [ti_0, ti_1]); omega) (fun _ => ⟨(iv_415_2 c_417).1, (iv_415_2 c_417).2, by omega⟩) (lv_sub hl [0, 1, 2, 3, 4] rfl)
      have g_609 := z_rng (A 40 (x1.toInt + 26).toNat)
      have g_610 := z_rng (A 40 (x1.toInt + 5).toNat)
      exact L_32_414 _ 0 1 _ (Nat.lt_succ_self _) (Or.inr rfl) (by (try simp only [ti_0, ti_1]); omega) (by rw [ti_0]; omega) (fun h9 => ⟨by omega, h4.z (by rw [ti_0]; decide)⟩) (lv_sub hl [0, 1, 2, 3] rfl)
