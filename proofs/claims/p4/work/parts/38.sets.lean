set_option maxHeartbeats 4000000 in
set_option maxRecDepth 100000 in
theorem c_X12_leftOf (l : Launch) (D : va_G) (K : zK) (hM : mK K) (f : Nat → Int32) (A : Nat → Nat → Int32) (hT : mT f A) (x0 : Int32) (x1 : Int32) (hp0 : 0 ≤ x0.toInt ∧ x0.toInt ≤ 65535) (hp1 : 0 ≤ x1.toInt ∧ x1.toInt ≤ 3) : Met l yX12_leftOf (zc yX12_leftOf cX12_leftOf 3 (some .int)) (rmd 0) (va_Pc [.int x0, .int x1] (zB D K (mV K f A))) (vp_Si (fun r => 0 ≤ r.toInt ∧ r.toInt ≤ 4 ∧ (r.toInt ≤ 0 → nib x0.toInt x1.toInt = 0) ∧ (0 < r.toInt → x0.toInt ≠ 0))) 0 0 (fun _ => False) := by
  refine zin (by decide) (Nat.le_of_ble_eq_true rfl) ?_
  intro p e s m args below meth c ls Q hQ C hr hlk hP hs hl
  have C : CallFix p m c cX12_leftOf 3 s args zw RX12 := C
  obtain ⟨hx, hb, hml, hown, hts⟩ := id C
  have hO := hM.1
  have hS : va_S (zA K) s.heap s.heap [] := va_S.rf
  have hl : lv_has ls 3 [(0, .int x0), (1, .int x1)] := hl
  refine lv_iload_n hx hb dX12_leftOf_0 rfl (lv_at hl 0 rfl) ?_
  refine lv_iconst (v := 4) hx hb dX12_leftOf_1 (by decide) ?_
  refine lv_iload_n hx hb dX12_leftOf_2 rfl (lv_at hl 1 rfl) ?_
  refine lv_imul hx hb dX12_leftOf_3 ?_
  refine lv_topi (fun x_1 ex_1 => ?_)
  refine lv_ishr hx hb dX12_leftOf_4 ?_
  refine lv_topi (fun x_2 ex_2 => ?_)
  refine lv_bipush (v := 15) hx hb dX12_leftOf_5 (by decide) ?_
  refine lv_iand hx hb dX12_leftOf_7 ?_
  refine lv_topi (fun x_3 ex_3 => ?_)
  refine lv_istore_n (lv' := [(2, .int x_3), (0, .int x0), (1, .int x1)]) hx hb dX12_leftOf_8 rfl hl (by decide) rfl (fun ls hl => ?_)
  refine lv_iload_n hx hb dX12_leftOf_9 rfl (lv_at hl 0 rfl) ?_
  refine lv_iconst (v := 1) hx hb dX12_leftOf_10 (by decide) ?_
  refine lv_iand hx hb dX12_leftOf_11 ?_
  refine lv_topi (fun x_4 ex_4 => ?_)
  refine lv_iload_n hx hb dX12_leftOf_12 rfl (lv_at hl 0 rfl) ?_
  refine lv_iconst (v := 1) hx hb dX12_leftOf_13 (by decide) ?_
  refine lv_ishr hx hb dX12_leftOf_14 ?_
  refine lv_topi (fun x_5 ex_5 => ?_)
  refine lv_iconst (v := 1) hx hb dX12_leftOf_15 (by decide) ?_
  refine lv_iand hx hb dX12_leftOf_16 ?_
  refine lv_topi (fun x_6 ex_6 => ?_)
  refine lv_iadd hx hb dX12_leftOf_17 ?_
  refine lv_topi (fun x_7 ex_7 => ?_)
  refine lv_iload_n hx hb dX12_leftOf_18 rfl (lv_at hl 0 rfl) ?_
  refine lv_iconst (v := 2) hx hb dX12_leftOf_19 (by decide) ?_
  refine lv_ishr hx hb dX12_leftOf_20 ?_
  refine lv_topi (fun x_8 ex_8 => ?_)
  refine lv_iconst (v := 1) hx hb dX12_leftOf_21 (by decide) ?_
  refine lv_iand hx hb dX12_leftOf_22 ?_
  refine lv_topi (fun x_9 ex_9 => ?_)
  refine lv_iadd hx hb dX12_leftOf_23 ?_
  refine lv_topi (fun x_10 ex_10 => ?_)
  refine lv_iload_n hx hb dX12_leftOf_24 rfl (lv_at hl 0 rfl) ?_
  refine lv_iconst (v := 3) hx hb dX12_leftOf_25 (by decide) ?_
  refine lv_ishr hx hb dX12_leftOf_26 ?_
  refine lv_topi (fun x_11 ex_11 => ?_)
  refine lv_iadd hx hb dX12_leftOf_27 ?_
  refine lv_topi (fun x_12 ex_12 => ?_)
  exact zaS hQ hx hb hr hlk (lf_ok ex_1 ex_2 ex_3 (by simp only [ex_12, ex_11, ex_10, ex_9, ex_8, ex_7, ex_6, ex_5, ex_4]) hp0 hp1) dX12_leftOf_28
set_option maxHeartbeats 4000000 in
set_option maxRecDepth 100000 in
theorem c_X12_isBetween (l : Launch) (D : va_G) (K : zK) (hM : mK K) (f : Nat → Int32) (A : Nat → Nat → Int32) (hT : mT f A) (a0 : Nat) (ha0 : a0 ∈ zl K) (hk0 : zk K a0 = 11) (x1 : Int32) (hp0 : 0 ≤ x1.toInt ∧ x1.toInt ≤ 65535) : Met l yX12_isBetween (zc yX12_isBetween cX12_isBetween 5 (some .boolean)) (rmd 1) (va_Pc [.ref a0, .int x1] (zB D K (mV K f A))) (vp_Si (fun r => (r = 0 ∨ r = 1))) 0 0 (fun _ => False) := by
  refine zin (by decide) (Nat.le_of_ble_eq_true rfl) ?_
  intro p e s m args below meth c ls Q hQ C hr hlk hP hs hl
  have C : CallFix p m c cX12_isBetween 5 s args zw RX12 := C
  obtain ⟨hx, hb, hml, hown, hts⟩ := id C
  have hO := hM.1
  have hS : va_S (zA K) s.heap s.heap [] := va_S.rf
  have hl : lv_has ls 5 [(0, .ref a0), (1, .int x1)] := hl
  refine lv_iconst (v := 0) hx hb dX12_isBetween_0 (by decide) ?_
  refine lv_istore_n (lv' := [(2, .int 0), (0, .ref a0), (1, .int x1)]) hx hb dX12_isBetween_1 rfl hl (by decide) rfl (fun ls hl => ?_)
  refine lv_iconst (v := 0) hx hb dX12_isBetween_2 (by decide) ?_
  refine lv_istore_n (lv' := [(3, .int 0), (2, .int 0), (0, .ref a0), (1, .int x1)]) hx hb dX12_isBetween_3 rfl hl (by decide) rfl (fun ls hl => ?_)
  have L_4_3 : ∀ (n_3 : Nat) (y_1 : Int32) (y_2 : Int32) (ls : Array Slot), (2147483648 - y_1.toInt).toNat < n_3 → 0 ≤ y_1.toInt → lv_has ls 5 [(3, .int y_1), (2, .int y_2), (0, .ref a0), (1, .int x1)] → W p l e (rmd 1) s m args below meth c s.heap [] 0 0 Q (F0 m 4 ls []) := by
    intro n_3
    induction n_3 with
    | zero => intro y_1 y_2 ls hm_3; exact absurd hm_3 (Nat.not_lt_zero _)
    | succ n_3 ih_3 =>
      intro y_1 y_2 ls hm_3 iv_4_0 hl
      refine lv_iload_n hx hb dX12_isBetween_4 rfl (lv_at hl 0 rfl) ?_
      refine lv_iconst (v := 4) hx hb dX12_isBetween_5 (by decide) ?_
      refine bi_ge (tgt := 32) hx hb rfl ti_4 dX12_isBetween_6 (by decide) (fun c_5 => ?_) (fun c_5 => ?_)
      · skip
        refine lv_iconst (v := 1) hx hb dX12_isBetween_32 (by decide) ?_
        refine lv_istore_n (lv' := [(3, .int 1), (2, .int y_2), (0, .ref a0), (1, .int x1)]) hx hb dX12_isBetween_33 rfl hl (by decide) rfl (fun ls hl => ?_)
        refine lv_iconst (v := 0) hx hb dX12_isBetween_34 (by decide) ?_
        refine lv_istore (lv' := [(4, .int 0), (3, .int 1), (2, .int y_2), (0, .ref a0), (1, .int x1)]) hx hb dX12_isBetween_35 hl (by decide) rfl (fun ls hl => ?_)
        have L_37_21 : ∀ (n_21 : Nat) (y_19 : Int32) (y_20 : Int32) (ls : Array Slot), (2147483648 - y_19.toInt).toNat < n_21 → (y_20 = 0 ∨ y_20 = 1) → 0 ≤ y_19.toInt → lv_has ls 5 [(4, .int y_19), (3, .int y_20), (2, .int y_2), (0, .ref a0), (1, .int x1)] → W p l e (rmd 1) s m args below meth c s.heap [] 0 0 Q (F0 m 37 ls []) := by
          intro n_21
          induction n_21 with
          | zero => intro y_19 y_20 ls hm_21; exact absurd hm_21 (Nat.not_lt_zero _)
          | succ n_21 ih_21 =>
            intro y_19 y_20 ls hm_21 hb_y_20 iv_22_0 hl
            refine lv_iload hx hb dX12_isBetween_37 (lv_at hl 0 rfl) ?_
            refine lv_iconst (v := 4) hx hb dX12_isBetween_39 (by decide) ?_
            refine bi_ge (tgt := 87) hx hb rfl ti_4 dX12_isBetween_40 (by decide) (fun c_23 => ?_) (fun c_23 => ?_)
            · skip
              refine lv_iload_n hx hb dX12_isBetween_87 rfl (lv_at hl 1 rfl) ?_
              exact zaSz hQ hx hb hr hlk hb_y_20 hb_y_20 dX12_isBetween_88
            · skip
              refine lv_iload_n hx hb dX12_isBetween_43 rfl (lv_at hl 1 rfl) ?_
              have J_80_39 : ∀ (y_38 : Int32) (ls : Array Slot), (y_38 = 0 ∨ y_38 = 1) → lv_has ls 5 [(0, .ref a0), (1, .int x1), (2, .int y_2), (3, .int y_20), (4, .int y_19)] → W p l e (rmd 1) s m args below meth c s.heap [] 0 0 Q (F0 m 80 ls [.int y_38]) := by
                intro y_38 ls hb_y_38 hl
                refine lv_istore_n (lv' := [(3, .int y_38), (0, .ref a0), (1, .int x1), (2, .int y_2), (4, .int y_19)]) hx hb dX12_isBetween_80 rfl hl (by decide) rfl (fun ls hl => ?_)
                obtain ⟨x_41, ex_41⟩ : ∃ y : Int32, y = y_19 + 1 := ⟨_, rfl⟩
                refine lv_iinc (v := x_41) (lv' := [(4, .int x_41), (3, .int y_38), (0, .ref a0), (1, .int x1), (2, .int y_2)]) hx hb dX12_isBetween_81 hl (k := 4) rfl (by rw [ex_41]; rfl) (by decide) rfl (fun ls hl => ?_)
                refine lv_goto (tgt := 37) hx hb dX12_isBetween_84 (by decide) ?_
                have g_42 := z_rng y_19
                obtain ⟨f_41, l_41, u_41⟩ := z_add ex_41 rfl ti_1
                try replace f_41 : x_41.toInt = y_19.toInt + 1 := by omega
                clear l_41 u_41
                exact ih_21 x_41 y_38 _ (by omega) hb_y_38 (by omega) (lv_sub hl [0, 1, 4, 2, 3] rfl)
              refine bz_eq (tgt := 79) hx hb rfl dX12_isBetween_44 (by decide) (fun c_24 => ?_) (fun c_24 => ?_)
              · skip
                refine lv_iconst (v := 0) hx hb dX12_isBetween_79 (by decide) ?_
                exact J_80_39 0 _ (Or.inl rfl) (lv_sub hl [3, 4, 2, 1, 0] rfl)
              · skip
                refine lv_aload_n hx hb dX12_isBetween_47 rfl (lv_at hl 3 rfl) ?_
                refine mg_19 C hs hP ha0 hk0 wf_X12_45 dX12_isBetween_48 ?_
                have hf_43 := hO.r (j := 19) ha0 hk0 (rfl : zX 11 19 = some (59, 4))
                refine lv_iload hx hb dX12_isBetween_51 (lv_at hl 0 rfl) ?_
                have g_45 := z_rng y_19
                have hin_44 : vp_in y_19 (zn K (zr K a0 19)) := vp_in_iff.mpr (by rw [(hf_43.2.2 (by decide))]; refine ⟨?_, ?_⟩ <;> omega)
                refine mld_59 C hs hP hf_43.1 hf_43.2.1 hin_44 dX12_isBetween_53 ?_
                refine lv_iload_n hx hb dX12_isBetween_54 rfl (lv_at hl 4 rfl) ?_
                refine lv_iload hx hb dX12_isBetween_55 (lv_at hl 0 rfl) ?_
                have g_46 := z_rng x1
                have hq_47 : 0 ≤ x1.toInt ∧ x1.toInt ≤ 65535 := by (first | assumption | omega | (intros; omega))
                have hq_48 : 0 ≤ y_19.toInt ∧ y_19.toInt ≤ 3 := by (first | assumption | omega | (intros; omega))
                refine zcS (zrS (As := [.int x1, .int y_19]) (rest := [.int (A 59 y_19.toNatClampNeg)]) C hs hP hS (c_X12_leftOf l D K hM f A hT x1 y_19 hq_47 hq_48) m_X12_leftOf wm_X12_244 ⟨by decide, by decide⟩ hl.1 (Nat.le_of_ble_eq_true rfl) dX12_isBetween_57) (fun x_49 p_49 => ?_)
                have pp_49 : 0 ≤ x_49.toInt ∧ x_49.toInt ≤ 4 ∧ (x_49.toInt ≤ 0 → nib x1.toInt y_19.toInt = 0) ∧ (0 < x_49.toInt → x1.toInt ≠ 0) := p_49
                refine lv_isub hx hb dX12_isBetween_60 ?_
                refine lv_topi (fun x_50 ex_50 => ?_)
                refine lv_iload_n hx hb dX12_isBetween_61 rfl (lv_at hl 2 rfl) ?_
                refine lv_aload_n hx hb dX12_isBetween_62 rfl (lv_at hl 3 rfl) ?_
                refine mg_19 C hs hP ha0 hk0 wf_X12_45 dX12_isBetween_63 ?_
                refine lv_iload hx hb dX12_isBetween_66 (lv_at hl 0 rfl) ?_
                have hin_51 : vp_in y_19 (zn K (zr K a0 19)) := vp_in_iff.mpr (by rw [(hf_43.2.2 (by decide))]; refine ⟨?_, ?_⟩ <;> omega)
                refine mld_59 C hs hP hf_43.1 hf_43.2.1 hin_51 dX12_isBetween_68 ?_
                refine zcS (zrS (As := [.int y_2, .int (A 59 y_19.toNatClampNeg)]) (rest := [.int x_50]) C hs hP hS (c_X12_least l D K hM f A hT y_2 (A 59 y_19.toNatClampNeg)) m_X12_least wm_X12_250 ⟨by decide, by decide⟩ hl.1 (Nat.le_of_ble_eq_true rfl) dX12_isBetween_69) (fun x_52 p_52 => ?_)
                have pp_52 : x_52.toInt ≤ y_2.toInt ∧ x_52.toInt ≤ (A 59 y_19.toNatClampNeg).toInt ∧ (x_52.toInt = y_2.toInt ∨ x_52.toInt = (A 59 y_19.toNatClampNeg).toInt) := p_52
                have g_53 := z_rng y_2
                have g_54 := z_rng (A 59 y_19.toNatClampNeg)
                refine bi_ne (tgt := 79) hx hb rfl rfl dX12_isBetween_72 (by decide) (fun c_55 => ?_) (fun c_55 => ?_)
                · skip
                  refine lv_iconst (v := 0) hx hb dX12_isBetween_79 (by decide) ?_
                  exact J_80_39 0 _ (Or.inl rfl) (lv_sub hl [3, 4, 2, 1, 0] rfl)
                · skip
                  refine lv_iconst (v := 1) hx hb dX12_isBetween_75 (by decide) ?_
                  refine lv_goto (tgt := 80) hx hb dX12_isBetween_76 (by decide) ?_
                  exact J_80_39 1 _ (Or.inr rfl) (lv_sub hl [3, 4, 2, 1, 0] rfl)
        have g_56 := z_rng y_1
        exact L_37_21 _ 0 1 _ (Nat.lt_succ_self _) (Or.inr rfl) (by (try simp only [ti_0, ti_1]); omega) (lv_sub hl [0, 1, 2, 3, 4] rfl)
      · skip
        refine lv_iload_n hx hb dX12_isBetween_9 rfl (lv_at hl 1 rfl) ?_
        refine lv_aload_n hx hb dX12_isBetween_10 rfl (lv_at hl 2 rfl) ?_
        refine mg_19 C hs hP ha0 hk0 wf_X12_45 dX12_isBetween_11 ?_
        have hf_57 := hO.r (j := 19) ha0 hk0 (rfl : zX 11 19 = some (59, 4))
        refine lv_iload_n hx hb dX12_isBetween_14 rfl (lv_at hl 0 rfl) ?_
        have g_59 := z_rng y_1
        have hin_58 : vp_in y_1 (zn K (zr K a0 19)) := vp_in_iff.mpr (by rw [(hf_57.2.2 (by decide))]; refine ⟨?_, ?_⟩ <;> omega)
        refine mld_59 C hs hP hf_57.1 hf_57.2.1 hin_58 dX12_isBetween_15 ?_
        refine lv_iload_n hx hb dX12_isBetween_16 rfl (lv_at hl 3 rfl) ?_
        refine lv_iload_n hx hb dX12_isBetween_17 rfl (lv_at hl 0 rfl) ?_
        have g_60 := z_rng x1
        have hq_61 : 0 ≤ x1.toInt ∧ x1.toInt ≤ 65535 := by (first | assumption | omega | (intros; omega))
        have hq_62 : 0 ≤ y_1.toInt ∧ y_1.toInt ≤ 3 := by (first | assumption | omega | (intros; omega))
        refine zcS (zrS (As := [.int x1, .int y_1]) (rest := [.int (A 59 y_1.toNatClampNeg), .int y_2]) C hs hP hS (c_X12_leftOf l D K hM f A hT x1 y_1 hq_61 hq_62) m_X12_leftOf wm_X12_244 ⟨by decide, by decide⟩ hl.1 (Nat.le_of_ble_eq_true rfl) dX12_isBetween_18) (fun x_63 p_63 => ?_)
        have pp_63 : 0 ≤ x_63.toInt ∧ x_63.toInt ≤ 4 ∧ (x_63.toInt ≤ 0 → nib x1.toInt y_1.toInt = 0) ∧ (0 < x_63.toInt → x1.toInt ≠ 0) := p_63
        refine lv_isub hx hb dX12_isBetween_21 ?_
        refine lv_topi (fun x_64 ex_64 => ?_)
        refine zcS (zrS (As := [.int y_2, .int x_64]) (rest := []) C hs hP hS (c_X12_most l D K hM f A hT y_2 x_64) m_X12_most wm_X12_247 ⟨by decide, by decide⟩ hl.1 (Nat.le_of_ble_eq_true rfl) dX12_isBetween_22) (fun x_65 p_65 => ?_)
        have pp_65 : y_2.toInt ≤ x_65.toInt ∧ x_64.toInt ≤ x_65.toInt ∧ (x_65.toInt = y_2.toInt ∨ x_65.toInt = x_64.toInt) := p_65
        have g_66 := z_rng y_2
        have g_67 := z_rng (A 59 y_1.toNatClampNeg)
        have g_68 := z_rng x_63
        obtain ⟨f_64, l_64, u_64⟩ := z_sub ex_64 rfl rfl
        try replace f_64 : x_64.toInt = (A 59 y_1.toNatClampNeg).toInt - x_63.toInt := by omega
        clear l_64 u_64
        refine lv_istore_n (lv' := [(2, .int x_65), (3, .int y_1), (0, .ref a0), (1, .int x1)]) hx hb dX12_isBetween_25 rfl hl (by decide) rfl (fun ls hl => ?_)
        obtain ⟨x_69, ex_69⟩ : ∃ y : Int32, y = y_1 + 1 := ⟨_, rfl⟩
        refine lv_iinc (v := x_69) (lv' := [(3, .int x_69), (2, .int x_65), (0, .ref a0), (1, .int x1)]) hx hb dX12_isBetween_26 hl (k := 1) rfl (by rw [ex_69]; rfl) (by decide) rfl (fun ls hl => ?_)
        refine lv_goto (tgt := 4) hx hb dX12_isBetween_29 (by decide) ?_
        obtain ⟨f_69, l_69, u_69⟩ := z_add ex_69 rfl ti_1
        try replace f_69 : x_69.toInt = y_1.toInt + 1 := by omega
        clear l_69 u_69
        exact ih_3 x_69 x_65 _ (by omega) (by omega) (lv_sub hl [0, 1, 2, 3] rfl)
  exact L_4_3 _ 0 0 _ (Nat.lt_succ_self _) (by (try simp only [ti_0]); omega) (lv_sub hl [0, 1, 2, 3] rfl)
set_option maxHeartbeats 4000000 in
set_option maxRecDepth 100000 in
theorem c_X12_seatAll (l : Launch) (D : va_G) (K : zK) (hM : mK K) (f : Nat → Int32) (A : Nat → Nat → Int32) (hT : mT f A) (a0 : Nat) (ha0 : a0 ∈ zl K) (hk0 : zk K a0 = 11) (x1 : Int32) (x2 : Int32) (hp0 : 0 ≤ x1.toInt ∧ x1.toInt ≤ 65535) (hp1 : 0 ≤ x2.toInt ∧ x2.toInt ≤ 3) : Met l yX12_seatAll (zc yX12_seatAll cX12_seatAll 5 none) (rmd 1) (va_Pc [.ref a0, .int x1, .int x2] (zB D K (mV K f A))) (mQv D K (fun f' A' => mT f' A' ∧ (∀ k, k ∉ ([66] : List Nat) → A' k = A k) ∧ (∀ k, k ∉ ([27] : List Nat) → f' k = f k) ∧ (x1.toInt ≠ 0 → 1 ≤ (f' 27).toInt))) 0 0 (zA K) := by
  refine zin (by decide) (Nat.le_of_ble_eq_true rfl) ?_
  intro p e s m args below meth c ls Q hQ C hr hlk hP hs hl
  have C : CallFix p m c cX12_seatAll 5 s args zw RX12 := C
  obtain ⟨hx, hb, hml, hown, hts⟩ := id C
  have hO := hM.1
  have hS : va_S (zA K) s.heap s.heap [] := va_S.rf
  have FA : ∀ k, k ∉ ([66] : List Nat) → A k = A k := fun _ _ => rfl
  have FF : ∀ k, k ∉ ([27] : List Nat) → f k = f k := fun _ _ => rfl
  have hl : lv_has ls 5 [(0, .ref a0), (1, .int x1), (2, .int x2)] := hl
  refine lv_aload_n hx hb dX12_seatAll_0 rfl (lv_at hl 0 rfl) ?_
  refine lv_iconst (v := 0) hx hb dX12_seatAll_1 (by decide) ?_
  refine mp_27 C hM hs hP hS ha0 hT hk0 wf_X12_253 (show 0 ≤ (0 : Int32).toInt ∧ (0 : Int32).toInt ≤ 4 from by rw [ti_0]; omega) dX12_seatAll_2 (fun f_1 H locs hE_1 hT hP hS => ?_)
  have FF := frF FF (frFu hE_1) (by decide)
  refine lv_iconst (v := 0) hx hb dX12_seatAll_5 (by decide) ?_
  refine lv_istore_n (lv' := [(3, .int 0), (0, .ref a0), (1, .int x1), (2, .int x2)]) hx hb dX12_seatAll_6 rfl hl (by decide) rfl (fun ls hl => ?_)
  have L_7_3 : ∀ (n_3 : Nat) (f_4 : Nat → Int32) (A_4 : Nat → Nat → Int32) (H : Heap) (locs : List Loc) (y_2 : Int32) (ls : Array Slot), (2147483648 - y_2.toInt).toNat < n_3 → 0 ≤ y_2.toInt → (f_4 27).toInt ≤ y_2.toInt → ((f_4 27).toInt = 0 → nz4 x1.toInt x2.toInt y_2.toInt) → (∀ k, k ∉ ([66] : List Nat) → A_4 k = A k) → (∀ k, k ∉ ([27] : List Nat) → f_4 k = f k) → mT f_4 A_4 → va_P D vwCl (zW K (mV K f_4 A_4)) H → va_S (zA K) s.heap H locs → lv_has ls 5 [(3, .int y_2), (0, .ref a0), (1, .int x1), (2, .int x2)] → W p l e (rmd 1) s m args below meth c H locs 0 0 Q (F0 m 7 ls []) := by
    intro n_3
    induction n_3 with
    | zero => intro f_4 A_4 H locs y_2 ls hm_3; exact absurd hm_3 (Nat.not_lt_zero _)
    | succ n_3 ih_3 =>
      intro f_4 A_4 H locs y_2 ls hm_3 iv_4_0 iv_4_1 iv_4_2 FA_4 FF_4 hT hP hS hl
      have FA := FA_4
      have FF := FF_4
      refine lv_iload_n hx hb dX12_seatAll_7 rfl (lv_at hl 0 rfl) ?_
      refine lv_iconst (v := 4) hx hb dX12_seatAll_8 (by decide) ?_
      refine bi_ge (tgt := 55) hx hb rfl ti_4 dX12_seatAll_9 (by decide) (fun c_6 => ?_) (fun c_6 => ?_)
      · skip
        have hfin : x1.toInt ≠ 0 → 1 ≤ (f_4 27).toInt := fun h9 => by
          rcases Classical.em ((f_4 27).toInt = 0) with h8 | h8
          · exact absurd (nz4.all (iv_4_2 h8) (by omega) hp1 hp0) h9
          · have h7 : 0 ≤ (f_4 27).toInt ∧ (f_4 27).toInt ≤ 4 := hT.1 27
            omega
        exact maV hQ hx hb hr hlk hP hS ⟨hT, FA, FF, hfin⟩ dX12_seatAll_55
      · skip
        refine lv_iload_n hx hb dX12_seatAll_12 rfl (lv_at hl 3 rfl) ?_
        refine lv_iload_n hx hb dX12_seatAll_13 rfl (lv_at hl 0 rfl) ?_
        refine lv_iadd hx hb dX12_seatAll_14 ?_
        refine lv_topi (fun x_7 ex_7 => ?_)
        refine lv_iconst (v := 4) hx hb dX12_seatAll_15 (by decide) ?_
        refine lv_irem hx hb dX12_seatAll_16 (by decide) ?_
        refine lv_topi (fun x_8 ex_8 => ?_)
        refine lv_istore (lv' := [(4, .int x_8), (3, .int y_2), (0, .ref a0), (1, .int x1), (2, .int x2)]) hx hb dX12_seatAll_17 hl (by decide) rfl (fun ls hl => ?_)
        refine lv_iload_n hx hb dX12_seatAll_19 rfl (lv_at hl 3 rfl) ?_
        refine lv_iload hx hb dX12_seatAll_20 (lv_at hl 0 rfl) ?_
        have g_9 := z_rng x1
        have g_10 := z_rng x2
        have g_11 := z_rng y_2
        obtain ⟨f_7, l_7, u_7⟩ := z_add ex_7 rfl rfl
        try replace f_7 : x_7.toInt = x2.toInt + y_2.toInt := by omega
        clear l_7 u_7
        have f_8 := z_rem ex_8 rfl ti_4 (by decide)
        have hq_12 : 0 ≤ x1.toInt ∧ x1.toInt ≤ 65535 := by (first | assumption | omega | (intros; omega))
        have hq_13 : 0 ≤ x_8.toInt ∧ x_8.toInt ≤ 3 := by (first | assumption | omega | (intros; omega))
        refine zcS (zrS (As := [.int x1, .int x_8]) (rest := []) C hs hP hS (c_X12_leftOf l D K hM f_4 A_4 hT x1 x_8 hq_12 hq_13) m_X12_leftOf wm_X12_244 ⟨by decide, by decide⟩ hl.1 (Nat.le_of_ble_eq_true rfl) dX12_seatAll_22) (fun x_14 p_14 => ?_)
        have pp_14 : 0 ≤ x_14.toInt ∧ x_14.toInt ≤ 4 ∧ (x_14.toInt ≤ 0 → nib x1.toInt x_8.toInt = 0) ∧ (0 < x_14.toInt → x1.toInt ≠ 0) := p_14
        refine bz_le (tgt := 49) hx hb rfl dX12_seatAll_25 (by decide) (fun c_15 => ?_) (fun c_15 => ?_)
        · skip
          obtain ⟨x_16, ex_16⟩ : ∃ y : Int32, y = y_2 + 1 := ⟨_, rfl⟩
          refine lv_iinc (v := x_16) (lv' := [(3, .int x_16), (4, .int x_8), (0, .ref a0), (1, .int x1), (2, .int x2)]) hx hb dX12_seatAll_49 hl (k := 1) rfl (by rw [ex_16]; rfl) (by decide) rfl (fun ls hl => ?_)
          refine lv_goto (tgt := 7) hx hb dX12_seatAll_52 (by decide) ?_
          obtain ⟨f_16, l_16, u_16⟩ := z_add ex_16 rfl ti_1
          try replace f_16 : x_16.toInt = y_2.toInt + 1 := by omega
          clear l_16 u_16
          have g_17 := z_rng x_14
          exact ih_3 f_4 A_4 _ _ x_16 _ (by omega) (by omega) (by omega) (fun h9 => nz4.s (iv_4_2 h9) (by omega) (by rw [← show x_8.toInt = (x2.toInt + y_2.toInt) % 4 by omega]; exact pp_14.2.2.1 c_15)) FA FF hT hP hS (lv_sub hl [0, 2, 3, 4] rfl)
        · skip
          refine lv_aload_n hx hb dX12_seatAll_28 rfl (lv_at hl 2 rfl) ?_
          refine mg_26 C hs hP ha0 hk0 wf_X12_60 dX12_seatAll_29 ?_
          have hf_18 := hO.r (j := 26) ha0 hk0 (rfl : zX 11 26 = some (66, 4))
          refine lv_aload_n hx hb dX12_seatAll_32 rfl (lv_at hl 2 rfl) ?_
          refine mg_27 C hs hP ha0 hk0 wf_X12_253 dX12_seatAll_33 ?_
          have tf_19 : 0 ≤ (f_4 27).toInt ∧ (f_4 27).toInt ≤ 4 := hT.1 27
          refine lv_iload hx hb dX12_seatAll_36 (lv_at hl 0 rfl) ?_
          have g_21 := z_rng (f_4 27)
          have hin_20 : vp_in (f_4 27) (zn K (zr K a0 26)) := vp_in_iff.mpr (by rw [(hf_18.2.2 (by decide))]; refine ⟨?_, ?_⟩ <;> omega)
          refine mst_66 C hM hs hP hS hf_18.1 hT hf_18.2.1 hin_20 (show 0 ≤ x_8.toInt ∧ x_8.toInt ≤ 3 from by omega) dX12_seatAll_38 (fun A_22 H locs hE_22 hT hP hS => ?_)
          have FA := frA FA (frAu hE_22) (by decide)
          refine lv_aload_n hx hb dX12_seatAll_39 rfl (lv_at hl 2 rfl) ?_
          refine lv_dup hx hb dX12_seatAll_40 rfl ?_
          refine mg_27 C hs hP ha0 hk0 wf_X12_253 dX12_seatAll_41 ?_
          refine lv_iconst (v := 1) hx hb dX12_seatAll_44 (by decide) ?_
          refine lv_iadd hx hb dX12_seatAll_45 ?_
          refine lv_topi (fun x_23 ex_23 => ?_)
          obtain ⟨f_23, l_23, u_23⟩ := z_add ex_23 rfl ti_1
          try replace f_23 : x_23.toInt = (f_4 27).toInt + 1 := by omega
          clear l_23 u_23
          refine mp_27 C hM hs hP hS ha0 hT hk0 wf_X12_253 (show 0 ≤ x_23.toInt ∧ x_23.toInt ≤ 4 from by omega) dX12_seatAll_46 (fun f_24 H locs hE_24 hT hP hS => ?_)
          have FF := frF FF (frFu hE_24) (by decide)
          obtain ⟨x_25, ex_25⟩ : ∃ y : Int32, y = y_2 + 1 := ⟨_, rfl⟩
          refine lv_iinc (v := x_25) (lv' := [(3, .int x_25), (4, .int x_8), (0, .ref a0), (1, .int x1), (2, .int x2)]) hx hb dX12_seatAll_49 hl (k := 1) rfl (by rw [ex_25]; rfl) (by decide) rfl (fun ls hl => ?_)
          refine lv_goto (tgt := 7) hx hb dX12_seatAll_52 (by decide) ?_
          obtain ⟨f_25, l_25, u_25⟩ := z_add ex_25 rfl ti_1
          try replace f_25 : x_25.toInt = y_2.toInt + 1 := by omega
          clear l_25 u_25
          have g_26 := z_rng x_14
          have ev_27 : f_24 27 = x_23 := by rw [hE_24, pk_us]
          exact ih_3 f_24 A_22 _ _ x_25 _ (by omega) (by omega) (by rw [ev_27]; omega) (fun h9 => by rw [ev_27] at h9; omega) FA FF hT hP hS (lv_sub hl [0, 2, 3, 4] rfl)
  have ev_28 : f_1 27 = (0 : Int32) := by rw [hE_1, pk_us]
  have ev_28_i : (f_1 27).toInt = 0 := by rw [ev_28, ti_0]
  exact L_7_3 _ f_1 A _ _ 0 _ (Nat.lt_succ_self _) (by (try simp only [ti_0]); omega) (by rw [ev_28, ti_0]; decide) (fun _ => nz4.z (by rw [ti_0]; decide)) FA FF hT hP hS (lv_sub hl [0, 1, 2, 3] rfl)
set_option maxHeartbeats 4000000 in
set_option maxRecDepth 100000 in
theorem c_X12_leaderFrom (l : Launch) (D : va_G) (K : zK) (hM : mK K) (f : Nat → Int32) (A : Nat → Nat → Int32) (hT : mT f A) (a0 : Nat) (ha0 : a0 ∈ zl K) (hk0 : zk K a0 = 11) (x1 : Int32) (x2 : Int32) (hp0 : 0 ≤ x1.toInt ∧ x1.toInt ≤ 65535) (hp1 : 0 ≤ x2.toInt ∧ x2.toInt ≤ 3) : Met l yX12_leaderFrom (zc yX12_leaderFrom cX12_leaderFrom 4 (some .int)) (rmd 1) (va_Pc [.ref a0, .int x1, .int x2] (zB D K (mV K f A))) (vp_Si (fun r => r.toInt = -1 ∨ (0 ≤ r.toInt ∧ r.toInt ≤ 3 ∧ x1.toInt ≠ 0))) 0 0 (fun _ => False) := by
  refine zin (by decide) (Nat.le_of_ble_eq_true rfl) ?_
  intro p e s m args below meth c ls Q hQ C hr hlk hP hs hl
  have C : CallFix p m c cX12_leaderFrom 4 s args zw RX12 := C
  obtain ⟨hx, hb, hml, hown, hts⟩ := id C
  have hO := hM.1
  have hS : va_S (zA K) s.heap s.heap [] := va_S.rf
  have hl : lv_has ls 4 [(0, .ref a0), (1, .int x1), (2, .int x2)] := hl
  refine lv_iconst (v := 0) hx hb dX12_leaderFrom_0 (by decide) ?_
  refine lv_istore_n (lv' := [(3, .int 0), (0, .ref a0), (1, .int x1), (2, .int x2)]) hx hb dX12_leaderFrom_1 rfl hl (by decide) rfl (fun ls hl => ?_)
  have L_2_2 : ∀ (n_2 : Nat) (y_1 : Int32) (ls : Array Slot), (2147483648 - y_1.toInt).toNat < n_2 → 0 ≤ y_1.toInt → lv_has ls 4 [(3, .int y_1), (0, .ref a0), (1, .int x1), (2, .int x2)] → W p l e (rmd 1) s m args below meth c s.heap [] 0 0 Q (F0 m 2 ls []) := by
    intro n_2
    induction n_2 with
    | zero => intro y_1 ls hm_2; exact absurd hm_2 (Nat.not_lt_zero _)
    | succ n_2 ih_2 =>
      intro y_1 ls hm_2 iv_3_0 hl
      refine lv_iload_n hx hb dX12_leaderFrom_2 rfl (lv_at hl 0 rfl) ?_
      refine lv_iconst (v := 4) hx hb dX12_leaderFrom_3 (by decide) ?_
      refine bi_ge (tgt := 31) hx hb rfl ti_4 dX12_leaderFrom_4 (by decide) (fun c_4 => ?_) (fun c_4 => ?_)
      · skip
        refine lv_iconst (v := (-1)) hx hb dX12_leaderFrom_31 (by decide) ?_
        exact zaS hQ hx hb hr hlk (by (try dsimp only); (try simp only [ti_m1]); (first | omega | (intro h9; omega) | (simp; done) | (refine ⟨?_, ?_⟩ <;> intros <;> first | trivial | omega) | (refine ⟨?_, ?_, ?_⟩ <;> intros <;> first | trivial | omega))) dX12_leaderFrom_32
      · skip
        refine lv_iload_n hx hb dX12_leaderFrom_7 rfl (lv_at hl 2 rfl) ?_
        refine lv_iload_n hx hb dX12_leaderFrom_8 rfl (lv_at hl 3 rfl) ?_
        refine lv_iload_n hx hb dX12_leaderFrom_9 rfl (lv_at hl 0 rfl) ?_
        refine lv_iadd hx hb dX12_leaderFrom_10 ?_
        refine lv_topi (fun x_5 ex_5 => ?_)
        refine lv_iconst (v := 4) hx hb dX12_leaderFrom_11 (by decide) ?_
        refine lv_irem hx hb dX12_leaderFrom_12 (by decide) ?_
        refine lv_topi (fun x_6 ex_6 => ?_)
        have g_7 := z_rng x1
        have g_8 := z_rng x2
        have g_9 := z_rng y_1
        obtain ⟨f_5, l_5, u_5⟩ := z_add ex_5 rfl rfl
        try replace f_5 : x_5.toInt = x2.toInt + y_1.toInt := by omega
        clear l_5 u_5
        have f_6 := z_rem ex_6 rfl ti_4 (by decide)
        have hq_10 : 0 ≤ x1.toInt ∧ x1.toInt ≤ 65535 := by (first | assumption | omega | (intros; omega))
        have hq_11 : 0 ≤ x_6.toInt ∧ x_6.toInt ≤ 3 := by (first | assumption | omega | (intros; omega))
        refine zcS (zrS (As := [.int x1, .int x_6]) (rest := []) C hs hP hS (c_X12_leftOf l D K hM f A hT x1 x_6 hq_10 hq_11) m_X12_leftOf wm_X12_244 ⟨by decide, by decide⟩ hl.1 (Nat.le_of_ble_eq_true rfl) dX12_leaderFrom_13) (fun x_12 p_12 => ?_)
        have pp_12 : 0 ≤ x_12.toInt ∧ x_12.toInt ≤ 4 ∧ (x_12.toInt ≤ 0 → nib x1.toInt x_6.toInt = 0) ∧ (0 < x_12.toInt → x1.toInt ≠ 0) := p_12
        refine bz_le (tgt := 25) hx hb rfl dX12_leaderFrom_16 (by decide) (fun c_13 => ?_) (fun c_13 => ?_)
        · skip
          obtain ⟨x_14, ex_14⟩ : ∃ y : Int32, y = y_1 + 1 := ⟨_, rfl⟩
          refine lv_iinc (v := x_14) (lv' := [(3, .int x_14), (0, .ref a0), (1, .int x1), (2, .int x2)]) hx hb dX12_leaderFrom_25 hl (k := 0) rfl (by rw [ex_14]; rfl) (by decide) rfl (fun ls hl => ?_)
          refine lv_goto (tgt := 2) hx hb dX12_leaderFrom_28 (by decide) ?_
          obtain ⟨f_14, l_14, u_14⟩ := z_add ex_14 rfl ti_1
          try replace f_14 : x_14.toInt = y_1.toInt + 1 := by omega
          clear l_14 u_14
          have g_15 := z_rng x_12
          exact ih_2 x_14 _ (by omega) (by omega) (lv_sub hl [0, 1, 2, 3] rfl)
        · skip
          refine lv_iload_n hx hb dX12_leaderFrom_19 rfl (lv_at hl 3 rfl) ?_
          refine lv_iload_n hx hb dX12_leaderFrom_20 rfl (lv_at hl 0 rfl) ?_
          refine lv_iadd hx hb dX12_leaderFrom_21 ?_
          refine lv_topi (fun x_16 ex_16 => ?_)
          refine lv_iconst (v := 4) hx hb dX12_leaderFrom_22 (by decide) ?_
          refine lv_irem hx hb dX12_leaderFrom_23 (by decide) ?_
          refine lv_topi (fun x_17 ex_17 => ?_)
          obtain ⟨f_16, l_16, u_16⟩ := z_add ex_16 rfl rfl
          try replace f_16 : x_16.toInt = x2.toInt + y_1.toInt := by omega
          clear l_16 u_16
          have f_17 := z_rem ex_17 rfl ti_4 (by decide)
          exact zaS hQ hx hb hr hlk (by (try dsimp only); (first | omega | (intro h9; omega) | (simp; done) | (refine ⟨?_, ?_⟩ <;> intros <;> first | trivial | omega) | (refine ⟨?_, ?_, ?_⟩ <;> intros <;> first | trivial | omega))) dX12_leaderFrom_24
  exact L_2_2 _ 0 _ (Nat.lt_succ_self _) (by (try simp only [ti_0]); omega) (lv_sub hl [0, 1, 2, 3] rfl)
set_option maxHeartbeats 4000000 in
set_option maxRecDepth 100000 in
theorem c_X12_handLeft (l : Launch) (D : va_G) (K : zK) (hM : mK K) (f : Nat → Int32) (A : Nat → Nat → Int32) (hT : mT f A) (a0 : Nat) (ha0 : a0 ∈ zl K) (hk0 : zk K a0 = 11) (x1 : Int32) (hp0 : 0 ≤ x1.toInt ∧ x1.toInt ≤ 3) : Met l yX12_handLeft (zc yX12_handLeft cX12_handLeft 3 none) (rmd 0) (va_Pc [.ref a0, .int x1] (zB D K (mV K f A))) (mQv D K (fun f' A' => mT f' A' ∧ (∀ k, k ∉ ([53] : List Nat) → A' k = A k) ∧ (∀ k, k ∉ ([14] : List Nat) → f' k = f k))) 0 0 (zA K) := by
  refine zin (by decide) (Nat.le_of_ble_eq_true rfl) ?_
  intro p e s m args below meth c ls Q hQ C hr hlk hP hs hl
  have C : CallFix p m c cX12_handLeft 3 s args zw RX12 := C
  obtain ⟨hx, hb, hml, hown, hts⟩ := id C
  have hO := hM.1
  have hS : va_S (zA K) s.heap s.heap [] := va_S.rf
  have FA : ∀ k, k ∉ ([53] : List Nat) → A k = A k := fun _ _ => rfl
  have FF : ∀ k, k ∉ ([14] : List Nat) → f k = f k := fun _ _ => rfl
  have hl : lv_has ls 3 [(0, .ref a0), (1, .int x1)] := hl
  refine lv_aload_n hx hb dX12_handLeft_0 rfl (lv_at hl 0 rfl) ?_
  refine lv_iconst (v := 0) hx hb dX12_handLeft_1 (by decide) ?_
  refine mp_14 C hM hs hP hS ha0 hT hk0 wf_X12_117 (show 0 ≤ (0 : Int32).toInt ∧ (0 : Int32).toInt ≤ 60 from by rw [ti_0]; omega) dX12_handLeft_2 (fun f_1 H locs hE_1 hT hP hS => ?_)
  have FF := frF FF (frFu hE_1) (by decide)
  refine lv_iconst (v := 0) hx hb dX12_handLeft_5 (by decide) ?_
  refine lv_istore_n (lv' := [(2, .int 0), (0, .ref a0), (1, .int x1)]) hx hb dX12_handLeft_6 rfl hl (by decide) rfl (fun ls hl => ?_)
  have L_7_3 : ∀ (n_3 : Nat) (f_4 : Nat → Int32) (A_4 : Nat → Nat → Int32) (H : Heap) (locs : List Loc) (y_2 : Int32) (ls : Array Slot), (2147483648 - y_2.toInt).toNat < n_3 → 0 ≤ y_2.toInt → (f_4 14).toInt ≤ y_2.toInt → (∀ k, k ∉ ([53] : List Nat) → A_4 k = A k) → (∀ k, k ∉ ([14] : List Nat) → f_4 k = f k) → mT f_4 A_4 → va_P D vwCl (zW K (mV K f_4 A_4)) H → va_S (zA K) s.heap H locs → lv_has ls 3 [(2, .int y_2), (0, .ref a0), (1, .int x1)] → W p l e (rmd 0) s m args below meth c H locs 0 0 Q (F0 m 7 ls []) := by
    intro n_3
    induction n_3 with
    | zero => intro f_4 A_4 H locs y_2 ls hm_3; exact absurd hm_3 (Nat.not_lt_zero _)
    | succ n_3 ih_3 =>
      intro f_4 A_4 H locs y_2 ls hm_3 iv_4_0 iv_4_1 FA_4 FF_4 hT hP hS hl
      have FA := FA_4
      have FF := FF_4
      refine lv_iload_n hx hb dX12_handLeft_7 rfl (lv_at hl 0 rfl) ?_
      refine lv_iconst (v := 4) hx hb dX12_handLeft_8 (by decide) ?_
      refine bi_ge (tgt := 63) hx hb rfl ti_4 dX12_handLeft_9 (by decide) (fun c_6 => ?_) (fun c_6 => ?_)
      · skip
        exact maV hQ hx hb hr hlk hP hS ⟨hT, FA, FF⟩ dX12_handLeft_63
      · skip
        refine lv_aload_n hx hb dX12_handLeft_12 rfl (lv_at hl 1 rfl) ?_
        refine mg_28 C hs hP ha0 hk0 wf_X12_256 dX12_handLeft_13 ?_
        have ev_7 : f_4 28 = f 28 := by rw [FF_4 28 (by decide)]
        rw [ev_7]
        have tf_8 : 0 ≤ (f 28).toInt ∧ (f 28).toInt ≤ 65535 := by rw [← ev_7]; exact hT.1 28
        refine lv_iconst (v := 4) hx hb dX12_handLeft_16 (by decide) ?_
        refine lv_iload_n hx hb dX12_handLeft_17 rfl (lv_at hl 2 rfl) ?_
        refine lv_imul hx hb dX12_handLeft_18 ?_
        refine lv_topi (fun x_9 ex_9 => ?_)
        refine lv_iload_n hx hb dX12_handLeft_19 rfl (lv_at hl 0 rfl) ?_
        refine lv_iadd hx hb dX12_handLeft_20 ?_
        refine lv_topi (fun x_10 ex_10 => ?_)
        refine lv_ishr hx hb dX12_handLeft_21 ?_
        refine lv_topi (fun x_11 ex_11 => ?_)
        refine lv_iconst (v := 1) hx hb dX12_handLeft_22 (by decide) ?_
        refine lv_iand hx hb dX12_handLeft_23 ?_
        refine lv_topi (fun x_12 ex_12 => ?_)
        refine lv_iconst (v := 1) hx hb dX12_handLeft_24 (by decide) ?_
        refine bi_ne (tgt := 57) hx hb rfl ti_1 dX12_handLeft_25 (by decide) (fun c_13 => ?_) (fun c_13 => ?_)
        · skip
          obtain ⟨x_14, ex_14⟩ : ∃ y : Int32, y = y_2 + 1 := ⟨_, rfl⟩
          refine lv_iinc (v := x_14) (lv' := [(2, .int x_14), (0, .ref a0), (1, .int x1)]) hx hb dX12_handLeft_57 hl (k := 0) rfl (by rw [ex_14]; rfl) (by decide) rfl (fun ls hl => ?_)
          refine lv_goto (tgt := 7) hx hb dX12_handLeft_60 (by decide) ?_
          have g_15 := z_rng y_2
          obtain ⟨f_14, l_14, u_14⟩ := z_add ex_14 rfl ti_1
          try replace f_14 : x_14.toInt = y_2.toInt + 1 := by omega
          clear l_14 u_14
          have g_16 := z_rng x_12
          have f_12 := z_and ex_12 ti_1 (by decide)
          exact ih_3 f_4 A_4 _ _ x_14 _ (by omega) (by omega) (by omega) FA FF hT hP hS (lv_sub hl [0, 1, 2] rfl)
        · skip
          refine lv_aload_n hx hb dX12_handLeft_28 rfl (lv_at hl 1 rfl) ?_
          refine mg_13 C hs hP ha0 hk0 wf_X12_36 dX12_handLeft_29 ?_
          have hf_17 := hO.r (j := 13) ha0 hk0 (rfl : zX 11 13 = some (53, 60))
          refine lv_aload_n hx hb dX12_handLeft_32 rfl (lv_at hl 1 rfl) ?_
          refine mg_14 C hs hP ha0 hk0 wf_X12_117 dX12_handLeft_33 ?_
          have tf_18 : 0 ≤ (f_4 14).toInt ∧ (f_4 14).toInt ≤ 60 := hT.1 14
          refine lv_aload_n hx hb dX12_handLeft_36 rfl (lv_at hl 1 rfl) ?_
          refine mg_18 C hs hP ha0 hk0 wf_X12_42 dX12_handLeft_37 ?_
          have hf_19 := hO.r (j := 18) ha0 hk0 (rfl : zX 11 18 = some (58, 16))
          refine lv_iconst (v := 4) hx hb dX12_handLeft_40 (by decide) ?_
          refine lv_iload_n hx hb dX12_handLeft_41 rfl (lv_at hl 2 rfl) ?_
          refine lv_imul hx hb dX12_handLeft_42 ?_
          refine lv_topi (fun x_20 ex_20 => ?_)
          refine lv_iload_n hx hb dX12_handLeft_43 rfl (lv_at hl 0 rfl) ?_
          refine lv_iadd hx hb dX12_handLeft_44 ?_
          refine lv_topi (fun x_21 ex_21 => ?_)
          have g_23 := z_rng x1
          obtain ⟨f_20, l_20, u_20⟩ := z_mul ex_20 ti_4 rfl
          try replace f_20 : x_20.toInt = 4 * x1.toInt := by omega
          clear l_20 u_20
          have g_24 := z_rng y_2
          obtain ⟨f_21, l_21, u_21⟩ := z_add ex_21 rfl rfl
          try replace f_21 : x_21.toInt = x_20.toInt + y_2.toInt := by omega
          clear l_21 u_21
          have f_12 := z_and ex_12 ti_1 (by decide)
          have hin_22 : vp_in x_21 (zn K (zr K a0 18)) := vp_in_iff.mpr (by rw [(hf_19.2.2 (by decide))]; refine ⟨?_, ?_⟩ <;> omega)
          refine mld_58 C hs hP hf_19.1 hf_19.2.1 hin_22 dX12_handLeft_45 ?_
          have ev_25 : A_4 58 x_21.toNatClampNeg = A 58 x_21.toNatClampNeg := by rw [FA_4 58 (by decide)]
          have tv_26 := ra_58 hT (vp_in_iff.mp hin_22).1 (by have h7 := (vp_in_iff.mp hin_22).2; rw [(hf_19.2.2 (by decide))] at h7; exact h7)
          rw [ev_25] at tv_26
          rw [ev_25]
          have g_28 := z_rng (f_4 14)
          have hin_27 : vp_in (f_4 14) (zn K (zr K a0 13)) := vp_in_iff.mpr (by rw [(hf_17.2.2 (by decide))]; refine ⟨?_, ?_⟩ <;> omega)
          have g_30 := z_rng (A 58 x_21.toNatClampNeg)
          refine mst_53 C hM hs hP hS hf_17.1 hT hf_17.2.1 hin_27 (show 0 ≤ (A 58 x_21.toNatClampNeg).toInt ∧ (A 58 x_21.toNatClampNeg).toInt ≤ 59 from by omega) dX12_handLeft_46 (fun A_29 H locs hE_29 hT hP hS => ?_)
          have FA := frA FA (frAu hE_29) (by decide)
          refine lv_aload_n hx hb dX12_handLeft_47 rfl (lv_at hl 1 rfl) ?_
          refine lv_dup hx hb dX12_handLeft_48 rfl ?_
          refine mg_14 C hs hP ha0 hk0 wf_X12_117 dX12_handLeft_49 ?_
          refine lv_iconst (v := 1) hx hb dX12_handLeft_52 (by decide) ?_
          refine lv_iadd hx hb dX12_handLeft_53 ?_
          refine lv_topi (fun x_31 ex_31 => ?_)
          obtain ⟨f_31, l_31, u_31⟩ := z_add ex_31 rfl ti_1
          try replace f_31 : x_31.toInt = (f_4 14).toInt + 1 := by omega
          clear l_31 u_31
          refine mp_14 C hM hs hP hS ha0 hT hk0 wf_X12_117 (show 0 ≤ x_31.toInt ∧ x_31.toInt ≤ 60 from by omega) dX12_handLeft_54 (fun f_32 H locs hE_32 hT hP hS => ?_)
          have FF := frF FF (frFu hE_32) (by decide)
          obtain ⟨x_33, ex_33⟩ : ∃ y : Int32, y = y_2 + 1 := ⟨_, rfl⟩
          refine lv_iinc (v := x_33) (lv' := [(2, .int x_33), (0, .ref a0), (1, .int x1)]) hx hb dX12_handLeft_57 hl (k := 0) rfl (by rw [ex_33]; rfl) (by decide) rfl (fun ls hl => ?_)
          refine lv_goto (tgt := 7) hx hb dX12_handLeft_60 (by decide) ?_
          obtain ⟨f_33, l_33, u_33⟩ := z_add ex_33 rfl ti_1
          try replace f_33 : x_33.toInt = y_2.toInt + 1 := by omega
          clear l_33 u_33
          have g_34 := z_rng x_12
          have ev_35 : f_32 14 = x_31 := by rw [hE_32, pk_us]
          exact ih_3 f_32 A_29 _ _ x_33 _ (by omega) (by omega) (by rw [ev_35]; omega) FA FF hT hP hS (lv_sub hl [0, 1, 2] rfl)
  have ev_36 : f_1 14 = (0 : Int32) := by rw [hE_1, pk_us]
  have ev_36_i : (f_1 14).toInt = 0 := by rw [ev_36, ti_0]
  exact L_7_3 _ f_1 A _ _ 0 _ (Nat.lt_succ_self _) (by (try simp only [ti_0]); omega) (by rw [ev_36, ti_0]; decide) FA FF hT hP hS (lv_sub hl [0, 1, 2] rfl)
set_option maxHeartbeats 4000000 in
set_option maxRecDepth 100000 in
theorem c_X12_rate (l : Launch) (D : va_G) (K : zK) (hM : mK K) (f : Nat → Int32) (A : Nat → Nat → Int32) (hT : mT f A) (a0 : Nat) (ha0 : a0 ∈ zl K) (hk0 : zk K a0 = 11) (x1 : Int32) (x2 : Int32) (x3 : Int32) (hp0 : 0 ≤ x1.toInt ∧ x1.toInt ≤ 3) : Met l yX12_rate (zc yX12_rate cX12_rate 6 none) (rmd 1) (va_Pc [.ref a0, .int x1, .int x2, .int x3] (zB D K (mV K f A))) (mQv D K (fun f' A' => mT f' A' ∧ (∀ k, k ∉ ([71, 72, 73] : List Nat) → A' k = A k) ∧ (∀ k, k ∉ ([34] : List Nat) → f' k = f k))) 0 0 (zA K) := by
  refine zin (by decide) (Nat.le_of_ble_eq_true rfl) ?_
  intro p e s m args below meth c ls Q hQ C hr hlk hP hs hl
  have C : CallFix p m c cX12_rate 6 s args zw RX12 := C
  obtain ⟨hx, hb, hml, hown, hts⟩ := id C
  have hO := hM.1
  have hS : va_S (zA K) s.heap s.heap [] := va_S.rf
  have FA : ∀ k, k ∉ ([71, 72, 73] : List Nat) → A k = A k := fun _ _ => rfl
  have FF : ∀ k, k ∉ ([34] : List Nat) → f k = f k := fun _ _ => rfl
  have hl : lv_has ls 6 [(0, .ref a0), (1, .int x1), (2, .int x2), (3, .int x3)] := hl
  refine lv_aload_n hx hb dX12_rate_0 rfl (lv_at hl 0 rfl) ?_
  refine mg_26 C hs hP ha0 hk0 wf_X12_60 dX12_rate_1 ?_
  have hf_1 := hO.r (j := 26) ha0 hk0 (rfl : zX 11 26 = some (66, 4))
  refine lv_iload_n hx hb dX12_rate_4 rfl (lv_at hl 1 rfl) ?_
  have g_3 := z_rng x1
  have hin_2 : vp_in x1 (zn K (zr K a0 26)) := vp_in_iff.mpr (by rw [(hf_1.2.2 (by decide))]; refine ⟨?_, ?_⟩ <;> omega)
  refine mld_66 C hs hP hf_1.1 hf_1.2.1 hin_2 dX12_rate_5 ?_
  have tv_4 := ra_66 hT (vp_in_iff.mp hin_2).1 (by have h7 := (vp_in_iff.mp hin_2).2; rw [(hf_1.2.2 (by decide))] at h7; exact h7)
  refine lv_iconst (v := 2) hx hb dX12_rate_6 (by decide) ?_
  refine lv_irem hx hb dX12_rate_7 (by decide) ?_
  refine lv_topi (fun x_5 ex_5 => ?_)
  refine lv_aload_n hx hb dX12_rate_8 rfl (lv_at hl 0 rfl) ?_
  refine mg_25 C hs hP ha0 hk0 wf_X12_262 dX12_rate_9 ?_
  have J_20_8 : ∀ (y_7 : Int32) (ls : Array Slot), (y_7 = 0 ∨ y_7 = 1) → lv_has ls 6 [(0, .ref a0), (1, .int x1), (2, .int x2), (3, .int x3)] → W p l e (rmd 1) s m args below meth c s.heap [] 0 0 Q (F0 m 20 ls [.int y_7]) := by
    intro y_7 ls hb_y_7 hl
    refine lv_istore (lv' := [(4, .int y_7), (0, .ref a0), (1, .int x1), (2, .int x2), (3, .int x3)]) hx hb dX12_rate_20 hl (by decide) rfl (fun ls hl => ?_)
    refine lv_aload_n hx hb dX12_rate_22 rfl (lv_at hl 1 rfl) ?_
    refine mg_31 C hs hP ha0 hk0 wf_X12_69 dX12_rate_23 ?_
    have hf_10 := hO.r (j := 31) ha0 hk0 (rfl : zX 11 31 = some (71, 4))
    refine lv_iload_n hx hb dX12_rate_26 rfl (lv_at hl 2 rfl) ?_
    have hin_11 : vp_in x1 (zn K (zr K a0 31)) := vp_in_iff.mpr (by rw [(hf_10.2.2 (by decide))]; refine ⟨?_, ?_⟩ <;> omega)
    refine mld_71 C hs hP hf_10.1 hf_10.2.1 hin_11 dX12_rate_27 ?_
    have tv_12 := ra_71 hT (vp_in_iff.mp hin_11).1 (by have h7 := (vp_in_iff.mp hin_11).2; rw [(hf_10.2.2 (by decide))] at h7; exact h7)
    have J_64_22 : ∀ (y_21 : Int32) (ls : Array Slot), (y_21 = 0 ∨ y_21 = 1) → lv_has ls 6 [(0, .ref a0), (1, .int x1), (2, .int x2), (3, .int x3), (4, .int y_7)] → W p l e (rmd 1) s m args below meth c s.heap [] 0 0 Q (F0 m 64 ls [.int y_21]) := by
      intro y_21 ls hb_y_21 hl
      refine lv_istore (lv' := [(5, .int y_21), (0, .ref a0), (1, .int x1), (2, .int x2), (3, .int x3), (4, .int y_7)]) hx hb dX12_rate_64 hl (by decide) rfl (fun ls hl => ?_)
      refine lv_iload hx hb dX12_rate_66 (lv_at hl 5 rfl) ?_
      have J_124_50 : ∀ (A_51 : Nat → Nat → Int32) (H : Heap) (locs : List Loc) (ls : Array Slot), (∀ k, k ∉ ([71, 72, 73] : List Nat) → A_51 k = A k) → mT f A_51 → va_P D vwCl (zW K (mV K f A_51)) H → va_S (zA K) s.heap H locs → lv_has ls 6 [(0, .ref a0), (1, .int x1), (2, .int x2), (3, .int x3), (4, .int y_7), (5, .int y_21)] → W p l e (rmd 1) s m args below meth c H locs 0 0 Q (F0 m 124 ls []) := by
        intro A_51 H locs ls FA_51 hT hP hS hl
        have FA := FA_51
        refine lv_aload_n hx hb dX12_rate_124 rfl (lv_at hl 0 rfl) ?_
        refine mg_32 C hs hP ha0 hk0 wf_X12_72 dX12_rate_125 ?_
        have hf_53 := hO.r (j := 32) ha0 hk0 (rfl : zX 11 32 = some (72, 4))
        refine lv_iload_n hx hb dX12_rate_128 rfl (lv_at hl 1 rfl) ?_
        refine lv_iload hx hb dX12_rate_129 (lv_at hl 5 rfl) ?_
        have J_144_57 : ∀ (y_56 : Int32) (ls : Array Slot), lv_has ls 6 [(0, .ref a0), (1, .int x1), (2, .int x2), (3, .int x3), (4, .int y_7), (5, .int y_21)] → W p l e (rmd 1) s m args below meth c H locs 0 0 Q (F0 m 144 ls [.int y_56, .int x1, .ref (zr K a0 32)]) := by
          intro y_56 ls hl
          have hin_59 : vp_in x1 (zn K (zr K a0 32)) := vp_in_iff.mpr (by rw [(hf_53.2.2 (by decide))]; refine ⟨?_, ?_⟩ <;> omega)
          refine mst_72 C hM hs hP hS hf_53.1 hT hf_53.2.1 hin_59 trivial dX12_rate_144 (fun A_60 H locs hE_60 hT hP hS => ?_)
          have FA := frA FA (frAu hE_60) (by decide)
          refine lv_aload_n hx hb dX12_rate_145 rfl (lv_at hl 0 rfl) ?_
          refine lv_iload hx hb dX12_rate_146 (lv_at hl 5 rfl) ?_
          refine bz_eq (tgt := 168) hx hb rfl dX12_rate_148 (by decide) (fun c_61 => ?_) (fun c_61 => ?_)
          · skip
            refine lv_aload_n hx hb dX12_rate_168 rfl (lv_at hl 0 rfl) ?_
            refine mg_34 C hs hP ha0 hk0 wf_X12_268 dX12_rate_169 ?_
            have tf_62 : 0 ≤ (f 34).toInt ∧ (f 34).toInt ≤ 3 := hT.1 34
            have g_64 := z_rng (f 34)
            refine mp_34 C hM hs hP hS ha0 hT hk0 wf_X12_268 (show 0 ≤ (f 34).toInt ∧ (f 34).toInt ≤ 3 from by omega) dX12_rate_172 (fun f_63 H locs hE_63 hT hP hS => ?_)
            have FF := frF FF (frFu hE_63) (by decide)
            refine lv_aload_n hx hb dX12_rate_175 rfl (lv_at hl 0 rfl) ?_
            refine mg_31 C hs hP ha0 hk0 wf_X12_69 dX12_rate_176 ?_
            refine lv_iload_n hx hb dX12_rate_179 rfl (lv_at hl 1 rfl) ?_
            refine lv_iconst (v := 1) hx hb dX12_rate_180 (by decide) ?_
            have hin_65 : vp_in x1 (zn K (zr K a0 31)) := vp_in_iff.mpr (by rw [(hf_10.2.2 (by decide))]; refine ⟨?_, ?_⟩ <;> omega)
            have hw_66 : vp_nar .boolean 1 = 1 := by decide +kernel
            refine mst_71 C hM hs hP hS hf_10.1 hT hf_10.2.1 hin_65 (by rw [hw_66]; show 0 ≤ (1 : Int32).toInt ∧ (1 : Int32).toInt ≤ 1; rw [ti_1]; omega) dX12_rate_181 (fun A_66 H locs hE_66 hT hP hS => ?_)
            rw [hw_66] at hE_66
            have FA := frA FA (frAu hE_66) (by decide)
            exact maV hQ hx hb hr hlk hP hS ⟨hT, FA, FF⟩ dX12_rate_182
          · skip
            refine lv_iload_n hx hb dX12_rate_151 rfl (lv_at hl 1 rfl) ?_
            refine lv_aload_n hx hb dX12_rate_152 rfl (lv_at hl 0 rfl) ?_
            refine mg_35 C hs hP ha0 hk0 wf_X12_265 dX12_rate_153 ?_
            refine bi_ne (tgt := 168) hx hb rfl rfl dX12_rate_156 (by decide) (fun c_67 => ?_) (fun c_67 => ?_)
            · skip
              refine lv_aload_n hx hb dX12_rate_168 rfl (lv_at hl 0 rfl) ?_
              refine mg_34 C hs hP ha0 hk0 wf_X12_268 dX12_rate_169 ?_
              have tf_68 : 0 ≤ (f 34).toInt ∧ (f 34).toInt ≤ 3 := hT.1 34
              have g_70 := z_rng (f 34)
              refine mp_34 C hM hs hP hS ha0 hT hk0 wf_X12_268 (show 0 ≤ (f 34).toInt ∧ (f 34).toInt ≤ 3 from by omega) dX12_rate_172 (fun f_69 H locs hE_69 hT hP hS => ?_)
              have FF := frF FF (frFu hE_69) (by decide)
              refine lv_aload_n hx hb dX12_rate_175 rfl (lv_at hl 0 rfl) ?_
              refine mg_31 C hs hP ha0 hk0 wf_X12_69 dX12_rate_176 ?_
              refine lv_iload_n hx hb dX12_rate_179 rfl (lv_at hl 1 rfl) ?_
              refine lv_iconst (v := 1) hx hb dX12_rate_180 (by decide) ?_
              have hin_71 : vp_in x1 (zn K (zr K a0 31)) := vp_in_iff.mpr (by rw [(hf_10.2.2 (by decide))]; refine ⟨?_, ?_⟩ <;> omega)
              have hw_72 : vp_nar .boolean 1 = 1 := by decide +kernel
              refine mst_71 C hM hs hP hS hf_10.1 hT hf_10.2.1 hin_71 (by rw [hw_72]; show 0 ≤ (1 : Int32).toInt ∧ (1 : Int32).toInt ≤ 1; rw [ti_1]; omega) dX12_rate_181 (fun A_72 H locs hE_72 hT hP hS => ?_)
              rw [hw_72] at hE_72
              have FA := frA FA (frAu hE_72) (by decide)
              exact maV hQ hx hb hr hlk hP hS ⟨hT, FA, FF⟩ dX12_rate_182
            · skip
              refine lv_aload_n hx hb dX12_rate_159 rfl (lv_at hl 0 rfl) ?_
              refine mg_30 C hs hP ha0 hk0 wf_X12_66 dX12_rate_160 ?_
              have hf_73 := hO.r (j := 30) ha0 hk0 (rfl : zX 11 30 = some (70, 4))
              refine lv_iload_n hx hb dX12_rate_163 rfl (lv_at hl 1 rfl) ?_
              have hin_74 : vp_in x1 (zn K (zr K a0 30)) := vp_in_iff.mpr (by rw [(hf_73.2.2 (by decide))]; refine ⟨?_, ?_⟩ <;> omega)
              refine mld_70 C hs hP hf_73.1 hf_73.2.1 hin_74 dX12_rate_164 ?_
              have ev_75 : A_60 70 x1.toNatClampNeg = A 70 x1.toNatClampNeg := by rw [hE_60, va_up_ne _ _ (show 70 ≠ 72 by decide), FA_51 70 (by decide)]
              have tv_76 := ra_70 hT (vp_in_iff.mp hin_74).1 (by have h7 := (vp_in_iff.mp hin_74).2; rw [(hf_73.2.2 (by decide))] at h7; exact h7)
              rw [ev_75] at tv_76
              rw [ev_75]
              refine lv_goto (tgt := 172) hx hb dX12_rate_165 (by decide) ?_
              have g_78 := z_rng (A 70 x1.toNatClampNeg)
              refine mp_34 C hM hs hP hS ha0 hT hk0 wf_X12_268 (show 0 ≤ (A 70 x1.toNatClampNeg).toInt ∧ (A 70 x1.toNatClampNeg).toInt ≤ 3 from by omega) dX12_rate_172 (fun f_77 H locs hE_77 hT hP hS => ?_)
              have FF := frF FF (frFu hE_77) (by decide)
              refine lv_aload_n hx hb dX12_rate_175 rfl (lv_at hl 0 rfl) ?_
              refine mg_31 C hs hP ha0 hk0 wf_X12_69 dX12_rate_176 ?_
              refine lv_iload_n hx hb dX12_rate_179 rfl (lv_at hl 1 rfl) ?_
              refine lv_iconst (v := 1) hx hb dX12_rate_180 (by decide) ?_
              have hin_79 : vp_in x1 (zn K (zr K a0 31)) := vp_in_iff.mpr (by rw [(hf_10.2.2 (by decide))]; refine ⟨?_, ?_⟩ <;> omega)
              have hw_80 : vp_nar .boolean 1 = 1 := by decide +kernel
              refine mst_71 C hM hs hP hS hf_10.1 hT hf_10.2.1 hin_79 (by rw [hw_80]; show 0 ≤ (1 : Int32).toInt ∧ (1 : Int32).toInt ≤ 1; rw [ti_1]; omega) dX12_rate_181 (fun A_80 H locs hE_80 hT hP hS => ?_)
              rw [hw_80] at hE_80
              have FA := frA FA (frAu hE_80) (by decide)
              exact maV hQ hx hb hr hlk hP hS ⟨hT, FA, FF⟩ dX12_rate_182
        refine bz_eq (tgt := 138) hx hb rfl dX12_rate_131 (by decide) (fun c_54 => ?_) (fun c_54 => ?_)
        · skip
          refine lv_aload_n hx hb dX12_rate_138 rfl (lv_at hl 0 rfl) ?_
          refine mg_32 C hs hP ha0 hk0 wf_X12_72 dX12_rate_139 ?_
          refine lv_iload_n hx hb dX12_rate_142 rfl (lv_at hl 1 rfl) ?_
          have hin_81 : vp_in x1 (zn K (zr K a0 32)) := vp_in_iff.mpr (by rw [(hf_53.2.2 (by decide))]; refine ⟨?_, ?_⟩ <;> omega)
          refine mld_72 C hs hP hf_53.1 hf_53.2.1 hin_81 dX12_rate_143 ?_
          exact J_144_57 (A_51 72 x1.toNatClampNeg) _ (lv_sub hl [0, 1, 2, 3, 4, 5] rfl)
        · skip
          refine lv_iload_n hx hb dX12_rate_134 rfl (lv_at hl 2 rfl) ?_
          refine lv_goto (tgt := 144) hx hb dX12_rate_135 (by decide) ?_
          exact J_144_57 x2 _ (lv_sub hl [0, 1, 2, 3, 4, 5] rfl)
      refine bz_eq (tgt := 95) hx hb rfl dX12_rate_68 (by decide) (fun c_24 => ?_) (fun c_24 => ?_)
      · skip
        refine lv_aload_n hx hb dX12_rate_95 rfl (lv_at hl 1 rfl) ?_
        refine mg_33 C hs hP ha0 hk0 wf_X12_75 dX12_rate_96 ?_
        have hf_82 := hO.r (j := 33) ha0 hk0 (rfl : zX 11 33 = some (73, 4))
        refine lv_iload_n hx hb dX12_rate_99 rfl (lv_at hl 2 rfl) ?_
        refine lv_aload_n hx hb dX12_rate_100 rfl (lv_at hl 1 rfl) ?_
        refine mg_31 C hs hP ha0 hk0 wf_X12_69 dX12_rate_101 ?_
        refine lv_iload_n hx hb dX12_rate_104 rfl (lv_at hl 2 rfl) ?_
        have hin_83 : vp_in x1 (zn K (zr K a0 31)) := vp_in_iff.mpr (by rw [(hf_10.2.2 (by decide))]; refine ⟨?_, ?_⟩ <;> omega)
        refine mld_71 C hs hP hf_10.1 hf_10.2.1 hin_83 dX12_rate_105 ?_
        have J_123_90 : ∀ (y_89 : Int32) (ls : Array Slot), lv_has ls 6 [(0, .ref a0), (1, .int x1), (2, .int x2), (3, .int x3), (4, .int y_7), (5, .int y_21)] → W p l e (rmd 1) s m args below meth c s.heap [] 0 0 Q (F0 m 123 ls [.int y_89, .int x1, .ref (zr K a0 33)]) := by
          intro y_89 ls hl
          have hin_92 : vp_in x1 (zn K (zr K a0 33)) := vp_in_iff.mpr (by rw [(hf_82.2.2 (by decide))]; refine ⟨?_, ?_⟩ <;> omega)
          refine mst_73 C hM hs hP hS hf_82.1 hT hf_82.2.1 hin_92 trivial dX12_rate_123 (fun A_93 H locs hE_93 hT hP hS => ?_)
          have FA := frA FA (frAu hE_93) (by decide)
          exact J_124_50 A_93 _ _ _ FA hT hP hS (lv_sub hl [0, 1, 2, 3, 4, 5] rfl)
        refine bz_eq (tgt := 122) hx hb rfl dX12_rate_106 (by decide) (fun c_84 => ?_) (fun c_84 => ?_)
        · skip
          refine lv_iload_n hx hb dX12_rate_122 rfl (lv_at hl 4 rfl) ?_
          exact J_123_90 x3 _ (lv_sub hl [1, 2, 3, 4, 5, 0] rfl)
        · skip
          refine lv_aload_n hx hb dX12_rate_109 rfl (lv_at hl 1 rfl) ?_
          refine mg_33 C hs hP ha0 hk0 wf_X12_75 dX12_rate_110 ?_
          refine lv_iload_n hx hb dX12_rate_113 rfl (lv_at hl 2 rfl) ?_
          have hin_94 : vp_in x1 (zn K (zr K a0 33)) := vp_in_iff.mpr (by rw [(hf_82.2.2 (by decide))]; refine ⟨?_, ?_⟩ <;> omega)
          refine mld_73 C hs hP hf_82.1 hf_82.2.1 hin_94 dX12_rate_114 ?_
          refine lv_iload_n hx hb dX12_rate_115 rfl (lv_at hl 4 rfl) ?_
          refine zcS (zrS (As := [.int (A 73 x1.toNatClampNeg), .int x3]) (rest := [.int x1, .ref (zr K a0 33)]) C hs hP hS (c_X12_least l D K hM f A hT (A 73 x1.toNatClampNeg) x3) m_X12_least wm_X12_250 ⟨by decide, by decide⟩ hl.1 (Nat.le_of_ble_eq_true rfl) dX12_rate_116) (fun x_95 p_95 => ?_)
          have pp_95 : x_95.toInt ≤ (A 73 x1.toNatClampNeg).toInt ∧ x_95.toInt ≤ x3.toInt ∧ (x_95.toInt = (A 73 x1.toNatClampNeg).toInt ∨ x_95.toInt = x3.toInt) := p_95
          have g_96 := z_rng (A 73 x1.toNatClampNeg)
          have g_97 := z_rng x3
          refine lv_goto (tgt := 123) hx hb dX12_rate_119 (by decide) ?_
          exact J_123_90 x_95 _ (lv_sub hl [1, 2, 3, 4, 5, 0] rfl)
      · skip
        refine lv_aload_n hx hb dX12_rate_71 rfl (lv_at hl 1 rfl) ?_
        refine mg_33 C hs hP ha0 hk0 wf_X12_75 dX12_rate_72 ?_
        have hf_98 := hO.r (j := 33) ha0 hk0 (rfl : zX 11 33 = some (73, 4))
        refine lv_iload_n hx hb dX12_rate_75 rfl (lv_at hl 2 rfl) ?_
        refine lv_iload hx hb dX12_rate_76 (lv_at hl 0 rfl) ?_
        have J_91_102 : ∀ (y_101 : Int32) (ls : Array Slot), lv_has ls 6 [(0, .ref a0), (1, .int x1), (2, .int x2), (3, .int x3), (4, .int y_7), (5, .int y_21)] → W p l e (rmd 1) s m args below meth c s.heap [] 0 0 Q (F0 m 91 ls [.int y_101, .int x1, .ref (zr K a0 33)]) := by
          intro y_101 ls hl
          have hin_104 : vp_in x1 (zn K (zr K a0 33)) := vp_in_iff.mpr (by rw [(hf_98.2.2 (by decide))]; refine ⟨?_, ?_⟩ <;> omega)
          refine mst_73 C hM hs hP hS hf_98.1 hT hf_98.2.1 hin_104 trivial dX12_rate_91 (fun A_105 H locs hE_105 hT hP hS => ?_)
          have FA := frA FA (frAu hE_105) (by decide)
          refine lv_goto (tgt := 124) hx hb dX12_rate_92 (by decide) ?_
          exact J_124_50 A_105 _ _ _ FA hT hP hS (lv_sub hl [0, 1, 2, 3, 4, 5] rfl)
        refine bz_eq (tgt := 85) hx hb rfl dX12_rate_78 (by decide) (fun c_99 => ?_) (fun c_99 => ?_)
        · skip
          refine lv_aload_n hx hb dX12_rate_85 rfl (lv_at hl 1 rfl) ?_
          refine mg_33 C hs hP ha0 hk0 wf_X12_75 dX12_rate_86 ?_
          refine lv_iload_n hx hb dX12_rate_89 rfl (lv_at hl 2 rfl) ?_
          have hin_106 : vp_in x1 (zn K (zr K a0 33)) := vp_in_iff.mpr (by rw [(hf_98.2.2 (by decide))]; refine ⟨?_, ?_⟩ <;> omega)
          refine mld_73 C hs hP hf_98.1 hf_98.2.1 hin_106 dX12_rate_90 ?_
          exact J_91_102 (A 73 x1.toNatClampNeg) _ (lv_sub hl [1, 2, 3, 4, 5, 0] rfl)
        · skip
          refine lv_iload_n hx hb dX12_rate_81 rfl (lv_at hl 4 rfl) ?_
          refine lv_goto (tgt := 91) hx hb dX12_rate_82 (by decide) ?_
          exact J_91_102 x3 _ (lv_sub hl [1, 2, 3, 4, 5, 0] rfl)
    refine bz_eq (tgt := 59) hx hb rfl dX12_rate_28 (by decide) (fun c_13 => ?_) (fun c_13 => ?_)
    · skip
      refine lv_iconst (v := 1) hx hb dX12_rate_59 (by decide) ?_
      refine lv_goto (tgt := 64) hx hb dX12_rate_60 (by decide) ?_
      exact J_64_22 1 _ (Or.inr rfl) (lv_sub hl [1, 2, 3, 4, 0] rfl)
    · skip
      refine lv_iload hx hb dX12_rate_31 (lv_at hl 0 rfl) ?_
      refine bz_eq (tgt := 49) hx hb rfl dX12_rate_33 (by decide) (fun c_107 => ?_) (fun c_107 => ?_)
      · skip
        refine lv_iload_n hx hb dX12_rate_49 rfl (lv_at hl 3 rfl) ?_
        refine lv_aload_n hx hb dX12_rate_50 rfl (lv_at hl 1 rfl) ?_
        refine mg_32 C hs hP ha0 hk0 wf_X12_72 dX12_rate_51 ?_
        have hf_108 := hO.r (j := 32) ha0 hk0 (rfl : zX 11 32 = some (72, 4))
        refine lv_iload_n hx hb dX12_rate_54 rfl (lv_at hl 2 rfl) ?_
        have hin_109 : vp_in x1 (zn K (zr K a0 32)) := vp_in_iff.mpr (by rw [(hf_108.2.2 (by decide))]; refine ⟨?_, ?_⟩ <;> omega)
        refine mld_72 C hs hP hf_108.1 hf_108.2.1 hin_109 dX12_rate_55 ?_
        refine bi_ge (tgt := 63) hx hb rfl rfl dX12_rate_56 (by decide) (fun c_110 => ?_) (fun c_110 => ?_)
        · skip
          refine lv_iconst (v := 0) hx hb dX12_rate_63 (by decide) ?_
          exact J_64_22 0 _ (Or.inl rfl) (lv_sub hl [1, 2, 3, 4, 0] rfl)
        · skip
          refine lv_iconst (v := 1) hx hb dX12_rate_59 (by decide) ?_
          refine lv_goto (tgt := 64) hx hb dX12_rate_60 (by decide) ?_
          exact J_64_22 1 _ (Or.inr rfl) (lv_sub hl [1, 2, 3, 4, 0] rfl)
      · skip
        refine lv_iload_n hx hb dX12_rate_36 rfl (lv_at hl 3 rfl) ?_
        refine lv_aload_n hx hb dX12_rate_37 rfl (lv_at hl 1 rfl) ?_
        refine mg_32 C hs hP ha0 hk0 wf_X12_72 dX12_rate_38 ?_
        have hf_111 := hO.r (j := 32) ha0 hk0 (rfl : zX 11 32 = some (72, 4))
        refine lv_iload_n hx hb dX12_rate_41 rfl (lv_at hl 2 rfl) ?_
        have hin_112 : vp_in x1 (zn K (zr K a0 32)) := vp_in_iff.mpr (by rw [(hf_111.2.2 (by decide))]; refine ⟨?_, ?_⟩ <;> omega)
        refine mld_72 C hs hP hf_111.1 hf_111.2.1 hin_112 dX12_rate_42 ?_
        refine bi_le (tgt := 63) hx hb rfl rfl dX12_rate_43 (by decide) (fun c_113 => ?_) (fun c_113 => ?_)
        · skip
          refine lv_iconst (v := 0) hx hb dX12_rate_63 (by decide) ?_
          exact J_64_22 0 _ (Or.inl rfl) (lv_sub hl [1, 2, 3, 4, 0] rfl)
        · skip
          refine lv_goto (tgt := 59) hx hb dX12_rate_46 (by decide) ?_
          refine lv_iconst (v := 1) hx hb dX12_rate_59 (by decide) ?_
          refine lv_goto (tgt := 64) hx hb dX12_rate_60 (by decide) ?_
          exact J_64_22 1 _ (Or.inr rfl) (lv_sub hl [1, 2, 3, 4, 0] rfl)
  refine bi_ne (tgt := 19) hx hb rfl rfl dX12_rate_12 (by decide) (fun c_6 => ?_) (fun c_6 => ?_)
  · skip
    refine lv_iconst (v := 0) hx hb dX12_rate_19 (by decide) ?_
    exact J_20_8 0 _ (Or.inl rfl) (lv_sub hl [0, 1, 2, 3] rfl)
  · skip
    refine lv_iconst (v := 1) hx hb dX12_rate_15 (by decide) ?_
    refine lv_goto (tgt := 20) hx hb dX12_rate_16 (by decide) ?_
    exact J_20_8 1 _ (Or.inr rfl) (lv_sub hl [0, 1, 2, 3] rfl)
set_option maxHeartbeats 4000000 in
set_option maxRecDepth 100000 in
theorem c_X12_takeUp (l : Launch) (D : va_G) (K : zK) (hM : mK K) (f : Nat → Int32) (A : Nat → Nat → Int32) (hT : mT f A) (a0 : Nat) (ha0 : a0 ∈ zl K) (hk0 : zk K a0 = 11) (x1 : Int32) (hp0 : 0 ≤ x1.toInt ∧ x1.toInt ≤ 3) (hp1 : 1 ≤ (f 16).toInt) : Met l yX12_takeUp (zc yX12_takeUp cX12_takeUp 2 none) (rmd 0) (va_Pc [.ref a0, .int x1] (zB D K (mV K f A))) (mQv D K (fun f' A' => mT f' A' ∧ (∀ k, k ∉ ([] : List Nat) → A' k = A k) ∧ (∀ k, k ∉ ([16, 28] : List Nat) → f' k = f k) ∧ (f' 16).toInt = (f 16).toInt - 1)) 0 0 (zA K) := by
  refine zin (by decide) (Nat.le_of_ble_eq_true rfl) ?_
  intro p e s m args below meth c ls Q hQ C hr hlk hP hs hl
  have C : CallFix p m c cX12_takeUp 2 s args zw RX12 := C
  obtain ⟨hx, hb, hml, hown, hts⟩ := id C
  have hO := hM.1
  have hS : va_S (zA K) s.heap s.heap [] := va_S.rf
  have FA : ∀ k, k ∉ ([] : List Nat) → A k = A k := fun _ _ => rfl
  have FF : ∀ k, k ∉ ([16, 28] : List Nat) → f k = f k := fun _ _ => rfl
  have hl : lv_has ls 2 [(0, .ref a0), (1, .int x1)] := hl
  refine lv_aload_n hx hb dX12_takeUp_0 rfl (lv_at hl 0 rfl) ?_
  refine lv_dup hx hb dX12_takeUp_1 rfl ?_
  refine mg_16 C hs hP ha0 hk0 wf_X12_127 dX12_takeUp_2 ?_
  have tf_1 : 0 ≤ (f 16).toInt ∧ (f 16).toInt ≤ 4 := hT.1 16
  refine lv_iconst (v := 1) hx hb dX12_takeUp_5 (by decide) ?_
  refine lv_isub hx hb dX12_takeUp_6 ?_
  refine lv_topi (fun x_2 ex_2 => ?_)
  have g_4 := z_rng (f 16)
  obtain ⟨f_2, l_2, u_2⟩ := z_sub ex_2 rfl ti_1
  try replace f_2 : x_2.toInt = (f 16).toInt - 1 := by omega
  clear l_2 u_2
  refine mp_16 C hM hs hP hS ha0 hT hk0 wf_X12_127 (show 0 ≤ x_2.toInt ∧ x_2.toInt ≤ 4 from by omega) dX12_takeUp_7 (fun f_3 H locs hE_3 hT hP hS => ?_)
  have FF := frF FF (frFu hE_3) (by decide)
  refine lv_aload_n hx hb dX12_takeUp_10 rfl (lv_at hl 0 rfl) ?_
  refine lv_dup hx hb dX12_takeUp_11 rfl ?_
  refine mg_28 C hs hP ha0 hk0 wf_X12_256 dX12_takeUp_12 ?_
  have ev_5 : f_3 28 = f 28 := by rw [hE_3, pk_un (show 28 ≠ 16 by decide)]
  rw [ev_5]
  have tf_6 : 0 ≤ (f 28).toInt ∧ (f 28).toInt ≤ 65535 := by rw [← ev_5]; exact hT.1 28
  refine lv_iconst (v := 1) hx hb dX12_takeUp_15 (by decide) ?_
  refine lv_iconst (v := 4) hx hb dX12_takeUp_16 (by decide) ?_
  refine lv_aload_n hx hb dX12_takeUp_17 rfl (lv_at hl 0 rfl) ?_
  refine mg_26 C hs hP ha0 hk0 wf_X12_60 dX12_takeUp_18 ?_
  have hf_7 := hO.r (j := 26) ha0 hk0 (rfl : zX 11 26 = some (66, 4))
  refine lv_iload_n hx hb dX12_takeUp_21 rfl (lv_at hl 1 rfl) ?_
  have g_9 := z_rng x1
  have hin_8 : vp_in x1 (zn K (zr K a0 26)) := vp_in_iff.mpr (by rw [(hf_7.2.2 (by decide))]; refine ⟨?_, ?_⟩ <;> omega)
  refine mld_66 C hs hP hf_7.1 hf_7.2.1 hin_8 dX12_takeUp_22 ?_
  have tv_10 := ra_66 hT (vp_in_iff.mp hin_8).1 (by have h7 := (vp_in_iff.mp hin_8).2; rw [(hf_7.2.2 (by decide))] at h7; exact h7)
  refine lv_imul hx hb dX12_takeUp_23 ?_
  refine lv_topi (fun x_11 ex_11 => ?_)
  refine lv_aload_n hx hb dX12_takeUp_24 rfl (lv_at hl 0 rfl) ?_
  refine mg_30 C hs hP ha0 hk0 wf_X12_66 dX12_takeUp_25 ?_
  have hf_12 := hO.r (j := 30) ha0 hk0 (rfl : zX 11 30 = some (70, 4))
  refine lv_iload_n hx hb dX12_takeUp_28 rfl (lv_at hl 1 rfl) ?_
  have hin_13 : vp_in x1 (zn K (zr K a0 30)) := vp_in_iff.mpr (by rw [(hf_12.2.2 (by decide))]; refine ⟨?_, ?_⟩ <;> omega)
  refine mld_70 C hs hP hf_12.1 hf_12.2.1 hin_13 dX12_takeUp_29 ?_
  have tv_14 := ra_70 hT (vp_in_iff.mp hin_13).1 (by have h7 := (vp_in_iff.mp hin_13).2; rw [(hf_12.2.2 (by decide))] at h7; exact h7)
  refine lv_iadd hx hb dX12_takeUp_30 ?_
  refine lv_topi (fun x_15 ex_15 => ?_)
  refine lv_ishl hx hb dX12_takeUp_31 ?_
  refine lv_topi (fun x_16 ex_16 => ?_)
  refine lv_ior hx hb dX12_takeUp_32 ?_
  refine lv_topi (fun x_17 ex_17 => ?_)
  have g_19 := z_rng (f 28)
  have g_20 := z_rng (A 66 x1.toNatClampNeg)
  obtain ⟨f_11, l_11, u_11⟩ := z_mul ex_11 ti_4 rfl
  try replace f_11 : x_11.toInt = 4 * (A 66 x1.toNatClampNeg).toInt := by omega
  clear l_11 u_11
  have g_21 := z_rng (A 70 x1.toNatClampNeg)
  obtain ⟨f_15, l_15, u_15⟩ := z_add ex_15 rfl rfl
  try replace f_15 : x_15.toInt = x_11.toInt + (A 70 x1.toNatClampNeg).toInt := by omega
  clear l_15 u_15
  have f_d16 := z_shl1 ex_16 (by omega)
  have f_d17 := z_or16 ex_17 (by omega) (by omega)
  refine mp_28 C hM hs hP hS ha0 hT hk0 wf_X12_256 (show 0 ≤ x_17.toInt ∧ x_17.toInt ≤ 65535 from by omega) dX12_takeUp_33 (fun f_18 H locs hE_18 hT hP hS => ?_)
  have FF := frF FF (frFu hE_18) (by decide)
  have ev_22 : f_18 16 = x_2 := by rw [hE_18, pk_un (show 16 ≠ 28 by decide), hE_3, pk_us]
  exact maV hQ hx hb hr hlk hP hS ⟨hT, FA, FF, (by (try dsimp only); rw [ev_22] <;> (first | omega | (intro h9; omega) | (simp; done) | (refine ⟨?_, ?_⟩ <;> intros <;> first | trivial | omega) | (refine ⟨?_, ?_, ?_⟩ <;> intros <;> first | trivial | omega)))⟩ dX12_takeUp_36
set_option maxHeartbeats 4000000 in
set_option maxRecDepth 100000 in
theorem c_X12_nextPlace (l : Launch) (D : va_G) (K : zK) (hM : mK K) (f : Nat → Int32) (A : Nat → Nat → Int32) (hT : mT f A) (a0 : Nat) (ha0 : a0 ∈ zl K) (hk0 : zk K a0 = 11) (x1 : Int32) (x2 : Int32) (hp0 : zRow x1.toInt) (hp1 : 0 ≤ x2.toInt ∧ x2.toInt ≤ 3) (hp2 : (f 12).toInt ≠ 0) (hp3 : (f 11).toInt ≤ 1980000000) : Met l yX12_nextPlace (zc yX12_nextPlace cX12_nextPlace 5 (some .int)) (rmd 3) (va_Pc [.ref a0, .int x1, .int x2] (zB D K (mV K f A))) (mQi D K (fun r f' A' => mT f' A' ∧ (∀ k, k ∉ ([50, 53] : List Nat) → A' k = A k) ∧ (∀ k, k ∉ ([11, 14] : List Nat) → f' k = f k) ∧ (f 11).toInt ≤ (f' 11).toInt ∧ (f' 11).toInt ≤ (f 11).toInt + 0 ∧ ((f 12).toInt ≠ 0 → (f' 11).toInt = (f 11).toInt) ∧ 0 ≤ r.toInt ∧ (A 69 x2.toNatClampNeg).toInt ≤ r.toInt ∧ r.toInt ≤ 4)) 0 0 (zA K) := by
  refine zin (by decide) (Nat.le_of_ble_eq_true rfl) ?_
  intro p e s m args below meth c ls Q hQ C hr hlk hP hs hl
  have C : CallFix p m c cX12_nextPlace 5 s args zw RX12 := C
  obtain ⟨hx, hb, hml, hown, hts⟩ := id C
  have hO := hM.1
  have hS : va_S (zA K) s.heap s.heap [] := va_S.rf
  have FA : ∀ k, k ∉ ([50, 53] : List Nat) → A k = A k := fun _ _ => rfl
  have FF : ∀ k, k ∉ ([11, 14] : List Nat) → f k = f k := fun _ _ => rfl
  have hl : lv_has ls 5 [(0, .ref a0), (1, .int x1), (2, .int x2)] := hl
  have hb0 := hp0.lin
  refine lv_aload_n hx hb dX12_nextPlace_0 rfl (lv_at hl 0 rfl) ?_
  refine mg_26 C hs hP ha0 hk0 wf_X12_60 dX12_nextPlace_1 ?_
  have hf_1 := hO.r (j := 26) ha0 hk0 (rfl : zX 11 26 = some (66, 4))
  refine lv_iload_n hx hb dX12_nextPlace_4 rfl (lv_at hl 2 rfl) ?_
  have g_3 := z_rng x2
  have hin_2 : vp_in x2 (zn K (zr K a0 26)) := vp_in_iff.mpr (by rw [(hf_1.2.2 (by decide))]; refine ⟨?_, ?_⟩ <;> omega)
  refine mld_66 C hs hP hf_1.1 hf_1.2.1 hin_2 dX12_nextPlace_5 ?_
  have tv_4 := ra_66 hT (vp_in_iff.mp hin_2).1 (by have h7 := (vp_in_iff.mp hin_2).2; rw [(hf_1.2.2 (by decide))] at h7; exact h7)
  refine lv_istore_n (lv' := [(3, .int (A 66 x2.toNatClampNeg)), (0, .ref a0), (1, .int x1), (2, .int x2)]) hx hb dX12_nextPlace_6 rfl hl (by decide) rfl (fun ls hl => ?_)
  refine lv_aload_n hx hb dX12_nextPlace_7 rfl (lv_at hl 1 rfl) ?_
  refine lv_iload_n hx hb dX12_nextPlace_8 rfl (lv_at hl 0 rfl) ?_
  have g_5 := z_rng (A 66 x2.toNatClampNeg)
  have hq_6 : 0 ≤ (A 66 x2.toNatClampNeg).toInt ∧ (A 66 x2.toNatClampNeg).toInt ≤ 3 := by (first | assumption | omega | (intros; omega))
  refine mcV (zrV (As := [.int (A 66 x2.toNatClampNeg)]) (b := a0) (rest := []) C hs hP hS (c_X12_handLeft l D K hM f A hT a0 ha0 hk0 (A 66 x2.toNatClampNeg) hq_6) m_X12_handLeft wm_X12_259 (zrecv hs hP ha0 (zF_11 hk0) rfl) ⟨by decide, by decide⟩ hl.1 (Nat.le_of_ble_eq_true rfl) dX12_nextPlace_9) hS (fun f_7 A_7 H locs p_7 hP hS => ?_)
  obtain ⟨hT, hA_7, hF_7⟩ := p_7
  have FA := frA FA hA_7 (by decide)
  have FF := frF FF hF_7 (by decide)
  refine lv_aload_n hx hb dX12_nextPlace_12 rfl (lv_at hl 1 rfl) ?_
  refine mg_29 C hs hP ha0 hk0 wf_X12_63 dX12_nextPlace_13 ?_
  have hf_8 := hO.r (j := 29) ha0 hk0 (rfl : zX 11 29 = some (69, 4))
  refine lv_iload_n hx hb dX12_nextPlace_16 rfl (lv_at hl 3 rfl) ?_
  have hin_9 : vp_in x2 (zn K (zr K a0 29)) := vp_in_iff.mpr (by rw [(hf_8.2.2 (by decide))]; refine ⟨?_, ?_⟩ <;> omega)
  refine mld_69 C hs hP hf_8.1 hf_8.2.1 hin_9 dX12_nextPlace_17 ?_
  have ev_10 : A_7 69 x2.toNatClampNeg = A 69 x2.toNatClampNeg := by rw [hA_7 69 (by decide)]
  have tv_11 := ra_69 hT (vp_in_iff.mp hin_9).1 (by have h7 := (vp_in_iff.mp hin_9).2; rw [(hf_8.2.2 (by decide))] at h7; exact h7)
  rw [ev_10] at tv_11
  rw [ev_10]
  refine lv_istore (lv' := [(4, .int (A 69 x2.toNatClampNeg)), (3, .int (A 66 x2.toNatClampNeg)), (0, .ref a0), (1, .int x1), (2, .int x2)]) hx hb dX12_nextPlace_18 hl (by decide) rfl (fun ls hl => ?_)
  have L_20_13 : ∀ (n_13 : Nat) (f_14 : Nat → Int32) (A_14 : Nat → Nat → Int32) (H : Heap) (locs : List Loc) (y_12 : Int32) (ls : Array Slot), (2147483648 - y_12.toInt).toNat < n_13 → 0 ≤ y_12.toInt ∧ y_12.toInt ≤ 4 → (A 69 x2.toNatClampNeg).toInt ≤ y_12.toInt → ((f 11).toInt ≤ (f_14 11).toInt ∧ (f_14 11).toInt ≤ (f 11).toInt + 0 ∧ ((f 12).toInt ≠ 0 → (f_14 11).toInt = (f 11).toInt)) → (∀ k, k ∉ ([50, 53] : List Nat) → A_14 k = A k) → (∀ k, k ∉ ([11, 14] : List Nat) → f_14 k = f k) → mT f_14 A_14 → va_P D vwCl (zW K (mV K f_14 A_14)) H → va_S (zA K) s.heap H locs → lv_has ls 5 [(4, .int y_12), (3, .int (A 66 x2.toNatClampNeg)), (0, .ref a0), (1, .int x1), (2, .int x2)] → W p l e (rmd 3) s m args below meth c H locs 0 0 Q (F0 m 20 ls []) := by
    intro n_13
    induction n_13 with
    | zero => intro f_14 A_14 H locs y_12 ls hm_13; exact absurd hm_13 (Nat.not_lt_zero _)
    | succ n_13 ih_13 =>
      intro f_14 A_14 H locs y_12 ls hm_13 iv_14_0 iv_14_1 iv_14_2 FA_14 FF_14 hT hP hS hl
      have FA := FA_14
      have FF := FF_14
      refine lv_iload hx hb dX12_nextPlace_20 (lv_at hl 0 rfl) ?_
      refine lv_iconst (v := 4) hx hb dX12_nextPlace_22 (by decide) ?_
      refine bi_ge (tgt := 67) hx hb rfl ti_4 dX12_nextPlace_23 (by decide) (fun c_16 => ?_) (fun c_16 => ?_)
      · skip
        refine lv_iload hx hb dX12_nextPlace_67 (lv_at hl 0 rfl) ?_
        have g_17 := z_rng y_12
        exact maI hQ hx hb hr hlk hP hS ⟨hT, FA, FF, (by (try dsimp only); (first | omega | (intro h9; omega) | (simp; done) | (refine ⟨?_, ?_⟩ <;> intros <;> first | trivial | omega) | (refine ⟨?_, ?_, ?_⟩ <;> intros <;> first | trivial | omega)))⟩ dX12_nextPlace_69
      · skip
        refine lv_aload_n hx hb dX12_nextPlace_26 rfl (lv_at hl 2 rfl) ?_
        refine mg_28 C hs hP ha0 hk0 wf_X12_256 dX12_nextPlace_27 ?_
        have ev_18 : f_14 28 = f 28 := by rw [FF_14 28 (by decide)]
        rw [ev_18]
        have tf_19 : 0 ≤ (f 28).toInt ∧ (f 28).toInt ≤ 65535 := by rw [← ev_18]; exact hT.1 28
        refine lv_iconst (v := 4) hx hb dX12_nextPlace_30 (by decide) ?_
        refine lv_iload_n hx hb dX12_nextPlace_31 rfl (lv_at hl 1 rfl) ?_
        refine lv_imul hx hb dX12_nextPlace_32 ?_
        refine lv_topi (fun x_20 ex_20 => ?_)
        refine lv_iload hx hb dX12_nextPlace_33 (lv_at hl 0 rfl) ?_
        refine lv_iadd hx hb dX12_nextPlace_35 ?_
        refine lv_topi (fun x_21 ex_21 => ?_)
        refine lv_ishr hx hb dX12_nextPlace_36 ?_
        refine lv_topi (fun x_22 ex_22 => ?_)
        refine lv_iconst (v := 1) hx hb dX12_nextPlace_37 (by decide) ?_
        refine lv_iand hx hb dX12_nextPlace_38 ?_
        refine lv_topi (fun x_23 ex_23 => ?_)
        refine bz_eq (tgt := 61) hx hb rfl dX12_nextPlace_39 (by decide) (fun c_24 => ?_) (fun c_24 => ?_)
        · skip
          obtain ⟨x_25, ex_25⟩ : ∃ y : Int32, y = y_12 + 1 := ⟨_, rfl⟩
          refine lv_iinc (v := x_25) (lv' := [(4, .int x_25), (3, .int (A 66 x2.toNatClampNeg)), (0, .ref a0), (1, .int x1), (2, .int x2)]) hx hb dX12_nextPlace_61 hl (k := 0) rfl (by rw [ex_25]; rfl) (by decide) rfl (fun ls hl => ?_)
          refine lv_goto (tgt := 20) hx hb dX12_nextPlace_64 (by decide) ?_
          have g_26 := z_rng y_12
          obtain ⟨f_25, l_25, u_25⟩ := z_add ex_25 rfl ti_1
          try replace f_25 : x_25.toInt = y_12.toInt + 1 := by omega
          clear l_25 u_25
          have g_27 := z_rng x_23
          have f_23 := z_and ex_23 ti_1 (by decide)
          exact ih_13 f_14 A_14 _ _ x_25 _ (by omega) (by omega) (by omega) (by omega) FA FF hT hP hS (lv_sub hl [0, 1, 2, 3, 4] rfl)
        · skip
          refine lv_aload_n hx hb dX12_nextPlace_42 rfl (lv_at hl 2 rfl) ?_
          refine lv_iload_n hx hb dX12_nextPlace_43 rfl (lv_at hl 3 rfl) ?_
          refine lv_aload_n hx hb dX12_nextPlace_44 rfl (lv_at hl 2 rfl) ?_
          refine mg_18 C hs hP ha0 hk0 wf_X12_42 dX12_nextPlace_45 ?_
          have hf_28 := hO.r (j := 18) ha0 hk0 (rfl : zX 11 18 = some (58, 16))
          refine lv_iconst (v := 4) hx hb dX12_nextPlace_48 (by decide) ?_
          refine lv_iload_n hx hb dX12_nextPlace_49 rfl (lv_at hl 1 rfl) ?_
          refine lv_imul hx hb dX12_nextPlace_50 ?_
          refine lv_topi (fun x_29 ex_29 => ?_)
          refine lv_iload hx hb dX12_nextPlace_51 (lv_at hl 0 rfl) ?_
          refine lv_iadd hx hb dX12_nextPlace_53 ?_
          refine lv_topi (fun x_30 ex_30 => ?_)
          obtain ⟨f_29, l_29, u_29⟩ := z_mul ex_29 ti_4 rfl
          try replace f_29 : x_29.toInt = 4 * (A 66 x2.toNatClampNeg).toInt := by omega
          clear l_29 u_29
          have g_32 := z_rng y_12
          obtain ⟨f_30, l_30, u_30⟩ := z_add ex_30 rfl rfl
          try replace f_30 : x_30.toInt = x_29.toInt + y_12.toInt := by omega
          clear l_30 u_30
          have f_23 := z_and ex_23 ti_1 (by decide)
          have hin_31 : vp_in x_30 (zn K (zr K a0 18)) := vp_in_iff.mpr (by rw [(hf_28.2.2 (by decide))]; refine ⟨?_, ?_⟩ <;> omega)
          refine mld_58 C hs hP hf_28.1 hf_28.2.1 hin_31 dX12_nextPlace_54 ?_
          have ev_33 : A_14 58 x_30.toNatClampNeg = A 58 x_30.toNatClampNeg := by rw [FA_14 58 (by decide)]
          have tv_34 := ra_58 hT (vp_in_iff.mp hin_31).1 (by have h7 := (vp_in_iff.mp hin_31).2; rw [(hf_28.2.2 (by decide))] at h7; exact h7)
          rw [ev_33] at tv_34
          rw [ev_33]
          have g_35 := z_rng x1
          have g_36 := z_rng (A 58 x_30.toNatClampNeg)
          have hq_37 : 0 ≤ (A 58 x_30.toNatClampNeg).toInt ∧ (A 58 x_30.toNatClampNeg).toInt ≤ 59 := by (first | assumption | omega | (intros; omega))
          have hq_38 : (f_14 11).toInt ≤ 1990000000 := by (first | assumption | omega | (intros; omega))
          refine mcI (zrV (As := [.int x1, .int (A 58 x_30.toNatClampNeg)]) (b := a0) (rest := []) C hs hP hS (c_X12_allows l D K hM f_14 A_14 hT a0 ha0 hk0 x1 (A 58 x_30.toNatClampNeg) hp0 hq_37 hq_38) m_X12_allows wm_X12_208 (zrecv hs hP ha0 (zF_11 hk0) rfl) ⟨by decide, by decide⟩ hl.1 (Nat.le_of_ble_eq_true rfl) dX12_nextPlace_55) hS (fun x_39 f_39 A_39 H locs p_39 hP hS => ?_)
          obtain ⟨hT, hA_39, hF_39, pp_39⟩ := p_39
          have pp_39 : (f_14 11).toInt ≤ (f_39 11).toInt ∧ (f_39 11).toInt ≤ (f_14 11).toInt + 3 ∧ ((f_14 12).toInt ≠ 0 → (f_39 11).toInt = (f_14 11).toInt) := pp_39
          have ev_40 : f_14 12 = f 12 := by rw [FF_14 12 (by decide)]
          rw [ev_40] at pp_39
          have FA := frA FA hA_39 (by decide)
          have FF := frF FF hF_39 (by decide)
          refine bz_le (tgt := 67) hx hb rfl dX12_nextPlace_58 (by decide) (fun c_41 => ?_) (fun c_41 => ?_)
          · skip
            refine lv_iload hx hb dX12_nextPlace_67 (lv_at hl 0 rfl) ?_
            exact maI hQ hx hb hr hlk hP hS ⟨hT, FA, FF, (by (try dsimp only); (first | omega | (intro h9; omega) | (simp; done) | (refine ⟨?_, ?_⟩ <;> intros <;> first | trivial | omega) | (refine ⟨?_, ?_, ?_⟩ <;> intros <;> first | trivial | omega)))⟩ dX12_nextPlace_69
          · skip
            obtain ⟨x_42, ex_42⟩ : ∃ y : Int32, y = y_12 + 1 := ⟨_, rfl⟩
            refine lv_iinc (v := x_42) (lv' := [(4, .int x_42), (3, .int (A 66 x2.toNatClampNeg)), (0, .ref a0), (1, .int x1), (2, .int x2)]) hx hb dX12_nextPlace_61 hl (k := 0) rfl (by rw [ex_42]; rfl) (by decide) rfl (fun ls hl => ?_)
            refine lv_goto (tgt := 20) hx hb dX12_nextPlace_64 (by decide) ?_
            obtain ⟨f_42, l_42, u_42⟩ := z_add ex_42 rfl ti_1
            try replace f_42 : x_42.toInt = y_12.toInt + 1 := by omega
            clear l_42 u_42
            have g_43 := z_rng x_23
            have g_44 := z_rng x_39
            exact ih_13 f_39 A_39 _ _ x_42 _ (by omega) (by omega) (by omega) (by omega) FA FF hT hP hS (lv_sub hl [0, 1, 2, 3, 4] rfl)
  have g_45 := z_rng (A 69 x2.toNatClampNeg)
  have ev_46 : f_7 11 = f 11 := by rw [hF_7 11 (by decide)]
  exact L_20_13 _ f_7 A_7 _ _ (A 69 x2.toNatClampNeg) _ (Nat.lt_succ_self _) (by omega) (by omega) (by rw [ev_46] <;> omega) FA FF hT hP hS (lv_sub hl [0, 1, 2, 3, 4] rfl)
