set_option maxHeartbeats 4000000 in
set_option maxRecDepth 100000 in
theorem c_X12_seatFrom (l : Launch) (D : va_G) (K : zK) (hM : mK K) (f : Nat → Int32) (A : Nat → Nat → Int32) (hT : mT f A) (a0 : Nat) (ha0 : a0 ∈ zl K) (hk0 : zk K a0 = 11) (x1 : Int32) (x2 : Int32) (hp0 : zRow x1.toInt) (hp1 : 0 ≤ x2.toInt ∧ x2.toInt ≤ 4) : Met l yX12_seatFrom (zc yX12_seatFrom cX12_seatFrom 7 (some .int)) (rmd 1) (va_Pc [.ref a0, .int x1, .int x2] (zB D K (mV K f A))) (vp_Si (fun r => (r.toInt = -1 ∨ (0 ≤ r.toInt ∧ r.toInt ≤ 3 ∧ 1 ≤ (A 40 (x1.toInt + r.toInt + 22).toNat).toInt ∧ nL (A 40) x1.toInt r.toInt (A 40 (x1.toInt + 26).toNat).toInt)))) 0 0 (fun _ => False) := by
  refine zin (by decide) (Nat.le_of_ble_eq_true rfl) ?_
  intro p e s m args below meth c ls Q hQ C hr hlk hP hs hl
  have C : CallFix p m c cX12_seatFrom 7 s args zw RX12 := C
  obtain ⟨hx, hb, hml, hown, hts⟩ := id C
  have hO := hM.1
  have hS : va_S (zA K) s.heap s.heap [] := va_S.rf
  have hl : lv_has ls 7 [(0, .ref a0), (1, .int x1), (2, .int x2)] := hl
  have hb0 := hp0.lin
  refine lv_iconst (v := 0) hx hb dX12_seatFrom_0 (by decide) ?_
  refine lv_istore_n (lv' := [(3, .int 0), (0, .ref a0), (1, .int x1), (2, .int x2)]) hx hb dX12_seatFrom_1 rfl hl (by decide) rfl (fun ls hl => ?_)
  have L_2_2 : ∀ (n_2 : Nat) (y_1 : Int32) (ls : Array Slot), (2147483648 - y_1.toInt).toNat < n_2 → 0 ≤ y_1.toInt → lv_has ls 7 [(3, .int y_1), (0, .ref a0), (1, .int x1), (2, .int x2)] → W p l e (rmd 1) s m args below meth c s.heap [] 0 0 Q (F0 m 2 ls []) := by
    intro n_2
    induction n_2 with
    | zero => intro y_1 ls hm_2; exact absurd hm_2 (Nat.not_lt_zero _)
    | succ n_2 ih_2 =>
      intro y_1 ls hm_2 iv_3_0 hl
      refine lv_iload_n hx hb dX12_seatFrom_2 rfl (lv_at hl 0 rfl) ?_
      refine lv_iconst (v := 4) hx hb dX12_seatFrom_3 (by decide) ?_
      refine bi_ge (tgt := 93) hx hb rfl ti_4 dX12_seatFrom_4 (by decide) (fun c_4 => ?_) (fun c_4 => ?_)
      · skip
        refine lv_iconst (v := (-1)) hx hb dX12_seatFrom_93 (by decide) ?_
        exact zaS hQ hx hb hr hlk (Or.inl ti_m1) dX12_seatFrom_94
      · skip
        refine lv_iload_n hx hb dX12_seatFrom_7 rfl (lv_at hl 3 rfl) ?_
        refine lv_iload_n hx hb dX12_seatFrom_8 rfl (lv_at hl 0 rfl) ?_
        refine lv_iadd hx hb dX12_seatFrom_9 ?_
        refine lv_topi (fun x_5 ex_5 => ?_)
        refine lv_iconst (v := 4) hx hb dX12_seatFrom_10 (by decide) ?_
        refine lv_irem hx hb dX12_seatFrom_11 (by decide) ?_
        refine lv_topi (fun x_6 ex_6 => ?_)
        refine lv_istore (lv' := [(4, .int x_6), (3, .int y_1), (0, .ref a0), (1, .int x1), (2, .int x2)]) hx hb dX12_seatFrom_12 hl (by decide) rfl (fun ls hl => ?_)
        refine lv_iconst (v := 0) hx hb dX12_seatFrom_14 (by decide) ?_
        refine lv_istore (lv' := [(5, .int 0), (4, .int x_6), (3, .int y_1), (0, .ref a0), (1, .int x1), (2, .int x2)]) hx hb dX12_seatFrom_15 hl (by decide) rfl (fun ls hl => ?_)
        refine lv_iconst (v := 0) hx hb dX12_seatFrom_17 (by decide) ?_
        refine lv_istore (lv' := [(6, .int 0), (5, .int 0), (4, .int x_6), (3, .int y_1), (0, .ref a0), (1, .int x1), (2, .int x2)]) hx hb dX12_seatFrom_18 hl (by decide) rfl (fun ls hl => ?_)
        have L_20_9 : ∀ (n_9 : Nat) (y_7 : Int32) (y_8 : Int32) (ls : Array Slot), (2147483648 - y_7.toInt).toNat < n_9 → 0 ≤ y_7.toInt → (y_8.toInt = 0 → nL (A 40) x1.toInt x_6.toInt y_7.toInt) → lv_has ls 7 [(6, .int y_7), (5, .int y_8), (4, .int x_6), (3, .int y_1), (0, .ref a0), (1, .int x1), (2, .int x2)] → W p l e (rmd 1) s m args below meth c s.heap [] 0 0 Q (F0 m 20 ls []) := by
          intro n_9
          induction n_9 with
          | zero => intro y_7 y_8 ls hm_9; exact absurd hm_9 (Nat.not_lt_zero _)
          | succ n_9 ih_9 =>
            intro y_7 y_8 ls hm_9 iv_10_0 iv_10_1 hl
            refine lv_iload hx hb dX12_seatFrom_20 (lv_at hl 0 rfl) ?_
            refine lv_aload_n hx hb dX12_seatFrom_22 rfl (lv_at hl 4 rfl) ?_
            refine mg_0 C hs hP ha0 hk0 wf_X12_8 dX12_seatFrom_23 ?_
            have hf_11 := hO.r (j := 0) ha0 hk0 (rfl : zX 11 0 = some (40, 47730))
            refine lv_iload_n hx hb dX12_seatFrom_26 rfl (lv_at hl 5 rfl) ?_
            refine lv_bipush (v := 26) hx hb dX12_seatFrom_27 (by decide) ?_
            refine lv_iadd hx hb dX12_seatFrom_29 ?_
            refine lv_topi (fun x_12 ex_12 => ?_)
            have g_13 := z_rng x1
            obtain ⟨f_12, l_12, u_12⟩ := z_add ex_12 rfl ti_26
            try replace f_12 : x_12.toInt = x1.toInt + 26 := by omega
            have hi_hr_14 : x_12.toInt = x1.toInt + (26) := by omega
            have hr_14 := z_cell (lo := 26) (hi := 26) hp0 hi_hr_14 (by decide) (by decide)
            have hin_15 : vp_in x_12 (zn K (zr K a0 0)) := vp_in_iff.mpr (by rw [(hf_11.2.2 (by decide))]; exact hr_14.in)
            refine mld_40 C hs hP hf_11.1 hf_11.2.1 hin_15 dX12_seatFrom_30 ?_
            have ep_16 : x_12.toNatClampNeg = (x1.toInt + 26).toNat := z_pos (hi_hr_14.trans (by omega))
            rw [ep_16]
            have tv_17 := rv_26 hT hr_14
            rw [ep_16] at tv_17
            refine bi_ge (tgt := 69) hx hb rfl rfl dX12_seatFrom_31 (by decide) (fun c_18 => ?_) (fun c_18 => ?_)
            · skip
              refine lv_iload hx hb dX12_seatFrom_69 (lv_at hl 1 rfl) ?_
              refine bz_ne (tgt := 87) hx hb rfl dX12_seatFrom_71 (by decide) (fun c_19 => ?_) (fun c_19 => ?_)
              · skip
                obtain ⟨x_20, ex_20⟩ : ∃ y : Int32, y = y_1 + 1 := ⟨_, rfl⟩
                refine lv_iinc (v := x_20) (lv' := [(3, .int x_20), (6, .int y_7), (5, .int y_8), (4, .int x_6), (0, .ref a0), (1, .int x1), (2, .int x2)]) hx hb dX12_seatFrom_87 hl (k := 3) rfl (by rw [ex_20]; rfl) (by decide) rfl (fun ls hl => ?_)
                refine lv_goto (tgt := 2) hx hb dX12_seatFrom_90 (by decide) ?_
                have g_21 := z_rng y_1
                obtain ⟨f_20, l_20, u_20⟩ := z_add ex_20 rfl ti_1
                try replace f_20 : x_20.toInt = y_1.toInt + 1 := by omega
                have g_22 := z_rng (A 40 (x1.toInt + 26).toNat)
                have g_23 := z_rng y_7
                have g_24 := z_rng y_8
                exact ih_2 x_20 _ (by omega) (by omega) (lv_sub hl [0, 4, 5, 6] rfl)
              · skip
                refine lv_aload_n hx hb dX12_seatFrom_74 rfl (lv_at hl 4 rfl) ?_
                refine lv_iload_n hx hb dX12_seatFrom_75 rfl (lv_at hl 5 rfl) ?_
                refine lv_iload hx hb dX12_seatFrom_76 (lv_at hl 2 rfl) ?_
                have g_25 := z_rng x2
                have g_26 := z_rng y_1
                obtain ⟨f_5, l_5, u_5⟩ := z_add ex_5 rfl rfl
                try replace f_5 : x_5.toInt = x2.toInt + y_1.toInt := by omega
                have f_6 := z_rem ex_6 rfl ti_4 (by decide)
                have hq_27 : 0 ≤ x_6.toInt ∧ x_6.toInt ≤ 3 := by first | assumption | omega | (intros; omega)
                refine zcS (zrV (As := [.int x1, .int x_6]) (b := a0) (rest := []) C hs hP hS (c_X12_canLay l D K hM f A hT a0 ha0 hk0 x1 x_6 hp0 hq_27) m_X12_canLay wm_X12_147 (zrecv hs hP ha0 (zF_11 hk0) rfl) ⟨by decide, by decide⟩ hl.1 (Nat.le_of_ble_eq_true rfl) dX12_seatFrom_78) (fun x_28 p_28 => ?_)
                have pp_28 : (x_28.toInt ≠ 0 → 1 ≤ (A 40 (x1.toInt + x_6.toInt + 22).toNat).toInt) := p_28.2
                refine bz_eq (tgt := 87) hx hb rfl dX12_seatFrom_81 (by decide) (fun c_29 => ?_) (fun c_29 => ?_)
                · skip
                  clear pp_28
                  obtain ⟨x_30, ex_30⟩ : ∃ y : Int32, y = y_1 + 1 := ⟨_, rfl⟩
                  refine lv_iinc (v := x_30) (lv' := [(3, .int x_30), (6, .int y_7), (5, .int y_8), (4, .int x_6), (0, .ref a0), (1, .int x1), (2, .int x2)]) hx hb dX12_seatFrom_87 hl (k := 3) rfl (by rw [ex_30]; rfl) (by decide) rfl (fun ls hl => ?_)
                  refine lv_goto (tgt := 2) hx hb dX12_seatFrom_90 (by decide) ?_
                  obtain ⟨f_30, l_30, u_30⟩ := z_add ex_30 rfl ti_1
                  try replace f_30 : x_30.toInt = y_1.toInt + 1 := by omega
                  have g_31 := z_rng (A 40 (x1.toInt + 26).toNat)
                  have g_32 := z_rng x_28
                  have g_33 := z_rng y_7
                  have g_34 := z_rng y_8
                  exact ih_2 x_30 _ (by omega) (by omega) (lv_sub hl [0, 4, 5, 6] rfl)
                · skip
                  replace pp_28 := pp_28 c_29
                  refine lv_iload hx hb dX12_seatFrom_84 (lv_at hl 2 rfl) ?_
                  exact zaS hQ hx hb hr hlk (Or.inr ⟨by omega, by omega, pp_28, nL.mono (iv_10_1 c_19) (by omega)⟩) dX12_seatFrom_86
            · skip
              refine lv_iload hx hb dX12_seatFrom_34 (lv_at hl 1 rfl) ?_
              refine bz_ne (tgt := 56) hx hb rfl dX12_seatFrom_36 (by decide) (fun c_35 => ?_) (fun c_35 => ?_)
              · skip
                refine lv_iconst (v := 1) hx hb dX12_seatFrom_56 (by decide) ?_
                refine lv_goto (tgt := 61) hx hb dX12_seatFrom_57 (by decide) ?_
                refine lv_istore (lv' := [(5, .int 1), (6, .int y_7), (4, .int x_6), (3, .int y_1), (0, .ref a0), (1, .int x1), (2, .int x2)]) hx hb dX12_seatFrom_61 hl (by decide) rfl (fun ls hl => ?_)
                obtain ⟨x_36, ex_36⟩ : ∃ y : Int32, y = y_7 + 1 := ⟨_, rfl⟩
                refine lv_iinc (v := x_36) (lv' := [(6, .int x_36), (5, .int 1), (4, .int x_6), (3, .int y_1), (0, .ref a0), (1, .int x1), (2, .int x2)]) hx hb dX12_seatFrom_63 hl (k := 1) rfl (by rw [ex_36]; rfl) (by decide) rfl (fun ls hl => ?_)
                refine lv_goto (tgt := 20) hx hb dX12_seatFrom_66 (by decide) ?_
                have g_37 := z_rng y_7
                obtain ⟨f_36, l_36, u_36⟩ := z_add ex_36 rfl ti_1
                try replace f_36 : x_36.toInt = y_7.toInt + 1 := by omega
                have g_38 := z_rng (A 40 (x1.toInt + 26).toNat)
                have g_39 := z_rng y_8
                exact ih_9 x_36 1 _ (by omega) (by (try simp only [ti_1]); omega) (fun h9 => by rw [ti_1] at h9; omega) (lv_sub hl [0, 1, 2, 3, 4, 5, 6] rfl)
              · skip
                refine lv_aload_n hx hb dX12_seatFrom_39 rfl (lv_at hl 4 rfl) ?_
                refine mg_0 C hs hP ha0 hk0 wf_X12_8 dX12_seatFrom_40 ?_
                refine lv_iload_n hx hb dX12_seatFrom_43 rfl (lv_at hl 5 rfl) ?_
                refine lv_bipush (v := 31) hx hb dX12_seatFrom_44 (by decide) ?_
                refine lv_iadd hx hb dX12_seatFrom_46 ?_
                refine lv_topi (fun x_40 ex_40 => ?_)
                refine lv_iload hx hb dX12_seatFrom_47 (lv_at hl 0 rfl) ?_
                refine lv_iadd hx hb dX12_seatFrom_49 ?_
                refine lv_topi (fun x_41 ex_41 => ?_)
                obtain ⟨f_40, l_40, u_40⟩ := z_add ex_40 rfl ti_31
                try replace f_40 : x_40.toInt = x1.toInt + 31 := by omega
                have g_42 := z_rng y_7
                obtain ⟨f_41, l_41, u_41⟩ := z_add ex_41 rfl rfl
                try replace f_41 : x_41.toInt = x_40.toInt + y_7.toInt := by omega
                have hi_hr_43 : x_41.toInt = x1.toInt + (y_7.toInt + 31) := by omega
                have hr_43 := z_cell (lo := 31) (hi := 34) hp0 hi_hr_43 (by omega) (by decide)
                have hin_44 : vp_in x_41 (zn K (zr K a0 0)) := vp_in_iff.mpr (by rw [(hf_11.2.2 (by decide))]; exact hr_43.in)
                refine mld_40 C hs hP hf_11.1 hf_11.2.1 hin_44 dX12_seatFrom_50 ?_
                have ep_45 : x_41.toNatClampNeg = (x1.toInt + y_7.toInt + 31).toNat := z_pos (hi_hr_43.trans (by omega))
                rw [ep_45]
                have tv_46 := rv_31 hT hr_43
                rw [ep_45] at tv_46
                refine lv_iload hx hb dX12_seatFrom_51 (lv_at hl 2 rfl) ?_
                refine bi_ne (tgt := 60) hx hb rfl rfl dX12_seatFrom_53 (by decide) (fun c_47 => ?_) (fun c_47 => ?_)
                · skip
                  refine lv_iconst (v := 0) hx hb dX12_seatFrom_60 (by decide) ?_
                  refine lv_istore (lv' := [(5, .int 0), (6, .int y_7), (4, .int x_6), (3, .int y_1), (0, .ref a0), (1, .int x1), (2, .int x2)]) hx hb dX12_seatFrom_61 hl (by decide) rfl (fun ls hl => ?_)
                  obtain ⟨x_48, ex_48⟩ : ∃ y : Int32, y = y_7 + 1 := ⟨_, rfl⟩
                  refine lv_iinc (v := x_48) (lv' := [(6, .int x_48), (5, .int 0), (4, .int x_6), (3, .int y_1), (0, .ref a0), (1, .int x1), (2, .int x2)]) hx hb dX12_seatFrom_63 hl (k := 1) rfl (by rw [ex_48]; rfl) (by decide) rfl (fun ls hl => ?_)
                  refine lv_goto (tgt := 20) hx hb dX12_seatFrom_66 (by decide) ?_
                  obtain ⟨f_48, l_48, u_48⟩ := z_add ex_48 rfl ti_1
                  try replace f_48 : x_48.toInt = y_7.toInt + 1 := by omega
                  have g_49 := z_rng (A 40 (x1.toInt + 26).toNat)
                  have g_50 := z_rng (A 40 (x1.toInt + y_7.toInt + 31).toNat)
                  have g_51 := z_rng x_6
                  have g_52 := z_rng x2
                  have g_53 := z_rng y_1
                  obtain ⟨f_5, l_5, u_5⟩ := z_add ex_5 rfl rfl
                  try replace f_5 : x_5.toInt = x2.toInt + y_1.toInt := by omega
                  have f_6 := z_rem ex_6 rfl ti_4 (by decide)
                  have g_54 := z_rng y_8
                  exact ih_9 x_48 0 _ (by omega) (by (try simp only [ti_0]); omega) (fun _ => nL.s (iv_10_1 c_35) (by omega) c_47) (lv_sub hl [0, 1, 2, 3, 4, 5, 6] rfl)
                · skip
                  refine lv_iconst (v := 1) hx hb dX12_seatFrom_56 (by decide) ?_
                  refine lv_goto (tgt := 61) hx hb dX12_seatFrom_57 (by decide) ?_
                  refine lv_istore (lv' := [(5, .int 1), (6, .int y_7), (4, .int x_6), (3, .int y_1), (0, .ref a0), (1, .int x1), (2, .int x2)]) hx hb dX12_seatFrom_61 hl (by decide) rfl (fun ls hl => ?_)
                  obtain ⟨x_55, ex_55⟩ : ∃ y : Int32, y = y_7 + 1 := ⟨_, rfl⟩
                  refine lv_iinc (v := x_55) (lv' := [(6, .int x_55), (5, .int 1), (4, .int x_6), (3, .int y_1), (0, .ref a0), (1, .int x1), (2, .int x2)]) hx hb dX12_seatFrom_63 hl (k := 1) rfl (by rw [ex_55]; rfl) (by decide) rfl (fun ls hl => ?_)
                  refine lv_goto (tgt := 20) hx hb dX12_seatFrom_66 (by decide) ?_
                  obtain ⟨f_55, l_55, u_55⟩ := z_add ex_55 rfl ti_1
                  try replace f_55 : x_55.toInt = y_7.toInt + 1 := by omega
                  have g_56 := z_rng (A 40 (x1.toInt + 26).toNat)
                  have g_57 := z_rng (A 40 (x1.toInt + y_7.toInt + 31).toNat)
                  have g_58 := z_rng x_6
                  have g_59 := z_rng x2
                  have g_60 := z_rng y_1
                  obtain ⟨f_5, l_5, u_5⟩ := z_add ex_5 rfl rfl
                  try replace f_5 : x_5.toInt = x2.toInt + y_1.toInt := by omega
                  have f_6 := z_rem ex_6 rfl ti_4 (by decide)
                  have g_61 := z_rng y_8
                  exact ih_9 x_55 1 _ (by omega) (by (try simp only [ti_1]); omega) (fun h9 => by rw [ti_1] at h9; omega) (lv_sub hl [0, 1, 2, 3, 4, 5, 6] rfl)
        have g_62 := z_rng y_1
        exact L_20_9 _ 0 0 _ (Nat.lt_succ_self _) (by (try simp only [ti_0]); omega) (fun _ => nL.z (by rw [ti_0]; decide)) (lv_sub hl [0, 1, 2, 3, 4, 5, 6] rfl)
  exact L_2_2 _ 0 _ (Nat.lt_succ_self _) (by (try simp only [ti_0]); omega) (lv_sub hl [0, 1, 2, 3] rfl)
set_option maxHeartbeats 4000000 in
set_option maxRecDepth 100000 in
theorem c_X12_isEnd (l : Launch) (D : va_G) (K : zK) (hM : mK K) (f : Nat → Int32) (A : Nat → Nat → Int32) (hT : mT f A) (a0 : Nat) (ha0 : a0 ∈ zl K) (hk0 : zk K a0 = 11) (x1 : Int32) (hp0 : zRow x1.toInt) : Met l yX12_isEnd (zc yX12_isEnd cX12_isEnd 5 (some .boolean)) (rmd 0) (va_Pc [.ref a0, .int x1] (zB D K (mV K f A))) (vp_Si (fun r => (r = 0 ∨ r = 1) ∧ (r.toInt ≠ 0 → (A 40 (x1.toInt + 5).toNat).toInt = 1 ∧ h4 (A 40) x1.toInt 4))) 0 0 (fun _ => False) := by
  refine zin (by decide) (Nat.le_of_ble_eq_true rfl) ?_
  intro p e s m args below meth c ls Q hQ C hr hlk hP hs hl
  have C : CallFix p m c cX12_isEnd 5 s args zw RX12 := C
  obtain ⟨hx, hb, hml, hown, hts⟩ := id C
  have hO := hM.1
  have hS : va_S (zA K) s.heap s.heap [] := va_S.rf
  have hl : lv_has ls 5 [(0, .ref a0), (1, .int x1)] := hl
  have hb0 := hp0.lin
  refine lv_aload_n hx hb dX12_isEnd_0 rfl (lv_at hl 0 rfl) ?_
  refine mg_0 C hs hP ha0 hk0 wf_X12_8 dX12_isEnd_1 ?_
  have hf_1 := hO.r (j := 0) ha0 hk0 (rfl : zX 11 0 = some (40, 47730))
  refine lv_iload_n hx hb dX12_isEnd_4 rfl (lv_at hl 1 rfl) ?_
  refine lv_iconst (v := 5) hx hb dX12_isEnd_5 (by decide) ?_
  refine lv_iadd hx hb dX12_isEnd_6 ?_
  refine lv_topi (fun x_2 ex_2 => ?_)
  have g_3 := z_rng x1
  obtain ⟨f_2, l_2, u_2⟩ := z_add ex_2 rfl ti_5
  try replace f_2 : x_2.toInt = x1.toInt + 5 := by omega
  have hi_hr_4 : x_2.toInt = x1.toInt + (5) := by omega
  have hr_4 := z_cell (lo := 2) (hi := 8) hp0 hi_hr_4 (by decide) (by decide)
  have hin_5 : vp_in x_2 (zn K (zr K a0 0)) := vp_in_iff.mpr (by rw [(hf_1.2.2 (by decide))]; exact hr_4.in)
  refine mld_40 C hs hP hf_1.1 hf_1.2.1 hin_5 dX12_isEnd_7 ?_
  have ep_6 : x_2.toNatClampNeg = (x1.toInt + 5).toNat := z_pos (hi_hr_4.trans (by omega))
  rw [ep_6]
  refine lv_iconst (v := 1) hx hb dX12_isEnd_8 (by decide) ?_
  refine bi_ne (tgt := 28) hx hb rfl ti_1 dX12_isEnd_9 (by decide) (fun c_7 => ?_) (fun c_7 => ?_)
  · skip
    refine lv_iconst (v := 0) hx hb dX12_isEnd_28 (by decide) ?_
    refine lv_istore_n (lv' := [(2, .int 0), (0, .ref a0), (1, .int x1)]) hx hb dX12_isEnd_29 rfl hl (by decide) rfl (fun ls hl => ?_)
    refine lv_iconst (v := 0) hx hb dX12_isEnd_30 (by decide) ?_
    refine lv_istore_n (lv' := [(3, .int 0), (2, .int 0), (0, .ref a0), (1, .int x1)]) hx hb dX12_isEnd_31 rfl hl (by decide) rfl (fun ls hl => ?_)
    have L_32_10 : ∀ (n_10 : Nat) (y_8 : Int32) (y_9 : Int32) (ls : Array Slot), (2147483648 - y_8.toInt).toNat < n_10 → (y_9 = 0 ∨ y_9 = 1) → 0 ≤ y_8.toInt → y_8.toInt ≤ 4 → (y_9.toInt ≠ 0 → (A 40 (x1.toInt + 5).toNat).toInt = 1 ∧ h4 (A 40) x1.toInt y_8.toInt) → lv_has ls 5 [(3, .int y_8), (2, .int y_9), (0, .ref a0), (1, .int x1)] → W p l e (rmd 0) s m args below meth c s.heap [] 0 0 Q (F0 m 32 ls []) := by
      intro n_10
      induction n_10 with
      | zero => intro y_8 y_9 ls hm_10; exact absurd hm_10 (Nat.not_lt_zero _)
      | succ n_10 ih_10 =>
        intro y_8 y_9 ls hm_10 hb_y_9 iv_11_0 iv_11_1 iv_11_2 hl
        refine lv_iload_n hx hb dX12_isEnd_32 rfl (lv_at hl 0 rfl) ?_
        refine lv_iconst (v := 4) hx hb dX12_isEnd_33 (by decide) ?_
        refine bi_ge (tgt := 135) hx hb rfl ti_4 dX12_isEnd_34 (by decide) (fun c_12 => ?_) (fun c_12 => ?_)
        · skip
          refine lv_iload_n hx hb dX12_isEnd_135 rfl (lv_at hl 1 rfl) ?_
          exact zaSz hQ hx hb hr hlk hb_y_9 ⟨hb_y_9, (fun h9 => ⟨(iv_11_2 h9).1, h4.e (iv_11_2 h9).2 (by omega)⟩)⟩ dX12_isEnd_136
        · skip
          refine lv_iload_n hx hb dX12_isEnd_37 rfl (lv_at hl 1 rfl) ?_
          refine bz_eq (tgt := 60) hx hb rfl dX12_isEnd_38 (by decide) (fun c_13 => ?_) (fun c_13 => ?_)
          · skip
            refine lv_iconst (v := 0) hx hb dX12_isEnd_60 (by decide) ?_
            refine lv_istore_n (lv' := [(2, .int 0), (3, .int y_8), (0, .ref a0), (1, .int x1)]) hx hb dX12_isEnd_61 rfl hl (by decide) rfl (fun ls hl => ?_)
            refine lv_iconst (v := 0) hx hb dX12_isEnd_62 (by decide) ?_
            refine lv_istore (lv' := [(4, .int 0), (2, .int 0), (3, .int y_8), (0, .ref a0), (1, .int x1)]) hx hb dX12_isEnd_63 hl (by decide) rfl (fun ls hl => ?_)
            have L_65_16 : ∀ (n_16 : Nat) (y_14 : Int32) (y_15 : Int32) (ls : Array Slot), (2147483648 - y_14.toInt).toNat < n_16 → (y_15 = 0 ∨ y_15 = 1) → 0 ≤ y_14.toInt → (y_15.toInt ≠ 0 → (A 40 (x1.toInt + 5).toNat).toInt = 1 ∧ h4 (A 40) x1.toInt y_8.toInt ∧ (A 40 (x1.toInt + y_8.toInt + 22).toNat).toInt ≤ 4) → lv_has ls 5 [(4, .int y_14), (2, .int y_15), (3, .int y_8), (0, .ref a0), (1, .int x1)] → W p l e (rmd 0) s m args below meth c s.heap [] 0 0 Q (F0 m 65 ls []) := by
              intro n_16
              induction n_16 with
              | zero => intro y_14 y_15 ls hm_16; exact absurd hm_16 (Nat.not_lt_zero _)
              | succ n_16 ih_16 =>
                intro y_14 y_15 ls hm_16 hb_y_15 iv_17_0 iv_17_1 hl
                refine lv_iload_n hx hb dX12_isEnd_65 rfl (lv_at hl 1 rfl) ?_
                refine bz_eq (tgt := 129) hx hb rfl dX12_isEnd_66 (by decide) (fun c_18 => ?_) (fun c_18 => ?_)
                · skip
                  obtain ⟨x_19, ex_19⟩ : ∃ y : Int32, y = y_8 + 1 := ⟨_, rfl⟩
                  refine lv_iinc (v := x_19) (lv' := [(3, .int x_19), (4, .int y_14), (2, .int y_15), (0, .ref a0), (1, .int x1)]) hx hb dX12_isEnd_129 hl (k := 2) rfl (by rw [ex_19]; rfl) (by decide) rfl (fun ls hl => ?_)
                  refine lv_goto (tgt := 32) hx hb dX12_isEnd_132 (by decide) ?_
                  have g_20 := z_rng y_8
                  obtain ⟨f_19, l_19, u_19⟩ := z_add ex_19 rfl ti_1
                  try replace f_19 : x_19.toInt = y_8.toInt + 1 := by omega
                  have g_21 := z_rng y_15
                  exact ih_10 x_19 y_15 _ (by omega) hb_y_15 (by omega) (by omega) (fun h9 => ⟨(iv_17_1 h9).1, h4.s (iv_17_1 h9).2.1 (by omega) (iv_17_1 h9).2.2⟩) (lv_sub hl [0, 2, 3, 4] rfl)
                · skip
                  refine lv_iload hx hb dX12_isEnd_69 (lv_at hl 0 rfl) ?_
                  refine lv_aload_n hx hb dX12_isEnd_71 rfl (lv_at hl 3 rfl) ?_
                  refine mg_0 C hs hP ha0 hk0 wf_X12_8 dX12_isEnd_72 ?_
                  refine lv_iload_n hx hb dX12_isEnd_75 rfl (lv_at hl 4 rfl) ?_
                  refine lv_bipush (v := 22) hx hb dX12_isEnd_76 (by decide) ?_
                  refine lv_iadd hx hb dX12_isEnd_78 ?_
                  refine lv_topi (fun x_22 ex_22 => ?_)
                  refine lv_iload_n hx hb dX12_isEnd_79 rfl (lv_at hl 2 rfl) ?_
                  refine lv_iadd hx hb dX12_isEnd_80 ?_
                  refine lv_topi (fun x_23 ex_23 => ?_)
                  obtain ⟨f_22, l_22, u_22⟩ := z_add ex_22 rfl ti_22
                  try replace f_22 : x_22.toInt = x1.toInt + 22 := by omega
                  have g_24 := z_rng y_8
                  obtain ⟨f_23, l_23, u_23⟩ := z_add ex_23 rfl rfl
                  try replace f_23 : x_23.toInt = x_22.toInt + y_8.toInt := by omega
                  have hi_hr_25 : x_23.toInt = x1.toInt + (y_8.toInt + 22) := by omega
                  have hr_25 := z_cell (lo := 22) (hi := 25) hp0 hi_hr_25 (by omega) (by decide)
                  have hin_26 : vp_in x_23 (zn K (zr K a0 0)) := vp_in_iff.mpr (by rw [(hf_1.2.2 (by decide))]; exact hr_25.in)
                  refine mld_40 C hs hP hf_1.1 hf_1.2.1 hin_26 dX12_isEnd_81 ?_
                  have ep_27 : x_23.toNatClampNeg = (x1.toInt + y_8.toInt + 22).toNat := z_pos (hi_hr_25.trans (by omega))
                  rw [ep_27]
                  have tv_28 := rv_22 hT hr_25
                  rw [ep_27] at tv_28
                  refine bi_ge (tgt := 129) hx hb rfl rfl dX12_isEnd_82 (by decide) (fun c_29 => ?_) (fun c_29 => ?_)
                  · skip
                    obtain ⟨x_30, ex_30⟩ : ∃ y : Int32, y = y_8 + 1 := ⟨_, rfl⟩
                    refine lv_iinc (v := x_30) (lv' := [(3, .int x_30), (4, .int y_14), (2, .int y_15), (0, .ref a0), (1, .int x1)]) hx hb dX12_isEnd_129 hl (k := 2) rfl (by rw [ex_30]; rfl) (by decide) rfl (fun ls hl => ?_)
                    refine lv_goto (tgt := 32) hx hb dX12_isEnd_132 (by decide) ?_
                    obtain ⟨f_30, l_30, u_30⟩ := z_add ex_30 rfl ti_1
                    try replace f_30 : x_30.toInt = y_8.toInt + 1 := by omega
                    have g_31 := z_rng y_15
                    have g_32 := z_rng (A 40 (x1.toInt + y_8.toInt + 22).toNat)
                    have g_33 := z_rng y_14
                    exact ih_10 x_30 y_15 _ (by omega) hb_y_15 (by omega) (by omega) (fun h9 => ⟨(iv_17_1 h9).1, h4.s (iv_17_1 h9).2.1 (by omega) (iv_17_1 h9).2.2⟩) (lv_sub hl [0, 2, 3, 4] rfl)
                  · skip
                    refine lv_aload_n hx hb dX12_isEnd_85 rfl (lv_at hl 3 rfl) ?_
                    refine mg_0 C hs hP ha0 hk0 wf_X12_8 dX12_isEnd_86 ?_
                    refine lv_iload_n hx hb dX12_isEnd_89 rfl (lv_at hl 4 rfl) ?_
                    refine lv_bipush (v := 50) hx hb dX12_isEnd_90 (by decide) ?_
                    refine lv_iadd hx hb dX12_isEnd_92 ?_
                    refine lv_topi (fun x_34 ex_34 => ?_)
                    refine lv_aload_n hx hb dX12_isEnd_93 rfl (lv_at hl 3 rfl) ?_
                    refine mg_0 C hs hP ha0 hk0 wf_X12_8 dX12_isEnd_94 ?_
                    refine lv_iload_n hx hb dX12_isEnd_97 rfl (lv_at hl 4 rfl) ?_
                    refine lv_sipush (v := 230) hx hb dX12_isEnd_98 (by decide) ?_
                    refine lv_iadd hx hb dX12_isEnd_101 ?_
                    refine lv_topi (fun x_35 ex_35 => ?_)
                    refine lv_bipush (v := 60) hx hb dX12_isEnd_102 (by decide) ?_
                    refine lv_iload_n hx hb dX12_isEnd_104 rfl (lv_at hl 2 rfl) ?_
                    refine lv_imul hx hb dX12_isEnd_105 ?_
                    refine lv_topi (fun x_36 ex_36 => ?_)
                    refine lv_iadd hx hb dX12_isEnd_106 ?_
                    refine lv_topi (fun x_37 ex_37 => ?_)
                    refine lv_iload hx hb dX12_isEnd_107 (lv_at hl 0 rfl) ?_
                    refine lv_iadd hx hb dX12_isEnd_109 ?_
                    refine lv_topi (fun x_38 ex_38 => ?_)
                    obtain ⟨f_35, l_35, u_35⟩ := z_add ex_35 rfl ti_230
                    try replace f_35 : x_35.toInt = x1.toInt + 230 := by omega
                    obtain ⟨f_36, l_36, u_36⟩ := z_mul ex_36 ti_60 rfl
                    try replace f_36 : x_36.toInt = 60 * y_8.toInt := by omega
                    obtain ⟨f_37, l_37, u_37⟩ := z_add ex_37 rfl rfl
                    try replace f_37 : x_37.toInt = x_35.toInt + x_36.toInt := by omega
                    have g_39 := z_rng y_14
                    obtain ⟨f_38, l_38, u_38⟩ := z_add ex_38 rfl rfl
                    try replace f_38 : x_38.toInt = x_37.toInt + y_14.toInt := by omega
                    have hi_hr_40 : x_38.toInt = x1.toInt + (y_14.toInt + 60 * y_8.toInt + 230) := by omega
                    have hr_40 := z_cell (lo := 170) (hi := 469) hp0 hi_hr_40 (by omega) (by decide)
                    have hin_41 : vp_in x_38 (zn K (zr K a0 0)) := vp_in_iff.mpr (by rw [(hf_1.2.2 (by decide))]; exact hr_40.in)
                    refine mld_40 C hs hP hf_1.1 hf_1.2.1 hin_41 dX12_isEnd_110 ?_
                    have ep_42 : x_38.toNatClampNeg = (x1.toInt + y_14.toInt + 60 * y_8.toInt + 230).toNat := z_pos (hi_hr_40.trans (by omega))
                    rw [ep_42]
                    have tv_43 := rv_170 hT hr_40
                    rw [ep_42] at tv_43
                    refine lv_iadd hx hb dX12_isEnd_111 ?_
                    refine lv_topi (fun x_44 ex_44 => ?_)
                    obtain ⟨f_34, l_34, u_34⟩ := z_add ex_34 rfl ti_50
                    try replace f_34 : x_34.toInt = x1.toInt + 50 := by omega
                    have g_45 := z_rng (A 40 (x1.toInt + y_14.toInt + 60 * y_8.toInt + 230).toNat)
                    obtain ⟨f_44, l_44, u_44⟩ := z_add ex_44 rfl rfl
                    try replace f_44 : x_44.toInt = x_34.toInt + (A 40 (x1.toInt + y_14.toInt + 60 * y_8.toInt + 230).toNat).toInt := by omega
                    have hi_hr_46 : x_44.toInt = x1.toInt + ((A 40 (x1.toInt + y_14.toInt + 60 * y_8.toInt + 230).toNat).toInt + 50) := by omega
                    have hr_46 := z_cell (lo := 45) (hi := 169) hp0 hi_hr_46 (by omega) (by decide)
                    have hin_47 : vp_in x_44 (zn K (zr K a0 0)) := vp_in_iff.mpr (by rw [(hf_1.2.2 (by decide))]; exact hr_46.in)
                    refine mld_40 C hs hP hf_1.1 hf_1.2.1 hin_47 dX12_isEnd_112 ?_
                    have ep_48 : x_44.toNatClampNeg = ((A 40 (x1.toInt + y_14.toInt + 60 * y_8.toInt + 230).toNat).toInt + x1.toInt + 50).toNat := z_pos (hi_hr_46.trans (by omega))
                    rw [ep_48]
                    refine lv_iconst (v := 3) hx hb dX12_isEnd_113 (by decide) ?_
                    refine bi_eq (tgt := 121) hx hb rfl ti_3 dX12_isEnd_114 (by decide) (fun c_49 => ?_) (fun c_49 => ?_)
                    · skip
                      refine lv_iconst (v := 0) hx hb dX12_isEnd_121 (by decide) ?_
                      refine lv_istore_n (lv' := [(2, .int 0), (4, .int y_14), (3, .int y_8), (0, .ref a0), (1, .int x1)]) hx hb dX12_isEnd_122 rfl hl (by decide) rfl (fun ls hl => ?_)
                      obtain ⟨x_50, ex_50⟩ : ∃ y : Int32, y = y_14 + 1 := ⟨_, rfl⟩
                      refine lv_iinc (v := x_50) (lv' := [(4, .int x_50), (2, .int 0), (3, .int y_8), (0, .ref a0), (1, .int x1)]) hx hb dX12_isEnd_123 hl (k := 1) rfl (by rw [ex_50]; rfl) (by decide) rfl (fun ls hl => ?_)
                      refine lv_goto (tgt := 65) hx hb dX12_isEnd_126 (by decide) ?_
                      obtain ⟨f_50, l_50, u_50⟩ := z_add ex_50 rfl ti_1
                      try replace f_50 : x_50.toInt = y_14.toInt + 1 := by omega
                      have g_51 := z_rng (A 40 ((A 40 (x1.toInt + y_14.toInt + 60 * y_8.toInt + 230).toNat).toInt + x1.toInt + 50).toNat)
                      have g_52 := z_rng (A 40 (x1.toInt + y_8.toInt + 22).toNat)
                      have g_53 := z_rng y_15
                      exact ih_16 x_50 0 _ (by omega) (Or.inl rfl) (by (try simp only [ti_0]); omega) (fun h9 => by rw [ti_0] at h9; omega) (lv_sub hl [0, 1, 2, 3, 4] rfl)
                    · skip
                      refine lv_iconst (v := 1) hx hb dX12_isEnd_117 (by decide) ?_
                      refine lv_goto (tgt := 122) hx hb dX12_isEnd_118 (by decide) ?_
                      refine lv_istore_n (lv' := [(2, .int 1), (4, .int y_14), (3, .int y_8), (0, .ref a0), (1, .int x1)]) hx hb dX12_isEnd_122 rfl hl (by decide) rfl (fun ls hl => ?_)
                      obtain ⟨x_54, ex_54⟩ : ∃ y : Int32, y = y_14 + 1 := ⟨_, rfl⟩
                      refine lv_iinc (v := x_54) (lv' := [(4, .int x_54), (2, .int 1), (3, .int y_8), (0, .ref a0), (1, .int x1)]) hx hb dX12_isEnd_123 hl (k := 1) rfl (by rw [ex_54]; rfl) (by decide) rfl (fun ls hl => ?_)
                      refine lv_goto (tgt := 65) hx hb dX12_isEnd_126 (by decide) ?_
                      obtain ⟨f_54, l_54, u_54⟩ := z_add ex_54 rfl ti_1
                      try replace f_54 : x_54.toInt = y_14.toInt + 1 := by omega
                      have g_55 := z_rng (A 40 ((A 40 (x1.toInt + y_14.toInt + 60 * y_8.toInt + 230).toNat).toInt + x1.toInt + 50).toNat)
                      have g_56 := z_rng (A 40 (x1.toInt + y_8.toInt + 22).toNat)
                      have g_57 := z_rng y_15
                      exact ih_16 x_54 1 _ (by omega) (Or.inr rfl) (by (try simp only [ti_1]); omega) (fun _ => iv_17_1 c_18) (lv_sub hl [0, 1, 2, 3, 4] rfl)
            have g_58 := z_rng y_8
            have g_59 := z_rng y_9
            exact L_65_16 _ 0 0 _ (Nat.lt_succ_self _) (Or.inl rfl) (by (try simp only [ti_0]); omega) (fun h9 => by rw [ti_0] at h9; omega) (lv_sub hl [0, 1, 2, 3, 4] rfl)
          · skip
            refine lv_aload_n hx hb dX12_isEnd_41 rfl (lv_at hl 2 rfl) ?_
            refine mg_0 C hs hP ha0 hk0 wf_X12_8 dX12_isEnd_42 ?_
            refine lv_iload_n hx hb dX12_isEnd_45 rfl (lv_at hl 3 rfl) ?_
            refine lv_bipush (v := 22) hx hb dX12_isEnd_46 (by decide) ?_
            refine lv_iadd hx hb dX12_isEnd_48 ?_
            refine lv_topi (fun x_60 ex_60 => ?_)
            refine lv_iload_n hx hb dX12_isEnd_49 rfl (lv_at hl 0 rfl) ?_
            refine lv_iadd hx hb dX12_isEnd_50 ?_
            refine lv_topi (fun x_61 ex_61 => ?_)
            obtain ⟨f_60, l_60, u_60⟩ := z_add ex_60 rfl ti_22
            try replace f_60 : x_60.toInt = x1.toInt + 22 := by omega
            have g_62 := z_rng y_8
            obtain ⟨f_61, l_61, u_61⟩ := z_add ex_61 rfl rfl
            try replace f_61 : x_61.toInt = x_60.toInt + y_8.toInt := by omega
            have hi_hr_63 : x_61.toInt = x1.toInt + (y_8.toInt + 22) := by omega
            have hr_63 := z_cell (lo := 22) (hi := 25) hp0 hi_hr_63 (by omega) (by decide)
            have hin_64 : vp_in x_61 (zn K (zr K a0 0)) := vp_in_iff.mpr (by rw [(hf_1.2.2 (by decide))]; exact hr_63.in)
            refine mld_40 C hs hP hf_1.1 hf_1.2.1 hin_64 dX12_isEnd_51 ?_
            have ep_65 : x_61.toNatClampNeg = (x1.toInt + y_8.toInt + 22).toNat := z_pos (hi_hr_63.trans (by omega))
            rw [ep_65]
            have tv_66 := rv_22 hT hr_63
            rw [ep_65] at tv_66
            refine lv_iconst (v := 4) hx hb dX12_isEnd_52 (by decide) ?_
            refine bi_gt (tgt := 60) hx hb rfl ti_4 dX12_isEnd_53 (by decide) (fun c_67 => ?_) (fun c_67 => ?_)
            · skip
              refine lv_iconst (v := 0) hx hb dX12_isEnd_60 (by decide) ?_
              refine lv_istore_n (lv' := [(2, .int 0), (3, .int y_8), (0, .ref a0), (1, .int x1)]) hx hb dX12_isEnd_61 rfl hl (by decide) rfl (fun ls hl => ?_)
              refine lv_iconst (v := 0) hx hb dX12_isEnd_62 (by decide) ?_
              refine lv_istore (lv' := [(4, .int 0), (2, .int 0), (3, .int y_8), (0, .ref a0), (1, .int x1)]) hx hb dX12_isEnd_63 hl (by decide) rfl (fun ls hl => ?_)
              have L_65_70 : ∀ (n_70 : Nat) (y_68 : Int32) (y_69 : Int32) (ls : Array Slot), (2147483648 - y_68.toInt).toNat < n_70 → (y_69 = 0 ∨ y_69 = 1) → 0 ≤ y_68.toInt → (y_69.toInt ≠ 0 → (A 40 (x1.toInt + 5).toNat).toInt = 1 ∧ h4 (A 40) x1.toInt y_8.toInt ∧ (A 40 (x1.toInt + y_8.toInt + 22).toNat).toInt ≤ 4) → lv_has ls 5 [(4, .int y_68), (2, .int y_69), (3, .int y_8), (0, .ref a0), (1, .int x1)] → W p l e (rmd 0) s m args below meth c s.heap [] 0 0 Q (F0 m 65 ls []) := by
                intro n_70
                induction n_70 with
                | zero => intro y_68 y_69 ls hm_70; exact absurd hm_70 (Nat.not_lt_zero _)
                | succ n_70 ih_70 =>
                  intro y_68 y_69 ls hm_70 hb_y_69 iv_71_0 iv_71_1 hl
                  refine lv_iload_n hx hb dX12_isEnd_65 rfl (lv_at hl 1 rfl) ?_
                  refine bz_eq (tgt := 129) hx hb rfl dX12_isEnd_66 (by decide) (fun c_72 => ?_) (fun c_72 => ?_)
                  · skip
                    obtain ⟨x_73, ex_73⟩ : ∃ y : Int32, y = y_8 + 1 := ⟨_, rfl⟩
                    refine lv_iinc (v := x_73) (lv' := [(3, .int x_73), (4, .int y_68), (2, .int y_69), (0, .ref a0), (1, .int x1)]) hx hb dX12_isEnd_129 hl (k := 2) rfl (by rw [ex_73]; rfl) (by decide) rfl (fun ls hl => ?_)
                    refine lv_goto (tgt := 32) hx hb dX12_isEnd_132 (by decide) ?_
                    obtain ⟨f_73, l_73, u_73⟩ := z_add ex_73 rfl ti_1
                    try replace f_73 : x_73.toInt = y_8.toInt + 1 := by omega
                    have g_74 := z_rng y_69
                    exact ih_10 x_73 y_69 _ (by omega) hb_y_69 (by omega) (by omega) (fun h9 => ⟨(iv_71_1 h9).1, h4.s (iv_71_1 h9).2.1 (by omega) (iv_71_1 h9).2.2⟩) (lv_sub hl [0, 2, 3, 4] rfl)
                  · skip
                    refine lv_iload hx hb dX12_isEnd_69 (lv_at hl 0 rfl) ?_
                    refine lv_aload_n hx hb dX12_isEnd_71 rfl (lv_at hl 3 rfl) ?_
                    refine mg_0 C hs hP ha0 hk0 wf_X12_8 dX12_isEnd_72 ?_
                    refine lv_iload_n hx hb dX12_isEnd_75 rfl (lv_at hl 4 rfl) ?_
                    refine lv_bipush (v := 22) hx hb dX12_isEnd_76 (by decide) ?_
                    refine lv_iadd hx hb dX12_isEnd_78 ?_
                    refine lv_topi (fun x_75 ex_75 => ?_)
                    refine lv_iload_n hx hb dX12_isEnd_79 rfl (lv_at hl 2 rfl) ?_
                    refine lv_iadd hx hb dX12_isEnd_80 ?_
                    refine lv_topi (fun x_76 ex_76 => ?_)
                    obtain ⟨f_75, l_75, u_75⟩ := z_add ex_75 rfl ti_22
                    try replace f_75 : x_75.toInt = x1.toInt + 22 := by omega
                    obtain ⟨f_76, l_76, u_76⟩ := z_add ex_76 rfl rfl
                    try replace f_76 : x_76.toInt = x_75.toInt + y_8.toInt := by omega
                    have hi_hr_77 : x_76.toInt = x1.toInt + (y_8.toInt + 22) := by omega
                    have hr_77 := z_cell (lo := 22) (hi := 25) hp0 hi_hr_77 (by omega) (by decide)
                    have hin_78 : vp_in x_76 (zn K (zr K a0 0)) := vp_in_iff.mpr (by rw [(hf_1.2.2 (by decide))]; exact hr_77.in)
                    refine mld_40 C hs hP hf_1.1 hf_1.2.1 hin_78 dX12_isEnd_81 ?_
                    have ep_79 : x_76.toNatClampNeg = (x1.toInt + y_8.toInt + 22).toNat := z_pos (hi_hr_77.trans (by omega))
                    rw [ep_79]
                    refine bi_ge (tgt := 129) hx hb rfl rfl dX12_isEnd_82 (by decide) (fun c_80 => ?_) (fun c_80 => ?_)
                    · skip
                      obtain ⟨x_81, ex_81⟩ : ∃ y : Int32, y = y_8 + 1 := ⟨_, rfl⟩
                      refine lv_iinc (v := x_81) (lv' := [(3, .int x_81), (4, .int y_68), (2, .int y_69), (0, .ref a0), (1, .int x1)]) hx hb dX12_isEnd_129 hl (k := 2) rfl (by rw [ex_81]; rfl) (by decide) rfl (fun ls hl => ?_)
                      refine lv_goto (tgt := 32) hx hb dX12_isEnd_132 (by decide) ?_
                      obtain ⟨f_81, l_81, u_81⟩ := z_add ex_81 rfl ti_1
                      try replace f_81 : x_81.toInt = y_8.toInt + 1 := by omega
                      have g_82 := z_rng y_69
                      have g_83 := z_rng (A 40 (x1.toInt + y_8.toInt + 22).toNat)
                      have g_84 := z_rng y_68
                      exact ih_10 x_81 y_69 _ (by omega) hb_y_69 (by omega) (by omega) (fun h9 => ⟨(iv_71_1 h9).1, h4.s (iv_71_1 h9).2.1 (by omega) (iv_71_1 h9).2.2⟩) (lv_sub hl [0, 2, 3, 4] rfl)
                    · skip
                      refine lv_aload_n hx hb dX12_isEnd_85 rfl (lv_at hl 3 rfl) ?_
                      refine mg_0 C hs hP ha0 hk0 wf_X12_8 dX12_isEnd_86 ?_
                      refine lv_iload_n hx hb dX12_isEnd_89 rfl (lv_at hl 4 rfl) ?_
                      refine lv_bipush (v := 50) hx hb dX12_isEnd_90 (by decide) ?_
                      refine lv_iadd hx hb dX12_isEnd_92 ?_
                      refine lv_topi (fun x_85 ex_85 => ?_)
                      refine lv_aload_n hx hb dX12_isEnd_93 rfl (lv_at hl 3 rfl) ?_
                      refine mg_0 C hs hP ha0 hk0 wf_X12_8 dX12_isEnd_94 ?_
                      refine lv_iload_n hx hb dX12_isEnd_97 rfl (lv_at hl 4 rfl) ?_
                      refine lv_sipush (v := 230) hx hb dX12_isEnd_98 (by decide) ?_
                      refine lv_iadd hx hb dX12_isEnd_101 ?_
                      refine lv_topi (fun x_86 ex_86 => ?_)
                      refine lv_bipush (v := 60) hx hb dX12_isEnd_102 (by decide) ?_
                      refine lv_iload_n hx hb dX12_isEnd_104 rfl (lv_at hl 2 rfl) ?_
                      refine lv_imul hx hb dX12_isEnd_105 ?_
                      refine lv_topi (fun x_87 ex_87 => ?_)
                      refine lv_iadd hx hb dX12_isEnd_106 ?_
                      refine lv_topi (fun x_88 ex_88 => ?_)
                      refine lv_iload hx hb dX12_isEnd_107 (lv_at hl 0 rfl) ?_
                      refine lv_iadd hx hb dX12_isEnd_109 ?_
                      refine lv_topi (fun x_89 ex_89 => ?_)
                      obtain ⟨f_86, l_86, u_86⟩ := z_add ex_86 rfl ti_230
                      try replace f_86 : x_86.toInt = x1.toInt + 230 := by omega
                      obtain ⟨f_87, l_87, u_87⟩ := z_mul ex_87 ti_60 rfl
                      try replace f_87 : x_87.toInt = 60 * y_8.toInt := by omega
                      obtain ⟨f_88, l_88, u_88⟩ := z_add ex_88 rfl rfl
                      try replace f_88 : x_88.toInt = x_86.toInt + x_87.toInt := by omega
                      have g_90 := z_rng y_68
                      obtain ⟨f_89, l_89, u_89⟩ := z_add ex_89 rfl rfl
                      try replace f_89 : x_89.toInt = x_88.toInt + y_68.toInt := by omega
                      have hi_hr_91 : x_89.toInt = x1.toInt + (y_68.toInt + 60 * y_8.toInt + 230) := by omega
                      have hr_91 := z_cell (lo := 170) (hi := 469) hp0 hi_hr_91 (by omega) (by decide)
                      have hin_92 : vp_in x_89 (zn K (zr K a0 0)) := vp_in_iff.mpr (by rw [(hf_1.2.2 (by decide))]; exact hr_91.in)
                      refine mld_40 C hs hP hf_1.1 hf_1.2.1 hin_92 dX12_isEnd_110 ?_
                      have ep_93 : x_89.toNatClampNeg = (x1.toInt + y_68.toInt + 60 * y_8.toInt + 230).toNat := z_pos (hi_hr_91.trans (by omega))
                      rw [ep_93]
                      have tv_94 := rv_170 hT hr_91
                      rw [ep_93] at tv_94
                      refine lv_iadd hx hb dX12_isEnd_111 ?_
                      refine lv_topi (fun x_95 ex_95 => ?_)
                      obtain ⟨f_85, l_85, u_85⟩ := z_add ex_85 rfl ti_50
                      try replace f_85 : x_85.toInt = x1.toInt + 50 := by omega
                      have g_96 := z_rng (A 40 (x1.toInt + y_68.toInt + 60 * y_8.toInt + 230).toNat)
                      obtain ⟨f_95, l_95, u_95⟩ := z_add ex_95 rfl rfl
                      try replace f_95 : x_95.toInt = x_85.toInt + (A 40 (x1.toInt + y_68.toInt + 60 * y_8.toInt + 230).toNat).toInt := by omega
                      have hi_hr_97 : x_95.toInt = x1.toInt + ((A 40 (x1.toInt + y_68.toInt + 60 * y_8.toInt + 230).toNat).toInt + 50) := by omega
                      have hr_97 := z_cell (lo := 45) (hi := 169) hp0 hi_hr_97 (by omega) (by decide)
                      have hin_98 : vp_in x_95 (zn K (zr K a0 0)) := vp_in_iff.mpr (by rw [(hf_1.2.2 (by decide))]; exact hr_97.in)
                      refine mld_40 C hs hP hf_1.1 hf_1.2.1 hin_98 dX12_isEnd_112 ?_
                      have ep_99 : x_95.toNatClampNeg = ((A 40 (x1.toInt + y_68.toInt + 60 * y_8.toInt + 230).toNat).toInt + x1.toInt + 50).toNat := z_pos (hi_hr_97.trans (by omega))
                      rw [ep_99]
                      refine lv_iconst (v := 3) hx hb dX12_isEnd_113 (by decide) ?_
                      refine bi_eq (tgt := 121) hx hb rfl ti_3 dX12_isEnd_114 (by decide) (fun c_100 => ?_) (fun c_100 => ?_)
                      · skip
                        refine lv_iconst (v := 0) hx hb dX12_isEnd_121 (by decide) ?_
                        refine lv_istore_n (lv' := [(2, .int 0), (4, .int y_68), (3, .int y_8), (0, .ref a0), (1, .int x1)]) hx hb dX12_isEnd_122 rfl hl (by decide) rfl (fun ls hl => ?_)
                        obtain ⟨x_101, ex_101⟩ : ∃ y : Int32, y = y_68 + 1 := ⟨_, rfl⟩
                        refine lv_iinc (v := x_101) (lv' := [(4, .int x_101), (2, .int 0), (3, .int y_8), (0, .ref a0), (1, .int x1)]) hx hb dX12_isEnd_123 hl (k := 1) rfl (by rw [ex_101]; rfl) (by decide) rfl (fun ls hl => ?_)
                        refine lv_goto (tgt := 65) hx hb dX12_isEnd_126 (by decide) ?_
                        obtain ⟨f_101, l_101, u_101⟩ := z_add ex_101 rfl ti_1
                        try replace f_101 : x_101.toInt = y_68.toInt + 1 := by omega
                        have g_102 := z_rng (A 40 ((A 40 (x1.toInt + y_68.toInt + 60 * y_8.toInt + 230).toNat).toInt + x1.toInt + 50).toNat)
                        have g_103 := z_rng (A 40 (x1.toInt + y_8.toInt + 22).toNat)
                        have g_104 := z_rng y_69
                        exact ih_70 x_101 0 _ (by omega) (Or.inl rfl) (by (try simp only [ti_0]); omega) (fun h9 => by rw [ti_0] at h9; omega) (lv_sub hl [0, 1, 2, 3, 4] rfl)
                      · skip
                        refine lv_iconst (v := 1) hx hb dX12_isEnd_117 (by decide) ?_
                        refine lv_goto (tgt := 122) hx hb dX12_isEnd_118 (by decide) ?_
                        refine lv_istore_n (lv' := [(2, .int 1), (4, .int y_68), (3, .int y_8), (0, .ref a0), (1, .int x1)]) hx hb dX12_isEnd_122 rfl hl (by decide) rfl (fun ls hl => ?_)
                        obtain ⟨x_105, ex_105⟩ : ∃ y : Int32, y = y_68 + 1 := ⟨_, rfl⟩
                        refine lv_iinc (v := x_105) (lv' := [(4, .int x_105), (2, .int 1), (3, .int y_8), (0, .ref a0), (1, .int x1)]) hx hb dX12_isEnd_123 hl (k := 1) rfl (by rw [ex_105]; rfl) (by decide) rfl (fun ls hl => ?_)
                        refine lv_goto (tgt := 65) hx hb dX12_isEnd_126 (by decide) ?_
                        obtain ⟨f_105, l_105, u_105⟩ := z_add ex_105 rfl ti_1
                        try replace f_105 : x_105.toInt = y_68.toInt + 1 := by omega
                        have g_106 := z_rng (A 40 ((A 40 (x1.toInt + y_68.toInt + 60 * y_8.toInt + 230).toNat).toInt + x1.toInt + 50).toNat)
                        have g_107 := z_rng (A 40 (x1.toInt + y_8.toInt + 22).toNat)
                        have g_108 := z_rng y_69
                        exact ih_70 x_105 1 _ (by omega) (Or.inr rfl) (by (try simp only [ti_1]); omega) (fun _ => iv_71_1 c_72) (lv_sub hl [0, 1, 2, 3, 4] rfl)
              have g_109 := z_rng (A 40 (x1.toInt + y_8.toInt + 22).toNat)
              have g_110 := z_rng y_9
              exact L_65_70 _ 0 0 _ (Nat.lt_succ_self _) (Or.inl rfl) (by (try simp only [ti_0]); omega) (fun h9 => by rw [ti_0] at h9; omega) (lv_sub hl [0, 1, 2, 3, 4] rfl)
            · skip
              refine lv_iconst (v := 1) hx hb dX12_isEnd_56 (by decide) ?_
              refine lv_goto (tgt := 61) hx hb dX12_isEnd_57 (by decide) ?_
              refine lv_istore_n (lv' := [(2, .int 1), (3, .int y_8), (0, .ref a0), (1, .int x1)]) hx hb dX12_isEnd_61 rfl hl (by decide) rfl (fun ls hl => ?_)
              refine lv_iconst (v := 0) hx hb dX12_isEnd_62 (by decide) ?_
              refine lv_istore (lv' := [(4, .int 0), (2, .int 1), (3, .int y_8), (0, .ref a0), (1, .int x1)]) hx hb dX12_isEnd_63 hl (by decide) rfl (fun ls hl => ?_)
              have L_65_113 : ∀ (n_113 : Nat) (y_111 : Int32) (y_112 : Int32) (ls : Array Slot), (2147483648 - y_111.toInt).toNat < n_113 → (y_112 = 0 ∨ y_112 = 1) → 0 ≤ y_111.toInt → (y_112.toInt ≠ 0 → (A 40 (x1.toInt + 5).toNat).toInt = 1 ∧ h4 (A 40) x1.toInt y_8.toInt ∧ (A 40 (x1.toInt + y_8.toInt + 22).toNat).toInt ≤ 4) → lv_has ls 5 [(4, .int y_111), (2, .int y_112), (3, .int y_8), (0, .ref a0), (1, .int x1)] → W p l e (rmd 0) s m args below meth c s.heap [] 0 0 Q (F0 m 65 ls []) := by
                intro n_113
                induction n_113 with
                | zero => intro y_111 y_112 ls hm_113; exact absurd hm_113 (Nat.not_lt_zero _)
                | succ n_113 ih_113 =>
                  intro y_111 y_112 ls hm_113 hb_y_112 iv_114_0 iv_114_1 hl
                  refine lv_iload_n hx hb dX12_isEnd_65 rfl (lv_at hl 1 rfl) ?_
                  refine bz_eq (tgt := 129) hx hb rfl dX12_isEnd_66 (by decide) (fun c_115 => ?_) (fun c_115 => ?_)
                  · skip
                    obtain ⟨x_116, ex_116⟩ : ∃ y : Int32, y = y_8 + 1 := ⟨_, rfl⟩
                    refine lv_iinc (v := x_116) (lv' := [(3, .int x_116), (4, .int y_111), (2, .int y_112), (0, .ref a0), (1, .int x1)]) hx hb dX12_isEnd_129 hl (k := 2) rfl (by rw [ex_116]; rfl) (by decide) rfl (fun ls hl => ?_)
                    refine lv_goto (tgt := 32) hx hb dX12_isEnd_132 (by decide) ?_
                    obtain ⟨f_116, l_116, u_116⟩ := z_add ex_116 rfl ti_1
                    try replace f_116 : x_116.toInt = y_8.toInt + 1 := by omega
                    have g_117 := z_rng y_112
                    exact ih_10 x_116 y_112 _ (by omega) hb_y_112 (by omega) (by omega) (fun h9 => ⟨(iv_114_1 h9).1, h4.s (iv_114_1 h9).2.1 (by omega) (iv_114_1 h9).2.2⟩) (lv_sub hl [0, 2, 3, 4] rfl)
                  · skip
                    refine lv_iload hx hb dX12_isEnd_69 (lv_at hl 0 rfl) ?_
                    refine lv_aload_n hx hb dX12_isEnd_71 rfl (lv_at hl 3 rfl) ?_
                    refine mg_0 C hs hP ha0 hk0 wf_X12_8 dX12_isEnd_72 ?_
                    refine lv_iload_n hx hb dX12_isEnd_75 rfl (lv_at hl 4 rfl) ?_
                    refine lv_bipush (v := 22) hx hb dX12_isEnd_76 (by decide) ?_
                    refine lv_iadd hx hb dX12_isEnd_78 ?_
                    refine lv_topi (fun x_118 ex_118 => ?_)
                    refine lv_iload_n hx hb dX12_isEnd_79 rfl (lv_at hl 2 rfl) ?_
                    refine lv_iadd hx hb dX12_isEnd_80 ?_
                    refine lv_topi (fun x_119 ex_119 => ?_)
                    obtain ⟨f_118, l_118, u_118⟩ := z_add ex_118 rfl ti_22
                    try replace f_118 : x_118.toInt = x1.toInt + 22 := by omega
                    obtain ⟨f_119, l_119, u_119⟩ := z_add ex_119 rfl rfl
                    try replace f_119 : x_119.toInt = x_118.toInt + y_8.toInt := by omega
                    have hi_hr_120 : x_119.toInt = x1.toInt + (y_8.toInt + 22) := by omega
                    have hr_120 := z_cell (lo := 22) (hi := 25) hp0 hi_hr_120 (by omega) (by decide)
                    have hin_121 : vp_in x_119 (zn K (zr K a0 0)) := vp_in_iff.mpr (by rw [(hf_1.2.2 (by decide))]; exact hr_120.in)
                    refine mld_40 C hs hP hf_1.1 hf_1.2.1 hin_121 dX12_isEnd_81 ?_
                    have ep_122 : x_119.toNatClampNeg = (x1.toInt + y_8.toInt + 22).toNat := z_pos (hi_hr_120.trans (by omega))
                    rw [ep_122]
                    refine bi_ge (tgt := 129) hx hb rfl rfl dX12_isEnd_82 (by decide) (fun c_123 => ?_) (fun c_123 => ?_)
                    · skip
                      obtain ⟨x_124, ex_124⟩ : ∃ y : Int32, y = y_8 + 1 := ⟨_, rfl⟩
                      refine lv_iinc (v := x_124) (lv' := [(3, .int x_124), (4, .int y_111), (2, .int y_112), (0, .ref a0), (1, .int x1)]) hx hb dX12_isEnd_129 hl (k := 2) rfl (by rw [ex_124]; rfl) (by decide) rfl (fun ls hl => ?_)
                      refine lv_goto (tgt := 32) hx hb dX12_isEnd_132 (by decide) ?_
                      obtain ⟨f_124, l_124, u_124⟩ := z_add ex_124 rfl ti_1
                      try replace f_124 : x_124.toInt = y_8.toInt + 1 := by omega
                      have g_125 := z_rng y_112
                      have g_126 := z_rng (A 40 (x1.toInt + y_8.toInt + 22).toNat)
                      have g_127 := z_rng y_111
                      exact ih_10 x_124 y_112 _ (by omega) hb_y_112 (by omega) (by omega) (fun h9 => ⟨(iv_114_1 h9).1, h4.s (iv_114_1 h9).2.1 (by omega) (iv_114_1 h9).2.2⟩) (lv_sub hl [0, 2, 3, 4] rfl)
                    · skip
                      refine lv_aload_n hx hb dX12_isEnd_85 rfl (lv_at hl 3 rfl) ?_
                      refine mg_0 C hs hP ha0 hk0 wf_X12_8 dX12_isEnd_86 ?_
                      refine lv_iload_n hx hb dX12_isEnd_89 rfl (lv_at hl 4 rfl) ?_
                      refine lv_bipush (v := 50) hx hb dX12_isEnd_90 (by decide) ?_
                      refine lv_iadd hx hb dX12_isEnd_92 ?_
                      refine lv_topi (fun x_128 ex_128 => ?_)
                      refine lv_aload_n hx hb dX12_isEnd_93 rfl (lv_at hl 3 rfl) ?_
                      refine mg_0 C hs hP ha0 hk0 wf_X12_8 dX12_isEnd_94 ?_
                      refine lv_iload_n hx hb dX12_isEnd_97 rfl (lv_at hl 4 rfl) ?_
                      refine lv_sipush (v := 230) hx hb dX12_isEnd_98 (by decide) ?_
                      refine lv_iadd hx hb dX12_isEnd_101 ?_
                      refine lv_topi (fun x_129 ex_129 => ?_)
                      refine lv_bipush (v := 60) hx hb dX12_isEnd_102 (by decide) ?_
                      refine lv_iload_n hx hb dX12_isEnd_104 rfl (lv_at hl 2 rfl) ?_
                      refine lv_imul hx hb dX12_isEnd_105 ?_
                      refine lv_topi (fun x_130 ex_130 => ?_)
                      refine lv_iadd hx hb dX12_isEnd_106 ?_
                      refine lv_topi (fun x_131 ex_131 => ?_)
                      refine lv_iload hx hb dX12_isEnd_107 (lv_at hl 0 rfl) ?_
                      refine lv_iadd hx hb dX12_isEnd_109 ?_
                      refine lv_topi (fun x_132 ex_132 => ?_)
                      obtain ⟨f_129, l_129, u_129⟩ := z_add ex_129 rfl ti_230
                      try replace f_129 : x_129.toInt = x1.toInt + 230 := by omega
                      obtain ⟨f_130, l_130, u_130⟩ := z_mul ex_130 ti_60 rfl
                      try replace f_130 : x_130.toInt = 60 * y_8.toInt := by omega
                      obtain ⟨f_131, l_131, u_131⟩ := z_add ex_131 rfl rfl
                      try replace f_131 : x_131.toInt = x_129.toInt + x_130.toInt := by omega
                      have g_133 := z_rng y_111
                      obtain ⟨f_132, l_132, u_132⟩ := z_add ex_132 rfl rfl
                      try replace f_132 : x_132.toInt = x_131.toInt + y_111.toInt := by omega
                      have hi_hr_134 : x_132.toInt = x1.toInt + (y_111.toInt + 60 * y_8.toInt + 230) := by omega
                      have hr_134 := z_cell (lo := 170) (hi := 469) hp0 hi_hr_134 (by omega) (by decide)
                      have hin_135 : vp_in x_132 (zn K (zr K a0 0)) := vp_in_iff.mpr (by rw [(hf_1.2.2 (by decide))]; exact hr_134.in)
                      refine mld_40 C hs hP hf_1.1 hf_1.2.1 hin_135 dX12_isEnd_110 ?_
                      have ep_136 : x_132.toNatClampNeg = (x1.toInt + y_111.toInt + 60 * y_8.toInt + 230).toNat := z_pos (hi_hr_134.trans (by omega))
                      rw [ep_136]
                      have tv_137 := rv_170 hT hr_134
                      rw [ep_136] at tv_137
                      refine lv_iadd hx hb dX12_isEnd_111 ?_
                      refine lv_topi (fun x_138 ex_138 => ?_)
                      obtain ⟨f_128, l_128, u_128⟩ := z_add ex_128 rfl ti_50
                      try replace f_128 : x_128.toInt = x1.toInt + 50 := by omega
                      have g_139 := z_rng (A 40 (x1.toInt + y_111.toInt + 60 * y_8.toInt + 230).toNat)
                      obtain ⟨f_138, l_138, u_138⟩ := z_add ex_138 rfl rfl
                      try replace f_138 : x_138.toInt = x_128.toInt + (A 40 (x1.toInt + y_111.toInt + 60 * y_8.toInt + 230).toNat).toInt := by omega
                      have hi_hr_140 : x_138.toInt = x1.toInt + ((A 40 (x1.toInt + y_111.toInt + 60 * y_8.toInt + 230).toNat).toInt + 50) := by omega
                      have hr_140 := z_cell (lo := 45) (hi := 169) hp0 hi_hr_140 (by omega) (by decide)
                      have hin_141 : vp_in x_138 (zn K (zr K a0 0)) := vp_in_iff.mpr (by rw [(hf_1.2.2 (by decide))]; exact hr_140.in)
                      refine mld_40 C hs hP hf_1.1 hf_1.2.1 hin_141 dX12_isEnd_112 ?_
                      have ep_142 : x_138.toNatClampNeg = ((A 40 (x1.toInt + y_111.toInt + 60 * y_8.toInt + 230).toNat).toInt + x1.toInt + 50).toNat := z_pos (hi_hr_140.trans (by omega))
                      rw [ep_142]
                      refine lv_iconst (v := 3) hx hb dX12_isEnd_113 (by decide) ?_
                      refine bi_eq (tgt := 121) hx hb rfl ti_3 dX12_isEnd_114 (by decide) (fun c_143 => ?_) (fun c_143 => ?_)
                      · skip
                        refine lv_iconst (v := 0) hx hb dX12_isEnd_121 (by decide) ?_
                        refine lv_istore_n (lv' := [(2, .int 0), (4, .int y_111), (3, .int y_8), (0, .ref a0), (1, .int x1)]) hx hb dX12_isEnd_122 rfl hl (by decide) rfl (fun ls hl => ?_)
                        obtain ⟨x_144, ex_144⟩ : ∃ y : Int32, y = y_111 + 1 := ⟨_, rfl⟩
                        refine lv_iinc (v := x_144) (lv' := [(4, .int x_144), (2, .int 0), (3, .int y_8), (0, .ref a0), (1, .int x1)]) hx hb dX12_isEnd_123 hl (k := 1) rfl (by rw [ex_144]; rfl) (by decide) rfl (fun ls hl => ?_)
                        refine lv_goto (tgt := 65) hx hb dX12_isEnd_126 (by decide) ?_
                        obtain ⟨f_144, l_144, u_144⟩ := z_add ex_144 rfl ti_1
                        try replace f_144 : x_144.toInt = y_111.toInt + 1 := by omega
                        have g_145 := z_rng (A 40 ((A 40 (x1.toInt + y_111.toInt + 60 * y_8.toInt + 230).toNat).toInt + x1.toInt + 50).toNat)
                        have g_146 := z_rng (A 40 (x1.toInt + y_8.toInt + 22).toNat)
                        have g_147 := z_rng y_112
                        exact ih_113 x_144 0 _ (by omega) (Or.inl rfl) (by (try simp only [ti_0]); omega) (fun h9 => by rw [ti_0] at h9; omega) (lv_sub hl [0, 1, 2, 3, 4] rfl)
                      · skip
                        refine lv_iconst (v := 1) hx hb dX12_isEnd_117 (by decide) ?_
                        refine lv_goto (tgt := 122) hx hb dX12_isEnd_118 (by decide) ?_
                        refine lv_istore_n (lv' := [(2, .int 1), (4, .int y_111), (3, .int y_8), (0, .ref a0), (1, .int x1)]) hx hb dX12_isEnd_122 rfl hl (by decide) rfl (fun ls hl => ?_)
                        obtain ⟨x_148, ex_148⟩ : ∃ y : Int32, y = y_111 + 1 := ⟨_, rfl⟩
                        refine lv_iinc (v := x_148) (lv' := [(4, .int x_148), (2, .int 1), (3, .int y_8), (0, .ref a0), (1, .int x1)]) hx hb dX12_isEnd_123 hl (k := 1) rfl (by rw [ex_148]; rfl) (by decide) rfl (fun ls hl => ?_)
                        refine lv_goto (tgt := 65) hx hb dX12_isEnd_126 (by decide) ?_
                        obtain ⟨f_148, l_148, u_148⟩ := z_add ex_148 rfl ti_1
                        try replace f_148 : x_148.toInt = y_111.toInt + 1 := by omega
                        have g_149 := z_rng (A 40 ((A 40 (x1.toInt + y_111.toInt + 60 * y_8.toInt + 230).toNat).toInt + x1.toInt + 50).toNat)
                        have g_150 := z_rng (A 40 (x1.toInt + y_8.toInt + 22).toNat)
                        have g_151 := z_rng y_112
                        exact ih_113 x_148 1 _ (by omega) (Or.inr rfl) (by (try simp only [ti_1]); omega) (fun _ => iv_114_1 c_115) (lv_sub hl [0, 1, 2, 3, 4] rfl)
              have g_152 := z_rng (A 40 (x1.toInt + y_8.toInt + 22).toNat)
              have g_153 := z_rng y_9
              exact L_65_113 _ 0 1 _ (Nat.lt_succ_self _) (Or.inr rfl) (by (try simp only [ti_0, ti_1]); omega) (fun _ => ⟨(iv_11_2 c_13).1, (iv_11_2 c_13).2, by omega⟩) (lv_sub hl [0, 1, 2, 3, 4] rfl)
    have g_154 := z_rng (A 40 (x1.toInt + 5).toNat)
    exact L_32_10 _ 0 0 _ (Nat.lt_succ_self _) (Or.inl rfl) (by (try simp only [ti_0]); omega) (by rw [ti_0]; omega) (fun h9 => by rw [ti_0] at h9; omega) (lv_sub hl [0, 1, 2, 3] rfl)
  · skip
    refine lv_aload_n hx hb dX12_isEnd_12 rfl (lv_at hl 0 rfl) ?_
    refine mg_0 C hs hP ha0 hk0 wf_X12_8 dX12_isEnd_13 ?_
    refine lv_iload_n hx hb dX12_isEnd_16 rfl (lv_at hl 1 rfl) ?_
    refine lv_bipush (v := 26) hx hb dX12_isEnd_17 (by decide) ?_
    refine lv_iadd hx hb dX12_isEnd_19 ?_
    refine lv_topi (fun x_155 ex_155 => ?_)
    obtain ⟨f_155, l_155, u_155⟩ := z_add ex_155 rfl ti_26
    try replace f_155 : x_155.toInt = x1.toInt + 26 := by omega
    have hi_hr_156 : x_155.toInt = x1.toInt + (26) := by omega
    have hr_156 := z_cell (lo := 26) (hi := 26) hp0 hi_hr_156 (by decide) (by decide)
    have hin_157 : vp_in x_155 (zn K (zr K a0 0)) := vp_in_iff.mpr (by rw [(hf_1.2.2 (by decide))]; exact hr_156.in)
    refine mld_40 C hs hP hf_1.1 hf_1.2.1 hin_157 dX12_isEnd_20 ?_
    have ep_158 : x_155.toNatClampNeg = (x1.toInt + 26).toNat := z_pos (hi_hr_156.trans (by omega))
    rw [ep_158]
    have tv_159 := rv_26 hT hr_156
    rw [ep_158] at tv_159
    refine bz_ne (tgt := 28) hx hb rfl dX12_isEnd_21 (by decide) (fun c_160 => ?_) (fun c_160 => ?_)
    · skip
      refine lv_iconst (v := 0) hx hb dX12_isEnd_28 (by decide) ?_
      refine lv_istore_n (lv' := [(2, .int 0), (0, .ref a0), (1, .int x1)]) hx hb dX12_isEnd_29 rfl hl (by decide) rfl (fun ls hl => ?_)
      refine lv_iconst (v := 0) hx hb dX12_isEnd_30 (by decide) ?_
      refine lv_istore_n (lv' := [(3, .int 0), (2, .int 0), (0, .ref a0), (1, .int x1)]) hx hb dX12_isEnd_31 rfl hl (by decide) rfl (fun ls hl => ?_)
      have L_32_163 : ∀ (n_163 : Nat) (y_161 : Int32) (y_162 : Int32) (ls : Array Slot), (2147483648 - y_161.toInt).toNat < n_163 → (y_162 = 0 ∨ y_162 = 1) → 0 ≤ y_161.toInt → y_161.toInt ≤ 4 → (y_162.toInt ≠ 0 → (A 40 (x1.toInt + 5).toNat).toInt = 1 ∧ h4 (A 40) x1.toInt y_161.toInt) → lv_has ls 5 [(3, .int y_161), (2, .int y_162), (0, .ref a0), (1, .int x1)] → W p l e (rmd 0) s m args below meth c s.heap [] 0 0 Q (F0 m 32 ls []) := by
        intro n_163
        induction n_163 with
        | zero => intro y_161 y_162 ls hm_163; exact absurd hm_163 (Nat.not_lt_zero _)
        | succ n_163 ih_163 =>
          intro y_161 y_162 ls hm_163 hb_y_162 iv_164_0 iv_164_1 iv_164_2 hl
          refine lv_iload_n hx hb dX12_isEnd_32 rfl (lv_at hl 0 rfl) ?_
          refine lv_iconst (v := 4) hx hb dX12_isEnd_33 (by decide) ?_
          refine bi_ge (tgt := 135) hx hb rfl ti_4 dX12_isEnd_34 (by decide) (fun c_165 => ?_) (fun c_165 => ?_)
          · skip
            refine lv_iload_n hx hb dX12_isEnd_135 rfl (lv_at hl 1 rfl) ?_
            exact zaSz hQ hx hb hr hlk hb_y_162 ⟨hb_y_162, (fun h9 => ⟨(iv_164_2 h9).1, h4.e (iv_164_2 h9).2 (by omega)⟩)⟩ dX12_isEnd_136
          · skip
            refine lv_iload_n hx hb dX12_isEnd_37 rfl (lv_at hl 1 rfl) ?_
            refine bz_eq (tgt := 60) hx hb rfl dX12_isEnd_38 (by decide) (fun c_166 => ?_) (fun c_166 => ?_)
            · skip
              refine lv_iconst (v := 0) hx hb dX12_isEnd_60 (by decide) ?_
              refine lv_istore_n (lv' := [(2, .int 0), (3, .int y_161), (0, .ref a0), (1, .int x1)]) hx hb dX12_isEnd_61 rfl hl (by decide) rfl (fun ls hl => ?_)
              refine lv_iconst (v := 0) hx hb dX12_isEnd_62 (by decide) ?_
              refine lv_istore (lv' := [(4, .int 0), (2, .int 0), (3, .int y_161), (0, .ref a0), (1, .int x1)]) hx hb dX12_isEnd_63 hl (by decide) rfl (fun ls hl => ?_)
              have L_65_169 : ∀ (n_169 : Nat) (y_167 : Int32) (y_168 : Int32) (ls : Array Slot), (2147483648 - y_167.toInt).toNat < n_169 → (y_168 = 0 ∨ y_168 = 1) → 0 ≤ y_167.toInt → (y_168.toInt ≠ 0 → (A 40 (x1.toInt + 5).toNat).toInt = 1 ∧ h4 (A 40) x1.toInt y_161.toInt ∧ (A 40 (x1.toInt + y_161.toInt + 22).toNat).toInt ≤ 4) → lv_has ls 5 [(4, .int y_167), (2, .int y_168), (3, .int y_161), (0, .ref a0), (1, .int x1)] → W p l e (rmd 0) s m args below meth c s.heap [] 0 0 Q (F0 m 65 ls []) := by
                intro n_169
                induction n_169 with
                | zero => intro y_167 y_168 ls hm_169; exact absurd hm_169 (Nat.not_lt_zero _)
                | succ n_169 ih_169 =>
                  intro y_167 y_168 ls hm_169 hb_y_168 iv_170_0 iv_170_1 hl
                  refine lv_iload_n hx hb dX12_isEnd_65 rfl (lv_at hl 1 rfl) ?_
                  refine bz_eq (tgt := 129) hx hb rfl dX12_isEnd_66 (by decide) (fun c_171 => ?_) (fun c_171 => ?_)
                  · skip
                    obtain ⟨x_172, ex_172⟩ : ∃ y : Int32, y = y_161 + 1 := ⟨_, rfl⟩
                    refine lv_iinc (v := x_172) (lv' := [(3, .int x_172), (4, .int y_167), (2, .int y_168), (0, .ref a0), (1, .int x1)]) hx hb dX12_isEnd_129 hl (k := 2) rfl (by rw [ex_172]; rfl) (by decide) rfl (fun ls hl => ?_)
                    refine lv_goto (tgt := 32) hx hb dX12_isEnd_132 (by decide) ?_
                    have g_173 := z_rng y_161
                    obtain ⟨f_172, l_172, u_172⟩ := z_add ex_172 rfl ti_1
                    try replace f_172 : x_172.toInt = y_161.toInt + 1 := by omega
                    have g_174 := z_rng y_168
                    exact ih_163 x_172 y_168 _ (by omega) hb_y_168 (by omega) (by omega) (fun h9 => ⟨(iv_170_1 h9).1, h4.s (iv_170_1 h9).2.1 (by omega) (iv_170_1 h9).2.2⟩) (lv_sub hl [0, 2, 3, 4] rfl)
                  · skip
                    refine lv_iload hx hb dX12_isEnd_69 (lv_at hl 0 rfl) ?_
                    refine lv_aload_n hx hb dX12_isEnd_71 rfl (lv_at hl 3 rfl) ?_
                    refine mg_0 C hs hP ha0 hk0 wf_X12_8 dX12_isEnd_72 ?_
                    refine lv_iload_n hx hb dX12_isEnd_75 rfl (lv_at hl 4 rfl) ?_
                    refine lv_bipush (v := 22) hx hb dX12_isEnd_76 (by decide) ?_
                    refine lv_iadd hx hb dX12_isEnd_78 ?_
                    refine lv_topi (fun x_175 ex_175 => ?_)
                    refine lv_iload_n hx hb dX12_isEnd_79 rfl (lv_at hl 2 rfl) ?_
                    refine lv_iadd hx hb dX12_isEnd_80 ?_
                    refine lv_topi (fun x_176 ex_176 => ?_)
                    obtain ⟨f_175, l_175, u_175⟩ := z_add ex_175 rfl ti_22
                    try replace f_175 : x_175.toInt = x1.toInt + 22 := by omega
                    have g_177 := z_rng y_161
                    obtain ⟨f_176, l_176, u_176⟩ := z_add ex_176 rfl rfl
                    try replace f_176 : x_176.toInt = x_175.toInt + y_161.toInt := by omega
                    have hi_hr_178 : x_176.toInt = x1.toInt + (y_161.toInt + 22) := by omega
                    have hr_178 := z_cell (lo := 22) (hi := 25) hp0 hi_hr_178 (by omega) (by decide)
                    have hin_179 : vp_in x_176 (zn K (zr K a0 0)) := vp_in_iff.mpr (by rw [(hf_1.2.2 (by decide))]; exact hr_178.in)
                    refine mld_40 C hs hP hf_1.1 hf_1.2.1 hin_179 dX12_isEnd_81 ?_
                    have ep_180 : x_176.toNatClampNeg = (x1.toInt + y_161.toInt + 22).toNat := z_pos (hi_hr_178.trans (by omega))
                    rw [ep_180]
                    have tv_181 := rv_22 hT hr_178
                    rw [ep_180] at tv_181
                    refine bi_ge (tgt := 129) hx hb rfl rfl dX12_isEnd_82 (by decide) (fun c_182 => ?_) (fun c_182 => ?_)
                    · skip
                      obtain ⟨x_183, ex_183⟩ : ∃ y : Int32, y = y_161 + 1 := ⟨_, rfl⟩
                      refine lv_iinc (v := x_183) (lv' := [(3, .int x_183), (4, .int y_167), (2, .int y_168), (0, .ref a0), (1, .int x1)]) hx hb dX12_isEnd_129 hl (k := 2) rfl (by rw [ex_183]; rfl) (by decide) rfl (fun ls hl => ?_)
                      refine lv_goto (tgt := 32) hx hb dX12_isEnd_132 (by decide) ?_
                      obtain ⟨f_183, l_183, u_183⟩ := z_add ex_183 rfl ti_1
                      try replace f_183 : x_183.toInt = y_161.toInt + 1 := by omega
                      have g_184 := z_rng y_168
                      have g_185 := z_rng (A 40 (x1.toInt + y_161.toInt + 22).toNat)
                      have g_186 := z_rng y_167
                      exact ih_163 x_183 y_168 _ (by omega) hb_y_168 (by omega) (by omega) (fun h9 => ⟨(iv_170_1 h9).1, h4.s (iv_170_1 h9).2.1 (by omega) (iv_170_1 h9).2.2⟩) (lv_sub hl [0, 2, 3, 4] rfl)
                    · skip
                      refine lv_aload_n hx hb dX12_isEnd_85 rfl (lv_at hl 3 rfl) ?_
                      refine mg_0 C hs hP ha0 hk0 wf_X12_8 dX12_isEnd_86 ?_
                      refine lv_iload_n hx hb dX12_isEnd_89 rfl (lv_at hl 4 rfl) ?_
                      refine lv_bipush (v := 50) hx hb dX12_isEnd_90 (by decide) ?_
                      refine lv_iadd hx hb dX12_isEnd_92 ?_
                      refine lv_topi (fun x_187 ex_187 => ?_)
                      refine lv_aload_n hx hb dX12_isEnd_93 rfl (lv_at hl 3 rfl) ?_
                      refine mg_0 C hs hP ha0 hk0 wf_X12_8 dX12_isEnd_94 ?_
                      refine lv_iload_n hx hb dX12_isEnd_97 rfl (lv_at hl 4 rfl) ?_
                      refine lv_sipush (v := 230) hx hb dX12_isEnd_98 (by decide) ?_
                      refine lv_iadd hx hb dX12_isEnd_101 ?_
                      refine lv_topi (fun x_188 ex_188 => ?_)
                      refine lv_bipush (v := 60) hx hb dX12_isEnd_102 (by decide) ?_
                      refine lv_iload_n hx hb dX12_isEnd_104 rfl (lv_at hl 2 rfl) ?_
                      refine lv_imul hx hb dX12_isEnd_105 ?_
                      refine lv_topi (fun x_189 ex_189 => ?_)
                      refine lv_iadd hx hb dX12_isEnd_106 ?_
                      refine lv_topi (fun x_190 ex_190 => ?_)
                      refine lv_iload hx hb dX12_isEnd_107 (lv_at hl 0 rfl) ?_
                      refine lv_iadd hx hb dX12_isEnd_109 ?_
                      refine lv_topi (fun x_191 ex_191 => ?_)
                      obtain ⟨f_188, l_188, u_188⟩ := z_add ex_188 rfl ti_230
                      try replace f_188 : x_188.toInt = x1.toInt + 230 := by omega
                      obtain ⟨f_189, l_189, u_189⟩ := z_mul ex_189 ti_60 rfl
                      try replace f_189 : x_189.toInt = 60 * y_161.toInt := by omega
                      obtain ⟨f_190, l_190, u_190⟩ := z_add ex_190 rfl rfl
                      try replace f_190 : x_190.toInt = x_188.toInt + x_189.toInt := by omega
                      have g_192 := z_rng y_167
                      obtain ⟨f_191, l_191, u_191⟩ := z_add ex_191 rfl rfl
                      try replace f_191 : x_191.toInt = x_190.toInt + y_167.toInt := by omega
                      have hi_hr_193 : x_191.toInt = x1.toInt + (60 * y_161.toInt + y_167.toInt + 230) := by omega
                      have hr_193 := z_cell (lo := 170) (hi := 469) hp0 hi_hr_193 (by omega) (by decide)
                      have hin_194 : vp_in x_191 (zn K (zr K a0 0)) := vp_in_iff.mpr (by rw [(hf_1.2.2 (by decide))]; exact hr_193.in)
                      refine mld_40 C hs hP hf_1.1 hf_1.2.1 hin_194 dX12_isEnd_110 ?_
                      have ep_195 : x_191.toNatClampNeg = (x1.toInt + 60 * y_161.toInt + y_167.toInt + 230).toNat := z_pos (hi_hr_193.trans (by omega))
                      rw [ep_195]
                      have tv_196 := rv_170 hT hr_193
                      rw [ep_195] at tv_196
                      refine lv_iadd hx hb dX12_isEnd_111 ?_
                      refine lv_topi (fun x_197 ex_197 => ?_)
                      obtain ⟨f_187, l_187, u_187⟩ := z_add ex_187 rfl ti_50
                      try replace f_187 : x_187.toInt = x1.toInt + 50 := by omega
                      have g_198 := z_rng (A 40 (x1.toInt + 60 * y_161.toInt + y_167.toInt + 230).toNat)
                      obtain ⟨f_197, l_197, u_197⟩ := z_add ex_197 rfl rfl
                      try replace f_197 : x_197.toInt = x_187.toInt + (A 40 (x1.toInt + 60 * y_161.toInt + y_167.toInt + 230).toNat).toInt := by omega
                      have hi_hr_199 : x_197.toInt = x1.toInt + ((A 40 (x1.toInt + 60 * y_161.toInt + y_167.toInt + 230).toNat).toInt + 50) := by omega
                      have hr_199 := z_cell (lo := 45) (hi := 169) hp0 hi_hr_199 (by omega) (by decide)
                      have hin_200 : vp_in x_197 (zn K (zr K a0 0)) := vp_in_iff.mpr (by rw [(hf_1.2.2 (by decide))]; exact hr_199.in)
                      refine mld_40 C hs hP hf_1.1 hf_1.2.1 hin_200 dX12_isEnd_112 ?_
                      have ep_201 : x_197.toNatClampNeg = ((A 40 (x1.toInt + 60 * y_161.toInt + y_167.toInt + 230).toNat).toInt + x1.toInt + 50).toNat := z_pos (hi_hr_199.trans (by omega))
                      rw [ep_201]
                      refine lv_iconst (v := 3) hx hb dX12_isEnd_113 (by decide) ?_
                      refine bi_eq (tgt := 121) hx hb rfl ti_3 dX12_isEnd_114 (by decide) (fun c_202 => ?_) (fun c_202 => ?_)
                      · skip
                        refine lv_iconst (v := 0) hx hb dX12_isEnd_121 (by decide) ?_
                        refine lv_istore_n (lv' := [(2, .int 0), (4, .int y_167), (3, .int y_161), (0, .ref a0), (1, .int x1)]) hx hb dX12_isEnd_122 rfl hl (by decide) rfl (fun ls hl => ?_)
                        obtain ⟨x_203, ex_203⟩ : ∃ y : Int32, y = y_167 + 1 := ⟨_, rfl⟩
                        refine lv_iinc (v := x_203) (lv' := [(4, .int x_203), (2, .int 0), (3, .int y_161), (0, .ref a0), (1, .int x1)]) hx hb dX12_isEnd_123 hl (k := 1) rfl (by rw [ex_203]; rfl) (by decide) rfl (fun ls hl => ?_)
                        refine lv_goto (tgt := 65) hx hb dX12_isEnd_126 (by decide) ?_
                        obtain ⟨f_203, l_203, u_203⟩ := z_add ex_203 rfl ti_1
                        try replace f_203 : x_203.toInt = y_167.toInt + 1 := by omega
                        have g_204 := z_rng (A 40 ((A 40 (x1.toInt + 60 * y_161.toInt + y_167.toInt + 230).toNat).toInt + x1.toInt + 50).toNat)
                        have g_205 := z_rng (A 40 (x1.toInt + y_161.toInt + 22).toNat)
                        have g_206 := z_rng y_168
                        exact ih_169 x_203 0 _ (by omega) (Or.inl rfl) (by (try simp only [ti_0]); omega) (fun h9 => by rw [ti_0] at h9; omega) (lv_sub hl [0, 1, 2, 3, 4] rfl)
                      · skip
                        refine lv_iconst (v := 1) hx hb dX12_isEnd_117 (by decide) ?_
                        refine lv_goto (tgt := 122) hx hb dX12_isEnd_118 (by decide) ?_
                        refine lv_istore_n (lv' := [(2, .int 1), (4, .int y_167), (3, .int y_161), (0, .ref a0), (1, .int x1)]) hx hb dX12_isEnd_122 rfl hl (by decide) rfl (fun ls hl => ?_)
                        obtain ⟨x_207, ex_207⟩ : ∃ y : Int32, y = y_167 + 1 := ⟨_, rfl⟩
                        refine lv_iinc (v := x_207) (lv' := [(4, .int x_207), (2, .int 1), (3, .int y_161), (0, .ref a0), (1, .int x1)]) hx hb dX12_isEnd_123 hl (k := 1) rfl (by rw [ex_207]; rfl) (by decide) rfl (fun ls hl => ?_)
                        refine lv_goto (tgt := 65) hx hb dX12_isEnd_126 (by decide) ?_
                        obtain ⟨f_207, l_207, u_207⟩ := z_add ex_207 rfl ti_1
                        try replace f_207 : x_207.toInt = y_167.toInt + 1 := by omega
                        have g_208 := z_rng (A 40 ((A 40 (x1.toInt + 60 * y_161.toInt + y_167.toInt + 230).toNat).toInt + x1.toInt + 50).toNat)
                        have g_209 := z_rng (A 40 (x1.toInt + y_161.toInt + 22).toNat)
                        have g_210 := z_rng y_168
                        exact ih_169 x_207 1 _ (by omega) (Or.inr rfl) (by (try simp only [ti_1]); omega) (fun _ => iv_170_1 c_171) (lv_sub hl [0, 1, 2, 3, 4] rfl)
              have g_211 := z_rng y_161
              have g_212 := z_rng y_162
              exact L_65_169 _ 0 0 _ (Nat.lt_succ_self _) (Or.inl rfl) (by (try simp only [ti_0]); omega) (fun h9 => by rw [ti_0] at h9; omega) (lv_sub hl [0, 1, 2, 3, 4] rfl)
            · skip
              refine lv_aload_n hx hb dX12_isEnd_41 rfl (lv_at hl 2 rfl) ?_
              refine mg_0 C hs hP ha0 hk0 wf_X12_8 dX12_isEnd_42 ?_
              refine lv_iload_n hx hb dX12_isEnd_45 rfl (lv_at hl 3 rfl) ?_
              refine lv_bipush (v := 22) hx hb dX12_isEnd_46 (by decide) ?_
              refine lv_iadd hx hb dX12_isEnd_48 ?_
              refine lv_topi (fun x_213 ex_213 => ?_)
              refine lv_iload_n hx hb dX12_isEnd_49 rfl (lv_at hl 0 rfl) ?_
              refine lv_iadd hx hb dX12_isEnd_50 ?_
              refine lv_topi (fun x_214 ex_214 => ?_)
              obtain ⟨f_213, l_213, u_213⟩ := z_add ex_213 rfl ti_22
              try replace f_213 : x_213.toInt = x1.toInt + 22 := by omega
              have g_215 := z_rng y_161
              obtain ⟨f_214, l_214, u_214⟩ := z_add ex_214 rfl rfl
              try replace f_214 : x_214.toInt = x_213.toInt + y_161.toInt := by omega
              have hi_hr_216 : x_214.toInt = x1.toInt + (y_161.toInt + 22) := by omega
              have hr_216 := z_cell (lo := 22) (hi := 25) hp0 hi_hr_216 (by omega) (by decide)
              have hin_217 : vp_in x_214 (zn K (zr K a0 0)) := vp_in_iff.mpr (by rw [(hf_1.2.2 (by decide))]; exact hr_216.in)
              refine mld_40 C hs hP hf_1.1 hf_1.2.1 hin_217 dX12_isEnd_51 ?_
              have ep_218 : x_214.toNatClampNeg = (x1.toInt + y_161.toInt + 22).toNat := z_pos (hi_hr_216.trans (by omega))
              rw [ep_218]
              have tv_219 := rv_22 hT hr_216
              rw [ep_218] at tv_219
              refine lv_iconst (v := 4) hx hb dX12_isEnd_52 (by decide) ?_
              refine bi_gt (tgt := 60) hx hb rfl ti_4 dX12_isEnd_53 (by decide) (fun c_220 => ?_) (fun c_220 => ?_)
              · skip
                refine lv_iconst (v := 0) hx hb dX12_isEnd_60 (by decide) ?_
                refine lv_istore_n (lv' := [(2, .int 0), (3, .int y_161), (0, .ref a0), (1, .int x1)]) hx hb dX12_isEnd_61 rfl hl (by decide) rfl (fun ls hl => ?_)
                refine lv_iconst (v := 0) hx hb dX12_isEnd_62 (by decide) ?_
                refine lv_istore (lv' := [(4, .int 0), (2, .int 0), (3, .int y_161), (0, .ref a0), (1, .int x1)]) hx hb dX12_isEnd_63 hl (by decide) rfl (fun ls hl => ?_)
                have L_65_223 : ∀ (n_223 : Nat) (y_221 : Int32) (y_222 : Int32) (ls : Array Slot), (2147483648 - y_221.toInt).toNat < n_223 → (y_222 = 0 ∨ y_222 = 1) → 0 ≤ y_221.toInt → (y_222.toInt ≠ 0 → (A 40 (x1.toInt + 5).toNat).toInt = 1 ∧ h4 (A 40) x1.toInt y_161.toInt ∧ (A 40 (x1.toInt + y_161.toInt + 22).toNat).toInt ≤ 4) → lv_has ls 5 [(4, .int y_221), (2, .int y_222), (3, .int y_161), (0, .ref a0), (1, .int x1)] → W p l e (rmd 0) s m args below meth c s.heap [] 0 0 Q (F0 m 65 ls []) := by
                  intro n_223
                  induction n_223 with
                  | zero => intro y_221 y_222 ls hm_223; exact absurd hm_223 (Nat.not_lt_zero _)
                  | succ n_223 ih_223 =>
                    intro y_221 y_222 ls hm_223 hb_y_222 iv_224_0 iv_224_1 hl
                    refine lv_iload_n hx hb dX12_isEnd_65 rfl (lv_at hl 1 rfl) ?_
                    refine bz_eq (tgt := 129) hx hb rfl dX12_isEnd_66 (by decide) (fun c_225 => ?_) (fun c_225 => ?_)
                    · skip
                      obtain ⟨x_226, ex_226⟩ : ∃ y : Int32, y = y_161 + 1 := ⟨_, rfl⟩
                      refine lv_iinc (v := x_226) (lv' := [(3, .int x_226), (4, .int y_221), (2, .int y_222), (0, .ref a0), (1, .int x1)]) hx hb dX12_isEnd_129 hl (k := 2) rfl (by rw [ex_226]; rfl) (by decide) rfl (fun ls hl => ?_)
                      refine lv_goto (tgt := 32) hx hb dX12_isEnd_132 (by decide) ?_
                      obtain ⟨f_226, l_226, u_226⟩ := z_add ex_226 rfl ti_1
                      try replace f_226 : x_226.toInt = y_161.toInt + 1 := by omega
                      have g_227 := z_rng y_222
                      exact ih_163 x_226 y_222 _ (by omega) hb_y_222 (by omega) (by omega) (fun h9 => ⟨(iv_224_1 h9).1, h4.s (iv_224_1 h9).2.1 (by omega) (iv_224_1 h9).2.2⟩) (lv_sub hl [0, 2, 3, 4] rfl)
                    · skip
                      refine lv_iload hx hb dX12_isEnd_69 (lv_at hl 0 rfl) ?_
                      refine lv_aload_n hx hb dX12_isEnd_71 rfl (lv_at hl 3 rfl) ?_
                      refine mg_0 C hs hP ha0 hk0 wf_X12_8 dX12_isEnd_72 ?_
                      refine lv_iload_n hx hb dX12_isEnd_75 rfl (lv_at hl 4 rfl) ?_
                      refine lv_bipush (v := 22) hx hb dX12_isEnd_76 (by decide) ?_
                      refine lv_iadd hx hb dX12_isEnd_78 ?_
                      refine lv_topi (fun x_228 ex_228 => ?_)
                      refine lv_iload_n hx hb dX12_isEnd_79 rfl (lv_at hl 2 rfl) ?_
                      refine lv_iadd hx hb dX12_isEnd_80 ?_
                      refine lv_topi (fun x_229 ex_229 => ?_)
                      obtain ⟨f_228, l_228, u_228⟩ := z_add ex_228 rfl ti_22
                      try replace f_228 : x_228.toInt = x1.toInt + 22 := by omega
                      obtain ⟨f_229, l_229, u_229⟩ := z_add ex_229 rfl rfl
                      try replace f_229 : x_229.toInt = x_228.toInt + y_161.toInt := by omega
                      have hi_hr_230 : x_229.toInt = x1.toInt + (y_161.toInt + 22) := by omega
                      have hr_230 := z_cell (lo := 22) (hi := 25) hp0 hi_hr_230 (by omega) (by decide)
                      have hin_231 : vp_in x_229 (zn K (zr K a0 0)) := vp_in_iff.mpr (by rw [(hf_1.2.2 (by decide))]; exact hr_230.in)
                      refine mld_40 C hs hP hf_1.1 hf_1.2.1 hin_231 dX12_isEnd_81 ?_
                      have ep_232 : x_229.toNatClampNeg = (x1.toInt + y_161.toInt + 22).toNat := z_pos (hi_hr_230.trans (by omega))
                      rw [ep_232]
                      refine bi_ge (tgt := 129) hx hb rfl rfl dX12_isEnd_82 (by decide) (fun c_233 => ?_) (fun c_233 => ?_)
                      · skip
                        obtain ⟨x_234, ex_234⟩ : ∃ y : Int32, y = y_161 + 1 := ⟨_, rfl⟩
                        refine lv_iinc (v := x_234) (lv' := [(3, .int x_234), (4, .int y_221), (2, .int y_222), (0, .ref a0), (1, .int x1)]) hx hb dX12_isEnd_129 hl (k := 2) rfl (by rw [ex_234]; rfl) (by decide) rfl (fun ls hl => ?_)
                        refine lv_goto (tgt := 32) hx hb dX12_isEnd_132 (by decide) ?_
                        obtain ⟨f_234, l_234, u_234⟩ := z_add ex_234 rfl ti_1
                        try replace f_234 : x_234.toInt = y_161.toInt + 1 := by omega
                        have g_235 := z_rng y_222
                        have g_236 := z_rng (A 40 (x1.toInt + y_161.toInt + 22).toNat)
                        have g_237 := z_rng y_221
                        exact ih_163 x_234 y_222 _ (by omega) hb_y_222 (by omega) (by omega) (fun h9 => ⟨(iv_224_1 h9).1, h4.s (iv_224_1 h9).2.1 (by omega) (iv_224_1 h9).2.2⟩) (lv_sub hl [0, 2, 3, 4] rfl)
                      · skip
                        refine lv_aload_n hx hb dX12_isEnd_85 rfl (lv_at hl 3 rfl) ?_
                        refine mg_0 C hs hP ha0 hk0 wf_X12_8 dX12_isEnd_86 ?_
                        refine lv_iload_n hx hb dX12_isEnd_89 rfl (lv_at hl 4 rfl) ?_
                        refine lv_bipush (v := 50) hx hb dX12_isEnd_90 (by decide) ?_
                        refine lv_iadd hx hb dX12_isEnd_92 ?_
                        refine lv_topi (fun x_238 ex_238 => ?_)
                        refine lv_aload_n hx hb dX12_isEnd_93 rfl (lv_at hl 3 rfl) ?_
                        refine mg_0 C hs hP ha0 hk0 wf_X12_8 dX12_isEnd_94 ?_
                        refine lv_iload_n hx hb dX12_isEnd_97 rfl (lv_at hl 4 rfl) ?_
                        refine lv_sipush (v := 230) hx hb dX12_isEnd_98 (by decide) ?_
                        refine lv_iadd hx hb dX12_isEnd_101 ?_
                        refine lv_topi (fun x_239 ex_239 => ?_)
                        refine lv_bipush (v := 60) hx hb dX12_isEnd_102 (by decide) ?_
                        refine lv_iload_n hx hb dX12_isEnd_104 rfl (lv_at hl 2 rfl) ?_
                        refine lv_imul hx hb dX12_isEnd_105 ?_
                        refine lv_topi (fun x_240 ex_240 => ?_)
                        refine lv_iadd hx hb dX12_isEnd_106 ?_
                        refine lv_topi (fun x_241 ex_241 => ?_)
                        refine lv_iload hx hb dX12_isEnd_107 (lv_at hl 0 rfl) ?_
                        refine lv_iadd hx hb dX12_isEnd_109 ?_
                        refine lv_topi (fun x_242 ex_242 => ?_)
                        obtain ⟨f_239, l_239, u_239⟩ := z_add ex_239 rfl ti_230
                        try replace f_239 : x_239.toInt = x1.toInt + 230 := by omega
                        obtain ⟨f_240, l_240, u_240⟩ := z_mul ex_240 ti_60 rfl
                        try replace f_240 : x_240.toInt = 60 * y_161.toInt := by omega
                        obtain ⟨f_241, l_241, u_241⟩ := z_add ex_241 rfl rfl
                        try replace f_241 : x_241.toInt = x_239.toInt + x_240.toInt := by omega
                        have g_243 := z_rng y_221
                        obtain ⟨f_242, l_242, u_242⟩ := z_add ex_242 rfl rfl
                        try replace f_242 : x_242.toInt = x_241.toInt + y_221.toInt := by omega
                        have hi_hr_244 : x_242.toInt = x1.toInt + (60 * y_161.toInt + y_221.toInt + 230) := by omega
                        have hr_244 := z_cell (lo := 170) (hi := 469) hp0 hi_hr_244 (by omega) (by decide)
                        have hin_245 : vp_in x_242 (zn K (zr K a0 0)) := vp_in_iff.mpr (by rw [(hf_1.2.2 (by decide))]; exact hr_244.in)
                        refine mld_40 C hs hP hf_1.1 hf_1.2.1 hin_245 dX12_isEnd_110 ?_
                        have ep_246 : x_242.toNatClampNeg = (x1.toInt + 60 * y_161.toInt + y_221.toInt + 230).toNat := z_pos (hi_hr_244.trans (by omega))
                        rw [ep_246]
                        have tv_247 := rv_170 hT hr_244
                        rw [ep_246] at tv_247
                        refine lv_iadd hx hb dX12_isEnd_111 ?_
                        refine lv_topi (fun x_248 ex_248 => ?_)
                        obtain ⟨f_238, l_238, u_238⟩ := z_add ex_238 rfl ti_50
                        try replace f_238 : x_238.toInt = x1.toInt + 50 := by omega
                        have g_249 := z_rng (A 40 (x1.toInt + 60 * y_161.toInt + y_221.toInt + 230).toNat)
                        obtain ⟨f_248, l_248, u_248⟩ := z_add ex_248 rfl rfl
                        try replace f_248 : x_248.toInt = x_238.toInt + (A 40 (x1.toInt + 60 * y_161.toInt + y_221.toInt + 230).toNat).toInt := by omega
                        have hi_hr_250 : x_248.toInt = x1.toInt + ((A 40 (x1.toInt + 60 * y_161.toInt + y_221.toInt + 230).toNat).toInt + 50) := by omega
                        have hr_250 := z_cell (lo := 45) (hi := 169) hp0 hi_hr_250 (by omega) (by decide)
                        have hin_251 : vp_in x_248 (zn K (zr K a0 0)) := vp_in_iff.mpr (by rw [(hf_1.2.2 (by decide))]; exact hr_250.in)
                        refine mld_40 C hs hP hf_1.1 hf_1.2.1 hin_251 dX12_isEnd_112 ?_
                        have ep_252 : x_248.toNatClampNeg = ((A 40 (x1.toInt + 60 * y_161.toInt + y_221.toInt + 230).toNat).toInt + x1.toInt + 50).toNat := z_pos (hi_hr_250.trans (by omega))
                        rw [ep_252]
                        refine lv_iconst (v := 3) hx hb dX12_isEnd_113 (by decide) ?_
                        refine bi_eq (tgt := 121) hx hb rfl ti_3 dX12_isEnd_114 (by decide) (fun c_253 => ?_) (fun c_253 => ?_)
                        · skip
                          refine lv_iconst (v := 0) hx hb dX12_isEnd_121 (by decide) ?_
                          refine lv_istore_n (lv' := [(2, .int 0), (4, .int y_221), (3, .int y_161), (0, .ref a0), (1, .int x1)]) hx hb dX12_isEnd_122 rfl hl (by decide) rfl (fun ls hl => ?_)
                          obtain ⟨x_254, ex_254⟩ : ∃ y : Int32, y = y_221 + 1 := ⟨_, rfl⟩
                          refine lv_iinc (v := x_254) (lv' := [(4, .int x_254), (2, .int 0), (3, .int y_161), (0, .ref a0), (1, .int x1)]) hx hb dX12_isEnd_123 hl (k := 1) rfl (by rw [ex_254]; rfl) (by decide) rfl (fun ls hl => ?_)
                          refine lv_goto (tgt := 65) hx hb dX12_isEnd_126 (by decide) ?_
                          obtain ⟨f_254, l_254, u_254⟩ := z_add ex_254 rfl ti_1
                          try replace f_254 : x_254.toInt = y_221.toInt + 1 := by omega
                          have g_255 := z_rng (A 40 ((A 40 (x1.toInt + 60 * y_161.toInt + y_221.toInt + 230).toNat).toInt + x1.toInt + 50).toNat)
                          have g_256 := z_rng (A 40 (x1.toInt + y_161.toInt + 22).toNat)
                          have g_257 := z_rng y_222
                          exact ih_223 x_254 0 _ (by omega) (Or.inl rfl) (by (try simp only [ti_0]); omega) (fun h9 => by rw [ti_0] at h9; omega) (lv_sub hl [0, 1, 2, 3, 4] rfl)
                        · skip
                          refine lv_iconst (v := 1) hx hb dX12_isEnd_117 (by decide) ?_
                          refine lv_goto (tgt := 122) hx hb dX12_isEnd_118 (by decide) ?_
                          refine lv_istore_n (lv' := [(2, .int 1), (4, .int y_221), (3, .int y_161), (0, .ref a0), (1, .int x1)]) hx hb dX12_isEnd_122 rfl hl (by decide) rfl (fun ls hl => ?_)
                          obtain ⟨x_258, ex_258⟩ : ∃ y : Int32, y = y_221 + 1 := ⟨_, rfl⟩
                          refine lv_iinc (v := x_258) (lv' := [(4, .int x_258), (2, .int 1), (3, .int y_161), (0, .ref a0), (1, .int x1)]) hx hb dX12_isEnd_123 hl (k := 1) rfl (by rw [ex_258]; rfl) (by decide) rfl (fun ls hl => ?_)
                          refine lv_goto (tgt := 65) hx hb dX12_isEnd_126 (by decide) ?_
                          obtain ⟨f_258, l_258, u_258⟩ := z_add ex_258 rfl ti_1
                          try replace f_258 : x_258.toInt = y_221.toInt + 1 := by omega
                          have g_259 := z_rng (A 40 ((A 40 (x1.toInt + 60 * y_161.toInt + y_221.toInt + 230).toNat).toInt + x1.toInt + 50).toNat)
                          have g_260 := z_rng (A 40 (x1.toInt + y_161.toInt + 22).toNat)
                          have g_261 := z_rng y_222
                          exact ih_223 x_258 1 _ (by omega) (Or.inr rfl) (by (try simp only [ti_1]); omega) (fun _ => iv_224_1 c_225) (lv_sub hl [0, 1, 2, 3, 4] rfl)
                have g_262 := z_rng (A 40 (x1.toInt + y_161.toInt + 22).toNat)
                have g_263 := z_rng y_162
                exact L_65_223 _ 0 0 _ (Nat.lt_succ_self _) (Or.inl rfl) (by (try simp only [ti_0]); omega) (fun h9 => by rw [ti_0] at h9; omega) (lv_sub hl [0, 1, 2, 3, 4] rfl)
              · skip
                refine lv_iconst (v := 1) hx hb dX12_isEnd_56 (by decide) ?_
                refine lv_goto (tgt := 61) hx hb dX12_isEnd_57 (by decide) ?_
                refine lv_istore_n (lv' := [(2, .int 1), (3, .int y_161), (0, .ref a0), (1, .int x1)]) hx hb dX12_isEnd_61 rfl hl (by decide) rfl (fun ls hl => ?_)
                refine lv_iconst (v := 0) hx hb dX12_isEnd_62 (by decide) ?_
                refine lv_istore (lv' := [(4, .int 0), (2, .int 1), (3, .int y_161), (0, .ref a0), (1, .int x1)]) hx hb dX12_isEnd_63 hl (by decide) rfl (fun ls hl => ?_)
                have L_65_266 : ∀ (n_266 : Nat) (y_264 : Int32) (y_265 : Int32) (ls : Array Slot), (2147483648 - y_264.toInt).toNat < n_266 → (y_265 = 0 ∨ y_265 = 1) → 0 ≤ y_264.toInt → (y_265.toInt ≠ 0 → (A 40 (x1.toInt + 5).toNat).toInt = 1 ∧ h4 (A 40) x1.toInt y_161.toInt ∧ (A 40 (x1.toInt + y_161.toInt + 22).toNat).toInt ≤ 4) → lv_has ls 5 [(4, .int y_264), (2, .int y_265), (3, .int y_161), (0, .ref a0), (1, .int x1)] → W p l e (rmd 0) s m args below meth c s.heap [] 0 0 Q (F0 m 65 ls []) := by
                  intro n_266
                  induction n_266 with
                  | zero => intro y_264 y_265 ls hm_266; exact absurd hm_266 (Nat.not_lt_zero _)
                  | succ n_266 ih_266 =>
                    intro y_264 y_265 ls hm_266 hb_y_265 iv_267_0 iv_267_1 hl
                    refine lv_iload_n hx hb dX12_isEnd_65 rfl (lv_at hl 1 rfl) ?_
                    refine bz_eq (tgt := 129) hx hb rfl dX12_isEnd_66 (by decide) (fun c_268 => ?_) (fun c_268 => ?_)
                    · skip
                      obtain ⟨x_269, ex_269⟩ : ∃ y : Int32, y = y_161 + 1 := ⟨_, rfl⟩
                      refine lv_iinc (v := x_269) (lv' := [(3, .int x_269), (4, .int y_264), (2, .int y_265), (0, .ref a0), (1, .int x1)]) hx hb dX12_isEnd_129 hl (k := 2) rfl (by rw [ex_269]; rfl) (by decide) rfl (fun ls hl => ?_)
                      refine lv_goto (tgt := 32) hx hb dX12_isEnd_132 (by decide) ?_
                      obtain ⟨f_269, l_269, u_269⟩ := z_add ex_269 rfl ti_1
                      try replace f_269 : x_269.toInt = y_161.toInt + 1 := by omega
                      have g_270 := z_rng y_265
                      exact ih_163 x_269 y_265 _ (by omega) hb_y_265 (by omega) (by omega) (fun h9 => ⟨(iv_267_1 h9).1, h4.s (iv_267_1 h9).2.1 (by omega) (iv_267_1 h9).2.2⟩) (lv_sub hl [0, 2, 3, 4] rfl)
                    · skip
                      refine lv_iload hx hb dX12_isEnd_69 (lv_at hl 0 rfl) ?_
                      refine lv_aload_n hx hb dX12_isEnd_71 rfl (lv_at hl 3 rfl) ?_
                      refine mg_0 C hs hP ha0 hk0 wf_X12_8 dX12_isEnd_72 ?_
                      refine lv_iload_n hx hb dX12_isEnd_75 rfl (lv_at hl 4 rfl) ?_
                      refine lv_bipush (v := 22) hx hb dX12_isEnd_76 (by decide) ?_
                      refine lv_iadd hx hb dX12_isEnd_78 ?_
                      refine lv_topi (fun x_271 ex_271 => ?_)
                      refine lv_iload_n hx hb dX12_isEnd_79 rfl (lv_at hl 2 rfl) ?_
                      refine lv_iadd hx hb dX12_isEnd_80 ?_
                      refine lv_topi (fun x_272 ex_272 => ?_)
                      obtain ⟨f_271, l_271, u_271⟩ := z_add ex_271 rfl ti_22
                      try replace f_271 : x_271.toInt = x1.toInt + 22 := by omega
                      obtain ⟨f_272, l_272, u_272⟩ := z_add ex_272 rfl rfl
                      try replace f_272 : x_272.toInt = x_271.toInt + y_161.toInt := by omega
                      have hi_hr_273 : x_272.toInt = x1.toInt + (y_161.toInt + 22) := by omega
                      have hr_273 := z_cell (lo := 22) (hi := 25) hp0 hi_hr_273 (by omega) (by decide)
                      have hin_274 : vp_in x_272 (zn K (zr K a0 0)) := vp_in_iff.mpr (by rw [(hf_1.2.2 (by decide))]; exact hr_273.in)
                      refine mld_40 C hs hP hf_1.1 hf_1.2.1 hin_274 dX12_isEnd_81 ?_
                      have ep_275 : x_272.toNatClampNeg = (x1.toInt + y_161.toInt + 22).toNat := z_pos (hi_hr_273.trans (by omega))
                      rw [ep_275]
                      refine bi_ge (tgt := 129) hx hb rfl rfl dX12_isEnd_82 (by decide) (fun c_276 => ?_) (fun c_276 => ?_)
                      · skip
                        obtain ⟨x_277, ex_277⟩ : ∃ y : Int32, y = y_161 + 1 := ⟨_, rfl⟩
                        refine lv_iinc (v := x_277) (lv' := [(3, .int x_277), (4, .int y_264), (2, .int y_265), (0, .ref a0), (1, .int x1)]) hx hb dX12_isEnd_129 hl (k := 2) rfl (by rw [ex_277]; rfl) (by decide) rfl (fun ls hl => ?_)
                        refine lv_goto (tgt := 32) hx hb dX12_isEnd_132 (by decide) ?_
                        obtain ⟨f_277, l_277, u_277⟩ := z_add ex_277 rfl ti_1
                        try replace f_277 : x_277.toInt = y_161.toInt + 1 := by omega
                        have g_278 := z_rng y_265
                        have g_279 := z_rng (A 40 (x1.toInt + y_161.toInt + 22).toNat)
                        have g_280 := z_rng y_264
                        exact ih_163 x_277 y_265 _ (by omega) hb_y_265 (by omega) (by omega) (fun h9 => ⟨(iv_267_1 h9).1, h4.s (iv_267_1 h9).2.1 (by omega) (iv_267_1 h9).2.2⟩) (lv_sub hl [0, 2, 3, 4] rfl)
                      · skip
                        refine lv_aload_n hx hb dX12_isEnd_85 rfl (lv_at hl 3 rfl) ?_
                        refine mg_0 C hs hP ha0 hk0 wf_X12_8 dX12_isEnd_86 ?_
                        refine lv_iload_n hx hb dX12_isEnd_89 rfl (lv_at hl 4 rfl) ?_
                        refine lv_bipush (v := 50) hx hb dX12_isEnd_90 (by decide) ?_
                        refine lv_iadd hx hb dX12_isEnd_92 ?_
                        refine lv_topi (fun x_281 ex_281 => ?_)
                        refine lv_aload_n hx hb dX12_isEnd_93 rfl (lv_at hl 3 rfl) ?_
                        refine mg_0 C hs hP ha0 hk0 wf_X12_8 dX12_isEnd_94 ?_
                        refine lv_iload_n hx hb dX12_isEnd_97 rfl (lv_at hl 4 rfl) ?_
                        refine lv_sipush (v := 230) hx hb dX12_isEnd_98 (by decide) ?_
                        refine lv_iadd hx hb dX12_isEnd_101 ?_
                        refine lv_topi (fun x_282 ex_282 => ?_)
                        refine lv_bipush (v := 60) hx hb dX12_isEnd_102 (by decide) ?_
                        refine lv_iload_n hx hb dX12_isEnd_104 rfl (lv_at hl 2 rfl) ?_
                        refine lv_imul hx hb dX12_isEnd_105 ?_
                        refine lv_topi (fun x_283 ex_283 => ?_)
                        refine lv_iadd hx hb dX12_isEnd_106 ?_
                        refine lv_topi (fun x_284 ex_284 => ?_)
                        refine lv_iload hx hb dX12_isEnd_107 (lv_at hl 0 rfl) ?_
                        refine lv_iadd hx hb dX12_isEnd_109 ?_
                        refine lv_topi (fun x_285 ex_285 => ?_)
                        obtain ⟨f_282, l_282, u_282⟩ := z_add ex_282 rfl ti_230
                        try replace f_282 : x_282.toInt = x1.toInt + 230 := by omega
                        obtain ⟨f_283, l_283, u_283⟩ := z_mul ex_283 ti_60 rfl
                        try replace f_283 : x_283.toInt = 60 * y_161.toInt := by omega
                        obtain ⟨f_284, l_284, u_284⟩ := z_add ex_284 rfl rfl
                        try replace f_284 : x_284.toInt = x_282.toInt + x_283.toInt := by omega
                        have g_286 := z_rng y_264
                        obtain ⟨f_285, l_285, u_285⟩ := z_add ex_285 rfl rfl
                        try replace f_285 : x_285.toInt = x_284.toInt + y_264.toInt := by omega
                        have hi_hr_287 : x_285.toInt = x1.toInt + (60 * y_161.toInt + y_264.toInt + 230) := by omega
                        have hr_287 := z_cell (lo := 170) (hi := 469) hp0 hi_hr_287 (by omega) (by decide)
                        have hin_288 : vp_in x_285 (zn K (zr K a0 0)) := vp_in_iff.mpr (by rw [(hf_1.2.2 (by decide))]; exact hr_287.in)
                        refine mld_40 C hs hP hf_1.1 hf_1.2.1 hin_288 dX12_isEnd_110 ?_
                        have ep_289 : x_285.toNatClampNeg = (x1.toInt + 60 * y_161.toInt + y_264.toInt + 230).toNat := z_pos (hi_hr_287.trans (by omega))
                        rw [ep_289]
                        have tv_290 := rv_170 hT hr_287
                        rw [ep_289] at tv_290
                        refine lv_iadd hx hb dX12_isEnd_111 ?_
                        refine lv_topi (fun x_291 ex_291 => ?_)
                        obtain ⟨f_281, l_281, u_281⟩ := z_add ex_281 rfl ti_50
                        try replace f_281 : x_281.toInt = x1.toInt + 50 := by omega
                        have g_292 := z_rng (A 40 (x1.toInt + 60 * y_161.toInt + y_264.toInt + 230).toNat)
                        obtain ⟨f_291, l_291, u_291⟩ := z_add ex_291 rfl rfl
                        try replace f_291 : x_291.toInt = x_281.toInt + (A 40 (x1.toInt + 60 * y_161.toInt + y_264.toInt + 230).toNat).toInt := by omega
                        have hi_hr_293 : x_291.toInt = x1.toInt + ((A 40 (x1.toInt + 60 * y_161.toInt + y_264.toInt + 230).toNat).toInt + 50) := by omega
                        have hr_293 := z_cell (lo := 45) (hi := 169) hp0 hi_hr_293 (by omega) (by decide)
                        have hin_294 : vp_in x_291 (zn K (zr K a0 0)) := vp_in_iff.mpr (by rw [(hf_1.2.2 (by decide))]; exact hr_293.in)
                        refine mld_40 C hs hP hf_1.1 hf_1.2.1 hin_294 dX12_isEnd_112 ?_
                        have ep_295 : x_291.toNatClampNeg = ((A 40 (x1.toInt + 60 * y_161.toInt + y_264.toInt + 230).toNat).toInt + x1.toInt + 50).toNat := z_pos (hi_hr_293.trans (by omega))
                        rw [ep_295]
                        refine lv_iconst (v := 3) hx hb dX12_isEnd_113 (by decide) ?_
                        refine bi_eq (tgt := 121) hx hb rfl ti_3 dX12_isEnd_114 (by decide) (fun c_296 => ?_) (fun c_296 => ?_)
                        · skip
                          refine lv_iconst (v := 0) hx hb dX12_isEnd_121 (by decide) ?_
                          refine lv_istore_n (lv' := [(2, .int 0), (4, .int y_264), (3, .int y_161), (0, .ref a0), (1, .int x1)]) hx hb dX12_isEnd_122 rfl hl (by decide) rfl (fun ls hl => ?_)
                          obtain ⟨x_297, ex_297⟩ : ∃ y : Int32, y = y_264 + 1 := ⟨_, rfl⟩
                          refine lv_iinc (v := x_297) (lv' := [(4, .int x_297), (2, .int 0), (3, .int y_161), (0, .ref a0), (1, .int x1)]) hx hb dX12_isEnd_123 hl (k := 1) rfl (by rw [ex_297]; rfl) (by decide) rfl (fun ls hl => ?_)
                          refine lv_goto (tgt := 65) hx hb dX12_isEnd_126 (by decide) ?_
                          obtain ⟨f_297, l_297, u_297⟩ := z_add ex_297 rfl ti_1
                          try replace f_297 : x_297.toInt = y_264.toInt + 1 := by omega
                          have g_298 := z_rng (A 40 ((A 40 (x1.toInt + 60 * y_161.toInt + y_264.toInt + 230).toNat).toInt + x1.toInt + 50).toNat)
                          have g_299 := z_rng (A 40 (x1.toInt + y_161.toInt + 22).toNat)
                          have g_300 := z_rng y_265
                          exact ih_266 x_297 0 _ (by omega) (Or.inl rfl) (by (try simp only [ti_0]); omega) (fun h9 => by rw [ti_0] at h9; omega) (lv_sub hl [0, 1, 2, 3, 4] rfl)
                        · skip
                          refine lv_iconst (v := 1) hx hb dX12_isEnd_117 (by decide) ?_
                          refine lv_goto (tgt := 122) hx hb dX12_isEnd_118 (by decide) ?_
                          refine lv_istore_n (lv' := [(2, .int 1), (4, .int y_264), (3, .int y_161), (0, .ref a0), (1, .int x1)]) hx hb dX12_isEnd_122 rfl hl (by decide) rfl (fun ls hl => ?_)
                          obtain ⟨x_301, ex_301⟩ : ∃ y : Int32, y = y_264 + 1 := ⟨_, rfl⟩
                          refine lv_iinc (v := x_301) (lv' := [(4, .int x_301), (2, .int 1), (3, .int y_161), (0, .ref a0), (1, .int x1)]) hx hb dX12_isEnd_123 hl (k := 1) rfl (by rw [ex_301]; rfl) (by decide) rfl (fun ls hl => ?_)
                          refine lv_goto (tgt := 65) hx hb dX12_isEnd_126 (by decide) ?_
                          obtain ⟨f_301, l_301, u_301⟩ := z_add ex_301 rfl ti_1
                          try replace f_301 : x_301.toInt = y_264.toInt + 1 := by omega
                          have g_302 := z_rng (A 40 ((A 40 (x1.toInt + 60 * y_161.toInt + y_264.toInt + 230).toNat).toInt + x1.toInt + 50).toNat)
                          have g_303 := z_rng (A 40 (x1.toInt + y_161.toInt + 22).toNat)
                          have g_304 := z_rng y_265
                          exact ih_266 x_301 1 _ (by omega) (Or.inr rfl) (by (try simp only [ti_1]); omega) (fun _ => iv_267_1 c_268) (lv_sub hl [0, 1, 2, 3, 4] rfl)
                have g_305 := z_rng (A 40 (x1.toInt + y_161.toInt + 22).toNat)
                have g_306 := z_rng y_162
                exact L_65_266 _ 0 1 _ (Nat.lt_succ_self _) (Or.inr rfl) (by (try simp only [ti_0, ti_1]); omega) (fun _ => ⟨(iv_164_2 c_166).1, (iv_164_2 c_166).2, by omega⟩) (lv_sub hl [0, 1, 2, 3, 4] rfl)
      have g_307 := z_rng (A 40 (x1.toInt + 26).toNat)
      have g_308 := z_rng (A 40 (x1.toInt + 5).toNat)
      exact L_32_163 _ 0 0 _ (Nat.lt_succ_self _) (Or.inl rfl) (by (try simp only [ti_0]); omega) (by rw [ti_0]; omega) (fun h9 => by rw [ti_0] at h9; omega) (lv_sub hl [0, 1, 2, 3] rfl)
    · skip
      refine lv_iconst (v := 1) hx hb dX12_isEnd_24 (by decide) ?_
      refine lv_goto (tgt := 29) hx hb dX12_isEnd_25 (by decide) ?_
      refine lv_istore_n (lv' := [(2, .int 1), (0, .ref a0), (1, .int x1)]) hx hb dX12_isEnd_29 rfl hl (by decide) rfl (fun ls hl => ?_)
      refine lv_iconst (v := 0) hx hb dX12_isEnd_30 (by decide) ?_
      refine lv_istore_n (lv' := [(3, .int 0), (2, .int 1), (0, .ref a0), (1, .int x1)]) hx hb dX12_isEnd_31 rfl hl (by decide) rfl (fun ls hl => ?_)
      have L_32_311 : ∀ (n_311 : Nat) (y_309 : Int32) (y_310 : Int32) (ls : Array Slot), (2147483648 - y_309.toInt).toNat < n_311 → (y_310 = 0 ∨ y_310 = 1) → 0 ≤ y_309.toInt → y_309.toInt ≤ 4 → (y_310.toInt ≠ 0 → (A 40 (x1.toInt + 5).toNat).toInt = 1 ∧ h4 (A 40) x1.toInt y_309.toInt) → lv_has ls 5 [(3, .int y_309), (2, .int y_310), (0, .ref a0), (1, .int x1)] → W p l e (rmd 0) s m args below meth c s.heap [] 0 0 Q (F0 m 32 ls []) := by
        intro n_311
        induction n_311 with
        | zero => intro y_309 y_310 ls hm_311; exact absurd hm_311 (Nat.not_lt_zero _)
        | succ n_311 ih_311 =>
          intro y_309 y_310 ls hm_311 hb_y_310 iv_312_0 iv_312_1 iv_312_2 hl
          refine lv_iload_n hx hb dX12_isEnd_32 rfl (lv_at hl 0 rfl) ?_
          refine lv_iconst (v := 4) hx hb dX12_isEnd_33 (by decide) ?_
          refine bi_ge (tgt := 135) hx hb rfl ti_4 dX12_isEnd_34 (by decide) (fun c_313 => ?_) (fun c_313 => ?_)
          · skip
            refine lv_iload_n hx hb dX12_isEnd_135 rfl (lv_at hl 1 rfl) ?_
            exact zaSz hQ hx hb hr hlk hb_y_310 ⟨hb_y_310, (fun h9 => ⟨(iv_312_2 h9).1, h4.e (iv_312_2 h9).2 (by omega)⟩)⟩ dX12_isEnd_136
          · skip
            refine lv_iload_n hx hb dX12_isEnd_37 rfl (lv_at hl 1 rfl) ?_
            refine bz_eq (tgt := 60) hx hb rfl dX12_isEnd_38 (by decide) (fun c_314 => ?_) (fun c_314 => ?_)
            · skip
              refine lv_iconst (v := 0) hx hb dX12_isEnd_60 (by decide) ?_
              refine lv_istore_n (lv' := [(2, .int 0), (3, .int y_309), (0, .ref a0), (1, .int x1)]) hx hb dX12_isEnd_61 rfl hl (by decide) rfl (fun ls hl => ?_)
              refine lv_iconst (v := 0) hx hb dX12_isEnd_62 (by decide) ?_
              refine lv_istore (lv' := [(4, .int 0), (2, .int 0), (3, .int y_309), (0, .ref a0), (1, .int x1)]) hx hb dX12_isEnd_63 hl (by decide) rfl (fun ls hl => ?_)
              have L_65_317 : ∀ (n_317 : Nat) (y_315 : Int32) (y_316 : Int32) (ls : Array Slot), (2147483648 - y_315.toInt).toNat < n_317 → (y_316 = 0 ∨ y_316 = 1) → 0 ≤ y_315.toInt → (y_316.toInt ≠ 0 → (A 40 (x1.toInt + 5).toNat).toInt = 1 ∧ h4 (A 40) x1.toInt y_309.toInt ∧ (A 40 (x1.toInt + y_309.toInt + 22).toNat).toInt ≤ 4) → lv_has ls 5 [(4, .int y_315), (2, .int y_316), (3, .int y_309), (0, .ref a0), (1, .int x1)] → W p l e (rmd 0) s m args below meth c s.heap [] 0 0 Q (F0 m 65 ls []) := by
                intro n_317
                induction n_317 with
                | zero => intro y_315 y_316 ls hm_317; exact absurd hm_317 (Nat.not_lt_zero _)
                | succ n_317 ih_317 =>
                  intro y_315 y_316 ls hm_317 hb_y_316 iv_318_0 iv_318_1 hl
                  refine lv_iload_n hx hb dX12_isEnd_65 rfl (lv_at hl 1 rfl) ?_
                  refine bz_eq (tgt := 129) hx hb rfl dX12_isEnd_66 (by decide) (fun c_319 => ?_) (fun c_319 => ?_)
                  · skip
                    obtain ⟨x_320, ex_320⟩ : ∃ y : Int32, y = y_309 + 1 := ⟨_, rfl⟩
                    refine lv_iinc (v := x_320) (lv' := [(3, .int x_320), (4, .int y_315), (2, .int y_316), (0, .ref a0), (1, .int x1)]) hx hb dX12_isEnd_129 hl (k := 2) rfl (by rw [ex_320]; rfl) (by decide) rfl (fun ls hl => ?_)
                    refine lv_goto (tgt := 32) hx hb dX12_isEnd_132 (by decide) ?_
                    have g_321 := z_rng y_309
                    obtain ⟨f_320, l_320, u_320⟩ := z_add ex_320 rfl ti_1
                    try replace f_320 : x_320.toInt = y_309.toInt + 1 := by omega
                    have g_322 := z_rng y_316
                    exact ih_311 x_320 y_316 _ (by omega) hb_y_316 (by omega) (by omega) (fun h9 => ⟨(iv_318_1 h9).1, h4.s (iv_318_1 h9).2.1 (by omega) (iv_318_1 h9).2.2⟩) (lv_sub hl [0, 2, 3, 4] rfl)
                  · skip
                    refine lv_iload hx hb dX12_isEnd_69 (lv_at hl 0 rfl) ?_
                    refine lv_aload_n hx hb dX12_isEnd_71 rfl (lv_at hl 3 rfl) ?_
                    refine mg_0 C hs hP ha0 hk0 wf_X12_8 dX12_isEnd_72 ?_
                    refine lv_iload_n hx hb dX12_isEnd_75 rfl (lv_at hl 4 rfl) ?_
                    refine lv_bipush (v := 22) hx hb dX12_isEnd_76 (by decide) ?_
                    refine lv_iadd hx hb dX12_isEnd_78 ?_
                    refine lv_topi (fun x_323 ex_323 => ?_)
                    refine lv_iload_n hx hb dX12_isEnd_79 rfl (lv_at hl 2 rfl) ?_
                    refine lv_iadd hx hb dX12_isEnd_80 ?_
                    refine lv_topi (fun x_324 ex_324 => ?_)
                    obtain ⟨f_323, l_323, u_323⟩ := z_add ex_323 rfl ti_22
                    try replace f_323 : x_323.toInt = x1.toInt + 22 := by omega
                    have g_325 := z_rng y_309
                    obtain ⟨f_324, l_324, u_324⟩ := z_add ex_324 rfl rfl
                    try replace f_324 : x_324.toInt = x_323.toInt + y_309.toInt := by omega
                    have hi_hr_326 : x_324.toInt = x1.toInt + (y_309.toInt + 22) := by omega
                    have hr_326 := z_cell (lo := 22) (hi := 25) hp0 hi_hr_326 (by omega) (by decide)
                    have hin_327 : vp_in x_324 (zn K (zr K a0 0)) := vp_in_iff.mpr (by rw [(hf_1.2.2 (by decide))]; exact hr_326.in)
                    refine mld_40 C hs hP hf_1.1 hf_1.2.1 hin_327 dX12_isEnd_81 ?_
                    have ep_328 : x_324.toNatClampNeg = (x1.toInt + y_309.toInt + 22).toNat := z_pos (hi_hr_326.trans (by omega))
                    rw [ep_328]
                    have tv_329 := rv_22 hT hr_326
                    rw [ep_328] at tv_329
                    refine bi_ge (tgt := 129) hx hb rfl rfl dX12_isEnd_82 (by decide) (fun c_330 => ?_) (fun c_330 => ?_)
                    · skip
                      obtain ⟨x_331, ex_331⟩ : ∃ y : Int32, y = y_309 + 1 := ⟨_, rfl⟩
                      refine lv_iinc (v := x_331) (lv' := [(3, .int x_331), (4, .int y_315), (2, .int y_316), (0, .ref a0), (1, .int x1)]) hx hb dX12_isEnd_129 hl (k := 2) rfl (by rw [ex_331]; rfl) (by decide) rfl (fun ls hl => ?_)
                      refine lv_goto (tgt := 32) hx hb dX12_isEnd_132 (by decide) ?_
                      obtain ⟨f_331, l_331, u_331⟩ := z_add ex_331 rfl ti_1
                      try replace f_331 : x_331.toInt = y_309.toInt + 1 := by omega
                      have g_332 := z_rng y_316
                      have g_333 := z_rng (A 40 (x1.toInt + y_309.toInt + 22).toNat)
                      have g_334 := z_rng y_315
                      exact ih_311 x_331 y_316 _ (by omega) hb_y_316 (by omega) (by omega) (fun h9 => ⟨(iv_318_1 h9).1, h4.s (iv_318_1 h9).2.1 (by omega) (iv_318_1 h9).2.2⟩) (lv_sub hl [0, 2, 3, 4] rfl)
                    · skip
                      refine lv_aload_n hx hb dX12_isEnd_85 rfl (lv_at hl 3 rfl) ?_
                      refine mg_0 C hs hP ha0 hk0 wf_X12_8 dX12_isEnd_86 ?_
                      refine lv_iload_n hx hb dX12_isEnd_89 rfl (lv_at hl 4 rfl) ?_
                      refine lv_bipush (v := 50) hx hb dX12_isEnd_90 (by decide) ?_
                      refine lv_iadd hx hb dX12_isEnd_92 ?_
                      refine lv_topi (fun x_335 ex_335 => ?_)
                      refine lv_aload_n hx hb dX12_isEnd_93 rfl (lv_at hl 3 rfl) ?_
                      refine mg_0 C hs hP ha0 hk0 wf_X12_8 dX12_isEnd_94 ?_
                      refine lv_iload_n hx hb dX12_isEnd_97 rfl (lv_at hl 4 rfl) ?_
                      refine lv_sipush (v := 230) hx hb dX12_isEnd_98 (by decide) ?_
                      refine lv_iadd hx hb dX12_isEnd_101 ?_
                      refine lv_topi (fun x_336 ex_336 => ?_)
                      refine lv_bipush (v := 60) hx hb dX12_isEnd_102 (by decide) ?_
                      refine lv_iload_n hx hb dX12_isEnd_104 rfl (lv_at hl 2 rfl) ?_
                      refine lv_imul hx hb dX12_isEnd_105 ?_
                      refine lv_topi (fun x_337 ex_337 => ?_)
                      refine lv_iadd hx hb dX12_isEnd_106 ?_
                      refine lv_topi (fun x_338 ex_338 => ?_)
                      refine lv_iload hx hb dX12_isEnd_107 (lv_at hl 0 rfl) ?_
                      refine lv_iadd hx hb dX12_isEnd_109 ?_
                      refine lv_topi (fun x_339 ex_339 => ?_)
                      obtain ⟨f_336, l_336, u_336⟩ := z_add ex_336 rfl ti_230
                      try replace f_336 : x_336.toInt = x1.toInt + 230 := by omega
                      obtain ⟨f_337, l_337, u_337⟩ := z_mul ex_337 ti_60 rfl
                      try replace f_337 : x_337.toInt = 60 * y_309.toInt := by omega
                      obtain ⟨f_338, l_338, u_338⟩ := z_add ex_338 rfl rfl
                      try replace f_338 : x_338.toInt = x_336.toInt + x_337.toInt := by omega
                      have g_340 := z_rng y_315
                      obtain ⟨f_339, l_339, u_339⟩ := z_add ex_339 rfl rfl
                      try replace f_339 : x_339.toInt = x_338.toInt + y_315.toInt := by omega
                      have hi_hr_341 : x_339.toInt = x1.toInt + (60 * y_309.toInt + y_315.toInt + 230) := by omega
                      have hr_341 := z_cell (lo := 170) (hi := 469) hp0 hi_hr_341 (by omega) (by decide)
                      have hin_342 : vp_in x_339 (zn K (zr K a0 0)) := vp_in_iff.mpr (by rw [(hf_1.2.2 (by decide))]; exact hr_341.in)
                      refine mld_40 C hs hP hf_1.1 hf_1.2.1 hin_342 dX12_isEnd_110 ?_
                      have ep_343 : x_339.toNatClampNeg = (x1.toInt + 60 * y_309.toInt + y_315.toInt + 230).toNat := z_pos (hi_hr_341.trans (by omega))
                      rw [ep_343]
                      have tv_344 := rv_170 hT hr_341
                      rw [ep_343] at tv_344
                      refine lv_iadd hx hb dX12_isEnd_111 ?_
                      refine lv_topi (fun x_345 ex_345 => ?_)
                      obtain ⟨f_335, l_335, u_335⟩ := z_add ex_335 rfl ti_50
                      try replace f_335 : x_335.toInt = x1.toInt + 50 := by omega
                      have g_346 := z_rng (A 40 (x1.toInt + 60 * y_309.toInt + y_315.toInt + 230).toNat)
                      obtain ⟨f_345, l_345, u_345⟩ := z_add ex_345 rfl rfl
                      try replace f_345 : x_345.toInt = x_335.toInt + (A 40 (x1.toInt + 60 * y_309.toInt + y_315.toInt + 230).toNat).toInt := by omega
                      have hi_hr_347 : x_345.toInt = x1.toInt + ((A 40 (x1.toInt + 60 * y_309.toInt + y_315.toInt + 230).toNat).toInt + 50) := by omega
                      have hr_347 := z_cell (lo := 45) (hi := 169) hp0 hi_hr_347 (by omega) (by decide)
                      have hin_348 : vp_in x_345 (zn K (zr K a0 0)) := vp_in_iff.mpr (by rw [(hf_1.2.2 (by decide))]; exact hr_347.in)
                      refine mld_40 C hs hP hf_1.1 hf_1.2.1 hin_348 dX12_isEnd_112 ?_
                      have ep_349 : x_345.toNatClampNeg = ((A 40 (x1.toInt + 60 * y_309.toInt + y_315.toInt + 230).toNat).toInt + x1.toInt + 50).toNat := z_pos (hi_hr_347.trans (by omega))
                      rw [ep_349]
                      refine lv_iconst (v := 3) hx hb dX12_isEnd_113 (by decide) ?_
                      refine bi_eq (tgt := 121) hx hb rfl ti_3 dX12_isEnd_114 (by decide) (fun c_350 => ?_) (fun c_350 => ?_)
                      · skip
                        refine lv_iconst (v := 0) hx hb dX12_isEnd_121 (by decide) ?_
                        refine lv_istore_n (lv' := [(2, .int 0), (4, .int y_315), (3, .int y_309), (0, .ref a0), (1, .int x1)]) hx hb dX12_isEnd_122 rfl hl (by decide) rfl (fun ls hl => ?_)
                        obtain ⟨x_351, ex_351⟩ : ∃ y : Int32, y = y_315 + 1 := ⟨_, rfl⟩
                        refine lv_iinc (v := x_351) (lv' := [(4, .int x_351), (2, .int 0), (3, .int y_309), (0, .ref a0), (1, .int x1)]) hx hb dX12_isEnd_123 hl (k := 1) rfl (by rw [ex_351]; rfl) (by decide) rfl (fun ls hl => ?_)
                        refine lv_goto (tgt := 65) hx hb dX12_isEnd_126 (by decide) ?_
                        obtain ⟨f_351, l_351, u_351⟩ := z_add ex_351 rfl ti_1
                        try replace f_351 : x_351.toInt = y_315.toInt + 1 := by omega
                        have g_352 := z_rng (A 40 ((A 40 (x1.toInt + 60 * y_309.toInt + y_315.toInt + 230).toNat).toInt + x1.toInt + 50).toNat)
                        have g_353 := z_rng (A 40 (x1.toInt + y_309.toInt + 22).toNat)
                        have g_354 := z_rng y_316
                        exact ih_317 x_351 0 _ (by omega) (Or.inl rfl) (by (try simp only [ti_0]); omega) (fun h9 => by rw [ti_0] at h9; omega) (lv_sub hl [0, 1, 2, 3, 4] rfl)
                      · skip
                        refine lv_iconst (v := 1) hx hb dX12_isEnd_117 (by decide) ?_
                        refine lv_goto (tgt := 122) hx hb dX12_isEnd_118 (by decide) ?_
                        refine lv_istore_n (lv' := [(2, .int 1), (4, .int y_315), (3, .int y_309), (0, .ref a0), (1, .int x1)]) hx hb dX12_isEnd_122 rfl hl (by decide) rfl (fun ls hl => ?_)
                        obtain ⟨x_355, ex_355⟩ : ∃ y : Int32, y = y_315 + 1 := ⟨_, rfl⟩
                        refine lv_iinc (v := x_355) (lv' := [(4, .int x_355), (2, .int 1), (3, .int y_309), (0, .ref a0), (1, .int x1)]) hx hb dX12_isEnd_123 hl (k := 1) rfl (by rw [ex_355]; rfl) (by decide) rfl (fun ls hl => ?_)
                        refine lv_goto (tgt := 65) hx hb dX12_isEnd_126 (by decide) ?_
                        obtain ⟨f_355, l_355, u_355⟩ := z_add ex_355 rfl ti_1
                        try replace f_355 : x_355.toInt = y_315.toInt + 1 := by omega
                        have g_356 := z_rng (A 40 ((A 40 (x1.toInt + 60 * y_309.toInt + y_315.toInt + 230).toNat).toInt + x1.toInt + 50).toNat)
                        have g_357 := z_rng (A 40 (x1.toInt + y_309.toInt + 22).toNat)
                        have g_358 := z_rng y_316
                        exact ih_317 x_355 1 _ (by omega) (Or.inr rfl) (by (try simp only [ti_1]); omega) (fun _ => iv_318_1 c_319) (lv_sub hl [0, 1, 2, 3, 4] rfl)
              have g_359 := z_rng y_309
              have g_360 := z_rng y_310
              exact L_65_317 _ 0 0 _ (Nat.lt_succ_self _) (Or.inl rfl) (by (try simp only [ti_0]); omega) (fun h9 => by rw [ti_0] at h9; omega) (lv_sub hl [0, 1, 2, 3, 4] rfl)
            · skip
              refine lv_aload_n hx hb dX12_isEnd_41 rfl (lv_at hl 2 rfl) ?_
              refine mg_0 C hs hP ha0 hk0 wf_X12_8 dX12_isEnd_42 ?_
              refine lv_iload_n hx hb dX12_isEnd_45 rfl (lv_at hl 3 rfl) ?_
              refine lv_bipush (v := 22) hx hb dX12_isEnd_46 (by decide) ?_
              refine lv_iadd hx hb dX12_isEnd_48 ?_
              refine lv_topi (fun x_361 ex_361 => ?_)
              refine lv_iload_n hx hb dX12_isEnd_49 rfl (lv_at hl 0 rfl) ?_
              refine lv_iadd hx hb dX12_isEnd_50 ?_
              refine lv_topi (fun x_362 ex_362 => ?_)
              obtain ⟨f_361, l_361, u_361⟩ := z_add ex_361 rfl ti_22
              try replace f_361 : x_361.toInt = x1.toInt + 22 := by omega
              have g_363 := z_rng y_309
              obtain ⟨f_362, l_362, u_362⟩ := z_add ex_362 rfl rfl
              try replace f_362 : x_362.toInt = x_361.toInt + y_309.toInt := by omega
              have hi_hr_364 : x_362.toInt = x1.toInt + (y_309.toInt + 22) := by omega
              have hr_364 := z_cell (lo := 22) (hi := 25) hp0 hi_hr_364 (by omega) (by decide)
              have hin_365 : vp_in x_362 (zn K (zr K a0 0)) := vp_in_iff.mpr (by rw [(hf_1.2.2 (by decide))]; exact hr_364.in)
              refine mld_40 C hs hP hf_1.1 hf_1.2.1 hin_365 dX12_isEnd_51 ?_
              have ep_366 : x_362.toNatClampNeg = (x1.toInt + y_309.toInt + 22).toNat := z_pos (hi_hr_364.trans (by omega))
              rw [ep_366]
              have tv_367 := rv_22 hT hr_364
              rw [ep_366] at tv_367
              refine lv_iconst (v := 4) hx hb dX12_isEnd_52 (by decide) ?_
              refine bi_gt (tgt := 60) hx hb rfl ti_4 dX12_isEnd_53 (by decide) (fun c_368 => ?_) (fun c_368 => ?_)
              · skip
                refine lv_iconst (v := 0) hx hb dX12_isEnd_60 (by decide) ?_
                refine lv_istore_n (lv' := [(2, .int 0), (3, .int y_309), (0, .ref a0), (1, .int x1)]) hx hb dX12_isEnd_61 rfl hl (by decide) rfl (fun ls hl => ?_)
                refine lv_iconst (v := 0) hx hb dX12_isEnd_62 (by decide) ?_
                refine lv_istore (lv' := [(4, .int 0), (2, .int 0), (3, .int y_309), (0, .ref a0), (1, .int x1)]) hx hb dX12_isEnd_63 hl (by decide) rfl (fun ls hl => ?_)
                have L_65_371 : ∀ (n_371 : Nat) (y_369 : Int32) (y_370 : Int32) (ls : Array Slot), (2147483648 - y_369.toInt).toNat < n_371 → (y_370 = 0 ∨ y_370 = 1) → 0 ≤ y_369.toInt → (y_370.toInt ≠ 0 → (A 40 (x1.toInt + 5).toNat).toInt = 1 ∧ h4 (A 40) x1.toInt y_309.toInt ∧ (A 40 (x1.toInt + y_309.toInt + 22).toNat).toInt ≤ 4) → lv_has ls 5 [(4, .int y_369), (2, .int y_370), (3, .int y_309), (0, .ref a0), (1, .int x1)] → W p l e (rmd 0) s m args below meth c s.heap [] 0 0 Q (F0 m 65 ls []) := by
                  intro n_371
                  induction n_371 with
                  | zero => intro y_369 y_370 ls hm_371; exact absurd hm_371 (Nat.not_lt_zero _)
                  | succ n_371 ih_371 =>
                    intro y_369 y_370 ls hm_371 hb_y_370 iv_372_0 iv_372_1 hl
                    refine lv_iload_n hx hb dX12_isEnd_65 rfl (lv_at hl 1 rfl) ?_
                    refine bz_eq (tgt := 129) hx hb rfl dX12_isEnd_66 (by decide) (fun c_373 => ?_) (fun c_373 => ?_)
                    · skip
                      obtain ⟨x_374, ex_374⟩ : ∃ y : Int32, y = y_309 + 1 := ⟨_, rfl⟩
                      refine lv_iinc (v := x_374) (lv' := [(3, .int x_374), (4, .int y_369), (2, .int y_370), (0, .ref a0), (1, .int x1)]) hx hb dX12_isEnd_129 hl (k := 2) rfl (by rw [ex_374]; rfl) (by decide) rfl (fun ls hl => ?_)
                      refine lv_goto (tgt := 32) hx hb dX12_isEnd_132 (by decide) ?_
                      obtain ⟨f_374, l_374, u_374⟩ := z_add ex_374 rfl ti_1
                      try replace f_374 : x_374.toInt = y_309.toInt + 1 := by omega
                      have g_375 := z_rng y_370
                      exact ih_311 x_374 y_370 _ (by omega) hb_y_370 (by omega) (by omega) (fun h9 => ⟨(iv_372_1 h9).1, h4.s (iv_372_1 h9).2.1 (by omega) (iv_372_1 h9).2.2⟩) (lv_sub hl [0, 2, 3, 4] rfl)
                    · skip
                      refine lv_iload hx hb dX12_isEnd_69 (lv_at hl 0 rfl) ?_
                      refine lv_aload_n hx hb dX12_isEnd_71 rfl (lv_at hl 3 rfl) ?_
                      refine mg_0 C hs hP ha0 hk0 wf_X12_8 dX12_isEnd_72 ?_
                      refine lv_iload_n hx hb dX12_isEnd_75 rfl (lv_at hl 4 rfl) ?_
                      refine lv_bipush (v := 22) hx hb dX12_isEnd_76 (by decide) ?_
                      refine lv_iadd hx hb dX12_isEnd_78 ?_
                      refine lv_topi (fun x_376 ex_376 => ?_)
                      refine lv_iload_n hx hb dX12_isEnd_79 rfl (lv_at hl 2 rfl) ?_
                      refine lv_iadd hx hb dX12_isEnd_80 ?_
                      refine lv_topi (fun x_377 ex_377 => ?_)
                      obtain ⟨f_376, l_376, u_376⟩ := z_add ex_376 rfl ti_22
                      try replace f_376 : x_376.toInt = x1.toInt + 22 := by omega
                      obtain ⟨f_377, l_377, u_377⟩ := z_add ex_377 rfl rfl
                      try replace f_377 : x_377.toInt = x_376.toInt + y_309.toInt := by omega
                      have hi_hr_378 : x_377.toInt = x1.toInt + (y_309.toInt + 22) := by omega
                      have hr_378 := z_cell (lo := 22) (hi := 25) hp0 hi_hr_378 (by omega) (by decide)
                      have hin_379 : vp_in x_377 (zn K (zr K a0 0)) := vp_in_iff.mpr (by rw [(hf_1.2.2 (by decide))]; exact hr_378.in)
                      refine mld_40 C hs hP hf_1.1 hf_1.2.1 hin_379 dX12_isEnd_81 ?_
                      have ep_380 : x_377.toNatClampNeg = (x1.toInt + y_309.toInt + 22).toNat := z_pos (hi_hr_378.trans (by omega))
                      rw [ep_380]
                      refine bi_ge (tgt := 129) hx hb rfl rfl dX12_isEnd_82 (by decide) (fun c_381 => ?_) (fun c_381 => ?_)
                      · skip
                        obtain ⟨x_382, ex_382⟩ : ∃ y : Int32, y = y_309 + 1 := ⟨_, rfl⟩
                        refine lv_iinc (v := x_382) (lv' := [(3, .int x_382), (4, .int y_369), (2, .int y_370), (0, .ref a0), (1, .int x1)]) hx hb dX12_isEnd_129 hl (k := 2) rfl (by rw [ex_382]; rfl) (by decide) rfl (fun ls hl => ?_)
                        refine lv_goto (tgt := 32) hx hb dX12_isEnd_132 (by decide) ?_
                        obtain ⟨f_382, l_382, u_382⟩ := z_add ex_382 rfl ti_1
                        try replace f_382 : x_382.toInt = y_309.toInt + 1 := by omega
                        have g_383 := z_rng y_370
                        have g_384 := z_rng (A 40 (x1.toInt + y_309.toInt + 22).toNat)
                        have g_385 := z_rng y_369
                        exact ih_311 x_382 y_370 _ (by omega) hb_y_370 (by omega) (by omega) (fun h9 => ⟨(iv_372_1 h9).1, h4.s (iv_372_1 h9).2.1 (by omega) (iv_372_1 h9).2.2⟩) (lv_sub hl [0, 2, 3, 4] rfl)
                      · skip
                        refine lv_aload_n hx hb dX12_isEnd_85 rfl (lv_at hl 3 rfl) ?_
                        refine mg_0 C hs hP ha0 hk0 wf_X12_8 dX12_isEnd_86 ?_
                        refine lv_iload_n hx hb dX12_isEnd_89 rfl (lv_at hl 4 rfl) ?_
                        refine lv_bipush (v := 50) hx hb dX12_isEnd_90 (by decide) ?_
                        refine lv_iadd hx hb dX12_isEnd_92 ?_
                        refine lv_topi (fun x_386 ex_386 => ?_)
                        refine lv_aload_n hx hb dX12_isEnd_93 rfl (lv_at hl 3 rfl) ?_
                        refine mg_0 C hs hP ha0 hk0 wf_X12_8 dX12_isEnd_94 ?_
                        refine lv_iload_n hx hb dX12_isEnd_97 rfl (lv_at hl 4 rfl) ?_
                        refine lv_sipush (v := 230) hx hb dX12_isEnd_98 (by decide) ?_
                        refine lv_iadd hx hb dX12_isEnd_101 ?_
                        refine lv_topi (fun x_387 ex_387 => ?_)
                        refine lv_bipush (v := 60) hx hb dX12_isEnd_102 (by decide) ?_
                        refine lv_iload_n hx hb dX12_isEnd_104 rfl (lv_at hl 2 rfl) ?_
                        refine lv_imul hx hb dX12_isEnd_105 ?_
                        refine lv_topi (fun x_388 ex_388 => ?_)
                        refine lv_iadd hx hb dX12_isEnd_106 ?_
                        refine lv_topi (fun x_389 ex_389 => ?_)
                        refine lv_iload hx hb dX12_isEnd_107 (lv_at hl 0 rfl) ?_
                        refine lv_iadd hx hb dX12_isEnd_109 ?_
                        refine lv_topi (fun x_390 ex_390 => ?_)
                        obtain ⟨f_387, l_387, u_387⟩ := z_add ex_387 rfl ti_230
                        try replace f_387 : x_387.toInt = x1.toInt + 230 := by omega
                        obtain ⟨f_388, l_388, u_388⟩ := z_mul ex_388 ti_60 rfl
                        try replace f_388 : x_388.toInt = 60 * y_309.toInt := by omega
                        obtain ⟨f_389, l_389, u_389⟩ := z_add ex_389 rfl rfl
                        try replace f_389 : x_389.toInt = x_387.toInt + x_388.toInt := by omega
                        have g_391 := z_rng y_369
                        obtain ⟨f_390, l_390, u_390⟩ := z_add ex_390 rfl rfl
                        try replace f_390 : x_390.toInt = x_389.toInt + y_369.toInt := by omega
                        have hi_hr_392 : x_390.toInt = x1.toInt + (60 * y_309.toInt + y_369.toInt + 230) := by omega
                        have hr_392 := z_cell (lo := 170) (hi := 469) hp0 hi_hr_392 (by omega) (by decide)
                        have hin_393 : vp_in x_390 (zn K (zr K a0 0)) := vp_in_iff.mpr (by rw [(hf_1.2.2 (by decide))]; exact hr_392.in)
                        refine mld_40 C hs hP hf_1.1 hf_1.2.1 hin_393 dX12_isEnd_110 ?_
                        have ep_394 : x_390.toNatClampNeg = (x1.toInt + 60 * y_309.toInt + y_369.toInt + 230).toNat := z_pos (hi_hr_392.trans (by omega))
                        rw [ep_394]
                        have tv_395 := rv_170 hT hr_392
                        rw [ep_394] at tv_395
                        refine lv_iadd hx hb dX12_isEnd_111 ?_
                        refine lv_topi (fun x_396 ex_396 => ?_)
                        obtain ⟨f_386, l_386, u_386⟩ := z_add ex_386 rfl ti_50
                        try replace f_386 : x_386.toInt = x1.toInt + 50 := by omega
                        have g_397 := z_rng (A 40 (x1.toInt + 60 * y_309.toInt + y_369.toInt + 230).toNat)
                        obtain ⟨f_396, l_396, u_396⟩ := z_add ex_396 rfl rfl
                        try replace f_396 : x_396.toInt = x_386.toInt + (A 40 (x1.toInt + 60 * y_309.toInt + y_369.toInt + 230).toNat).toInt := by omega
                        have hi_hr_398 : x_396.toInt = x1.toInt + ((A 40 (x1.toInt + 60 * y_309.toInt + y_369.toInt + 230).toNat).toInt + 50) := by omega
                        have hr_398 := z_cell (lo := 45) (hi := 169) hp0 hi_hr_398 (by omega) (by decide)
                        have hin_399 : vp_in x_396 (zn K (zr K a0 0)) := vp_in_iff.mpr (by rw [(hf_1.2.2 (by decide))]; exact hr_398.in)
                        refine mld_40 C hs hP hf_1.1 hf_1.2.1 hin_399 dX12_isEnd_112 ?_
                        have ep_400 : x_396.toNatClampNeg = ((A 40 (x1.toInt + 60 * y_309.toInt + y_369.toInt + 230).toNat).toInt + x1.toInt + 50).toNat := z_pos (hi_hr_398.trans (by omega))
                        rw [ep_400]
                        refine lv_iconst (v := 3) hx hb dX12_isEnd_113 (by decide) ?_
                        refine bi_eq (tgt := 121) hx hb rfl ti_3 dX12_isEnd_114 (by decide) (fun c_401 => ?_) (fun c_401 => ?_)
                        · skip
                          refine lv_iconst (v := 0) hx hb dX12_isEnd_121 (by decide) ?_
                          refine lv_istore_n (lv' := [(2, .int 0), (4, .int y_369), (3, .int y_309), (0, .ref a0), (1, .int x1)]) hx hb dX12_isEnd_122 rfl hl (by decide) rfl (fun ls hl => ?_)
                          obtain ⟨x_402, ex_402⟩ : ∃ y : Int32, y = y_369 + 1 := ⟨_, rfl⟩
                          refine lv_iinc (v := x_402) (lv' := [(4, .int x_402), (2, .int 0), (3, .int y_309), (0, .ref a0), (1, .int x1)]) hx hb dX12_isEnd_123 hl (k := 1) rfl (by rw [ex_402]; rfl) (by decide) rfl (fun ls hl => ?_)
                          refine lv_goto (tgt := 65) hx hb dX12_isEnd_126 (by decide) ?_
                          obtain ⟨f_402, l_402, u_402⟩ := z_add ex_402 rfl ti_1
                          try replace f_402 : x_402.toInt = y_369.toInt + 1 := by omega
                          have g_403 := z_rng (A 40 ((A 40 (x1.toInt + 60 * y_309.toInt + y_369.toInt + 230).toNat).toInt + x1.toInt + 50).toNat)
                          have g_404 := z_rng (A 40 (x1.toInt + y_309.toInt + 22).toNat)
                          have g_405 := z_rng y_370
                          exact ih_371 x_402 0 _ (by omega) (Or.inl rfl) (by (try simp only [ti_0]); omega) (fun h9 => by rw [ti_0] at h9; omega) (lv_sub hl [0, 1, 2, 3, 4] rfl)
                        · skip
                          refine lv_iconst (v := 1) hx hb dX12_isEnd_117 (by decide) ?_
                          refine lv_goto (tgt := 122) hx hb dX12_isEnd_118 (by decide) ?_
                          refine lv_istore_n (lv' := [(2, .int 1), (4, .int y_369), (3, .int y_309), (0, .ref a0), (1, .int x1)]) hx hb dX12_isEnd_122 rfl hl (by decide) rfl (fun ls hl => ?_)
                          obtain ⟨x_406, ex_406⟩ : ∃ y : Int32, y = y_369 + 1 := ⟨_, rfl⟩
                          refine lv_iinc (v := x_406) (lv' := [(4, .int x_406), (2, .int 1), (3, .int y_309), (0, .ref a0), (1, .int x1)]) hx hb dX12_isEnd_123 hl (k := 1) rfl (by rw [ex_406]; rfl) (by decide) rfl (fun ls hl => ?_)
                          refine lv_goto (tgt := 65) hx hb dX12_isEnd_126 (by decide) ?_
                          obtain ⟨f_406, l_406, u_406⟩ := z_add ex_406 rfl ti_1
                          try replace f_406 : x_406.toInt = y_369.toInt + 1 := by omega
                          have g_407 := z_rng (A 40 ((A 40 (x1.toInt + 60 * y_309.toInt + y_369.toInt + 230).toNat).toInt + x1.toInt + 50).toNat)
                          have g_408 := z_rng (A 40 (x1.toInt + y_309.toInt + 22).toNat)
                          have g_409 := z_rng y_370
                          exact ih_371 x_406 1 _ (by omega) (Or.inr rfl) (by (try simp only [ti_1]); omega) (fun _ => iv_372_1 c_373) (lv_sub hl [0, 1, 2, 3, 4] rfl)
                have g_410 := z_rng (A 40 (x1.toInt + y_309.toInt + 22).toNat)
                have g_411 := z_rng y_310
                exact L_65_371 _ 0 0 _ (Nat.lt_succ_self _) (Or.inl rfl) (by (try simp only [ti_0]); omega) (fun h9 => by rw [ti_0] at h9; omega) (lv_sub hl [0, 1, 2, 3, 4] rfl)
              · skip
                refine lv_iconst (v := 1) hx hb dX12_isEnd_56 (by decide) ?_
                refine lv_goto (tgt := 61) hx hb dX12_isEnd_57 (by decide) ?_
                refine lv_istore_n (lv' := [(2, .int 1), (3, .int y_309), (0, .ref a0), (1, .int x1)]) hx hb dX12_isEnd_61 rfl hl (by decide) rfl (fun ls hl => ?_)
                refine lv_iconst (v := 0) hx hb dX12_isEnd_62 (by decide) ?_
                refine lv_istore (lv' := [(4, .int 0), (2, .int 1), (3, .int y_309), (0, .ref a0), (1, .int x1)]) hx hb dX12_isEnd_63 hl (by decide) rfl (fun ls hl => ?_)
                have L_65_414 : ∀ (n_414 : Nat) (y_412 : Int32) (y_413 : Int32) (ls : Array Slot), (2147483648 - y_412.toInt).toNat < n_414 → (y_413 = 0 ∨ y_413 = 1) → 0 ≤ y_412.toInt → (y_413.toInt ≠ 0 → (A 40 (x1.toInt + 5).toNat).toInt = 1 ∧ h4 (A 40) x1.toInt y_309.toInt ∧ (A 40 (x1.toInt + y_309.toInt + 22).toNat).toInt ≤ 4) → lv_has ls 5 [(4, .int y_412), (2, .int y_413), (3, .int y_309), (0, .ref a0), (1, .int x1)] → W p l e (rmd 0) s m args below meth c s.heap [] 0 0 Q (F0 m 65 ls []) := by
                  intro n_414
                  induction n_414 with
                  | zero => intro y_412 y_413 ls hm_414; exact absurd hm_414 (Nat.not_lt_zero _)
                  | succ n_414 ih_414 =>
                    intro y_412 y_413 ls hm_414 hb_y_413 iv_415_0 iv_415_1 hl
                    refine lv_iload_n hx hb dX12_isEnd_65 rfl (lv_at hl 1 rfl) ?_
                    refine bz_eq (tgt := 129) hx hb rfl dX12_isEnd_66 (by decide) (fun c_416 => ?_) (fun c_416 => ?_)
                    · skip
                      obtain ⟨x_417, ex_417⟩ : ∃ y : Int32, y = y_309 + 1 := ⟨_, rfl⟩
                      refine lv_iinc (v := x_417) (lv' := [(3, .int x_417), (4, .int y_412), (2, .int y_413), (0, .ref a0), (1, .int x1)]) hx hb dX12_isEnd_129 hl (k := 2) rfl (by rw [ex_417]; rfl) (by decide) rfl (fun ls hl => ?_)
                      refine lv_goto (tgt := 32) hx hb dX12_isEnd_132 (by decide) ?_
                      obtain ⟨f_417, l_417, u_417⟩ := z_add ex_417 rfl ti_1
                      try replace f_417 : x_417.toInt = y_309.toInt + 1 := by omega
                      have g_418 := z_rng y_413
                      exact ih_311 x_417 y_413 _ (by omega) hb_y_413 (by omega) (by omega) (fun h9 => ⟨(iv_415_1 h9).1, h4.s (iv_415_1 h9).2.1 (by omega) (iv_415_1 h9).2.2⟩) (lv_sub hl [0, 2, 3, 4] rfl)
                    · skip
                      refine lv_iload hx hb dX12_isEnd_69 (lv_at hl 0 rfl) ?_
                      refine lv_aload_n hx hb dX12_isEnd_71 rfl (lv_at hl 3 rfl) ?_
                      refine mg_0 C hs hP ha0 hk0 wf_X12_8 dX12_isEnd_72 ?_
                      refine lv_iload_n hx hb dX12_isEnd_75 rfl (lv_at hl 4 rfl) ?_
                      refine lv_bipush (v := 22) hx hb dX12_isEnd_76 (by decide) ?_
                      refine lv_iadd hx hb dX12_isEnd_78 ?_
                      refine lv_topi (fun x_419 ex_419 => ?_)
                      refine lv_iload_n hx hb dX12_isEnd_79 rfl (lv_at hl 2 rfl) ?_
                      refine lv_iadd hx hb dX12_isEnd_80 ?_
                      refine lv_topi (fun x_420 ex_420 => ?_)
                      obtain ⟨f_419, l_419, u_419⟩ := z_add ex_419 rfl ti_22
                      try replace f_419 : x_419.toInt = x1.toInt + 22 := by omega
                      obtain ⟨f_420, l_420, u_420⟩ := z_add ex_420 rfl rfl
                      try replace f_420 : x_420.toInt = x_419.toInt + y_309.toInt := by omega
                      have hi_hr_421 : x_420.toInt = x1.toInt + (y_309.toInt + 22) := by omega
                      have hr_421 := z_cell (lo := 22) (hi := 25) hp0 hi_hr_421 (by omega) (by decide)
                      have hin_422 : vp_in x_420 (zn K (zr K a0 0)) := vp_in_iff.mpr (by rw [(hf_1.2.2 (by decide))]; exact hr_421.in)
                      refine mld_40 C hs hP hf_1.1 hf_1.2.1 hin_422 dX12_isEnd_81 ?_
                      have ep_423 : x_420.toNatClampNeg = (x1.toInt + y_309.toInt + 22).toNat := z_pos (hi_hr_421.trans (by omega))
                      rw [ep_423]
                      refine bi_ge (tgt := 129) hx hb rfl rfl dX12_isEnd_82 (by decide) (fun c_424 => ?_) (fun c_424 => ?_)
                      · skip
                        obtain ⟨x_425, ex_425⟩ : ∃ y : Int32, y = y_309 + 1 := ⟨_, rfl⟩
                        refine lv_iinc (v := x_425) (lv' := [(3, .int x_425), (4, .int y_412), (2, .int y_413), (0, .ref a0), (1, .int x1)]) hx hb dX12_isEnd_129 hl (k := 2) rfl (by rw [ex_425]; rfl) (by decide) rfl (fun ls hl => ?_)
                        refine lv_goto (tgt := 32) hx hb dX12_isEnd_132 (by decide) ?_
                        obtain ⟨f_425, l_425, u_425⟩ := z_add ex_425 rfl ti_1
                        try replace f_425 : x_425.toInt = y_309.toInt + 1 := by omega
                        have g_426 := z_rng y_413
                        have g_427 := z_rng (A 40 (x1.toInt + y_309.toInt + 22).toNat)
                        have g_428 := z_rng y_412
                        exact ih_311 x_425 y_413 _ (by omega) hb_y_413 (by omega) (by omega) (fun h9 => ⟨(iv_415_1 h9).1, h4.s (iv_415_1 h9).2.1 (by omega) (iv_415_1 h9).2.2⟩) (lv_sub hl [0, 2, 3, 4] rfl)
                      · skip
                        refine lv_aload_n hx hb dX12_isEnd_85 rfl (lv_at hl 3 rfl) ?_
                        refine mg_0 C hs hP ha0 hk0 wf_X12_8 dX12_isEnd_86 ?_
                        refine lv_iload_n hx hb dX12_isEnd_89 rfl (lv_at hl 4 rfl) ?_
                        refine lv_bipush (v := 50) hx hb dX12_isEnd_90 (by decide) ?_
                        refine lv_iadd hx hb dX12_isEnd_92 ?_
                        refine lv_topi (fun x_429 ex_429 => ?_)
                        refine lv_aload_n hx hb dX12_isEnd_93 rfl (lv_at hl 3 rfl) ?_
                        refine mg_0 C hs hP ha0 hk0 wf_X12_8 dX12_isEnd_94 ?_
                        refine lv_iload_n hx hb dX12_isEnd_97 rfl (lv_at hl 4 rfl) ?_
                        refine lv_sipush (v := 230) hx hb dX12_isEnd_98 (by decide) ?_
                        refine lv_iadd hx hb dX12_isEnd_101 ?_
                        refine lv_topi (fun x_430 ex_430 => ?_)
                        refine lv_bipush (v := 60) hx hb dX12_isEnd_102 (by decide) ?_
                        refine lv_iload_n hx hb dX12_isEnd_104 rfl (lv_at hl 2 rfl) ?_
                        refine lv_imul hx hb dX12_isEnd_105 ?_
                        refine lv_topi (fun x_431 ex_431 => ?_)
                        refine lv_iadd hx hb dX12_isEnd_106 ?_
                        refine lv_topi (fun x_432 ex_432 => ?_)
                        refine lv_iload hx hb dX12_isEnd_107 (lv_at hl 0 rfl) ?_
                        refine lv_iadd hx hb dX12_isEnd_109 ?_
                        refine lv_topi (fun x_433 ex_433 => ?_)
                        obtain ⟨f_430, l_430, u_430⟩ := z_add ex_430 rfl ti_230
                        try replace f_430 : x_430.toInt = x1.toInt + 230 := by omega
                        obtain ⟨f_431, l_431, u_431⟩ := z_mul ex_431 ti_60 rfl
                        try replace f_431 : x_431.toInt = 60 * y_309.toInt := by omega
                        obtain ⟨f_432, l_432, u_432⟩ := z_add ex_432 rfl rfl
                        try replace f_432 : x_432.toInt = x_430.toInt + x_431.toInt := by omega
                        have g_434 := z_rng y_412
                        obtain ⟨f_433, l_433, u_433⟩ := z_add ex_433 rfl rfl
                        try replace f_433 : x_433.toInt = x_432.toInt + y_412.toInt := by omega
                        have hi_hr_435 : x_433.toInt = x1.toInt + (60 * y_309.toInt + y_412.toInt + 230) := by omega
                        have hr_435 := z_cell (lo := 170) (hi := 469) hp0 hi_hr_435 (by omega) (by decide)
                        have hin_436 : vp_in x_433 (zn K (zr K a0 0)) := vp_in_iff.mpr (by rw [(hf_1.2.2 (by decide))]; exact hr_435.in)
                        refine mld_40 C hs hP hf_1.1 hf_1.2.1 hin_436 dX12_isEnd_110 ?_
                        have ep_437 : x_433.toNatClampNeg = (x1.toInt + 60 * y_309.toInt + y_412.toInt + 230).toNat := z_pos (hi_hr_435.trans (by omega))
                        rw [ep_437]
                        have tv_438 := rv_170 hT hr_435
                        rw [ep_437] at tv_438
                        refine lv_iadd hx hb dX12_isEnd_111 ?_
                        refine lv_topi (fun x_439 ex_439 => ?_)
                        obtain ⟨f_429, l_429, u_429⟩ := z_add ex_429 rfl ti_50
                        try replace f_429 : x_429.toInt = x1.toInt + 50 := by omega
                        have g_440 := z_rng (A 40 (x1.toInt + 60 * y_309.toInt + y_412.toInt + 230).toNat)
                        obtain ⟨f_439, l_439, u_439⟩ := z_add ex_439 rfl rfl
                        try replace f_439 : x_439.toInt = x_429.toInt + (A 40 (x1.toInt + 60 * y_309.toInt + y_412.toInt + 230).toNat).toInt := by omega
                        have hi_hr_441 : x_439.toInt = x1.toInt + ((A 40 (x1.toInt + 60 * y_309.toInt + y_412.toInt + 230).toNat).toInt + 50) := by omega
                        have hr_441 := z_cell (lo := 45) (hi := 169) hp0 hi_hr_441 (by omega) (by decide)
                        have hin_442 : vp_in x_439 (zn K (zr K a0 0)) := vp_in_iff.mpr (by rw [(hf_1.2.2 (by decide))]; exact hr_441.in)
                        refine mld_40 C hs hP hf_1.1 hf_1.2.1 hin_442 dX12_isEnd_112 ?_
                        have ep_443 : x_439.toNatClampNeg = ((A 40 (x1.toInt + 60 * y_309.toInt + y_412.toInt + 230).toNat).toInt + x1.toInt + 50).toNat := z_pos (hi_hr_441.trans (by omega))
                        rw [ep_443]
                        refine lv_iconst (v := 3) hx hb dX12_isEnd_113 (by decide) ?_
                        refine bi_eq (tgt := 121) hx hb rfl ti_3 dX12_isEnd_114 (by decide) (fun c_444 => ?_) (fun c_444 => ?_)
                        · skip
                          refine lv_iconst (v := 0) hx hb dX12_isEnd_121 (by decide) ?_
                          refine lv_istore_n (lv' := [(2, .int 0), (4, .int y_412), (3, .int y_309), (0, .ref a0), (1, .int x1)]) hx hb dX12_isEnd_122 rfl hl (by decide) rfl (fun ls hl => ?_)
                          obtain ⟨x_445, ex_445⟩ : ∃ y : Int32, y = y_412 + 1 := ⟨_, rfl⟩
                          refine lv_iinc (v := x_445) (lv' := [(4, .int x_445), (2, .int 0), (3, .int y_309), (0, .ref a0), (1, .int x1)]) hx hb dX12_isEnd_123 hl (k := 1) rfl (by rw [ex_445]; rfl) (by decide) rfl (fun ls hl => ?_)
                          refine lv_goto (tgt := 65) hx hb dX12_isEnd_126 (by decide) ?_
                          obtain ⟨f_445, l_445, u_445⟩ := z_add ex_445 rfl ti_1
                          try replace f_445 : x_445.toInt = y_412.toInt + 1 := by omega
                          have g_446 := z_rng (A 40 ((A 40 (x1.toInt + 60 * y_309.toInt + y_412.toInt + 230).toNat).toInt + x1.toInt + 50).toNat)
                          have g_447 := z_rng (A 40 (x1.toInt + y_309.toInt + 22).toNat)
                          have g_448 := z_rng y_413
                          exact ih_414 x_445 0 _ (by omega) (Or.inl rfl) (by (try simp only [ti_0]); omega) (fun h9 => by rw [ti_0] at h9; omega) (lv_sub hl [0, 1, 2, 3, 4] rfl)
                        · skip
                          refine lv_iconst (v := 1) hx hb dX12_isEnd_117 (by decide) ?_
                          refine lv_goto (tgt := 122) hx hb dX12_isEnd_118 (by decide) ?_
                          refine lv_istore_n (lv' := [(2, .int 1), (4, .int y_412), (3, .int y_309), (0, .ref a0), (1, .int x1)]) hx hb dX12_isEnd_122 rfl hl (by decide) rfl (fun ls hl => ?_)
                          obtain ⟨x_449, ex_449⟩ : ∃ y : Int32, y = y_412 + 1 := ⟨_, rfl⟩
                          refine lv_iinc (v := x_449) (lv' := [(4, .int x_449), (2, .int 1), (3, .int y_309), (0, .ref a0), (1, .int x1)]) hx hb dX12_isEnd_123 hl (k := 1) rfl (by rw [ex_449]; rfl) (by decide) rfl (fun ls hl => ?_)
                          refine lv_goto (tgt := 65) hx hb dX12_isEnd_126 (by decide) ?_
                          obtain ⟨f_449, l_449, u_449⟩ := z_add ex_449 rfl ti_1
                          try replace f_449 : x_449.toInt = y_412.toInt + 1 := by omega
                          have g_450 := z_rng (A 40 ((A 40 (x1.toInt + 60 * y_309.toInt + y_412.toInt + 230).toNat).toInt + x1.toInt + 50).toNat)
                          have g_451 := z_rng (A 40 (x1.toInt + y_309.toInt + 22).toNat)
                          have g_452 := z_rng y_413
                          exact ih_414 x_449 1 _ (by omega) (Or.inr rfl) (by (try simp only [ti_1]); omega) (fun _ => iv_415_1 c_416) (lv_sub hl [0, 1, 2, 3, 4] rfl)
                have g_453 := z_rng (A 40 (x1.toInt + y_309.toInt + 22).toNat)
                have g_454 := z_rng y_310
                exact L_65_414 _ 0 1 _ (Nat.lt_succ_self _) (Or.inr rfl) (by (try simp only [ti_0, ti_1]); omega) (fun _ => ⟨(iv_312_2 c_314).1, (iv_312_2 c_314).2, by omega⟩) (lv_sub hl [0, 1, 2, 3, 4] rfl)
      have g_455 := z_rng (A 40 (x1.toInt + 26).toNat)
      have g_456 := z_rng (A 40 (x1.toInt + 5).toNat)
      exact L_32_311 _ 0 1 _ (Nat.lt_succ_self _) (Or.inr rfl) (by (try simp only [ti_0, ti_1]); omega) (by rw [ti_0]; omega) (fun h9 => ⟨by omega, h4.z (by rw [ti_0]; decide)⟩) (lv_sub hl [0, 1, 2, 3] rfl)
