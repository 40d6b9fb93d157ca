set_option maxHeartbeats 4000000 in
set_option maxRecDepth 100000 in
theorem c_X12_greatest (l : Launch) (D : va_G) (K : zK) (hM : mK K) (f : Nat → Int32) (A : Nat → Nat → Int32) (hT : mT f A) (a0 : Nat) (ha0 : a0 ∈ zl K) (hk0 : zk K a0 = 11) (x1 : Int32) (x2 : Int32) (x3 : Int32) (hp0 : 0 ≤ x1.toInt ∧ x1.toInt ≤ 46440 ∧ x1.toInt % 1290 = 0) : Met l yX12_greatest (zc yX12_greatest cX12_greatest 7 (some .int)) (rmd 1) (va_Pc [.ref a0, .int x1, .int x2, .int x3] (zB D K (mV K f A))) (vp_Si (fun r => (r.toInt = -1 ∨ 0 ≤ r.toInt ∧ r.toInt < (f 16).toInt) ∧ (1 ≤ (f 16).toInt → (mcol (A 40) x1 (A 55 0)).toInt = x2.toInt → r.toInt ≠ -1))) 0 0 (fun _ => False) := by
  refine zin (by decide) (Nat.le_of_ble_eq_true rfl) ?_
  intro p e s m args below meth c ls Q hQ C hr hlk hP hs hl
  have C : CallFix p m c cX12_greatest 7 s args zw RX12 := C
  obtain ⟨hx, hb, hml, hown, hts⟩ := id C
  have hO := hM.1
  have hS : va_S (zA K) s.heap s.heap [] := va_S.rf
  have hl : lv_has ls 7 [(0, .ref a0), (1, .int x1), (2, .int x2), (3, .int x3)] := hl
  refine lv_iconst (v := (-1)) hx hb dX12_greatest_0 (by decide) ?_
  refine lv_istore (lv' := [(4, .int (-1)), (0, .ref a0), (1, .int x1), (2, .int x2), (3, .int x3)]) hx hb dX12_greatest_1 hl (by decide) rfl (fun ls hl => ?_)
  refine lv_iconst (v := 0) hx hb dX12_greatest_3 (by decide) ?_
  refine lv_istore (lv' := [(5, .int 0), (4, .int (-1)), (0, .ref a0), (1, .int x1), (2, .int x2), (3, .int x3)]) hx hb dX12_greatest_4 hl (by decide) rfl (fun ls hl => ?_)
  have L_6_3 : ∀ (n_3 : Nat) (y_1 : Int32) (y_2 : Int32) (ls : Array Slot), (2147483648 - y_1.toInt).toNat < n_3 → 0 ≤ y_1.toInt → (y_2.toInt = -1 ∨ 0 ≤ y_2.toInt ∧ y_2.toInt < (f 16).toInt) → (1 ≤ y_1.toInt → (mcol (A 40) x1 (A 55 0)).toInt = x2.toInt → y_2.toInt ≠ -1) → lv_has ls 7 [(5, .int y_1), (4, .int y_2), (0, .ref a0), (1, .int x1), (2, .int x2), (3, .int x3)] → W p l e (rmd 1) s m args below meth c s.heap [] 0 0 Q (F0 m 6 ls []) := by
    intro n_3
    induction n_3 with
    | zero => intro y_1 y_2 ls hm_3; exact absurd hm_3 (Nat.not_lt_zero _)
    | succ n_3 ih_3 =>
      intro y_1 y_2 ls hm_3 iv_4_0 iv_4_1 iv_4_2 hl
      refine lv_iload hx hb dX12_greatest_6 (lv_at hl 0 rfl) ?_
      refine lv_aload_n hx hb dX12_greatest_8 rfl (lv_at hl 2 rfl) ?_
      refine mg_16 C hs hP ha0 hk0 wf_X12_127 dX12_greatest_9 ?_
      have tf_5 : 0 ≤ (f 16).toInt ∧ (f 16).toInt ≤ 4 := hT.1 16
      refine bi_ge (tgt := 78) hx hb rfl rfl dX12_greatest_12 (by decide) (fun c_6 => ?_) (fun c_6 => ?_)
      · skip
        refine lv_iload hx hb dX12_greatest_78 (lv_at hl 1 rfl) ?_
        have g_7 := z_rng y_2
        exact zaS hQ hx hb hr hlk (by first | omega | (intro h9; omega) | (simp; done) | (refine ⟨?_, ?_⟩ <;> intros <;> omega) | (refine ⟨?_, ?_, ?_⟩ <;> intros <;> omega)) dX12_greatest_80
      · skip
        refine lv_aload_n hx hb dX12_greatest_15 rfl (lv_at hl 2 rfl) ?_
        refine lv_iload_n hx hb dX12_greatest_16 rfl (lv_at hl 3 rfl) ?_
        refine lv_aload_n hx hb dX12_greatest_17 rfl (lv_at hl 2 rfl) ?_
        refine mg_15 C hs hP ha0 hk0 wf_X12_39 dX12_greatest_18 ?_
        have hf_8 := hO.r (j := 15) ha0 hk0 (rfl : zX 11 15 = some (55, 4))
        refine lv_iload hx hb dX12_greatest_21 (lv_at hl 0 rfl) ?_
        have g_10 := z_rng y_1
        have hin_9 : vp_in y_1 (zn K (zr K a0 15)) := vp_in_iff.mpr (by rw [(hf_8.2.2 (by decide))]; refine ⟨?_, ?_⟩ <;> omega)
        refine mld_55 C hs hP hf_8.1 hf_8.2.1 hin_9 dX12_greatest_23 ?_
        have tv_11 := ra_55 hT (vp_in_iff.mp hin_9).1 (by have h7 := (vp_in_iff.mp hin_9).2; rw [(hf_8.2.2 (by decide))] at h7; exact h7)
        have g_12 := z_rng x1
        have g_13 := z_rng (A 55 y_1.toNatClampNeg)
        have hq_14 : 0 ≤ x1.toInt ∧ x1.toInt ≤ 46440 ∧ x1.toInt % 1290 = 0 := by first | assumption | omega | (intros; omega)
        have hq_15 : 0 ≤ (A 55 y_1.toNatClampNeg).toInt ∧ (A 55 y_1.toNatClampNeg).toInt ≤ 59 := by first | assumption | omega | (intros; omega)
        refine zcS (zrV (As := [.int x1, .int (A 55 y_1.toNatClampNeg)]) (b := a0) (rest := []) C hs hP hS (c_X12_colour l D K hM f A hT a0 ha0 hk0 x1 (A 55 y_1.toNatClampNeg) hq_14 hq_15) m_X12_colour wm_X12_120 (zrecv hs hP ha0 (zF_11 hk0) rfl) ⟨by decide, by decide⟩ hl.1 (Nat.le_of_ble_eq_true rfl) dX12_greatest_24) (fun x_16 p_16 => ?_)
        have pp_16 : x_16 = mcol (A 40) x1 (A 55 y_1.toNatClampNeg) := p_16
        have pq_16 := congrArg Int32.toInt pp_16
        have hz_16 : y_1.toInt = 0 → x_16.toInt = (mcol (A 40) x1 (A 55 0)).toInt := fun h9 => by rw [pp_16, show y_1.toNatClampNeg = 0 from by show y_1.toInt.toNat = 0; omega]
        refine lv_istore (lv' := [(6, .int x_16), (5, .int y_1), (4, .int y_2), (0, .ref a0), (1, .int x1), (2, .int x2), (3, .int x3)]) hx hb dX12_greatest_27 hl (by decide) rfl (fun ls hl => ?_)
        refine lv_iload hx hb dX12_greatest_29 (lv_at hl 0 rfl) ?_
        refine lv_iload_n hx hb dX12_greatest_31 rfl (lv_at hl 5 rfl) ?_
        refine bi_eq (tgt := 41) hx hb rfl rfl dX12_greatest_32 (by decide) (fun c_17 => ?_) (fun c_17 => ?_)
        · skip
          refine lv_iload hx hb dX12_greatest_41 (lv_at hl 2 rfl) ?_
          refine lv_iconst (v := (-1)) hx hb dX12_greatest_43 (by decide) ?_
          refine bi_eq (tgt := 68) hx hb rfl ti_m1 dX12_greatest_44 (by decide) (fun c_18 => ?_) (fun c_18 => ?_)
          · skip
            refine lv_iload hx hb dX12_greatest_68 (lv_at hl 1 rfl) ?_
            refine lv_istore (lv' := [(4, .int y_1), (6, .int x_16), (5, .int y_1), (0, .ref a0), (1, .int x1), (2, .int x2), (3, .int x3)]) hx hb dX12_greatest_70 hl (by decide) rfl (fun ls hl => ?_)
            obtain ⟨x_19, ex_19⟩ : ∃ y : Int32, y = y_1 + 1 := ⟨_, rfl⟩
            refine lv_iinc (v := x_19) (lv' := [(5, .int x_19), (4, .int y_1), (6, .int x_16), (0, .ref a0), (1, .int x1), (2, .int x2), (3, .int x3)]) hx hb dX12_greatest_72 hl (k := 2) rfl (by rw [ex_19]; rfl) (by decide) rfl (fun ls hl => ?_)
            refine lv_goto (tgt := 6) hx hb dX12_greatest_75 (by decide) ?_
            obtain ⟨f_19, l_19, u_19⟩ := z_add ex_19 rfl ti_1
            try replace f_19 : x_19.toInt = y_1.toInt + 1 := by omega
            have g_20 := z_rng x2
            have g_21 := z_rng x_16
            have g_22 := z_rng (f 16)
            have g_23 := z_rng y_2
            exact ih_3 x_19 y_1 _ (by omega) (by omega) (by omega) (by omega) (lv_sub hl [0, 1, 3, 4, 5, 6] rfl)
          · skip
            refine lv_aload_n hx hb dX12_greatest_47 rfl (lv_at hl 3 rfl) ?_
            refine mg_15 C hs hP ha0 hk0 wf_X12_39 dX12_greatest_48 ?_
            refine lv_iload hx hb dX12_greatest_51 (lv_at hl 1 rfl) ?_
            have hin_24 : vp_in y_1 (zn K (zr K a0 15)) := vp_in_iff.mpr (by rw [(hf_8.2.2 (by decide))]; refine ⟨?_, ?_⟩ <;> omega)
            refine mld_55 C hs hP hf_8.1 hf_8.2.1 hin_24 dX12_greatest_53 ?_
            refine lv_iconst (v := 4) hx hb dX12_greatest_54 (by decide) ?_
            refine lv_idiv hx hb dX12_greatest_55 (by decide) ?_
            refine lv_topi (fun x_25 ex_25 => ?_)
            refine lv_aload_n hx hb dX12_greatest_56 rfl (lv_at hl 3 rfl) ?_
            refine mg_15 C hs hP ha0 hk0 wf_X12_39 dX12_greatest_57 ?_
            refine lv_iload hx hb dX12_greatest_60 (lv_at hl 2 rfl) ?_
            have g_27 := z_rng y_2
            have hin_26 : vp_in y_2 (zn K (zr K a0 15)) := vp_in_iff.mpr (by rw [(hf_8.2.2 (by decide))]; refine ⟨?_, ?_⟩ <;> omega)
            refine mld_55 C hs hP hf_8.1 hf_8.2.1 hin_26 dX12_greatest_62 ?_
            have tv_28 := ra_55 hT (vp_in_iff.mp hin_26).1 (by have h7 := (vp_in_iff.mp hin_26).2; rw [(hf_8.2.2 (by decide))] at h7; exact h7)
            refine lv_iconst (v := 4) hx hb dX12_greatest_63 (by decide) ?_
            refine lv_idiv hx hb dX12_greatest_64 (by decide) ?_
            refine lv_topi (fun x_29 ex_29 => ?_)
            refine bi_le (tgt := 72) hx hb rfl rfl dX12_greatest_65 (by decide) (fun c_30 => ?_) (fun c_30 => ?_)
            · skip
              obtain ⟨x_31, ex_31⟩ : ∃ y : Int32, y = y_1 + 1 := ⟨_, rfl⟩
              refine lv_iinc (v := x_31) (lv' := [(5, .int x_31), (6, .int x_16), (4, .int y_2), (0, .ref a0), (1, .int x1), (2, .int x2), (3, .int x3)]) hx hb dX12_greatest_72 hl (k := 1) rfl (by rw [ex_31]; rfl) (by decide) rfl (fun ls hl => ?_)
              refine lv_goto (tgt := 6) hx hb dX12_greatest_75 (by decide) ?_
              obtain ⟨f_31, l_31, u_31⟩ := z_add ex_31 rfl ti_1
              try replace f_31 : x_31.toInt = y_1.toInt + 1 := by omega
              have g_32 := z_rng x_29
              have g_33 := z_rng (A 55 y_2.toNatClampNeg)
              have f_d29 := z_div ex_29 rfl ti_4 (by omega) (by decide)
              have g_34 := z_rng x2
              have g_35 := z_rng x_16
              have g_36 := z_rng x_25
              have f_d25 := z_div ex_25 rfl ti_4 (by omega) (by decide)
              have g_37 := z_rng (f 16)
              exact ih_3 x_31 y_2 _ (by omega) (by omega) (by omega) (by omega) (lv_sub hl [0, 2, 3, 4, 5, 6] rfl)
            · skip
              refine lv_iload hx hb dX12_greatest_68 (lv_at hl 1 rfl) ?_
              refine lv_istore (lv' := [(4, .int y_1), (6, .int x_16), (5, .int y_1), (0, .ref a0), (1, .int x1), (2, .int x2), (3, .int x3)]) hx hb dX12_greatest_70 hl (by decide) rfl (fun ls hl => ?_)
              obtain ⟨x_38, ex_38⟩ : ∃ y : Int32, y = y_1 + 1 := ⟨_, rfl⟩
              refine lv_iinc (v := x_38) (lv' := [(5, .int x_38), (4, .int y_1), (6, .int x_16), (0, .ref a0), (1, .int x1), (2, .int x2), (3, .int x3)]) hx hb dX12_greatest_72 hl (k := 2) rfl (by rw [ex_38]; rfl) (by decide) rfl (fun ls hl => ?_)
              refine lv_goto (tgt := 6) hx hb dX12_greatest_75 (by decide) ?_
              obtain ⟨f_38, l_38, u_38⟩ := z_add ex_38 rfl ti_1
              try replace f_38 : x_38.toInt = y_1.toInt + 1 := by omega
              have g_39 := z_rng x_29
              have g_40 := z_rng (A 55 y_2.toNatClampNeg)
              have f_d29 := z_div ex_29 rfl ti_4 (by omega) (by decide)
              have g_41 := z_rng x2
              have g_42 := z_rng x_16
              have g_43 := z_rng x_25
              have f_d25 := z_div ex_25 rfl ti_4 (by omega) (by decide)
              have g_44 := z_rng (f 16)
              exact ih_3 x_38 y_1 _ (by omega) (by omega) (by omega) (by omega) (lv_sub hl [0, 1, 3, 4, 5, 6] rfl)
        · skip
          refine lv_iload hx hb dX12_greatest_35 (lv_at hl 0 rfl) ?_
          refine lv_iload_n hx hb dX12_greatest_37 rfl (lv_at hl 6 rfl) ?_
          refine bi_ne (tgt := 72) hx hb rfl rfl dX12_greatest_38 (by decide) (fun c_45 => ?_) (fun c_45 => ?_)
          · skip
            obtain ⟨x_46, ex_46⟩ : ∃ y : Int32, y = y_1 + 1 := ⟨_, rfl⟩
            refine lv_iinc (v := x_46) (lv' := [(5, .int x_46), (6, .int x_16), (4, .int y_2), (0, .ref a0), (1, .int x1), (2, .int x2), (3, .int x3)]) hx hb dX12_greatest_72 hl (k := 1) rfl (by rw [ex_46]; rfl) (by decide) rfl (fun ls hl => ?_)
            refine lv_goto (tgt := 6) hx hb dX12_greatest_75 (by decide) ?_
            obtain ⟨f_46, l_46, u_46⟩ := z_add ex_46 rfl ti_1
            try replace f_46 : x_46.toInt = y_1.toInt + 1 := by omega
            have g_47 := z_rng y_2
            have g_48 := z_rng x3
            have g_49 := z_rng x2
            have g_50 := z_rng x_16
            have g_51 := z_rng (f 16)
            exact ih_3 x_46 y_2 _ (by omega) (by omega) (by omega) (by omega) (lv_sub hl [0, 2, 3, 4, 5, 6] rfl)
          · skip
            refine lv_iload hx hb dX12_greatest_41 (lv_at hl 2 rfl) ?_
            refine lv_iconst (v := (-1)) hx hb dX12_greatest_43 (by decide) ?_
            refine bi_eq (tgt := 68) hx hb rfl ti_m1 dX12_greatest_44 (by decide) (fun c_52 => ?_) (fun c_52 => ?_)
            · skip
              refine lv_iload hx hb dX12_greatest_68 (lv_at hl 1 rfl) ?_
              refine lv_istore (lv' := [(4, .int y_1), (6, .int x_16), (5, .int y_1), (0, .ref a0), (1, .int x1), (2, .int x2), (3, .int x3)]) hx hb dX12_greatest_70 hl (by decide) rfl (fun ls hl => ?_)
              obtain ⟨x_53, ex_53⟩ : ∃ y : Int32, y = y_1 + 1 := ⟨_, rfl⟩
              refine lv_iinc (v := x_53) (lv' := [(5, .int x_53), (4, .int y_1), (6, .int x_16), (0, .ref a0), (1, .int x1), (2, .int x2), (3, .int x3)]) hx hb dX12_greatest_72 hl (k := 2) rfl (by rw [ex_53]; rfl) (by decide) rfl (fun ls hl => ?_)
              refine lv_goto (tgt := 6) hx hb dX12_greatest_75 (by decide) ?_
              obtain ⟨f_53, l_53, u_53⟩ := z_add ex_53 rfl ti_1
              try replace f_53 : x_53.toInt = y_1.toInt + 1 := by omega
              have g_54 := z_rng x3
              have g_55 := z_rng x2
              have g_56 := z_rng x_16
              have g_57 := z_rng (f 16)
              have g_58 := z_rng y_2
              exact ih_3 x_53 y_1 _ (by omega) (by omega) (by omega) (by omega) (lv_sub hl [0, 1, 3, 4, 5, 6] rfl)
            · skip
              refine lv_aload_n hx hb dX12_greatest_47 rfl (lv_at hl 3 rfl) ?_
              refine mg_15 C hs hP ha0 hk0 wf_X12_39 dX12_greatest_48 ?_
              refine lv_iload hx hb dX12_greatest_51 (lv_at hl 1 rfl) ?_
              have hin_59 : vp_in y_1 (zn K (zr K a0 15)) := vp_in_iff.mpr (by rw [(hf_8.2.2 (by decide))]; refine ⟨?_, ?_⟩ <;> omega)
              refine mld_55 C hs hP hf_8.1 hf_8.2.1 hin_59 dX12_greatest_53 ?_
              refine lv_iconst (v := 4) hx hb dX12_greatest_54 (by decide) ?_
              refine lv_idiv hx hb dX12_greatest_55 (by decide) ?_
              refine lv_topi (fun x_60 ex_60 => ?_)
              refine lv_aload_n hx hb dX12_greatest_56 rfl (lv_at hl 3 rfl) ?_
              refine mg_15 C hs hP ha0 hk0 wf_X12_39 dX12_greatest_57 ?_
              refine lv_iload hx hb dX12_greatest_60 (lv_at hl 2 rfl) ?_
              have g_62 := z_rng y_2
              have hin_61 : vp_in y_2 (zn K (zr K a0 15)) := vp_in_iff.mpr (by rw [(hf_8.2.2 (by decide))]; refine ⟨?_, ?_⟩ <;> omega)
              refine mld_55 C hs hP hf_8.1 hf_8.2.1 hin_61 dX12_greatest_62 ?_
              have tv_63 := ra_55 hT (vp_in_iff.mp hin_61).1 (by have h7 := (vp_in_iff.mp hin_61).2; rw [(hf_8.2.2 (by decide))] at h7; exact h7)
              refine lv_iconst (v := 4) hx hb dX12_greatest_63 (by decide) ?_
              refine lv_idiv hx hb dX12_greatest_64 (by decide) ?_
              refine lv_topi (fun x_64 ex_64 => ?_)
              refine bi_le (tgt := 72) hx hb rfl rfl dX12_greatest_65 (by decide) (fun c_65 => ?_) (fun c_65 => ?_)
              · skip
                obtain ⟨x_66, ex_66⟩ : ∃ y : Int32, y = y_1 + 1 := ⟨_, rfl⟩
                refine lv_iinc (v := x_66) (lv' := [(5, .int x_66), (6, .int x_16), (4, .int y_2), (0, .ref a0), (1, .int x1), (2, .int x2), (3, .int x3)]) hx hb dX12_greatest_72 hl (k := 1) rfl (by rw [ex_66]; rfl) (by decide) rfl (fun ls hl => ?_)
                refine lv_goto (tgt := 6) hx hb dX12_greatest_75 (by decide) ?_
                obtain ⟨f_66, l_66, u_66⟩ := z_add ex_66 rfl ti_1
                try replace f_66 : x_66.toInt = y_1.toInt + 1 := by omega
                have g_67 := z_rng x3
                have g_68 := z_rng x_60
                have f_d60 := z_div ex_60 rfl ti_4 (by omega) (by decide)
                have g_69 := z_rng x2
                have g_70 := z_rng x_16
                have g_71 := z_rng (f 16)
                have g_72 := z_rng x_64
                have g_73 := z_rng (A 55 y_2.toNatClampNeg)
                have f_d64 := z_div ex_64 rfl ti_4 (by omega) (by decide)
                exact ih_3 x_66 y_2 _ (by omega) (by omega) (by omega) (by omega) (lv_sub hl [0, 2, 3, 4, 5, 6] rfl)
              · skip
                refine lv_iload hx hb dX12_greatest_68 (lv_at hl 1 rfl) ?_
                refine lv_istore (lv' := [(4, .int y_1), (6, .int x_16), (5, .int y_1), (0, .ref a0), (1, .int x1), (2, .int x2), (3, .int x3)]) hx hb dX12_greatest_70 hl (by decide) rfl (fun ls hl => ?_)
                obtain ⟨x_74, ex_74⟩ : ∃ y : Int32, y = y_1 + 1 := ⟨_, rfl⟩
                refine lv_iinc (v := x_74) (lv' := [(5, .int x_74), (4, .int y_1), (6, .int x_16), (0, .ref a0), (1, .int x1), (2, .int x2), (3, .int x3)]) hx hb dX12_greatest_72 hl (k := 2) rfl (by rw [ex_74]; rfl) (by decide) rfl (fun ls hl => ?_)
                refine lv_goto (tgt := 6) hx hb dX12_greatest_75 (by decide) ?_
                obtain ⟨f_74, l_74, u_74⟩ := z_add ex_74 rfl ti_1
                try replace f_74 : x_74.toInt = y_1.toInt + 1 := by omega
                have g_75 := z_rng x3
                have g_76 := z_rng x_60
                have f_d60 := z_div ex_60 rfl ti_4 (by omega) (by decide)
                have g_77 := z_rng x2
                have g_78 := z_rng x_16
                have g_79 := z_rng (f 16)
                have g_80 := z_rng x_64
                have g_81 := z_rng (A 55 y_2.toNatClampNeg)
                have f_d64 := z_div ex_64 rfl ti_4 (by omega) (by decide)
                exact ih_3 x_74 y_1 _ (by omega) (by omega) (by omega) (by omega) (lv_sub hl [0, 1, 3, 4, 5, 6] rfl)
  exact L_6_3 _ 0 (-1) _ (Nat.lt_succ_self _) (by (try simp only [ti_0, ti_m1]); omega) (by rw [ti_m1]; omega) (by rw [ti_0]; omega) (lv_sub hl [0, 1, 2, 3, 4, 5] rfl)
set_option maxHeartbeats 4000000 in
set_option maxRecDepth 100000 in
theorem c_X12_winsPlainly (l : Launch) (D : va_G) (K : zK) (hM : mK K) (f : Nat → Int32) (A : Nat → Nat → Int32) (hT : mT f A) (a0 : Nat) (ha0 : a0 ∈ zl K) (hk0 : zk K a0 = 11) (x1 : Int32) (hp0 : 0 ≤ x1.toInt ∧ x1.toInt ≤ 46440 ∧ x1.toInt % 1290 = 0) (hp1 : 1 ≤ (f 16).toInt) (hp2 : (f 11).toInt ≤ 1990000000) : Met l yX12_winsPlainly (zc yX12_winsPlainly cX12_winsPlainly 4 (some .int)) (rmd 2) (va_Pc [.ref a0, .int x1] (zB D K (mV K f A))) (mQi D K (fun r f' A' => mT f' A' ∧ (∀ k, k ∉ ([50] : List Nat) → A' k = A k) ∧ (∀ k, k ∉ ([11] : List Nat) → f' k = f k) ∧ (f 11).toInt ≤ (f' 11).toInt ∧ (f' 11).toInt ≤ (f 11).toInt + 1 ∧ ((f 12).toInt ≠ 0 → (f' 11).toInt = (f 11).toInt) ∧ 0 ≤ r.toInt ∧ r.toInt < (f 16).toInt)) 0 0 (zA K) := by
  refine zin (by decide) (Nat.le_of_ble_eq_true rfl) ?_
  intro p e s m args below meth c ls Q hQ C hr hlk hP hs hl
  have C : CallFix p m c cX12_winsPlainly 4 s args zw RX12 := C
  obtain ⟨hx, hb, hml, hown, hts⟩ := id C
  have hO := hM.1
  have hS : va_S (zA K) s.heap s.heap [] := va_S.rf
  have FA : ∀ k, k ∉ ([50] : List Nat) → A k = A k := fun _ _ => rfl
  have FF : ∀ k, k ∉ ([11] : List Nat) → f k = f k := fun _ _ => rfl
  have hl : lv_has ls 4 [(0, .ref a0), (1, .int x1)] := hl
  refine lv_aload_n hx hb dX12_winsPlainly_0 rfl (lv_at hl 0 rfl) ?_
  refine lv_bipush (v := 31) hx hb dX12_winsPlainly_1 (by decide) ?_
  have hq_1 : (f 11).toInt ≤ 2000000000 := by (try simp only [ti_31]); first | assumption | omega | (intros; omega)
  refine mcV (zrV (As := [.int 31]) (b := a0) (rest := []) C hs hP hS (c_X12_body l D K hM f A hT a0 ha0 hk0 31 hq_1) m_X12_body wm_X12_124 (zrecv hs hP ha0 (zF_11 hk0) rfl) ⟨by decide, by decide⟩ hl.1 (Nat.le_of_ble_eq_true rfl) dX12_winsPlainly_3) hS (fun f_2 A_2 H locs p_2 hP hS => ?_)
  obtain ⟨hT, hA_2, hF_2, pp_2⟩ := p_2
  have pp_2 : (f 11).toInt ≤ (f_2 11).toInt ∧ (f_2 11).toInt ≤ (f 11).toInt + 1 ∧ ((f 12).toInt ≠ 0 → (f_2 11).toInt = (f 11).toInt) := pp_2
  try simp only [ti_31] at pp_2
  have FA := frA FA hA_2 (by decide)
  have FF := frF FF hF_2 (by decide)
  refine lv_iconst (v := 0) hx hb dX12_winsPlainly_6 (by decide) ?_
  refine lv_istore_n (lv' := [(2, .int 0), (0, .ref a0), (1, .int x1)]) hx hb dX12_winsPlainly_7 rfl hl (by decide) rfl (fun ls hl => ?_)
  have L_8_4 : ∀ (n_4 : Nat) (y_3 : Int32) (ls : Array Slot), (2147483648 - y_3.toInt).toNat < n_4 → 0 ≤ y_3.toInt → lv_has ls 4 [(2, .int y_3), (0, .ref a0), (1, .int x1)] → W p l e (rmd 2) s m args below meth c H locs 0 0 Q (F0 m 8 ls []) := by
    intro n_4
    induction n_4 with
    | zero => intro y_3 ls hm_4; exact absurd hm_4 (Nat.not_lt_zero _)
    | succ n_4 ih_4 =>
      intro y_3 ls hm_4 iv_5_0 hl
      refine lv_iload_n hx hb dX12_winsPlainly_8 rfl (lv_at hl 0 rfl) ?_
      refine lv_aload_n hx hb dX12_winsPlainly_9 rfl (lv_at hl 1 rfl) ?_
      refine mg_16 C hs hP ha0 hk0 wf_X12_127 dX12_winsPlainly_10 ?_
      have ev_6 : f_2 16 = f 16 := by rw [hF_2 16 (by decide)]
      rw [ev_6]
      have tf_7 : 0 ≤ (f 16).toInt ∧ (f 16).toInt ≤ 4 := by rw [← ev_6]; exact hT.1 16
      refine bi_ge (tgt := 39) hx hb rfl rfl dX12_winsPlainly_13 (by decide) (fun c_8 => ?_) (fun c_8 => ?_)
      · skip
        refine lv_aload_n hx hb dX12_winsPlainly_39 rfl (lv_at hl 1 rfl) ?_
        refine lv_iload_n hx hb dX12_winsPlainly_40 rfl (lv_at hl 2 rfl) ?_
        refine lv_iconst (v := 4) hx hb dX12_winsPlainly_41 (by decide) ?_
        refine lv_iconst (v := 4) hx hb dX12_winsPlainly_42 (by decide) ?_
        have g_9 := z_rng x1
        have hq_10 : 0 ≤ x1.toInt ∧ x1.toInt ≤ 46440 ∧ x1.toInt % 1290 = 0 := by (try simp only [ti_4]); first | assumption | omega | (intros; omega)
        refine zcS (zrV (As := [.int x1, .int 4, .int 4]) (b := a0) (rest := []) C hs hP hS (c_X12_greatest l D K hM f_2 A_2 hT a0 ha0 hk0 x1 4 4 hq_10) m_X12_greatest wm_X12_135 (zrecv hs hP ha0 (zF_11 hk0) rfl) ⟨by decide, by decide⟩ hl.1 (Nat.le_of_ble_eq_true rfl) dX12_winsPlainly_43) (fun x_11 p_11 => ?_)
        have pp_11 : (x_11.toInt = -1 ∨ 0 ≤ x_11.toInt ∧ x_11.toInt < (f_2 16).toInt) ∧ (1 ≤ (f_2 16).toInt → (mcol (A_2 40) x1 (A_2 55 0)).toInt = (4 : Int32).toInt → x_11.toInt ≠ -1) := p_11
        have ev_12 : f_2 16 = f 16 := by rw [hF_2 16 (by decide)]
        have ev_13 : A_2 40 = A 40 := by rw [hA_2 40 (by decide)]
        have ev_14 : A_2 55 = A 55 := by rw [hA_2 55 (by decide)]
        rw [ev_12, ev_13, ev_14] at pp_11
        try simp only [ti_4] at pp_11
        refine lv_istore_n (lv' := [(2, .int x_11), (0, .ref a0), (1, .int x1)]) hx hb dX12_winsPlainly_46 rfl hl (by decide) rfl (fun ls hl => ?_)
        refine lv_aload_n hx hb dX12_winsPlainly_47 rfl (lv_at hl 1 rfl) ?_
        refine lv_iload_n hx hb dX12_winsPlainly_48 rfl (lv_at hl 2 rfl) ?_
        refine lv_aload_n hx hb dX12_winsPlainly_49 rfl (lv_at hl 1 rfl) ?_
        refine mg_15 C hs hP ha0 hk0 wf_X12_39 dX12_winsPlainly_50 ?_
        have hf_15 := hO.r (j := 15) ha0 hk0 (rfl : zX 11 15 = some (55, 4))
        refine lv_iconst (v := 0) hx hb dX12_winsPlainly_53 (by decide) ?_
        have hin_16 : vp_in 0 (zn K (zr K a0 15)) := vp_in_iff.mpr (by rw [ti_0, (hf_15.2.2 (by decide))]; decide)
        refine mld_55 C hs hP hf_15.1 hf_15.2.1 hin_16 dX12_winsPlainly_54 ?_
        have ep_17 : (0 : Int32).toNatClampNeg = 0 := by decide +kernel
        rw [ep_17]
        have ev_18 : A_2 55 0 = A 55 0 := by rw [hA_2 55 (by decide)]
        have tv_19 := ra_55 (i := 0) hT (by rw [ti_0]; decide) (by rw [ti_0]; decide)
        rw [ep_17] at tv_19
        rw [ev_18] at tv_19
        rw [ev_18]
        have g_20 := z_rng (A 55 0)
        have hq_21 : 0 ≤ x1.toInt ∧ x1.toInt ≤ 46440 ∧ x1.toInt % 1290 = 0 := by first | assumption | omega | (intros; omega)
        have hq_22 : 0 ≤ (A 55 0).toInt ∧ (A 55 0).toInt ≤ 59 := by first | assumption | omega | (intros; omega)
        refine zcS (zrV (As := [.int x1, .int (A 55 0)]) (b := a0) (rest := []) C hs hP hS (c_X12_colour l D K hM f_2 A_2 hT a0 ha0 hk0 x1 (A 55 0) hq_21 hq_22) m_X12_colour wm_X12_120 (zrecv hs hP ha0 (zF_11 hk0) rfl) ⟨by decide, by decide⟩ hl.1 (Nat.le_of_ble_eq_true rfl) dX12_winsPlainly_55) (fun x_23 p_23 => ?_)
        have pp_23 : x_23 = mcol (A_2 40) x1 (A 55 0) := p_23
        have ev_24 : A_2 40 = A 40 := by rw [hA_2 40 (by decide)]
        rw [ev_24] at pp_23
        have pq_23 := congrArg Int32.toInt pp_23
        refine lv_istore_n (lv' := [(3, .int x_23), (2, .int x_11), (0, .ref a0), (1, .int x1)]) hx hb dX12_winsPlainly_58 rfl hl (by decide) rfl (fun ls hl => ?_)
        refine lv_iload_n hx hb dX12_winsPlainly_59 rfl (lv_at hl 1 rfl) ?_
        refine lv_iconst (v := (-1)) hx hb dX12_winsPlainly_60 (by decide) ?_
        refine bi_eq (tgt := 68) hx hb rfl ti_m1 dX12_winsPlainly_61 (by decide) (fun c_25 => ?_) (fun c_25 => ?_)
        · skip
          refine lv_aload_n hx hb dX12_winsPlainly_68 rfl (lv_at hl 2 rfl) ?_
          refine lv_iload_n hx hb dX12_winsPlainly_69 rfl (lv_at hl 3 rfl) ?_
          refine lv_iload_n hx hb dX12_winsPlainly_70 rfl (lv_at hl 0 rfl) ?_
          refine lv_iload_n hx hb dX12_winsPlainly_71 rfl (lv_at hl 0 rfl) ?_
          have g_26 := z_rng x_23
          have hq_27 : 0 ≤ x1.toInt ∧ x1.toInt ≤ 46440 ∧ x1.toInt % 1290 = 0 := by first | assumption | omega | (intros; omega)
          refine zcS (zrV (As := [.int x1, .int x_23, .int x_23]) (b := a0) (rest := []) C hs hP hS (c_X12_greatest l D K hM f_2 A_2 hT a0 ha0 hk0 x1 x_23 x_23 hq_27) m_X12_greatest wm_X12_135 (zrecv hs hP ha0 (zF_11 hk0) rfl) ⟨by decide, by decide⟩ hl.1 (Nat.le_of_ble_eq_true rfl) dX12_winsPlainly_72) (fun x_28 p_28 => ?_)
          have pp_28 : (x_28.toInt = -1 ∨ 0 ≤ x_28.toInt ∧ x_28.toInt < (f_2 16).toInt) ∧ (1 ≤ (f_2 16).toInt → (mcol (A_2 40) x1 (A_2 55 0)).toInt = x_23.toInt → x_28.toInt ≠ -1) := p_28
          have ev_29 : f_2 16 = f 16 := by rw [hF_2 16 (by decide)]
          have ev_30 : A_2 40 = A 40 := by rw [hA_2 40 (by decide)]
          have ev_31 : A_2 55 = A 55 := by rw [hA_2 55 (by decide)]
          rw [ev_29, ev_30, ev_31] at pp_28
          have g_32 := z_rng x_28
          exact maI hQ hx hb hr hlk hP hS ⟨hT, FA, FF, (by first | omega | (intro h9; omega) | (simp; done) | (refine ⟨?_, ?_⟩ <;> intros <;> omega) | (refine ⟨?_, ?_, ?_⟩ <;> intros <;> omega))⟩ dX12_winsPlainly_75
        · skip
          refine lv_iload_n hx hb dX12_winsPlainly_64 rfl (lv_at hl 1 rfl) ?_
          refine lv_goto (tgt := 75) hx hb dX12_winsPlainly_65 (by decide) ?_
          have g_33 := z_rng x_11
          exact maI hQ hx hb hr hlk hP hS ⟨hT, FA, FF, (by first | omega | (intro h9; omega) | (simp; done) | (refine ⟨?_, ?_⟩ <;> intros <;> omega) | (refine ⟨?_, ?_, ?_⟩ <;> intros <;> omega))⟩ dX12_winsPlainly_75
      · skip
        refine lv_aload_n hx hb dX12_winsPlainly_16 rfl (lv_at hl 1 rfl) ?_
        refine lv_iload_n hx hb dX12_winsPlainly_17 rfl (lv_at hl 2 rfl) ?_
        refine lv_aload_n hx hb dX12_winsPlainly_18 rfl (lv_at hl 1 rfl) ?_
        refine mg_15 C hs hP ha0 hk0 wf_X12_39 dX12_winsPlainly_19 ?_
        have hf_34 := hO.r (j := 15) ha0 hk0 (rfl : zX 11 15 = some (55, 4))
        refine lv_iload_n hx hb dX12_winsPlainly_22 rfl (lv_at hl 0 rfl) ?_
        have g_36 := z_rng y_3
        have hin_35 : vp_in y_3 (zn K (zr K a0 15)) := vp_in_iff.mpr (by rw [(hf_34.2.2 (by decide))]; refine ⟨?_, ?_⟩ <;> omega)
        refine mld_55 C hs hP hf_34.1 hf_34.2.1 hin_35 dX12_winsPlainly_23 ?_
        have ev_37 : A_2 55 y_3.toNatClampNeg = A 55 y_3.toNatClampNeg := by rw [hA_2 55 (by decide)]
        have tv_38 := ra_55 hT (vp_in_iff.mp hin_35).1 (by have h7 := (vp_in_iff.mp hin_35).2; rw [(hf_34.2.2 (by decide))] at h7; exact h7)
        rw [ev_37] at tv_38
        rw [ev_37]
        have g_39 := z_rng x1
        have g_40 := z_rng (A 55 y_3.toNatClampNeg)
        have hq_41 : 0 ≤ x1.toInt ∧ x1.toInt ≤ 46440 ∧ x1.toInt % 1290 = 0 := by first | assumption | omega | (intros; omega)
        have hq_42 : 0 ≤ (A 55 y_3.toNatClampNeg).toInt ∧ (A 55 y_3.toNatClampNeg).toInt ≤ 59 := by first | assumption | omega | (intros; omega)
        refine zcS (zrV (As := [.int x1, .int (A 55 y_3.toNatClampNeg)]) (b := a0) (rest := []) C hs hP hS (c_X12_colour l D K hM f_2 A_2 hT a0 ha0 hk0 x1 (A 55 y_3.toNatClampNeg) hq_41 hq_42) m_X12_colour wm_X12_120 (zrecv hs hP ha0 (zF_11 hk0) rfl) ⟨by decide, by decide⟩ hl.1 (Nat.le_of_ble_eq_true rfl) dX12_winsPlainly_24) (fun x_43 p_43 => ?_)
        have pp_43 : x_43 = mcol (A_2 40) x1 (A 55 y_3.toNatClampNeg) := p_43
        have ev_44 : A_2 40 = A 40 := by rw [hA_2 40 (by decide)]
        rw [ev_44] at pp_43
        have pq_43 := congrArg Int32.toInt pp_43
        refine lv_iconst (v := 5) hx hb dX12_winsPlainly_27 (by decide) ?_
        refine bi_ne (tgt := 33) hx hb rfl ti_5 dX12_winsPlainly_28 (by decide) (fun c_45 => ?_) (fun c_45 => ?_)
        · skip
          obtain ⟨x_46, ex_46⟩ : ∃ y : Int32, y = y_3 + 1 := ⟨_, rfl⟩
          refine lv_iinc (v := x_46) (lv' := [(2, .int x_46), (0, .ref a0), (1, .int x1)]) hx hb dX12_winsPlainly_33 hl (k := 0) rfl (by rw [ex_46]; rfl) (by decide) rfl (fun ls hl => ?_)
          refine lv_goto (tgt := 8) hx hb dX12_winsPlainly_36 (by decide) ?_
          obtain ⟨f_46, l_46, u_46⟩ := z_add ex_46 rfl ti_1
          try replace f_46 : x_46.toInt = y_3.toInt + 1 := by omega
          have g_47 := z_rng (f 16)
          have g_48 := z_rng x_43
          exact ih_4 x_46 _ (by omega) (by omega) (lv_sub hl [0, 1, 2] rfl)
        · skip
          refine lv_iload_n hx hb dX12_winsPlainly_31 rfl (lv_at hl 0 rfl) ?_
          exact maI hQ hx hb hr hlk hP hS ⟨hT, FA, FF, (by first | omega | (intro h9; omega) | (simp; done) | (refine ⟨?_, ?_⟩ <;> intros <;> omega) | (refine ⟨?_, ?_, ?_⟩ <;> intros <;> omega))⟩ dX12_winsPlainly_32
  exact L_8_4 _ 0 _ (Nat.lt_succ_self _) (by (try simp only [ti_0]); omega) (lv_sub hl [0, 1, 2] rfl)
set_option maxHeartbeats 4000000 in
set_option maxRecDepth 100000 in
theorem c_X12_wins (l : Launch) (D : va_G) (K : zK) (hM : mK K) (f : Nat → Int32) (A : Nat → Nat → Int32) (hT : mT f A) (a0 : Nat) (ha0 : a0 ∈ zl K) (hk0 : zk K a0 = 11) (x1 : Int32) (hp0 : 0 ≤ x1.toInt ∧ x1.toInt ≤ 46440 ∧ x1.toInt % 1290 = 0) (hp1 : 1 ≤ (f 16).toInt) (hp2 : (f 11).toInt ≤ 1980000000) : Met l yX12_wins (zc yX12_wins cX12_wins 7 (some .int)) (rmd 3) (va_Pc [.ref a0, .int x1] (zB D K (mV K f A))) (mQi D K (fun r f' A' => mT f' A' ∧ (∀ k, k ∉ ([50] : List Nat) → A' k = A k) ∧ (∀ k, k ∉ ([11] : List Nat) → f' k = f k) ∧ (f 11).toInt ≤ (f' 11).toInt ∧ (f' 11).toInt ≤ (f 11).toInt + 3 ∧ ((f 12).toInt ≠ 0 → (f' 11).toInt = (f 11).toInt) ∧ 0 ≤ r.toInt ∧ r.toInt < (f 16).toInt)) 0 0 (zA K) := by
  refine zin (by decide) (Nat.le_of_ble_eq_true rfl) ?_
  intro p e s m args below meth c ls Q hQ C hr hlk hP hs hl
  have C : CallFix p m c cX12_wins 7 s args zw RX12 := C
  obtain ⟨hx, hb, hml, hown, hts⟩ := id C
  have hO := hM.1
  have hS : va_S (zA K) s.heap s.heap [] := va_S.rf
  have FA : ∀ k, k ∉ ([50] : List Nat) → A k = A k := fun _ _ => rfl
  have FF : ∀ k, k ∉ ([11] : List Nat) → f k = f k := fun _ _ => rfl
  have hl : lv_has ls 7 [(0, .ref a0), (1, .int x1)] := hl
  refine lv_aload_n hx hb dX12_wins_0 rfl (lv_at hl 0 rfl) ?_
  refine mg_0 C hs hP ha0 hk0 wf_X12_8 dX12_wins_1 ?_
  have hf_1 := hO.r (j := 0) ha0 hk0 (rfl : zX 11 0 = some (40, 47730))
  refine lv_iload_n hx hb dX12_wins_4 rfl (lv_at hl 1 rfl) ?_
  refine lv_iconst (v := 2) hx hb dX12_wins_5 (by decide) ?_
  refine lv_iadd hx hb dX12_wins_6 ?_
  refine lv_topi (fun x_2 ex_2 => ?_)
  have g_4 := z_rng x1
  obtain ⟨f_2, l_2, u_2⟩ := z_add ex_2 rfl ti_2
  try replace f_2 : x_2.toInt = x1.toInt + 2 := by omega
  have hin_3 : vp_in x_2 (zn K (zr K a0 0)) := vp_in_iff.mpr (by rw [(hf_1.2.2 (by decide))]; refine ⟨?_, ?_⟩ <;> omega)
  refine mld_40 C hs hP hf_1.1 hf_1.2.1 hin_3 dX12_wins_7 ?_
  have ep_5 : x_2.toNatClampNeg = (x1.toInt + 2).toNat := by show x_2.toInt.toNat = _; rw [show x_2.toInt = (x1.toInt + 2) by omega]
  rw [ep_5]
  refine lv_iconst (v := 4) hx hb dX12_wins_8 (by decide) ?_
  refine bi_ne (tgt := 18) hx hb rfl ti_4 dX12_wins_9 (by decide) (fun c_6 => ?_) (fun c_6 => ?_)
  · skip
    refine lv_aload_n hx hb dX12_wins_18 rfl (lv_at hl 0 rfl) ?_
    refine mg_0 C hs hP ha0 hk0 wf_X12_8 dX12_wins_19 ?_
    refine lv_iload_n hx hb dX12_wins_22 rfl (lv_at hl 1 rfl) ?_
    refine lv_iconst (v := 3) hx hb dX12_wins_23 (by decide) ?_
    refine lv_iadd hx hb dX12_wins_24 ?_
    refine lv_topi (fun x_7 ex_7 => ?_)
    obtain ⟨f_7, l_7, u_7⟩ := z_add ex_7 rfl ti_3
    try replace f_7 : x_7.toInt = x1.toInt + 3 := by omega
    have hin_8 : vp_in x_7 (zn K (zr K a0 0)) := vp_in_iff.mpr (by rw [(hf_1.2.2 (by decide))]; refine ⟨?_, ?_⟩ <;> omega)
    refine mld_40 C hs hP hf_1.1 hf_1.2.1 hin_8 dX12_wins_25 ?_
    have ep_9 : x_7.toNatClampNeg = (x1.toInt + 3).toNat := by show x_7.toInt.toNat = _; rw [show x_7.toInt = (x1.toInt + 3) by omega]
    rw [ep_9]
    refine lv_istore_n (lv' := [(2, .int (A 40 (x1.toInt + 3).toNat)), (0, .ref a0), (1, .int x1)]) hx hb dX12_wins_26 rfl hl (by decide) rfl (fun ls hl => ?_)
    refine lv_aload_n hx hb dX12_wins_27 rfl (lv_at hl 1 rfl) ?_
    refine lv_iload_n hx hb dX12_wins_28 rfl (lv_at hl 2 rfl) ?_
    refine lv_aload_n hx hb dX12_wins_29 rfl (lv_at hl 1 rfl) ?_
    refine mg_15 C hs hP ha0 hk0 wf_X12_39 dX12_wins_30 ?_
    have hf_10 := hO.r (j := 15) ha0 hk0 (rfl : zX 11 15 = some (55, 4))
    refine lv_iconst (v := 0) hx hb dX12_wins_33 (by decide) ?_
    have hin_11 : vp_in 0 (zn K (zr K a0 15)) := vp_in_iff.mpr (by rw [ti_0, (hf_10.2.2 (by decide))]; decide)
    refine mld_55 C hs hP hf_10.1 hf_10.2.1 hin_11 dX12_wins_34 ?_
    have ep_12 : (0 : Int32).toNatClampNeg = 0 := by decide +kernel
    rw [ep_12]
    have tv_13 := ra_55 (i := 0) hT (by rw [ti_0]; decide) (by rw [ti_0]; decide)
    rw [ep_12] at tv_13
    have g_14 := z_rng (A 55 0)
    have hq_15 : 0 ≤ x1.toInt ∧ x1.toInt ≤ 46440 ∧ x1.toInt % 1290 = 0 := by first | assumption | omega | (intros; omega)
    have hq_16 : 0 ≤ (A 55 0).toInt ∧ (A 55 0).toInt ≤ 59 := by first | assumption | omega | (intros; omega)
    refine zcS (zrV (As := [.int x1, .int (A 55 0)]) (b := a0) (rest := []) C hs hP hS (c_X12_colour l D K hM f A hT a0 ha0 hk0 x1 (A 55 0) hq_15 hq_16) m_X12_colour wm_X12_120 (zrecv hs hP ha0 (zF_11 hk0) rfl) ⟨by decide, by decide⟩ hl.1 (Nat.le_of_ble_eq_true rfl) dX12_wins_35) (fun x_17 p_17 => ?_)
    have pp_17 : x_17 = mcol (A 40) x1 (A 55 0) := p_17
    have pq_17 := congrArg Int32.toInt pp_17
    refine lv_istore_n (lv' := [(3, .int x_17), (2, .int (A 40 (x1.toInt + 3).toNat)), (0, .ref a0), (1, .int x1)]) hx hb dX12_wins_38 rfl hl (by decide) rfl (fun ls hl => ?_)
    refine lv_iload_n hx hb dX12_wins_39 rfl (lv_at hl 1 rfl) ?_
    refine lv_iconst (v := 2) hx hb dX12_wins_40 (by decide) ?_
    refine bi_ne (tgt := 67) hx hb rfl ti_2 dX12_wins_41 (by decide) (fun c_18 => ?_) (fun c_18 => ?_)
    · skip
      refine lv_iload_n hx hb dX12_wins_67 rfl (lv_at hl 1 rfl) ?_
      refine lv_iconst (v := 3) hx hb dX12_wins_68 (by decide) ?_
      refine bi_ne (tgt := 141) hx hb rfl ti_3 dX12_wins_69 (by decide) (fun c_19 => ?_) (fun c_19 => ?_)
      · skip
        refine lv_aload_n hx hb dX12_wins_141 rfl (lv_at hl 2 rfl) ?_
        refine lv_iload_n hx hb dX12_wins_142 rfl (lv_at hl 3 rfl) ?_
        have hq_20 : 0 ≤ x1.toInt ∧ x1.toInt ≤ 46440 ∧ x1.toInt % 1290 = 0 := by first | assumption | omega | (intros; omega)
        have hq_21 : 1 ≤ (f 16).toInt := by first | assumption | omega | (intros; omega)
        have hq_22 : (f 11).toInt ≤ 1990000000 := by first | assumption | omega | (intros; omega)
        refine mcI (zrV (As := [.int x1]) (b := a0) (rest := []) C hs hP hS (c_X12_winsPlainly l D K hM f A hT a0 ha0 hk0 x1 hq_20 hq_21 hq_22) m_X12_winsPlainly wm_X12_139 (zrecv hs hP ha0 (zF_11 hk0) rfl) ⟨by decide, by decide⟩ hl.1 (Nat.le_of_ble_eq_true rfl) dX12_wins_143) hS (fun x_23 f_23 A_23 H locs p_23 hP hS => ?_)
        obtain ⟨hT, hA_23, hF_23, pp_23⟩ := p_23
        have pp_23 : (f 11).toInt ≤ (f_23 11).toInt ∧ (f_23 11).toInt ≤ (f 11).toInt + 1 ∧ ((f 12).toInt ≠ 0 → (f_23 11).toInt = (f 11).toInt) ∧ 0 ≤ x_23.toInt ∧ x_23.toInt < (f 16).toInt := pp_23
        have FA := frA FA hA_23 (by decide)
        have FF := frF FF hF_23 (by decide)
        have g_24 := z_rng x_23
        exact maI hQ hx hb hr hlk hP hS ⟨hT, FA, FF, (by first | omega | (intro h9; omega) | (simp; done) | (refine ⟨?_, ?_⟩ <;> intros <;> omega) | (refine ⟨?_, ?_, ?_⟩ <;> intros <;> omega))⟩ dX12_wins_146
      · skip
        refine lv_aload_n hx hb dX12_wins_72 rfl (lv_at hl 2 rfl) ?_
        refine lv_bipush (v := 33) hx hb dX12_wins_73 (by decide) ?_
        have hq_25 : (f 11).toInt ≤ 2000000000 := by (try simp only [ti_33]); first | assumption | omega | (intros; omega)
        refine mcV (zrV (As := [.int 33]) (b := a0) (rest := []) C hs hP hS (c_X12_body l D K hM f A hT a0 ha0 hk0 33 hq_25) m_X12_body wm_X12_124 (zrecv hs hP ha0 (zF_11 hk0) rfl) ⟨by decide, by decide⟩ hl.1 (Nat.le_of_ble_eq_true rfl) dX12_wins_75) hS (fun f_26 A_26 H locs p_26 hP hS => ?_)
        obtain ⟨hT, hA_26, hF_26, pp_26⟩ := p_26
        have pp_26 : (f 11).toInt ≤ (f_26 11).toInt ∧ (f_26 11).toInt ≤ (f 11).toInt + 1 ∧ ((f 12).toInt ≠ 0 → (f_26 11).toInt = (f 11).toInt) := pp_26
        try simp only [ti_33] at pp_26
        have FA := frA FA hA_26 (by decide)
        have FF := frF FF hF_26 (by decide)
        refine lv_aload_n hx hb dX12_wins_78 rfl (lv_at hl 2 rfl) ?_
        refine mg_0 C hs hP ha0 hk0 wf_X12_8 dX12_wins_79 ?_
        refine lv_iload_n hx hb dX12_wins_82 rfl (lv_at hl 3 rfl) ?_
        refine lv_bipush (v := 11) hx hb dX12_wins_83 (by decide) ?_
        refine lv_iadd hx hb dX12_wins_85 ?_
        refine lv_topi (fun x_27 ex_27 => ?_)
        obtain ⟨f_27, l_27, u_27⟩ := z_add ex_27 rfl ti_11
        try replace f_27 : x_27.toInt = x1.toInt + 11 := by omega
        have hin_28 : vp_in x_27 (zn K (zr K a0 0)) := vp_in_iff.mpr (by rw [(hf_1.2.2 (by decide))]; refine ⟨?_, ?_⟩ <;> omega)
        refine mld_40 C hs hP hf_1.1 hf_1.2.1 hin_28 dX12_wins_86 ?_
        have ep_29 : x_27.toNatClampNeg = (x1.toInt + 11).toNat := by show x_27.toInt.toNat = _; rw [show x_27.toInt = (x1.toInt + 11) by omega]
        rw [ep_29]
        have ev_30 : A_26 40 (x1.toInt + 11).toNat = A 40 (x1.toInt + 11).toNat := by rw [hA_26 40 (by decide)]
        rw [ev_30]
        refine lv_istore (lv' := [(4, .int (A 40 (x1.toInt + 11).toNat)), (3, .int x_17), (2, .int (A 40 (x1.toInt + 3).toNat)), (0, .ref a0), (1, .int x1)]) hx hb dX12_wins_87 hl (by decide) rfl (fun ls hl => ?_)
        refine lv_aload_n hx hb dX12_wins_89 rfl (lv_at hl 3 rfl) ?_
        refine lv_iload_n hx hb dX12_wins_90 rfl (lv_at hl 4 rfl) ?_
        refine lv_iconst (v := 5) hx hb dX12_wins_91 (by decide) ?_
        refine lv_iconst (v := 5) hx hb dX12_wins_92 (by decide) ?_
        have hq_31 : 0 ≤ x1.toInt ∧ x1.toInt ≤ 46440 ∧ x1.toInt % 1290 = 0 := by (try simp only [ti_5]); first | assumption | omega | (intros; omega)
        refine zcS (zrV (As := [.int x1, .int 5, .int 5]) (b := a0) (rest := []) C hs hP hS (c_X12_greatest l D K hM f_26 A_26 hT a0 ha0 hk0 x1 5 5 hq_31) m_X12_greatest wm_X12_135 (zrecv hs hP ha0 (zF_11 hk0) rfl) ⟨by decide, by decide⟩ hl.1 (Nat.le_of_ble_eq_true rfl) dX12_wins_93) (fun x_32 p_32 => ?_)
        have pp_32 : (x_32.toInt = -1 ∨ 0 ≤ x_32.toInt ∧ x_32.toInt < (f_26 16).toInt) ∧ (1 ≤ (f_26 16).toInt → (mcol (A_26 40) x1 (A_26 55 0)).toInt = (5 : Int32).toInt → x_32.toInt ≠ -1) := p_32
        have ev_33 : f_26 16 = f 16 := by rw [hF_26 16 (by decide)]
        have ev_34 : A_26 40 = A 40 := by rw [hA_26 40 (by decide)]
        have ev_35 : A_26 55 = A 55 := by rw [hA_26 55 (by decide)]
        rw [ev_33, ev_34, ev_35] at pp_32
        try simp only [ti_5] at pp_32
        refine lv_iconst (v := (-1)) hx hb dX12_wins_96 (by decide) ?_
        refine bi_eq (tgt := 104) hx hb rfl ti_m1 dX12_wins_97 (by decide) (fun c_36 => ?_) (fun c_36 => ?_)
        · skip
          refine lv_iconst (v := 0) hx hb dX12_wins_104 (by decide) ?_
          refine lv_istore (lv' := [(5, .int 0), (4, .int (A 40 (x1.toInt + 11).toNat)), (3, .int x_17), (2, .int (A 40 (x1.toInt + 3).toNat)), (0, .ref a0), (1, .int x1)]) hx hb dX12_wins_105 hl (by decide) rfl (fun ls hl => ?_)
          refine lv_iload hx hb dX12_wins_107 (lv_at hl 1 rfl) ?_
          refine lv_iconst (v := (-1)) hx hb dX12_wins_109 (by decide) ?_
          refine bi_eq (tgt := 118) hx hb rfl ti_m1 dX12_wins_110 (by decide) (fun c_37 => ?_) (fun c_37 => ?_)
          · skip
            refine lv_iconst (v := (-1)) hx hb dX12_wins_118 (by decide) ?_
            refine lv_goto (tgt := 130) hx hb dX12_wins_119 (by decide) ?_
            refine lv_istore (lv' := [(6, .int (-1)), (5, .int 0), (4, .int (A 40 (x1.toInt + 11).toNat)), (3, .int x_17), (2, .int (A 40 (x1.toInt + 3).toNat)), (0, .ref a0), (1, .int x1)]) hx hb dX12_wins_130 hl (by decide) rfl (fun ls hl => ?_)
            refine lv_iload hx hb dX12_wins_132 (lv_at hl 0 rfl) ?_
            refine lv_iconst (v := (-1)) hx hb dX12_wins_134 (by decide) ?_
            refine bi_eq (tgt := 141) hx hb ti_m1 ti_m1 dX12_wins_135 (by decide) (fun c_38 => ?_) (fun c_38 => ?_)
            · clear c_38
              refine lv_aload_n hx hb dX12_wins_141 rfl (lv_at hl 5 rfl) ?_
              refine lv_iload_n hx hb dX12_wins_142 rfl (lv_at hl 6 rfl) ?_
              have hq_39 : 0 ≤ x1.toInt ∧ x1.toInt ≤ 46440 ∧ x1.toInt % 1290 = 0 := by first | assumption | omega | (intros; omega)
              have ev_41 : f_26 16 = f 16 := by rw [hF_26 16 (by decide)]
              have hq_40 : 1 ≤ (f_26 16).toInt := by rw [ev_41]; first | assumption | omega | (intros; omega)
              have hq_42 : (f_26 11).toInt ≤ 1990000000 := by first | assumption | omega | (intros; omega)
              refine mcI (zrV (As := [.int x1]) (b := a0) (rest := []) C hs hP hS (c_X12_winsPlainly l D K hM f_26 A_26 hT a0 ha0 hk0 x1 hq_39 hq_40 hq_42) m_X12_winsPlainly wm_X12_139 (zrecv hs hP ha0 (zF_11 hk0) rfl) ⟨by decide, by decide⟩ hl.1 (Nat.le_of_ble_eq_true rfl) dX12_wins_143) hS (fun x_43 f_43 A_43 H locs p_43 hP hS => ?_)
              obtain ⟨hT, hA_43, hF_43, pp_43⟩ := p_43
              have pp_43 : (f_26 11).toInt ≤ (f_43 11).toInt ∧ (f_43 11).toInt ≤ (f_26 11).toInt + 1 ∧ ((f_26 12).toInt ≠ 0 → (f_43 11).toInt = (f_26 11).toInt) ∧ 0 ≤ x_43.toInt ∧ x_43.toInt < (f_26 16).toInt := pp_43
              have ev_44 : f_26 12 = f 12 := by rw [hF_26 12 (by decide)]
              have ev_45 : f_26 16 = f 16 := by rw [hF_26 16 (by decide)]
              rw [ev_44, ev_45] at pp_43
              have FA := frA FA hA_43 (by decide)
              have FF := frF FF hF_43 (by decide)
              have g_46 := z_rng x_43
              exact maI hQ hx hb hr hlk hP hS ⟨hT, FA, FF, (by first | omega | (intro h9; omega) | (simp; done) | (refine ⟨?_, ?_⟩ <;> intros <;> omega) | (refine ⟨?_, ?_, ?_⟩ <;> intros <;> omega))⟩ dX12_wins_146
            · exact absurd c_38 (by decide)
          · skip
            refine lv_iload hx hb dX12_wins_113 (lv_at hl 0 rfl) ?_
            refine bz_eq (tgt := 122) hx hb ti_0 dX12_wins_115 (by decide) (fun c_47 => ?_) (fun c_47 => ?_)
            · clear c_47
              refine lv_aload_n hx hb dX12_wins_122 rfl (lv_at hl 4 rfl) ?_
              refine lv_iload_n hx hb dX12_wins_123 rfl (lv_at hl 5 rfl) ?_
              refine lv_iconst (v := 4) hx hb dX12_wins_124 (by decide) ?_
              refine lv_iload hx hb dX12_wins_125 (lv_at hl 1 rfl) ?_
              have g_48 := z_rng (A 40 (x1.toInt + 11).toNat)
              have hq_49 : 0 ≤ x1.toInt ∧ x1.toInt ≤ 46440 ∧ x1.toInt % 1290 = 0 := by (try simp only [ti_4]); first | assumption | omega | (intros; omega)
              refine zcS (zrV (As := [.int x1, .int 4, .int (A 40 (x1.toInt + 11).toNat)]) (b := a0) (rest := []) C hs hP hS (c_X12_greatest l D K hM f_26 A_26 hT a0 ha0 hk0 x1 4 (A 40 (x1.toInt + 11).toNat) hq_49) m_X12_greatest wm_X12_135 (zrecv hs hP ha0 (zF_11 hk0) rfl) ⟨by decide, by decide⟩ hl.1 (Nat.le_of_ble_eq_true rfl) dX12_wins_127) (fun x_50 p_50 => ?_)
              have pp_50 : (x_50.toInt = -1 ∨ 0 ≤ x_50.toInt ∧ x_50.toInt < (f_26 16).toInt) ∧ (1 ≤ (f_26 16).toInt → (mcol (A_26 40) x1 (A_26 55 0)).toInt = (4 : Int32).toInt → x_50.toInt ≠ -1) := p_50
              have ev_51 : f_26 16 = f 16 := by rw [hF_26 16 (by decide)]
              have ev_52 : A_26 40 = A 40 := by rw [hA_26 40 (by decide)]
              have ev_53 : A_26 55 = A 55 := by rw [hA_26 55 (by decide)]
              rw [ev_51, ev_52, ev_53] at pp_50
              try simp only [ti_4] at pp_50
              refine lv_istore (lv' := [(6, .int x_50), (5, .int 0), (4, .int (A 40 (x1.toInt + 11).toNat)), (3, .int x_17), (2, .int (A 40 (x1.toInt + 3).toNat)), (0, .ref a0), (1, .int x1)]) hx hb dX12_wins_130 hl (by decide) rfl (fun ls hl => ?_)
              refine lv_iload hx hb dX12_wins_132 (lv_at hl 0 rfl) ?_
              refine lv_iconst (v := (-1)) hx hb dX12_wins_134 (by decide) ?_
              refine bi_eq (tgt := 141) hx hb rfl ti_m1 dX12_wins_135 (by decide) (fun c_54 => ?_) (fun c_54 => ?_)
              · skip
                refine lv_aload_n hx hb dX12_wins_141 rfl (lv_at hl 5 rfl) ?_
                refine lv_iload_n hx hb dX12_wins_142 rfl (lv_at hl 6 rfl) ?_
                have hq_55 : 0 ≤ x1.toInt ∧ x1.toInt ≤ 46440 ∧ x1.toInt % 1290 = 0 := by first | assumption | omega | (intros; omega)
                have ev_57 : f_26 16 = f 16 := by rw [hF_26 16 (by decide)]
                have hq_56 : 1 ≤ (f_26 16).toInt := by rw [ev_57]; first | assumption | omega | (intros; omega)
                have hq_58 : (f_26 11).toInt ≤ 1990000000 := by first | assumption | omega | (intros; omega)
                refine mcI (zrV (As := [.int x1]) (b := a0) (rest := []) C hs hP hS (c_X12_winsPlainly l D K hM f_26 A_26 hT a0 ha0 hk0 x1 hq_55 hq_56 hq_58) m_X12_winsPlainly wm_X12_139 (zrecv hs hP ha0 (zF_11 hk0) rfl) ⟨by decide, by decide⟩ hl.1 (Nat.le_of_ble_eq_true rfl) dX12_wins_143) hS (fun x_59 f_59 A_59 H locs p_59 hP hS => ?_)
                obtain ⟨hT, hA_59, hF_59, pp_59⟩ := p_59
                have pp_59 : (f_26 11).toInt ≤ (f_59 11).toInt ∧ (f_59 11).toInt ≤ (f_26 11).toInt + 1 ∧ ((f_26 12).toInt ≠ 0 → (f_59 11).toInt = (f_26 11).toInt) ∧ 0 ≤ x_59.toInt ∧ x_59.toInt < (f_26 16).toInt := pp_59
                have ev_60 : f_26 12 = f 12 := by rw [hF_26 12 (by decide)]
                have ev_61 : f_26 16 = f 16 := by rw [hF_26 16 (by decide)]
                rw [ev_60, ev_61] at pp_59
                have FA := frA FA hA_59 (by decide)
                have FF := frF FF hF_59 (by decide)
                have g_62 := z_rng x_59
                exact maI hQ hx hb hr hlk hP hS ⟨hT, FA, FF, (by first | omega | (intro h9; omega) | (simp; done) | (refine ⟨?_, ?_⟩ <;> intros <;> omega) | (refine ⟨?_, ?_, ?_⟩ <;> intros <;> omega))⟩ dX12_wins_146
              · skip
                refine lv_iload hx hb dX12_wins_138 (lv_at hl 0 rfl) ?_
                have g_63 := z_rng x_50
                exact maI hQ hx hb hr hlk hP hS ⟨hT, FA, FF, (by first | omega | (intro h9; omega) | (simp; done) | (refine ⟨?_, ?_⟩ <;> intros <;> omega) | (refine ⟨?_, ?_, ?_⟩ <;> intros <;> omega))⟩ dX12_wins_140
            · exact absurd c_47 (by decide)
        · skip
          refine lv_iconst (v := 1) hx hb dX12_wins_100 (by decide) ?_
          refine lv_goto (tgt := 105) hx hb dX12_wins_101 (by decide) ?_
          refine lv_istore (lv' := [(5, .int 1), (4, .int (A 40 (x1.toInt + 11).toNat)), (3, .int x_17), (2, .int (A 40 (x1.toInt + 3).toNat)), (0, .ref a0), (1, .int x1)]) hx hb dX12_wins_105 hl (by decide) rfl (fun ls hl => ?_)
          refine lv_iload hx hb dX12_wins_107 (lv_at hl 1 rfl) ?_
          refine lv_iconst (v := (-1)) hx hb dX12_wins_109 (by decide) ?_
          refine bi_eq (tgt := 118) hx hb rfl ti_m1 dX12_wins_110 (by decide) (fun c_64 => ?_) (fun c_64 => ?_)
          · skip
            refine lv_iconst (v := (-1)) hx hb dX12_wins_118 (by decide) ?_
            refine lv_goto (tgt := 130) hx hb dX12_wins_119 (by decide) ?_
            refine lv_istore (lv' := [(6, .int (-1)), (5, .int 1), (4, .int (A 40 (x1.toInt + 11).toNat)), (3, .int x_17), (2, .int (A 40 (x1.toInt + 3).toNat)), (0, .ref a0), (1, .int x1)]) hx hb dX12_wins_130 hl (by decide) rfl (fun ls hl => ?_)
            refine lv_iload hx hb dX12_wins_132 (lv_at hl 0 rfl) ?_
            refine lv_iconst (v := (-1)) hx hb dX12_wins_134 (by decide) ?_
            refine bi_eq (tgt := 141) hx hb ti_m1 ti_m1 dX12_wins_135 (by decide) (fun c_65 => ?_) (fun c_65 => ?_)
            · clear c_65
              refine lv_aload_n hx hb dX12_wins_141 rfl (lv_at hl 5 rfl) ?_
              refine lv_iload_n hx hb dX12_wins_142 rfl (lv_at hl 6 rfl) ?_
              have hq_66 : 0 ≤ x1.toInt ∧ x1.toInt ≤ 46440 ∧ x1.toInt % 1290 = 0 := by first | assumption | omega | (intros; omega)
              have ev_68 : f_26 16 = f 16 := by rw [hF_26 16 (by decide)]
              have hq_67 : 1 ≤ (f_26 16).toInt := by rw [ev_68]; first | assumption | omega | (intros; omega)
              have hq_69 : (f_26 11).toInt ≤ 1990000000 := by first | assumption | omega | (intros; omega)
              refine mcI (zrV (As := [.int x1]) (b := a0) (rest := []) C hs hP hS (c_X12_winsPlainly l D K hM f_26 A_26 hT a0 ha0 hk0 x1 hq_66 hq_67 hq_69) m_X12_winsPlainly wm_X12_139 (zrecv hs hP ha0 (zF_11 hk0) rfl) ⟨by decide, by decide⟩ hl.1 (Nat.le_of_ble_eq_true rfl) dX12_wins_143) hS (fun x_70 f_70 A_70 H locs p_70 hP hS => ?_)
              obtain ⟨hT, hA_70, hF_70, pp_70⟩ := p_70
              have pp_70 : (f_26 11).toInt ≤ (f_70 11).toInt ∧ (f_70 11).toInt ≤ (f_26 11).toInt + 1 ∧ ((f_26 12).toInt ≠ 0 → (f_70 11).toInt = (f_26 11).toInt) ∧ 0 ≤ x_70.toInt ∧ x_70.toInt < (f_26 16).toInt := pp_70
              have ev_71 : f_26 12 = f 12 := by rw [hF_26 12 (by decide)]
              have ev_72 : f_26 16 = f 16 := by rw [hF_26 16 (by decide)]
              rw [ev_71, ev_72] at pp_70
              have FA := frA FA hA_70 (by decide)
              have FF := frF FF hF_70 (by decide)
              have g_73 := z_rng x_70
              exact maI hQ hx hb hr hlk hP hS ⟨hT, FA, FF, (by first | omega | (intro h9; omega) | (simp; done) | (refine ⟨?_, ?_⟩ <;> intros <;> omega) | (refine ⟨?_, ?_, ?_⟩ <;> intros <;> omega))⟩ dX12_wins_146
            · exact absurd c_65 (by decide)
          · skip
            refine lv_iload hx hb dX12_wins_113 (lv_at hl 0 rfl) ?_
            refine bz_eq (tgt := 122) hx hb ti_1 dX12_wins_115 (by decide) (fun c_74 => ?_) (fun c_74 => ?_)
            · exact absurd c_74 (by decide)
            · clear c_74
              refine lv_iconst (v := (-1)) hx hb dX12_wins_118 (by decide) ?_
              refine lv_goto (tgt := 130) hx hb dX12_wins_119 (by decide) ?_
              refine lv_istore (lv' := [(6, .int (-1)), (5, .int 1), (4, .int (A 40 (x1.toInt + 11).toNat)), (3, .int x_17), (2, .int (A 40 (x1.toInt + 3).toNat)), (0, .ref a0), (1, .int x1)]) hx hb dX12_wins_130 hl (by decide) rfl (fun ls hl => ?_)
              refine lv_iload hx hb dX12_wins_132 (lv_at hl 0 rfl) ?_
              refine lv_iconst (v := (-1)) hx hb dX12_wins_134 (by decide) ?_
              refine bi_eq (tgt := 141) hx hb ti_m1 ti_m1 dX12_wins_135 (by decide) (fun c_75 => ?_) (fun c_75 => ?_)
              · clear c_75
                refine lv_aload_n hx hb dX12_wins_141 rfl (lv_at hl 5 rfl) ?_
                refine lv_iload_n hx hb dX12_wins_142 rfl (lv_at hl 6 rfl) ?_
                have hq_76 : 0 ≤ x1.toInt ∧ x1.toInt ≤ 46440 ∧ x1.toInt % 1290 = 0 := by first | assumption | omega | (intros; omega)
                have ev_78 : f_26 16 = f 16 := by rw [hF_26 16 (by decide)]
                have hq_77 : 1 ≤ (f_26 16).toInt := by rw [ev_78]; first | assumption | omega | (intros; omega)
                have hq_79 : (f_26 11).toInt ≤ 1990000000 := by first | assumption | omega | (intros; omega)
                refine mcI (zrV (As := [.int x1]) (b := a0) (rest := []) C hs hP hS (c_X12_winsPlainly l D K hM f_26 A_26 hT a0 ha0 hk0 x1 hq_76 hq_77 hq_79) m_X12_winsPlainly wm_X12_139 (zrecv hs hP ha0 (zF_11 hk0) rfl) ⟨by decide, by decide⟩ hl.1 (Nat.le_of_ble_eq_true rfl) dX12_wins_143) hS (fun x_80 f_80 A_80 H locs p_80 hP hS => ?_)
                obtain ⟨hT, hA_80, hF_80, pp_80⟩ := p_80
                have pp_80 : (f_26 11).toInt ≤ (f_80 11).toInt ∧ (f_80 11).toInt ≤ (f_26 11).toInt + 1 ∧ ((f_26 12).toInt ≠ 0 → (f_80 11).toInt = (f_26 11).toInt) ∧ 0 ≤ x_80.toInt ∧ x_80.toInt < (f_26 16).toInt := pp_80
                have ev_81 : f_26 12 = f 12 := by rw [hF_26 12 (by decide)]
                have ev_82 : f_26 16 = f 16 := by rw [hF_26 16 (by decide)]
                rw [ev_81, ev_82] at pp_80
                have FA := frA FA hA_80 (by decide)
                have FF := frF FF hF_80 (by decide)
                have g_83 := z_rng x_80
                exact maI hQ hx hb hr hlk hP hS ⟨hT, FA, FF, (by first | omega | (intro h9; omega) | (simp; done) | (refine ⟨?_, ?_⟩ <;> intros <;> omega) | (refine ⟨?_, ?_, ?_⟩ <;> intros <;> omega))⟩ dX12_wins_146
              · exact absurd c_75 (by decide)
    · skip
      refine lv_aload_n hx hb dX12_wins_44 rfl (lv_at hl 2 rfl) ?_
      refine lv_bipush (v := 32) hx hb dX12_wins_45 (by decide) ?_
      have hq_84 : (f 11).toInt ≤ 2000000000 := by (try simp only [ti_32]); first | assumption | omega | (intros; omega)
      refine mcV (zrV (As := [.int 32]) (b := a0) (rest := []) C hs hP hS (c_X12_body l D K hM f A hT a0 ha0 hk0 32 hq_84) m_X12_body wm_X12_124 (zrecv hs hP ha0 (zF_11 hk0) rfl) ⟨by decide, by decide⟩ hl.1 (Nat.le_of_ble_eq_true rfl) dX12_wins_47) hS (fun f_85 A_85 H locs p_85 hP hS => ?_)
      obtain ⟨hT, hA_85, hF_85, pp_85⟩ := p_85
      have pp_85 : (f 11).toInt ≤ (f_85 11).toInt ∧ (f_85 11).toInt ≤ (f 11).toInt + 1 ∧ ((f 12).toInt ≠ 0 → (f_85 11).toInt = (f 11).toInt) := pp_85
      try simp only [ti_32] at pp_85
      have FA := frA FA hA_85 (by decide)
      have FF := frF FF hF_85 (by decide)
      refine lv_iload_n hx hb dX12_wins_50 rfl (lv_at hl 0 rfl) ?_
      refine lv_iconst (v := 5) hx hb dX12_wins_51 (by decide) ?_
      refine bi_ne (tgt := 59) hx hb rfl ti_5 dX12_wins_52 (by decide) (fun c_86 => ?_) (fun c_86 => ?_)
      · skip
        refine lv_aload_n hx hb dX12_wins_59 rfl (lv_at hl 2 rfl) ?_
        refine lv_iload_n hx hb dX12_wins_60 rfl (lv_at hl 3 rfl) ?_
        refine lv_iload_n hx hb dX12_wins_61 rfl (lv_at hl 0 rfl) ?_
        refine lv_iload_n hx hb dX12_wins_62 rfl (lv_at hl 0 rfl) ?_
        have g_87 := z_rng x_17
        have hq_88 : 0 ≤ x1.toInt ∧ x1.toInt ≤ 46440 ∧ x1.toInt % 1290 = 0 := by first | assumption | omega | (intros; omega)
        refine zcS (zrV (As := [.int x1, .int x_17, .int x_17]) (b := a0) (rest := []) C hs hP hS (c_X12_greatest l D K hM f_85 A_85 hT a0 ha0 hk0 x1 x_17 x_17 hq_88) m_X12_greatest wm_X12_135 (zrecv hs hP ha0 (zF_11 hk0) rfl) ⟨by decide, by decide⟩ hl.1 (Nat.le_of_ble_eq_true rfl) dX12_wins_63) (fun x_89 p_89 => ?_)
        have pp_89 : (x_89.toInt = -1 ∨ 0 ≤ x_89.toInt ∧ x_89.toInt < (f_85 16).toInt) ∧ (1 ≤ (f_85 16).toInt → (mcol (A_85 40) x1 (A_85 55 0)).toInt = x_17.toInt → x_89.toInt ≠ -1) := p_89
        have ev_90 : f_85 16 = f 16 := by rw [hF_85 16 (by decide)]
        have ev_91 : A_85 40 = A 40 := by rw [hA_85 40 (by decide)]
        have ev_92 : A_85 55 = A 55 := by rw [hA_85 55 (by decide)]
        rw [ev_90, ev_91, ev_92] at pp_89
        have g_93 := z_rng x_89
        exact maI hQ hx hb hr hlk hP hS ⟨hT, FA, FF, (by first | omega | (intro h9; omega) | (simp; done) | (refine ⟨?_, ?_⟩ <;> intros <;> omega) | (refine ⟨?_, ?_, ?_⟩ <;> intros <;> omega))⟩ dX12_wins_66
      · skip
        refine lv_iconst (v := 0) hx hb dX12_wins_55 (by decide) ?_
        refine lv_goto (tgt := 66) hx hb dX12_wins_56 (by decide) ?_
        exact maI hQ hx hb hr hlk hP hS ⟨hT, FA, FF, (by (try simp only [ti_0]); first | omega | (intro h9; omega) | (simp; done) | (refine ⟨?_, ?_⟩ <;> intros <;> omega) | (refine ⟨?_, ?_, ?_⟩ <;> intros <;> omega))⟩ dX12_wins_66
  · skip
    refine lv_aload_n hx hb dX12_wins_12 rfl (lv_at hl 0 rfl) ?_
    refine lv_bipush (v := 34) hx hb dX12_wins_13 (by decide) ?_
    have hq_94 : (f 11).toInt ≤ 2000000000 := by (try simp only [ti_34]); first | assumption | omega | (intros; omega)
    refine mcV (zrV (As := [.int 34]) (b := a0) (rest := []) C hs hP hS (c_X12_body l D K hM f A hT a0 ha0 hk0 34 hq_94) m_X12_body wm_X12_124 (zrecv hs hP ha0 (zF_11 hk0) rfl) ⟨by decide, by decide⟩ hl.1 (Nat.le_of_ble_eq_true rfl) dX12_wins_15) hS (fun f_95 A_95 H locs p_95 hP hS => ?_)
    obtain ⟨hT, hA_95, hF_95, pp_95⟩ := p_95
    have pp_95 : (f 11).toInt ≤ (f_95 11).toInt ∧ (f_95 11).toInt ≤ (f 11).toInt + 1 ∧ ((f 12).toInt ≠ 0 → (f_95 11).toInt = (f 11).toInt) := pp_95
    try simp only [ti_34] at pp_95
    have FA := frA FA hA_95 (by decide)
    have FF := frF FF hF_95 (by decide)
    refine lv_aload_n hx hb dX12_wins_18 rfl (lv_at hl 0 rfl) ?_
    refine mg_0 C hs hP ha0 hk0 wf_X12_8 dX12_wins_19 ?_
    refine lv_iload_n hx hb dX12_wins_22 rfl (lv_at hl 1 rfl) ?_
    refine lv_iconst (v := 3) hx hb dX12_wins_23 (by decide) ?_
    refine lv_iadd hx hb dX12_wins_24 ?_
    refine lv_topi (fun x_96 ex_96 => ?_)
    obtain ⟨f_96, l_96, u_96⟩ := z_add ex_96 rfl ti_3
    try replace f_96 : x_96.toInt = x1.toInt + 3 := by omega
    have hin_97 : vp_in x_96 (zn K (zr K a0 0)) := vp_in_iff.mpr (by rw [(hf_1.2.2 (by decide))]; refine ⟨?_, ?_⟩ <;> omega)
    refine mld_40 C hs hP hf_1.1 hf_1.2.1 hin_97 dX12_wins_25 ?_
    have ep_98 : x_96.toNatClampNeg = (x1.toInt + 3).toNat := by show x_96.toInt.toNat = _; rw [show x_96.toInt = (x1.toInt + 3) by omega]
    rw [ep_98]
    have ev_99 : A_95 40 (x1.toInt + 3).toNat = A 40 (x1.toInt + 3).toNat := by rw [hA_95 40 (by decide)]
    rw [ev_99]
    refine lv_istore_n (lv' := [(2, .int (A 40 (x1.toInt + 3).toNat)), (0, .ref a0), (1, .int x1)]) hx hb dX12_wins_26 rfl hl (by decide) rfl (fun ls hl => ?_)
    refine lv_aload_n hx hb dX12_wins_27 rfl (lv_at hl 1 rfl) ?_
    refine lv_iload_n hx hb dX12_wins_28 rfl (lv_at hl 2 rfl) ?_
    refine lv_aload_n hx hb dX12_wins_29 rfl (lv_at hl 1 rfl) ?_
    refine mg_15 C hs hP ha0 hk0 wf_X12_39 dX12_wins_30 ?_
    have hf_100 := hO.r (j := 15) ha0 hk0 (rfl : zX 11 15 = some (55, 4))
    refine lv_iconst (v := 0) hx hb dX12_wins_33 (by decide) ?_
    have hin_101 : vp_in 0 (zn K (zr K a0 15)) := vp_in_iff.mpr (by rw [ti_0, (hf_100.2.2 (by decide))]; decide)
    refine mld_55 C hs hP hf_100.1 hf_100.2.1 hin_101 dX12_wins_34 ?_
    have ep_102 : (0 : Int32).toNatClampNeg = 0 := by decide +kernel
    rw [ep_102]
    have ev_103 : A_95 55 0 = A 55 0 := by rw [hA_95 55 (by decide)]
    have tv_104 := ra_55 (i := 0) hT (by rw [ti_0]; decide) (by rw [ti_0]; decide)
    rw [ep_102] at tv_104
    rw [ev_103] at tv_104
    rw [ev_103]
    have g_105 := z_rng (A 55 0)
    have hq_106 : 0 ≤ x1.toInt ∧ x1.toInt ≤ 46440 ∧ x1.toInt % 1290 = 0 := by first | assumption | omega | (intros; omega)
    have hq_107 : 0 ≤ (A 55 0).toInt ∧ (A 55 0).toInt ≤ 59 := by first | assumption | omega | (intros; omega)
    refine zcS (zrV (As := [.int x1, .int (A 55 0)]) (b := a0) (rest := []) C hs hP hS (c_X12_colour l D K hM f_95 A_95 hT a0 ha0 hk0 x1 (A 55 0) hq_106 hq_107) m_X12_colour wm_X12_120 (zrecv hs hP ha0 (zF_11 hk0) rfl) ⟨by decide, by decide⟩ hl.1 (Nat.le_of_ble_eq_true rfl) dX12_wins_35) (fun x_108 p_108 => ?_)
    have pp_108 : x_108 = mcol (A_95 40) x1 (A 55 0) := p_108
    have ev_109 : A_95 40 = A 40 := by rw [hA_95 40 (by decide)]
    rw [ev_109] at pp_108
    have pq_108 := congrArg Int32.toInt pp_108
    refine lv_istore_n (lv' := [(3, .int x_108), (2, .int (A 40 (x1.toInt + 3).toNat)), (0, .ref a0), (1, .int x1)]) hx hb dX12_wins_38 rfl hl (by decide) rfl (fun ls hl => ?_)
    refine lv_iload_n hx hb dX12_wins_39 rfl (lv_at hl 1 rfl) ?_
    refine lv_iconst (v := 2) hx hb dX12_wins_40 (by decide) ?_
    refine bi_ne (tgt := 67) hx hb rfl ti_2 dX12_wins_41 (by decide) (fun c_110 => ?_) (fun c_110 => ?_)
    · skip
      refine lv_iload_n hx hb dX12_wins_67 rfl (lv_at hl 1 rfl) ?_
      refine lv_iconst (v := 3) hx hb dX12_wins_68 (by decide) ?_
      refine bi_ne (tgt := 141) hx hb rfl ti_3 dX12_wins_69 (by decide) (fun c_111 => ?_) (fun c_111 => ?_)
      · skip
        refine lv_aload_n hx hb dX12_wins_141 rfl (lv_at hl 2 rfl) ?_
        refine lv_iload_n hx hb dX12_wins_142 rfl (lv_at hl 3 rfl) ?_
        have hq_112 : 0 ≤ x1.toInt ∧ x1.toInt ≤ 46440 ∧ x1.toInt % 1290 = 0 := by first | assumption | omega | (intros; omega)
        have ev_114 : f_95 16 = f 16 := by rw [hF_95 16 (by decide)]
        have hq_113 : 1 ≤ (f_95 16).toInt := by rw [ev_114]; first | assumption | omega | (intros; omega)
        have hq_115 : (f_95 11).toInt ≤ 1990000000 := by first | assumption | omega | (intros; omega)
        refine mcI (zrV (As := [.int x1]) (b := a0) (rest := []) C hs hP hS (c_X12_winsPlainly l D K hM f_95 A_95 hT a0 ha0 hk0 x1 hq_112 hq_113 hq_115) m_X12_winsPlainly wm_X12_139 (zrecv hs hP ha0 (zF_11 hk0) rfl) ⟨by decide, by decide⟩ hl.1 (Nat.le_of_ble_eq_true rfl) dX12_wins_143) hS (fun x_116 f_116 A_116 H locs p_116 hP hS => ?_)
        obtain ⟨hT, hA_116, hF_116, pp_116⟩ := p_116
        have pp_116 : (f_95 11).toInt ≤ (f_116 11).toInt ∧ (f_116 11).toInt ≤ (f_95 11).toInt + 1 ∧ ((f_95 12).toInt ≠ 0 → (f_116 11).toInt = (f_95 11).toInt) ∧ 0 ≤ x_116.toInt ∧ x_116.toInt < (f_95 16).toInt := pp_116
        have ev_117 : f_95 12 = f 12 := by rw [hF_95 12 (by decide)]
        have ev_118 : f_95 16 = f 16 := by rw [hF_95 16 (by decide)]
        rw [ev_117, ev_118] at pp_116
        have FA := frA FA hA_116 (by decide)
        have FF := frF FF hF_116 (by decide)
        have g_119 := z_rng x_116
        exact maI hQ hx hb hr hlk hP hS ⟨hT, FA, FF, (by first | omega | (intro h9; omega) | (simp; done) | (refine ⟨?_, ?_⟩ <;> intros <;> omega) | (refine ⟨?_, ?_, ?_⟩ <;> intros <;> omega))⟩ dX12_wins_146
      · skip
        refine lv_aload_n hx hb dX12_wins_72 rfl (lv_at hl 2 rfl) ?_
        refine lv_bipush (v := 33) hx hb dX12_wins_73 (by decide) ?_
        have hq_120 : (f_95 11).toInt ≤ 2000000000 := by (try simp only [ti_33]); first | assumption | omega | (intros; omega)
        refine mcV (zrV (As := [.int 33]) (b := a0) (rest := []) C hs hP hS (c_X12_body l D K hM f_95 A_95 hT a0 ha0 hk0 33 hq_120) m_X12_body wm_X12_124 (zrecv hs hP ha0 (zF_11 hk0) rfl) ⟨by decide, by decide⟩ hl.1 (Nat.le_of_ble_eq_true rfl) dX12_wins_75) hS (fun f_121 A_121 H locs p_121 hP hS => ?_)
        obtain ⟨hT, hA_121, hF_121, pp_121⟩ := p_121
        have pp_121 : (f_95 11).toInt ≤ (f_121 11).toInt ∧ (f_121 11).toInt ≤ (f_95 11).toInt + 1 ∧ ((f_95 12).toInt ≠ 0 → (f_121 11).toInt = (f_95 11).toInt) := pp_121
        have ev_122 : f_95 12 = f 12 := by rw [hF_95 12 (by decide)]
        rw [ev_122] at pp_121
        try simp only [ti_33] at pp_121
        have FA := frA FA hA_121 (by decide)
        have FF := frF FF hF_121 (by decide)
        refine lv_aload_n hx hb dX12_wins_78 rfl (lv_at hl 2 rfl) ?_
        refine mg_0 C hs hP ha0 hk0 wf_X12_8 dX12_wins_79 ?_
        refine lv_iload_n hx hb dX12_wins_82 rfl (lv_at hl 3 rfl) ?_
        refine lv_bipush (v := 11) hx hb dX12_wins_83 (by decide) ?_
        refine lv_iadd hx hb dX12_wins_85 ?_
        refine lv_topi (fun x_123 ex_123 => ?_)
        obtain ⟨f_123, l_123, u_123⟩ := z_add ex_123 rfl ti_11
        try replace f_123 : x_123.toInt = x1.toInt + 11 := by omega
        have hin_124 : vp_in x_123 (zn K (zr K a0 0)) := vp_in_iff.mpr (by rw [(hf_1.2.2 (by decide))]; refine ⟨?_, ?_⟩ <;> omega)
        refine mld_40 C hs hP hf_1.1 hf_1.2.1 hin_124 dX12_wins_86 ?_
        have ep_125 : x_123.toNatClampNeg = (x1.toInt + 11).toNat := by show x_123.toInt.toNat = _; rw [show x_123.toInt = (x1.toInt + 11) by omega]
        rw [ep_125]
        have ev_126 : A_121 40 (x1.toInt + 11).toNat = A 40 (x1.toInt + 11).toNat := by rw [hA_121 40 (by decide), hA_95 40 (by decide)]
        rw [ev_126]
        refine lv_istore (lv' := [(4, .int (A 40 (x1.toInt + 11).toNat)), (3, .int x_108), (2, .int (A 40 (x1.toInt + 3).toNat)), (0, .ref a0), (1, .int x1)]) hx hb dX12_wins_87 hl (by decide) rfl (fun ls hl => ?_)
        refine lv_aload_n hx hb dX12_wins_89 rfl (lv_at hl 3 rfl) ?_
        refine lv_iload_n hx hb dX12_wins_90 rfl (lv_at hl 4 rfl) ?_
        refine lv_iconst (v := 5) hx hb dX12_wins_91 (by decide) ?_
        refine lv_iconst (v := 5) hx hb dX12_wins_92 (by decide) ?_
        have hq_127 : 0 ≤ x1.toInt ∧ x1.toInt ≤ 46440 ∧ x1.toInt % 1290 = 0 := by (try simp only [ti_5]); first | assumption | omega | (intros; omega)
        refine zcS (zrV (As := [.int x1, .int 5, .int 5]) (b := a0) (rest := []) C hs hP hS (c_X12_greatest l D K hM f_121 A_121 hT a0 ha0 hk0 x1 5 5 hq_127) m_X12_greatest wm_X12_135 (zrecv hs hP ha0 (zF_11 hk0) rfl) ⟨by decide, by decide⟩ hl.1 (Nat.le_of_ble_eq_true rfl) dX12_wins_93) (fun x_128 p_128 => ?_)
        have pp_128 : (x_128.toInt = -1 ∨ 0 ≤ x_128.toInt ∧ x_128.toInt < (f_121 16).toInt) ∧ (1 ≤ (f_121 16).toInt → (mcol (A_121 40) x1 (A_121 55 0)).toInt = (5 : Int32).toInt → x_128.toInt ≠ -1) := p_128
        have ev_129 : f_121 16 = f 16 := by rw [hF_121 16 (by decide), hF_95 16 (by decide)]
        have ev_130 : A_121 40 = A 40 := by rw [hA_121 40 (by decide), hA_95 40 (by decide)]
        have ev_131 : A_121 55 = A 55 := by rw [hA_121 55 (by decide), hA_95 55 (by decide)]
        rw [ev_129, ev_130, ev_131] at pp_128
        try simp only [ti_5] at pp_128
        refine lv_iconst (v := (-1)) hx hb dX12_wins_96 (by decide) ?_
        refine bi_eq (tgt := 104) hx hb rfl ti_m1 dX12_wins_97 (by decide) (fun c_132 => ?_) (fun c_132 => ?_)
        · skip
          refine lv_iconst (v := 0) hx hb dX12_wins_104 (by decide) ?_
          refine lv_istore (lv' := [(5, .int 0), (4, .int (A 40 (x1.toInt + 11).toNat)), (3, .int x_108), (2, .int (A 40 (x1.toInt + 3).toNat)), (0, .ref a0), (1, .int x1)]) hx hb dX12_wins_105 hl (by decide) rfl (fun ls hl => ?_)
          refine lv_iload hx hb dX12_wins_107 (lv_at hl 1 rfl) ?_
          refine lv_iconst (v := (-1)) hx hb dX12_wins_109 (by decide) ?_
          refine bi_eq (tgt := 118) hx hb rfl ti_m1 dX12_wins_110 (by decide) (fun c_133 => ?_) (fun c_133 => ?_)
          · skip
            refine lv_iconst (v := (-1)) hx hb dX12_wins_118 (by decide) ?_
            refine lv_goto (tgt := 130) hx hb dX12_wins_119 (by decide) ?_
            refine lv_istore (lv' := [(6, .int (-1)), (5, .int 0), (4, .int (A 40 (x1.toInt + 11).toNat)), (3, .int x_108), (2, .int (A 40 (x1.toInt + 3).toNat)), (0, .ref a0), (1, .int x1)]) hx hb dX12_wins_130 hl (by decide) rfl (fun ls hl => ?_)
            refine lv_iload hx hb dX12_wins_132 (lv_at hl 0 rfl) ?_
            refine lv_iconst (v := (-1)) hx hb dX12_wins_134 (by decide) ?_
            refine bi_eq (tgt := 141) hx hb ti_m1 ti_m1 dX12_wins_135 (by decide) (fun c_134 => ?_) (fun c_134 => ?_)
            · clear c_134
              refine lv_aload_n hx hb dX12_wins_141 rfl (lv_at hl 5 rfl) ?_
              refine lv_iload_n hx hb dX12_wins_142 rfl (lv_at hl 6 rfl) ?_
              have hq_135 : 0 ≤ x1.toInt ∧ x1.toInt ≤ 46440 ∧ x1.toInt % 1290 = 0 := by first | assumption | omega | (intros; omega)
              have ev_137 : f_121 16 = f 16 := by rw [hF_121 16 (by decide), hF_95 16 (by decide)]
              have hq_136 : 1 ≤ (f_121 16).toInt := by rw [ev_137]; first | assumption | omega | (intros; omega)
              have hq_138 : (f_121 11).toInt ≤ 1990000000 := by first | assumption | omega | (intros; omega)
              refine mcI (zrV (As := [.int x1]) (b := a0) (rest := []) C hs hP hS (c_X12_winsPlainly l D K hM f_121 A_121 hT a0 ha0 hk0 x1 hq_135 hq_136 hq_138) m_X12_winsPlainly wm_X12_139 (zrecv hs hP ha0 (zF_11 hk0) rfl) ⟨by decide, by decide⟩ hl.1 (Nat.le_of_ble_eq_true rfl) dX12_wins_143) hS (fun x_139 f_139 A_139 H locs p_139 hP hS => ?_)
              obtain ⟨hT, hA_139, hF_139, pp_139⟩ := p_139
              have pp_139 : (f_121 11).toInt ≤ (f_139 11).toInt ∧ (f_139 11).toInt ≤ (f_121 11).toInt + 1 ∧ ((f_121 12).toInt ≠ 0 → (f_139 11).toInt = (f_121 11).toInt) ∧ 0 ≤ x_139.toInt ∧ x_139.toInt < (f_121 16).toInt := pp_139
              have ev_140 : f_121 12 = f 12 := by rw [hF_121 12 (by decide), hF_95 12 (by decide)]
              have ev_141 : f_121 16 = f 16 := by rw [hF_121 16 (by decide), hF_95 16 (by decide)]
              rw [ev_140, ev_141] at pp_139
              have FA := frA FA hA_139 (by decide)
              have FF := frF FF hF_139 (by decide)
              have g_142 := z_rng x_139
              exact maI hQ hx hb hr hlk hP hS ⟨hT, FA, FF, (by first | omega | (intro h9; omega) | (simp; done) | (refine ⟨?_, ?_⟩ <;> intros <;> omega) | (refine ⟨?_, ?_, ?_⟩ <;> intros <;> omega))⟩ dX12_wins_146
            · exact absurd c_134 (by decide)
          · skip
            refine lv_iload hx hb dX12_wins_113 (lv_at hl 0 rfl) ?_
            refine bz_eq (tgt := 122) hx hb ti_0 dX12_wins_115 (by decide) (fun c_143 => ?_) (fun c_143 => ?_)
            · clear c_143
              refine lv_aload_n hx hb dX12_wins_122 rfl (lv_at hl 4 rfl) ?_
              refine lv_iload_n hx hb dX12_wins_123 rfl (lv_at hl 5 rfl) ?_
              refine lv_iconst (v := 4) hx hb dX12_wins_124 (by decide) ?_
              refine lv_iload hx hb dX12_wins_125 (lv_at hl 1 rfl) ?_
              have g_144 := z_rng (A 40 (x1.toInt + 11).toNat)
              have hq_145 : 0 ≤ x1.toInt ∧ x1.toInt ≤ 46440 ∧ x1.toInt % 1290 = 0 := by (try simp only [ti_4]); first | assumption | omega | (intros; omega)
              refine zcS (zrV (As := [.int x1, .int 4, .int (A 40 (x1.toInt + 11).toNat)]) (b := a0) (rest := []) C hs hP hS (c_X12_greatest l D K hM f_121 A_121 hT a0 ha0 hk0 x1 4 (A 40 (x1.toInt + 11).toNat) hq_145) m_X12_greatest wm_X12_135 (zrecv hs hP ha0 (zF_11 hk0) rfl) ⟨by decide, by decide⟩ hl.1 (Nat.le_of_ble_eq_true rfl) dX12_wins_127) (fun x_146 p_146 => ?_)
              have pp_146 : (x_146.toInt = -1 ∨ 0 ≤ x_146.toInt ∧ x_146.toInt < (f_121 16).toInt) ∧ (1 ≤ (f_121 16).toInt → (mcol (A_121 40) x1 (A_121 55 0)).toInt = (4 : Int32).toInt → x_146.toInt ≠ -1) := p_146
              have ev_147 : f_121 16 = f 16 := by rw [hF_121 16 (by decide), hF_95 16 (by decide)]
              have ev_148 : A_121 40 = A 40 := by rw [hA_121 40 (by decide), hA_95 40 (by decide)]
              have ev_149 : A_121 55 = A 55 := by rw [hA_121 55 (by decide), hA_95 55 (by decide)]
              rw [ev_147, ev_148, ev_149] at pp_146
              try simp only [ti_4] at pp_146
              refine lv_istore (lv' := [(6, .int x_146), (5, .int 0), (4, .int (A 40 (x1.toInt + 11).toNat)), (3, .int x_108), (2, .int (A 40 (x1.toInt + 3).toNat)), (0, .ref a0), (1, .int x1)]) hx hb dX12_wins_130 hl (by decide) rfl (fun ls hl => ?_)
              refine lv_iload hx hb dX12_wins_132 (lv_at hl 0 rfl) ?_
              refine lv_iconst (v := (-1)) hx hb dX12_wins_134 (by decide) ?_
              refine bi_eq (tgt := 141) hx hb rfl ti_m1 dX12_wins_135 (by decide) (fun c_150 => ?_) (fun c_150 => ?_)
              · skip
                refine lv_aload_n hx hb dX12_wins_141 rfl (lv_at hl 5 rfl) ?_
                refine lv_iload_n hx hb dX12_wins_142 rfl (lv_at hl 6 rfl) ?_
                have hq_151 : 0 ≤ x1.toInt ∧ x1.toInt ≤ 46440 ∧ x1.toInt % 1290 = 0 := by first | assumption | omega | (intros; omega)
                have ev_153 : f_121 16 = f 16 := by rw [hF_121 16 (by decide), hF_95 16 (by decide)]
                have hq_152 : 1 ≤ (f_121 16).toInt := by rw [ev_153]; first | assumption | omega | (intros; omega)
                have hq_154 : (f_121 11).toInt ≤ 1990000000 := by first | assumption | omega | (intros; omega)
                refine mcI (zrV (As := [.int x1]) (b := a0) (rest := []) C hs hP hS (c_X12_winsPlainly l D K hM f_121 A_121 hT a0 ha0 hk0 x1 hq_151 hq_152 hq_154) m_X12_winsPlainly wm_X12_139 (zrecv hs hP ha0 (zF_11 hk0) rfl) ⟨by decide, by decide⟩ hl.1 (Nat.le_of_ble_eq_true rfl) dX12_wins_143) hS (fun x_155 f_155 A_155 H locs p_155 hP hS => ?_)
                obtain ⟨hT, hA_155, hF_155, pp_155⟩ := p_155
                have pp_155 : (f_121 11).toInt ≤ (f_155 11).toInt ∧ (f_155 11).toInt ≤ (f_121 11).toInt + 1 ∧ ((f_121 12).toInt ≠ 0 → (f_155 11).toInt = (f_121 11).toInt) ∧ 0 ≤ x_155.toInt ∧ x_155.toInt < (f_121 16).toInt := pp_155
                have ev_156 : f_121 12 = f 12 := by rw [hF_121 12 (by decide), hF_95 12 (by decide)]
                have ev_157 : f_121 16 = f 16 := by rw [hF_121 16 (by decide), hF_95 16 (by decide)]
                rw [ev_156, ev_157] at pp_155
                have FA := frA FA hA_155 (by decide)
                have FF := frF FF hF_155 (by decide)
                have g_158 := z_rng x_155
                exact maI hQ hx hb hr hlk hP hS ⟨hT, FA, FF, (by first | omega | (intro h9; omega) | (simp; done) | (refine ⟨?_, ?_⟩ <;> intros <;> omega) | (refine ⟨?_, ?_, ?_⟩ <;> intros <;> omega))⟩ dX12_wins_146
              · skip
                refine lv_iload hx hb dX12_wins_138 (lv_at hl 0 rfl) ?_
                have g_159 := z_rng x_146
                exact maI hQ hx hb hr hlk hP hS ⟨hT, FA, FF, (by first | omega | (intro h9; omega) | (simp; done) | (refine ⟨?_, ?_⟩ <;> intros <;> omega) | (refine ⟨?_, ?_, ?_⟩ <;> intros <;> omega))⟩ dX12_wins_140
            · exact absurd c_143 (by decide)
        · skip
          refine lv_iconst (v := 1) hx hb dX12_wins_100 (by decide) ?_
          refine lv_goto (tgt := 105) hx hb dX12_wins_101 (by decide) ?_
          refine lv_istore (lv' := [(5, .int 1), (4, .int (A 40 (x1.toInt + 11).toNat)), (3, .int x_108), (2, .int (A 40 (x1.toInt + 3).toNat)), (0, .ref a0), (1, .int x1)]) hx hb dX12_wins_105 hl (by decide) rfl (fun ls hl => ?_)
          refine lv_iload hx hb dX12_wins_107 (lv_at hl 1 rfl) ?_
          refine lv_iconst (v := (-1)) hx hb dX12_wins_109 (by decide) ?_
          refine bi_eq (tgt := 118) hx hb rfl ti_m1 dX12_wins_110 (by decide) (fun c_160 => ?_) (fun c_160 => ?_)
          · skip
            refine lv_iconst (v := (-1)) hx hb dX12_wins_118 (by decide) ?_
            refine lv_goto (tgt := 130) hx hb dX12_wins_119 (by decide) ?_
            refine lv_istore (lv' := [(6, .int (-1)), (5, .int 1), (4, .int (A 40 (x1.toInt + 11).toNat)), (3, .int x_108), (2, .int (A 40 (x1.toInt + 3).toNat)), (0, .ref a0), (1, .int x1)]) hx hb dX12_wins_130 hl (by decide) rfl (fun ls hl => ?_)
            refine lv_iload hx hb dX12_wins_132 (lv_at hl 0 rfl) ?_
            refine lv_iconst (v := (-1)) hx hb dX12_wins_134 (by decide) ?_
            refine bi_eq (tgt := 141) hx hb ti_m1 ti_m1 dX12_wins_135 (by decide) (fun c_161 => ?_) (fun c_161 => ?_)
            · clear c_161
              refine lv_aload_n hx hb dX12_wins_141 rfl (lv_at hl 5 rfl) ?_
              refine lv_iload_n hx hb dX12_wins_142 rfl (lv_at hl 6 rfl) ?_
              have hq_162 : 0 ≤ x1.toInt ∧ x1.toInt ≤ 46440 ∧ x1.toInt % 1290 = 0 := by first | assumption | omega | (intros; omega)
              have ev_164 : f_121 16 = f 16 := by rw [hF_121 16 (by decide), hF_95 16 (by decide)]
              have hq_163 : 1 ≤ (f_121 16).toInt := by rw [ev_164]; first | assumption | omega | (intros; omega)
              have hq_165 : (f_121 11).toInt ≤ 1990000000 := by first | assumption | omega | (intros; omega)
              refine mcI (zrV (As := [.int x1]) (b := a0) (rest := []) C hs hP hS (c_X12_winsPlainly l D K hM f_121 A_121 hT a0 ha0 hk0 x1 hq_162 hq_163 hq_165) m_X12_winsPlainly wm_X12_139 (zrecv hs hP ha0 (zF_11 hk0) rfl) ⟨by decide, by decide⟩ hl.1 (Nat.le_of_ble_eq_true rfl) dX12_wins_143) hS (fun x_166 f_166 A_166 H locs p_166 hP hS => ?_)
              obtain ⟨hT, hA_166, hF_166, pp_166⟩ := p_166
              have pp_166 : (f_121 11).toInt ≤ (f_166 11).toInt ∧ (f_166 11).toInt ≤ (f_121 11).toInt + 1 ∧ ((f_121 12).toInt ≠ 0 → (f_166 11).toInt = (f_121 11).toInt) ∧ 0 ≤ x_166.toInt ∧ x_166.toInt < (f_121 16).toInt := pp_166
              have ev_167 : f_121 12 = f 12 := by rw [hF_121 12 (by decide), hF_95 12 (by decide)]
              have ev_168 : f_121 16 = f 16 := by rw [hF_121 16 (by decide), hF_95 16 (by decide)]
              rw [ev_167, ev_168] at pp_166
              have FA := frA FA hA_166 (by decide)
              have FF := frF FF hF_166 (by decide)
              have g_169 := z_rng x_166
              exact maI hQ hx hb hr hlk hP hS ⟨hT, FA, FF, (by first | omega | (intro h9; omega) | (simp; done) | (refine ⟨?_, ?_⟩ <;> intros <;> omega) | (refine ⟨?_, ?_, ?_⟩ <;> intros <;> omega))⟩ dX12_wins_146
            · exact absurd c_161 (by decide)
          · skip
            refine lv_iload hx hb dX12_wins_113 (lv_at hl 0 rfl) ?_
            refine bz_eq (tgt := 122) hx hb ti_1 dX12_wins_115 (by decide) (fun c_170 => ?_) (fun c_170 => ?_)
            · exact absurd c_170 (by decide)
            · clear c_170
              refine lv_iconst (v := (-1)) hx hb dX12_wins_118 (by decide) ?_
              refine lv_goto (tgt := 130) hx hb dX12_wins_119 (by decide) ?_
              refine lv_istore (lv' := [(6, .int (-1)), (5, .int 1), (4, .int (A 40 (x1.toInt + 11).toNat)), (3, .int x_108), (2, .int (A 40 (x1.toInt + 3).toNat)), (0, .ref a0), (1, .int x1)]) hx hb dX12_wins_130 hl (by decide) rfl (fun ls hl => ?_)
              refine lv_iload hx hb dX12_wins_132 (lv_at hl 0 rfl) ?_
              refine lv_iconst (v := (-1)) hx hb dX12_wins_134 (by decide) ?_
              refine bi_eq (tgt := 141) hx hb ti_m1 ti_m1 dX12_wins_135 (by decide) (fun c_171 => ?_) (fun c_171 => ?_)
              · clear c_171
                refine lv_aload_n hx hb dX12_wins_141 rfl (lv_at hl 5 rfl) ?_
                refine lv_iload_n hx hb dX12_wins_142 rfl (lv_at hl 6 rfl) ?_
                have hq_172 : 0 ≤ x1.toInt ∧ x1.toInt ≤ 46440 ∧ x1.toInt % 1290 = 0 := by first | assumption | omega | (intros; omega)
                have ev_174 : f_121 16 = f 16 := by rw [hF_121 16 (by decide), hF_95 16 (by decide)]
                have hq_173 : 1 ≤ (f_121 16).toInt := by rw [ev_174]; first | assumption | omega | (intros; omega)
                have hq_175 : (f_121 11).toInt ≤ 1990000000 := by first | assumption | omega | (intros; omega)
                refine mcI (zrV (As := [.int x1]) (b := a0) (rest := []) C hs hP hS (c_X12_winsPlainly l D K hM f_121 A_121 hT a0 ha0 hk0 x1 hq_172 hq_173 hq_175) m_X12_winsPlainly wm_X12_139 (zrecv hs hP ha0 (zF_11 hk0) rfl) ⟨by decide, by decide⟩ hl.1 (Nat.le_of_ble_eq_true rfl) dX12_wins_143) hS (fun x_176 f_176 A_176 H locs p_176 hP hS => ?_)
                obtain ⟨hT, hA_176, hF_176, pp_176⟩ := p_176
                have pp_176 : (f_121 11).toInt ≤ (f_176 11).toInt ∧ (f_176 11).toInt ≤ (f_121 11).toInt + 1 ∧ ((f_121 12).toInt ≠ 0 → (f_176 11).toInt = (f_121 11).toInt) ∧ 0 ≤ x_176.toInt ∧ x_176.toInt < (f_121 16).toInt := pp_176
                have ev_177 : f_121 12 = f 12 := by rw [hF_121 12 (by decide), hF_95 12 (by decide)]
                have ev_178 : f_121 16 = f 16 := by rw [hF_121 16 (by decide), hF_95 16 (by decide)]
                rw [ev_177, ev_178] at pp_176
                have FA := frA FA hA_176 (by decide)
                have FF := frF FF hF_176 (by decide)
                have g_179 := z_rng x_176
                exact maI hQ hx hb hr hlk hP hS ⟨hT, FA, FF, (by first | omega | (intro h9; omega) | (simp; done) | (refine ⟨?_, ?_⟩ <;> intros <;> omega) | (refine ⟨?_, ?_, ?_⟩ <;> intros <;> omega))⟩ dX12_wins_146
              · exact absurd c_171 (by decide)
    · skip
      refine lv_aload_n hx hb dX12_wins_44 rfl (lv_at hl 2 rfl) ?_
      refine lv_bipush (v := 32) hx hb dX12_wins_45 (by decide) ?_
      have hq_180 : (f_95 11).toInt ≤ 2000000000 := by (try simp only [ti_32]); first | assumption | omega | (intros; omega)
      refine mcV (zrV (As := [.int 32]) (b := a0) (rest := []) C hs hP hS (c_X12_body l D K hM f_95 A_95 hT a0 ha0 hk0 32 hq_180) m_X12_body wm_X12_124 (zrecv hs hP ha0 (zF_11 hk0) rfl) ⟨by decide, by decide⟩ hl.1 (Nat.le_of_ble_eq_true rfl) dX12_wins_47) hS (fun f_181 A_181 H locs p_181 hP hS => ?_)
      obtain ⟨hT, hA_181, hF_181, pp_181⟩ := p_181
      have pp_181 : (f_95 11).toInt ≤ (f_181 11).toInt ∧ (f_181 11).toInt ≤ (f_95 11).toInt + 1 ∧ ((f_95 12).toInt ≠ 0 → (f_181 11).toInt = (f_95 11).toInt) := pp_181
      have ev_182 : f_95 12 = f 12 := by rw [hF_95 12 (by decide)]
      rw [ev_182] at pp_181
      try simp only [ti_32] at pp_181
      have FA := frA FA hA_181 (by decide)
      have FF := frF FF hF_181 (by decide)
      refine lv_iload_n hx hb dX12_wins_50 rfl (lv_at hl 0 rfl) ?_
      refine lv_iconst (v := 5) hx hb dX12_wins_51 (by decide) ?_
      refine bi_ne (tgt := 59) hx hb rfl ti_5 dX12_wins_52 (by decide) (fun c_183 => ?_) (fun c_183 => ?_)
      · skip
        refine lv_aload_n hx hb dX12_wins_59 rfl (lv_at hl 2 rfl) ?_
        refine lv_iload_n hx hb dX12_wins_60 rfl (lv_at hl 3 rfl) ?_
        refine lv_iload_n hx hb dX12_wins_61 rfl (lv_at hl 0 rfl) ?_
        refine lv_iload_n hx hb dX12_wins_62 rfl (lv_at hl 0 rfl) ?_
        have g_184 := z_rng x_108
        have hq_185 : 0 ≤ x1.toInt ∧ x1.toInt ≤ 46440 ∧ x1.toInt % 1290 = 0 := by first | assumption | omega | (intros; omega)
        refine zcS (zrV (As := [.int x1, .int x_108, .int x_108]) (b := a0) (rest := []) C hs hP hS (c_X12_greatest l D K hM f_181 A_181 hT a0 ha0 hk0 x1 x_108 x_108 hq_185) m_X12_greatest wm_X12_135 (zrecv hs hP ha0 (zF_11 hk0) rfl) ⟨by decide, by decide⟩ hl.1 (Nat.le_of_ble_eq_true rfl) dX12_wins_63) (fun x_186 p_186 => ?_)
        have pp_186 : (x_186.toInt = -1 ∨ 0 ≤ x_186.toInt ∧ x_186.toInt < (f_181 16).toInt) ∧ (1 ≤ (f_181 16).toInt → (mcol (A_181 40) x1 (A_181 55 0)).toInt = x_108.toInt → x_186.toInt ≠ -1) := p_186
        have ev_187 : f_181 16 = f 16 := by rw [hF_181 16 (by decide), hF_95 16 (by decide)]
        have ev_188 : A_181 40 = A 40 := by rw [hA_181 40 (by decide), hA_95 40 (by decide)]
        have ev_189 : A_181 55 = A 55 := by rw [hA_181 55 (by decide), hA_95 55 (by decide)]
        rw [ev_187, ev_188, ev_189] at pp_186
        have g_190 := z_rng x_186
        exact maI hQ hx hb hr hlk hP hS ⟨hT, FA, FF, (by first | omega | (intro h9; omega) | (simp; done) | (refine ⟨?_, ?_⟩ <;> intros <;> omega) | (refine ⟨?_, ?_, ?_⟩ <;> intros <;> omega))⟩ dX12_wins_66
      · skip
        refine lv_iconst (v := 0) hx hb dX12_wins_55 (by decide) ?_
        refine lv_goto (tgt := 66) hx hb dX12_wins_56 (by decide) ?_
        exact maI hQ hx hb hr hlk hP hS ⟨hT, FA, FF, (by (try simp only [ti_0]); first | omega | (intro h9; omega) | (simp; done) | (refine ⟨?_, ?_⟩ <;> intros <;> omega) | (refine ⟨?_, ?_, ?_⟩ <;> intros <;> omega))⟩ dX12_wins_66
