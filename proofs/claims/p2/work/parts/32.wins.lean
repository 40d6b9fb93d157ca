set_option maxHeartbeats 4000000 in
set_option maxRecDepth 100000 in
theorem c_X12_greatest (l : Launch) (D : va_G) (K : zK) (hM : mK K) (f : Nat → Int32) (A : Nat → Nat → Int32) (hT : mT f A) (a0 : Nat) (ha0 : a0 ∈ zl K) (hk0 : zk K a0 = 11) (x1 : Int32) (x2 : Int32) (x3 : Int32) (hp0 : zRow x1.toInt) : Met l yX12_greatest (zc yX12_greatest cX12_greatest 7 (some .int)) (rmd 1) (va_Pc [.ref a0, .int x1, .int x2, .int x3] (zB D K (mV K f A))) (vp_Si (fun r => (r.toInt = -1 ∨ 0 ≤ r.toInt ∧ r.toInt < (f 16).toInt) ∧ (1 ≤ (f 16).toInt → (mcol (A 40) x1 (A 55 0)).toInt = x2.toInt → r.toInt ≠ -1))) 0 0 (fun _ => False) := by
  refine zin (by decide) (Nat.le_of_ble_eq_true rfl) ?_
  intro p e s m args below meth c ls Q hQ C hr hlk hP hs hl
  have C : CallFix p m c cX12_greatest 7 s args zw RX12 := C
  obtain ⟨hx, hb, hml, hown, hts⟩ := id C
  have hO := hM.1
  have hS : va_S (zA K) s.heap s.heap [] := va_S.rf
  have hl : lv_has ls 7 [(0, .ref a0), (1, .int x1), (2, .int x2), (3, .int x3)] := hl
  have hb0 := hp0.lin
  refine lv_iconst (v := (-1)) hx hb dX12_greatest_0 (by decide) ?_
  refine lv_istore (lv' := [(4, .int (-1)), (0, .ref a0), (1, .int x1), (2, .int x2), (3, .int x3)]) hx hb dX12_greatest_1 hl (by decide) rfl (fun ls hl => ?_)
  refine lv_iconst (v := 0) hx hb dX12_greatest_3 (by decide) ?_
  refine lv_istore (lv' := [(5, .int 0), (4, .int (-1)), (0, .ref a0), (1, .int x1), (2, .int x2), (3, .int x3)]) hx hb dX12_greatest_4 hl (by decide) rfl (fun ls hl => ?_)
  have L_6_3 : ∀ (n_3 : Nat) (y_1 : Int32) (y_2 : Int32) (ls : Array Slot), (2147483648 - y_1.toInt).toNat < n_3 → 0 ≤ y_1.toInt → (y_2.toInt = -1 ∨ 0 ≤ y_2.toInt ∧ y_2.toInt < (f 16).toInt) → (1 ≤ y_1.toInt → (mcol (A 40) x1 (A 55 0)).toInt = x2.toInt → y_2.toInt ≠ -1) → lv_has ls 7 [(5, .int y_1), (4, .int y_2), (0, .ref a0), (1, .int x1), (2, .int x2), (3, .int x3)] → W p l e (rmd 1) s m args below meth c s.heap [] 0 0 Q (F0 m 6 ls []) := by
    intro n_3
    induction n_3 with
    | zero => intro y_1 y_2 ls hm_3; exact absurd hm_3 (Nat.not_lt_zero _)
    | succ n_3 ih_3 =>
      intro y_1 y_2 ls hm_3 iv_4_0 iv_4_1 iv_4_2 hl
      refine lv_iload hx hb dX12_greatest_6 (lv_at hl 0 rfl) ?_
      refine lv_aload_n hx hb dX12_greatest_8 rfl (lv_at hl 2 rfl) ?_
      refine mg_16 C hs hP ha0 hk0 wf_X12_127 dX12_greatest_9 ?_
      have tf_5 : 0 ≤ (f 16).toInt ∧ (f 16).toInt ≤ 4 := hT.1 16
      refine bi_ge (tgt := 78) hx hb rfl rfl dX12_greatest_12 (by decide) (fun c_6 => ?_) (fun c_6 => ?_)
      · skip
        refine lv_iload hx hb dX12_greatest_78 (lv_at hl 1 rfl) ?_
        have g_7 := z_rng y_2
        exact zaS hQ hx hb hr hlk (by (try dsimp only); (first | omega | (intro h9; omega) | (simp; done) | (refine ⟨?_, ?_⟩ <;> intros <;> first | trivial | omega) | (refine ⟨?_, ?_, ?_⟩ <;> intros <;> first | trivial | omega))) dX12_greatest_80
      · skip
        refine lv_aload_n hx hb dX12_greatest_15 rfl (lv_at hl 2 rfl) ?_
        refine lv_iload_n hx hb dX12_greatest_16 rfl (lv_at hl 3 rfl) ?_
        refine lv_aload_n hx hb dX12_greatest_17 rfl (lv_at hl 2 rfl) ?_
        refine mg_15 C hs hP ha0 hk0 wf_X12_39 dX12_greatest_18 ?_
        have hf_8 := hO.r (j := 15) ha0 hk0 (rfl : zX 11 15 = some (55, 4))
        refine lv_iload hx hb dX12_greatest_21 (lv_at hl 0 rfl) ?_
        have g_10 := z_rng y_1
        have hin_9 : vp_in y_1 (zn K (zr K a0 15)) := vp_in_iff.mpr (by rw [(hf_8.2.2 (by decide))]; refine ⟨?_, ?_⟩ <;> omega)
        refine mld_55 C hs hP hf_8.1 hf_8.2.1 hin_9 dX12_greatest_23 ?_
        have tv_11 := ra_55 hT (vp_in_iff.mp hin_9).1 (by have h7 := (vp_in_iff.mp hin_9).2; rw [(hf_8.2.2 (by decide))] at h7; exact h7)
        have g_12 := z_rng x1
        have g_13 := z_rng (A 55 y_1.toNatClampNeg)
        have hq_14 : 0 ≤ (A 55 y_1.toNatClampNeg).toInt ∧ (A 55 y_1.toNatClampNeg).toInt ≤ 59 := by first | assumption | omega | (intros; omega)
        refine zcS (zrV (As := [.int x1, .int (A 55 y_1.toNatClampNeg)]) (b := a0) (rest := []) C hs hP hS (c_X12_colour l D K hM f A hT a0 ha0 hk0 x1 (A 55 y_1.toNatClampNeg) hp0 hq_14) m_X12_colour wm_X12_120 (zrecv hs hP ha0 (zF_11 hk0) rfl) ⟨by decide, by decide⟩ hl.1 (Nat.le_of_ble_eq_true rfl) dX12_greatest_24) (fun x_15 p_15 => ?_)
        have pp_15 : x_15 = mcol (A 40) x1 (A 55 y_1.toNatClampNeg) := p_15
        have pq_15 := congrArg Int32.toInt pp_15
        have hz_15 : y_1.toInt = 0 → x_15.toInt = (mcol (A 40) x1 (A 55 0)).toInt := fun h9 => by rw [pp_15, show y_1.toNatClampNeg = 0 from by show y_1.toInt.toNat = 0; omega]
        refine lv_istore (lv' := [(6, .int x_15), (5, .int y_1), (4, .int y_2), (0, .ref a0), (1, .int x1), (2, .int x2), (3, .int x3)]) hx hb dX12_greatest_27 hl (by decide) rfl (fun ls hl => ?_)
        refine lv_iload hx hb dX12_greatest_29 (lv_at hl 0 rfl) ?_
        refine lv_iload_n hx hb dX12_greatest_31 rfl (lv_at hl 5 rfl) ?_
        refine bi_eq (tgt := 41) hx hb rfl rfl dX12_greatest_32 (by decide) (fun c_16 => ?_) (fun c_16 => ?_)
        · skip
          refine lv_iload hx hb dX12_greatest_41 (lv_at hl 2 rfl) ?_
          refine lv_iconst (v := (-1)) hx hb dX12_greatest_43 (by decide) ?_
          refine bi_eq (tgt := 68) hx hb rfl ti_m1 dX12_greatest_44 (by decide) (fun c_17 => ?_) (fun c_17 => ?_)
          · skip
            refine lv_iload hx hb dX12_greatest_68 (lv_at hl 1 rfl) ?_
            refine lv_istore (lv' := [(4, .int y_1), (6, .int x_15), (5, .int y_1), (0, .ref a0), (1, .int x1), (2, .int x2), (3, .int x3)]) hx hb dX12_greatest_70 hl (by decide) rfl (fun ls hl => ?_)
            obtain ⟨x_18, ex_18⟩ : ∃ y : Int32, y = y_1 + 1 := ⟨_, rfl⟩
            refine lv_iinc (v := x_18) (lv' := [(5, .int x_18), (4, .int y_1), (6, .int x_15), (0, .ref a0), (1, .int x1), (2, .int x2), (3, .int x3)]) hx hb dX12_greatest_72 hl (k := 2) rfl (by rw [ex_18]; rfl) (by decide) rfl (fun ls hl => ?_)
            refine lv_goto (tgt := 6) hx hb dX12_greatest_75 (by decide) ?_
            obtain ⟨f_18, l_18, u_18⟩ := z_add ex_18 rfl ti_1
            try replace f_18 : x_18.toInt = y_1.toInt + 1 := by omega
            have g_19 := z_rng (f 16)
            have g_20 := z_rng x2
            have g_21 := z_rng x_15
            have g_22 := z_rng y_2
            exact ih_3 x_18 y_1 _ (by omega) (by omega) (by omega) (by omega) (lv_sub hl [0, 1, 3, 4, 5, 6] rfl)
          · skip
            refine lv_aload_n hx hb dX12_greatest_47 rfl (lv_at hl 3 rfl) ?_
            refine mg_15 C hs hP ha0 hk0 wf_X12_39 dX12_greatest_48 ?_
            refine lv_iload hx hb dX12_greatest_51 (lv_at hl 1 rfl) ?_
            have hin_23 : vp_in y_1 (zn K (zr K a0 15)) := vp_in_iff.mpr (by rw [(hf_8.2.2 (by decide))]; refine ⟨?_, ?_⟩ <;> omega)
            refine mld_55 C hs hP hf_8.1 hf_8.2.1 hin_23 dX12_greatest_53 ?_
            refine lv_iconst (v := 4) hx hb dX12_greatest_54 (by decide) ?_
            refine lv_idiv hx hb dX12_greatest_55 (by decide) ?_
            refine lv_topi (fun x_24 ex_24 => ?_)
            refine lv_aload_n hx hb dX12_greatest_56 rfl (lv_at hl 3 rfl) ?_
            refine mg_15 C hs hP ha0 hk0 wf_X12_39 dX12_greatest_57 ?_
            refine lv_iload hx hb dX12_greatest_60 (lv_at hl 2 rfl) ?_
            have g_26 := z_rng y_2
            have hin_25 : vp_in y_2 (zn K (zr K a0 15)) := vp_in_iff.mpr (by rw [(hf_8.2.2 (by decide))]; refine ⟨?_, ?_⟩ <;> omega)
            refine mld_55 C hs hP hf_8.1 hf_8.2.1 hin_25 dX12_greatest_62 ?_
            have tv_27 := ra_55 hT (vp_in_iff.mp hin_25).1 (by have h7 := (vp_in_iff.mp hin_25).2; rw [(hf_8.2.2 (by decide))] at h7; exact h7)
            refine lv_iconst (v := 4) hx hb dX12_greatest_63 (by decide) ?_
            refine lv_idiv hx hb dX12_greatest_64 (by decide) ?_
            refine lv_topi (fun x_28 ex_28 => ?_)
            refine bi_le (tgt := 72) hx hb rfl rfl dX12_greatest_65 (by decide) (fun c_29 => ?_) (fun c_29 => ?_)
            · skip
              obtain ⟨x_30, ex_30⟩ : ∃ y : Int32, y = y_1 + 1 := ⟨_, rfl⟩
              refine lv_iinc (v := x_30) (lv' := [(5, .int x_30), (6, .int x_15), (4, .int y_2), (0, .ref a0), (1, .int x1), (2, .int x2), (3, .int x3)]) hx hb dX12_greatest_72 hl (k := 1) rfl (by rw [ex_30]; rfl) (by decide) rfl (fun ls hl => ?_)
              refine lv_goto (tgt := 6) hx hb dX12_greatest_75 (by decide) ?_
              obtain ⟨f_30, l_30, u_30⟩ := z_add ex_30 rfl ti_1
              try replace f_30 : x_30.toInt = y_1.toInt + 1 := by omega
              have g_31 := z_rng (f 16)
              have g_32 := z_rng x2
              have g_33 := z_rng x_15
              have g_34 := z_rng x_24
              have f_d24 := z_div ex_24 rfl ti_4 (by omega) (by decide)
              have g_35 := z_rng x_28
              have g_36 := z_rng (A 55 y_2.toNatClampNeg)
              have f_d28 := z_div ex_28 rfl ti_4 (by omega) (by decide)
              exact ih_3 x_30 y_2 _ (by omega) (by omega) (by omega) (by omega) (lv_sub hl [0, 2, 3, 4, 5, 6] rfl)
            · skip
              refine lv_iload hx hb dX12_greatest_68 (lv_at hl 1 rfl) ?_
              refine lv_istore (lv' := [(4, .int y_1), (6, .int x_15), (5, .int y_1), (0, .ref a0), (1, .int x1), (2, .int x2), (3, .int x3)]) hx hb dX12_greatest_70 hl (by decide) rfl (fun ls hl => ?_)
              obtain ⟨x_37, ex_37⟩ : ∃ y : Int32, y = y_1 + 1 := ⟨_, rfl⟩
              refine lv_iinc (v := x_37) (lv' := [(5, .int x_37), (4, .int y_1), (6, .int x_15), (0, .ref a0), (1, .int x1), (2, .int x2), (3, .int x3)]) hx hb dX12_greatest_72 hl (k := 2) rfl (by rw [ex_37]; rfl) (by decide) rfl (fun ls hl => ?_)
              refine lv_goto (tgt := 6) hx hb dX12_greatest_75 (by decide) ?_
              obtain ⟨f_37, l_37, u_37⟩ := z_add ex_37 rfl ti_1
              try replace f_37 : x_37.toInt = y_1.toInt + 1 := by omega
              have g_38 := z_rng (f 16)
              have g_39 := z_rng x2
              have g_40 := z_rng x_15
              have g_41 := z_rng x_24
              have f_d24 := z_div ex_24 rfl ti_4 (by omega) (by decide)
              have g_42 := z_rng x_28
              have g_43 := z_rng (A 55 y_2.toNatClampNeg)
              have f_d28 := z_div ex_28 rfl ti_4 (by omega) (by decide)
              exact ih_3 x_37 y_1 _ (by omega) (by omega) (by omega) (by omega) (lv_sub hl [0, 1, 3, 4, 5, 6] rfl)
        · skip
          refine lv_iload hx hb dX12_greatest_35 (lv_at hl 0 rfl) ?_
          refine lv_iload_n hx hb dX12_greatest_37 rfl (lv_at hl 6 rfl) ?_
          refine bi_ne (tgt := 72) hx hb rfl rfl dX12_greatest_38 (by decide) (fun c_44 => ?_) (fun c_44 => ?_)
          · skip
            obtain ⟨x_45, ex_45⟩ : ∃ y : Int32, y = y_1 + 1 := ⟨_, rfl⟩
            refine lv_iinc (v := x_45) (lv' := [(5, .int x_45), (6, .int x_15), (4, .int y_2), (0, .ref a0), (1, .int x1), (2, .int x2), (3, .int x3)]) hx hb dX12_greatest_72 hl (k := 1) rfl (by rw [ex_45]; rfl) (by decide) rfl (fun ls hl => ?_)
            refine lv_goto (tgt := 6) hx hb dX12_greatest_75 (by decide) ?_
            obtain ⟨f_45, l_45, u_45⟩ := z_add ex_45 rfl ti_1
            try replace f_45 : x_45.toInt = y_1.toInt + 1 := by omega
            have g_46 := z_rng y_2
            have g_47 := z_rng (f 16)
            have g_48 := z_rng x2
            have g_49 := z_rng x3
            have g_50 := z_rng x_15
            exact ih_3 x_45 y_2 _ (by omega) (by omega) (by omega) (by omega) (lv_sub hl [0, 2, 3, 4, 5, 6] rfl)
          · skip
            refine lv_iload hx hb dX12_greatest_41 (lv_at hl 2 rfl) ?_
            refine lv_iconst (v := (-1)) hx hb dX12_greatest_43 (by decide) ?_
            refine bi_eq (tgt := 68) hx hb rfl ti_m1 dX12_greatest_44 (by decide) (fun c_51 => ?_) (fun c_51 => ?_)
            · skip
              refine lv_iload hx hb dX12_greatest_68 (lv_at hl 1 rfl) ?_
              refine lv_istore (lv' := [(4, .int y_1), (6, .int x_15), (5, .int y_1), (0, .ref a0), (1, .int x1), (2, .int x2), (3, .int x3)]) hx hb dX12_greatest_70 hl (by decide) rfl (fun ls hl => ?_)
              obtain ⟨x_52, ex_52⟩ : ∃ y : Int32, y = y_1 + 1 := ⟨_, rfl⟩
              refine lv_iinc (v := x_52) (lv' := [(5, .int x_52), (4, .int y_1), (6, .int x_15), (0, .ref a0), (1, .int x1), (2, .int x2), (3, .int x3)]) hx hb dX12_greatest_72 hl (k := 2) rfl (by rw [ex_52]; rfl) (by decide) rfl (fun ls hl => ?_)
              refine lv_goto (tgt := 6) hx hb dX12_greatest_75 (by decide) ?_
              obtain ⟨f_52, l_52, u_52⟩ := z_add ex_52 rfl ti_1
              try replace f_52 : x_52.toInt = y_1.toInt + 1 := by omega
              have g_53 := z_rng (f 16)
              have g_54 := z_rng x2
              have g_55 := z_rng x3
              have g_56 := z_rng x_15
              have g_57 := z_rng y_2
              exact ih_3 x_52 y_1 _ (by omega) (by omega) (by omega) (by omega) (lv_sub hl [0, 1, 3, 4, 5, 6] rfl)
            · skip
              refine lv_aload_n hx hb dX12_greatest_47 rfl (lv_at hl 3 rfl) ?_
              refine mg_15 C hs hP ha0 hk0 wf_X12_39 dX12_greatest_48 ?_
              refine lv_iload hx hb dX12_greatest_51 (lv_at hl 1 rfl) ?_
              have hin_58 : vp_in y_1 (zn K (zr K a0 15)) := vp_in_iff.mpr (by rw [(hf_8.2.2 (by decide))]; refine ⟨?_, ?_⟩ <;> omega)
              refine mld_55 C hs hP hf_8.1 hf_8.2.1 hin_58 dX12_greatest_53 ?_
              refine lv_iconst (v := 4) hx hb dX12_greatest_54 (by decide) ?_
              refine lv_idiv hx hb dX12_greatest_55 (by decide) ?_
              refine lv_topi (fun x_59 ex_59 => ?_)
              refine lv_aload_n hx hb dX12_greatest_56 rfl (lv_at hl 3 rfl) ?_
              refine mg_15 C hs hP ha0 hk0 wf_X12_39 dX12_greatest_57 ?_
              refine lv_iload hx hb dX12_greatest_60 (lv_at hl 2 rfl) ?_
              have g_61 := z_rng y_2
              have hin_60 : vp_in y_2 (zn K (zr K a0 15)) := vp_in_iff.mpr (by rw [(hf_8.2.2 (by decide))]; refine ⟨?_, ?_⟩ <;> omega)
              refine mld_55 C hs hP hf_8.1 hf_8.2.1 hin_60 dX12_greatest_62 ?_
              have tv_62 := ra_55 hT (vp_in_iff.mp hin_60).1 (by have h7 := (vp_in_iff.mp hin_60).2; rw [(hf_8.2.2 (by decide))] at h7; exact h7)
              refine lv_iconst (v := 4) hx hb dX12_greatest_63 (by decide) ?_
              refine lv_idiv hx hb dX12_greatest_64 (by decide) ?_
              refine lv_topi (fun x_63 ex_63 => ?_)
              refine bi_le (tgt := 72) hx hb rfl rfl dX12_greatest_65 (by decide) (fun c_64 => ?_) (fun c_64 => ?_)
              · skip
                obtain ⟨x_65, ex_65⟩ : ∃ y : Int32, y = y_1 + 1 := ⟨_, rfl⟩
                refine lv_iinc (v := x_65) (lv' := [(5, .int x_65), (6, .int x_15), (4, .int y_2), (0, .ref a0), (1, .int x1), (2, .int x2), (3, .int x3)]) hx hb dX12_greatest_72 hl (k := 1) rfl (by rw [ex_65]; rfl) (by decide) rfl (fun ls hl => ?_)
                refine lv_goto (tgt := 6) hx hb dX12_greatest_75 (by decide) ?_
                obtain ⟨f_65, l_65, u_65⟩ := z_add ex_65 rfl ti_1
                try replace f_65 : x_65.toInt = y_1.toInt + 1 := by omega
                have g_66 := z_rng (f 16)
                have g_67 := z_rng x2
                have g_68 := z_rng x3
                have g_69 := z_rng x_15
                have g_70 := z_rng x_59
                have f_d59 := z_div ex_59 rfl ti_4 (by omega) (by decide)
                have g_71 := z_rng x_63
                have g_72 := z_rng (A 55 y_2.toNatClampNeg)
                have f_d63 := z_div ex_63 rfl ti_4 (by omega) (by decide)
                exact ih_3 x_65 y_2 _ (by omega) (by omega) (by omega) (by omega) (lv_sub hl [0, 2, 3, 4, 5, 6] rfl)
              · skip
                refine lv_iload hx hb dX12_greatest_68 (lv_at hl 1 rfl) ?_
                refine lv_istore (lv' := [(4, .int y_1), (6, .int x_15), (5, .int y_1), (0, .ref a0), (1, .int x1), (2, .int x2), (3, .int x3)]) hx hb dX12_greatest_70 hl (by decide) rfl (fun ls hl => ?_)
                obtain ⟨x_73, ex_73⟩ : ∃ y : Int32, y = y_1 + 1 := ⟨_, rfl⟩
                refine lv_iinc (v := x_73) (lv' := [(5, .int x_73), (4, .int y_1), (6, .int x_15), (0, .ref a0), (1, .int x1), (2, .int x2), (3, .int x3)]) hx hb dX12_greatest_72 hl (k := 2) rfl (by rw [ex_73]; rfl) (by decide) rfl (fun ls hl => ?_)
                refine lv_goto (tgt := 6) hx hb dX12_greatest_75 (by decide) ?_
                obtain ⟨f_73, l_73, u_73⟩ := z_add ex_73 rfl ti_1
                try replace f_73 : x_73.toInt = y_1.toInt + 1 := by omega
                have g_74 := z_rng (f 16)
                have g_75 := z_rng x2
                have g_76 := z_rng x3
                have g_77 := z_rng x_15
                have g_78 := z_rng x_59
                have f_d59 := z_div ex_59 rfl ti_4 (by omega) (by decide)
                have g_79 := z_rng x_63
                have g_80 := z_rng (A 55 y_2.toNatClampNeg)
                have f_d63 := z_div ex_63 rfl ti_4 (by omega) (by decide)
                exact ih_3 x_73 y_1 _ (by omega) (by omega) (by omega) (by omega) (lv_sub hl [0, 1, 3, 4, 5, 6] rfl)
  exact L_6_3 _ 0 (-1) _ (Nat.lt_succ_self _) (by (try simp only [ti_0, ti_m1]); omega) (by rw [ti_m1]; omega) (by rw [ti_0]; omega) (lv_sub hl [0, 1, 2, 3, 4, 5] rfl)
set_option maxHeartbeats 4000000 in
set_option maxRecDepth 100000 in
theorem c_X12_winsPlainly (l : Launch) (D : va_G) (K : zK) (hM : mK K) (f : Nat → Int32) (A : Nat → Nat → Int32) (hT : mT f A) (a0 : Nat) (ha0 : a0 ∈ zl K) (hk0 : zk K a0 = 11) (x1 : Int32) (hp0 : zRow x1.toInt) (hp1 : 1 ≤ (f 16).toInt) (hp2 : (f 11).toInt ≤ 1990000000) : Met l yX12_winsPlainly (zc yX12_winsPlainly cX12_winsPlainly 4 (some .int)) (rmd 2) (va_Pc [.ref a0, .int x1] (zB D K (mV K f A))) (mQi D K (fun r f' A' => mT f' A' ∧ (∀ k, k ∉ ([50] : List Nat) → A' k = A k) ∧ (∀ k, k ∉ ([11] : List Nat) → f' k = f k) ∧ (f 11).toInt ≤ (f' 11).toInt ∧ (f' 11).toInt ≤ (f 11).toInt + 1 ∧ ((f 12).toInt ≠ 0 → (f' 11).toInt = (f 11).toInt) ∧ 0 ≤ r.toInt ∧ r.toInt < (f 16).toInt)) 0 0 (zA K) := by
  refine zin (by decide) (Nat.le_of_ble_eq_true rfl) ?_
  intro p e s m args below meth c ls Q hQ C hr hlk hP hs hl
  have C : CallFix p m c cX12_winsPlainly 4 s args zw RX12 := C
  obtain ⟨hx, hb, hml, hown, hts⟩ := id C
  have hO := hM.1
  have hS : va_S (zA K) s.heap s.heap [] := va_S.rf
  have FA : ∀ k, k ∉ ([50] : List Nat) → A k = A k := fun _ _ => rfl
  have FF : ∀ k, k ∉ ([11] : List Nat) → f k = f k := fun _ _ => rfl
  have hl : lv_has ls 4 [(0, .ref a0), (1, .int x1)] := hl
  have hb0 := hp0.lin
  refine lv_aload_n hx hb dX12_winsPlainly_0 rfl (lv_at hl 0 rfl) ?_
  refine lv_bipush (v := 31) hx hb dX12_winsPlainly_1 (by decide) ?_
  have hq_1 : (f 11).toInt ≤ 2000000000 := by (try simp only [ti_31]); first | assumption | omega | (intros; omega)
  refine mcV (zrV (As := [.int 31]) (b := a0) (rest := []) C hs hP hS (c_X12_body l D K hM f A hT a0 ha0 hk0 31 hq_1) m_X12_body wm_X12_124 (zrecv hs hP ha0 (zF_11 hk0) rfl) ⟨by decide, by decide⟩ hl.1 (Nat.le_of_ble_eq_true rfl) dX12_winsPlainly_3) hS (fun f_2 A_2 H locs p_2 hP hS => ?_)
  obtain ⟨hT, hA_2, hF_2, pp_2⟩ := p_2
  have pp_2 : (f 11).toInt ≤ (f_2 11).toInt ∧ (f_2 11).toInt ≤ (f 11).toInt + 1 ∧ ((f 12).toInt ≠ 0 → (f_2 11).toInt = (f 11).toInt) := pp_2
  try simp only [ti_31] at pp_2
  have FA := frA FA hA_2 (by decide)
  have FF := frF FF hF_2 (by decide)
  refine lv_iconst (v := 0) hx hb dX12_winsPlainly_6 (by decide) ?_
  refine lv_istore_n (lv' := [(2, .int 0), (0, .ref a0), (1, .int x1)]) hx hb dX12_winsPlainly_7 rfl hl (by decide) rfl (fun ls hl => ?_)
  have L_8_4 : ∀ (n_4 : Nat) (y_3 : Int32) (ls : Array Slot), (2147483648 - y_3.toInt).toNat < n_4 → 0 ≤ y_3.toInt → lv_has ls 4 [(2, .int y_3), (0, .ref a0), (1, .int x1)] → W p l e (rmd 2) s m args below meth c H locs 0 0 Q (F0 m 8 ls []) := by
    intro n_4
    induction n_4 with
    | zero => intro y_3 ls hm_4; exact absurd hm_4 (Nat.not_lt_zero _)
    | succ n_4 ih_4 =>
      intro y_3 ls hm_4 iv_5_0 hl
      refine lv_iload_n hx hb dX12_winsPlainly_8 rfl (lv_at hl 0 rfl) ?_
      refine lv_aload_n hx hb dX12_winsPlainly_9 rfl (lv_at hl 1 rfl) ?_
      refine mg_16 C hs hP ha0 hk0 wf_X12_127 dX12_winsPlainly_10 ?_
      have ev_6 : f_2 16 = f 16 := by rw [hF_2 16 (by decide)]
      rw [ev_6]
      have tf_7 : 0 ≤ (f 16).toInt ∧ (f 16).toInt ≤ 4 := by rw [← ev_6]; exact hT.1 16
      refine bi_ge (tgt := 39) hx hb rfl rfl dX12_winsPlainly_13 (by decide) (fun c_8 => ?_) (fun c_8 => ?_)
      · skip
        refine lv_aload_n hx hb dX12_winsPlainly_39 rfl (lv_at hl 1 rfl) ?_
        refine lv_iload_n hx hb dX12_winsPlainly_40 rfl (lv_at hl 2 rfl) ?_
        refine lv_iconst (v := 4) hx hb dX12_winsPlainly_41 (by decide) ?_
        refine lv_iconst (v := 4) hx hb dX12_winsPlainly_42 (by decide) ?_
        refine zcS (zrV (As := [.int x1, .int 4, .int 4]) (b := a0) (rest := []) C hs hP hS (c_X12_greatest l D K hM f_2 A_2 hT a0 ha0 hk0 x1 4 4 hp0) m_X12_greatest wm_X12_135 (zrecv hs hP ha0 (zF_11 hk0) rfl) ⟨by decide, by decide⟩ hl.1 (Nat.le_of_ble_eq_true rfl) dX12_winsPlainly_43) (fun x_9 p_9 => ?_)
        have pp_9 : (x_9.toInt = -1 ∨ 0 ≤ x_9.toInt ∧ x_9.toInt < (f_2 16).toInt) ∧ (1 ≤ (f_2 16).toInt → (mcol (A_2 40) x1 (A_2 55 0)).toInt = (4 : Int32).toInt → x_9.toInt ≠ -1) := p_9
        have ev_10 : f_2 16 = f 16 := by rw [hF_2 16 (by decide)]
        have ev_11 : A_2 40 = A 40 := by rw [hA_2 40 (by decide)]
        have ev_12 : A_2 55 = A 55 := by rw [hA_2 55 (by decide)]
        rw [ev_10, ev_11, ev_12] at pp_9
        try simp only [ti_4] at pp_9
        have g_13 := z_rng x1
        refine lv_istore_n (lv' := [(2, .int x_9), (0, .ref a0), (1, .int x1)]) hx hb dX12_winsPlainly_46 rfl hl (by decide) rfl (fun ls hl => ?_)
        refine lv_aload_n hx hb dX12_winsPlainly_47 rfl (lv_at hl 1 rfl) ?_
        refine lv_iload_n hx hb dX12_winsPlainly_48 rfl (lv_at hl 2 rfl) ?_
        refine lv_aload_n hx hb dX12_winsPlainly_49 rfl (lv_at hl 1 rfl) ?_
        refine mg_15 C hs hP ha0 hk0 wf_X12_39 dX12_winsPlainly_50 ?_
        have hf_14 := hO.r (j := 15) ha0 hk0 (rfl : zX 11 15 = some (55, 4))
        refine lv_iconst (v := 0) hx hb dX12_winsPlainly_53 (by decide) ?_
        have hin_15 : vp_in 0 (zn K (zr K a0 15)) := vp_in_iff.mpr (by rw [ti_0, (hf_14.2.2 (by decide))]; decide)
        refine mld_55 C hs hP hf_14.1 hf_14.2.1 hin_15 dX12_winsPlainly_54 ?_
        have ep_16 : (0 : Int32).toNatClampNeg = 0 := by decide +kernel
        rw [ep_16]
        have ev_17 : A_2 55 0 = A 55 0 := by rw [hA_2 55 (by decide)]
        have tv_18 := ra_55 (i := 0) hT (by rw [ti_0]; decide) (by rw [ti_0]; decide)
        rw [ep_16] at tv_18
        rw [ev_17] at tv_18
        rw [ev_17]
        have g_19 := z_rng (A 55 0)
        have hq_20 : 0 ≤ (A 55 0).toInt ∧ (A 55 0).toInt ≤ 59 := by first | assumption | omega | (intros; omega)
        refine zcS (zrV (As := [.int x1, .int (A 55 0)]) (b := a0) (rest := []) C hs hP hS (c_X12_colour l D K hM f_2 A_2 hT a0 ha0 hk0 x1 (A 55 0) hp0 hq_20) m_X12_colour wm_X12_120 (zrecv hs hP ha0 (zF_11 hk0) rfl) ⟨by decide, by decide⟩ hl.1 (Nat.le_of_ble_eq_true rfl) dX12_winsPlainly_55) (fun x_21 p_21 => ?_)
        have pp_21 : x_21 = mcol (A_2 40) x1 (A 55 0) := p_21
        have ev_22 : A_2 40 = A 40 := by rw [hA_2 40 (by decide)]
        rw [ev_22] at pp_21
        have pq_21 := congrArg Int32.toInt pp_21
        refine lv_istore_n (lv' := [(3, .int x_21), (2, .int x_9), (0, .ref a0), (1, .int x1)]) hx hb dX12_winsPlainly_58 rfl hl (by decide) rfl (fun ls hl => ?_)
        refine lv_iload_n hx hb dX12_winsPlainly_59 rfl (lv_at hl 1 rfl) ?_
        refine lv_iconst (v := (-1)) hx hb dX12_winsPlainly_60 (by decide) ?_
        refine bi_eq (tgt := 68) hx hb rfl ti_m1 dX12_winsPlainly_61 (by decide) (fun c_23 => ?_) (fun c_23 => ?_)
        · skip
          refine lv_aload_n hx hb dX12_winsPlainly_68 rfl (lv_at hl 2 rfl) ?_
          refine lv_iload_n hx hb dX12_winsPlainly_69 rfl (lv_at hl 3 rfl) ?_
          refine lv_iload_n hx hb dX12_winsPlainly_70 rfl (lv_at hl 0 rfl) ?_
          refine lv_iload_n hx hb dX12_winsPlainly_71 rfl (lv_at hl 0 rfl) ?_
          refine zcS (zrV (As := [.int x1, .int x_21, .int x_21]) (b := a0) (rest := []) C hs hP hS (c_X12_greatest l D K hM f_2 A_2 hT a0 ha0 hk0 x1 x_21 x_21 hp0) m_X12_greatest wm_X12_135 (zrecv hs hP ha0 (zF_11 hk0) rfl) ⟨by decide, by decide⟩ hl.1 (Nat.le_of_ble_eq_true rfl) dX12_winsPlainly_72) (fun x_24 p_24 => ?_)
          have pp_24 : (x_24.toInt = -1 ∨ 0 ≤ x_24.toInt ∧ x_24.toInt < (f_2 16).toInt) ∧ (1 ≤ (f_2 16).toInt → (mcol (A_2 40) x1 (A_2 55 0)).toInt = x_21.toInt → x_24.toInt ≠ -1) := p_24
          have ev_25 : f_2 16 = f 16 := by rw [hF_2 16 (by decide)]
          have ev_26 : A_2 40 = A 40 := by rw [hA_2 40 (by decide)]
          have ev_27 : A_2 55 = A 55 := by rw [hA_2 55 (by decide)]
          rw [ev_25, ev_26, ev_27] at pp_24
          have g_28 := z_rng x_21
          have g_29 := z_rng x_24
          exact maI hQ hx hb hr hlk hP hS ⟨hT, FA, FF, (by (try dsimp only); (first | omega | (intro h9; omega) | (simp; done) | (refine ⟨?_, ?_⟩ <;> intros <;> first | trivial | omega) | (refine ⟨?_, ?_, ?_⟩ <;> intros <;> first | trivial | omega)))⟩ dX12_winsPlainly_75
        · skip
          refine lv_iload_n hx hb dX12_winsPlainly_64 rfl (lv_at hl 1 rfl) ?_
          refine lv_goto (tgt := 75) hx hb dX12_winsPlainly_65 (by decide) ?_
          have g_30 := z_rng x_9
          exact maI hQ hx hb hr hlk hP hS ⟨hT, FA, FF, (by (try dsimp only); (first | omega | (intro h9; omega) | (simp; done) | (refine ⟨?_, ?_⟩ <;> intros <;> first | trivial | omega) | (refine ⟨?_, ?_, ?_⟩ <;> intros <;> first | trivial | omega)))⟩ dX12_winsPlainly_75
      · skip
        refine lv_aload_n hx hb dX12_winsPlainly_16 rfl (lv_at hl 1 rfl) ?_
        refine lv_iload_n hx hb dX12_winsPlainly_17 rfl (lv_at hl 2 rfl) ?_
        refine lv_aload_n hx hb dX12_winsPlainly_18 rfl (lv_at hl 1 rfl) ?_
        refine mg_15 C hs hP ha0 hk0 wf_X12_39 dX12_winsPlainly_19 ?_
        have hf_31 := hO.r (j := 15) ha0 hk0 (rfl : zX 11 15 = some (55, 4))
        refine lv_iload_n hx hb dX12_winsPlainly_22 rfl (lv_at hl 0 rfl) ?_
        have g_33 := z_rng y_3
        have hin_32 : vp_in y_3 (zn K (zr K a0 15)) := vp_in_iff.mpr (by rw [(hf_31.2.2 (by decide))]; refine ⟨?_, ?_⟩ <;> omega)
        refine mld_55 C hs hP hf_31.1 hf_31.2.1 hin_32 dX12_winsPlainly_23 ?_
        have ev_34 : A_2 55 y_3.toNatClampNeg = A 55 y_3.toNatClampNeg := by rw [hA_2 55 (by decide)]
        have tv_35 := ra_55 hT (vp_in_iff.mp hin_32).1 (by have h7 := (vp_in_iff.mp hin_32).2; rw [(hf_31.2.2 (by decide))] at h7; exact h7)
        rw [ev_34] at tv_35
        rw [ev_34]
        have g_36 := z_rng x1
        have g_37 := z_rng (A 55 y_3.toNatClampNeg)
        have hq_38 : 0 ≤ (A 55 y_3.toNatClampNeg).toInt ∧ (A 55 y_3.toNatClampNeg).toInt ≤ 59 := by first | assumption | omega | (intros; omega)
        refine zcS (zrV (As := [.int x1, .int (A 55 y_3.toNatClampNeg)]) (b := a0) (rest := []) C hs hP hS (c_X12_colour l D K hM f_2 A_2 hT a0 ha0 hk0 x1 (A 55 y_3.toNatClampNeg) hp0 hq_38) m_X12_colour wm_X12_120 (zrecv hs hP ha0 (zF_11 hk0) rfl) ⟨by decide, by decide⟩ hl.1 (Nat.le_of_ble_eq_true rfl) dX12_winsPlainly_24) (fun x_39 p_39 => ?_)
        have pp_39 : x_39 = mcol (A_2 40) x1 (A 55 y_3.toNatClampNeg) := p_39
        have ev_40 : A_2 40 = A 40 := by rw [hA_2 40 (by decide)]
        rw [ev_40] at pp_39
        have pq_39 := congrArg Int32.toInt pp_39
        refine lv_iconst (v := 5) hx hb dX12_winsPlainly_27 (by decide) ?_
        refine bi_ne (tgt := 33) hx hb rfl ti_5 dX12_winsPlainly_28 (by decide) (fun c_41 => ?_) (fun c_41 => ?_)
        · skip
          obtain ⟨x_42, ex_42⟩ : ∃ y : Int32, y = y_3 + 1 := ⟨_, rfl⟩
          refine lv_iinc (v := x_42) (lv' := [(2, .int x_42), (0, .ref a0), (1, .int x1)]) hx hb dX12_winsPlainly_33 hl (k := 0) rfl (by rw [ex_42]; rfl) (by decide) rfl (fun ls hl => ?_)
          refine lv_goto (tgt := 8) hx hb dX12_winsPlainly_36 (by decide) ?_
          obtain ⟨f_42, l_42, u_42⟩ := z_add ex_42 rfl ti_1
          try replace f_42 : x_42.toInt = y_3.toInt + 1 := by omega
          have g_43 := z_rng (f 16)
          have g_44 := z_rng x_39
          exact ih_4 x_42 _ (by omega) (by omega) (lv_sub hl [0, 1, 2] rfl)
        · skip
          refine lv_iload_n hx hb dX12_winsPlainly_31 rfl (lv_at hl 0 rfl) ?_
          exact maI hQ hx hb hr hlk hP hS ⟨hT, FA, FF, (by (try dsimp only); (first | omega | (intro h9; omega) | (simp; done) | (refine ⟨?_, ?_⟩ <;> intros <;> first | trivial | omega) | (refine ⟨?_, ?_, ?_⟩ <;> intros <;> first | trivial | omega)))⟩ dX12_winsPlainly_32
  exact L_8_4 _ 0 _ (Nat.lt_succ_self _) (by (try simp only [ti_0]); omega) (lv_sub hl [0, 1, 2] rfl)
set_option maxHeartbeats 4000000 in
set_option maxRecDepth 100000 in
theorem c_X12_wins (l : Launch) (D : va_G) (K : zK) (hM : mK K) (f : Nat → Int32) (A : Nat → Nat → Int32) (hT : mT f A) (a0 : Nat) (ha0 : a0 ∈ zl K) (hk0 : zk K a0 = 11) (x1 : Int32) (hp0 : zRow x1.toInt) (hp1 : 1 ≤ (f 16).toInt) (hp2 : (f 11).toInt ≤ 1980000000) : Met l yX12_wins (zc yX12_wins cX12_wins 7 (some .int)) (rmd 3) (va_Pc [.ref a0, .int x1] (zB D K (mV K f A))) (mQi D K (fun r f' A' => mT f' A' ∧ (∀ k, k ∉ ([50] : List Nat) → A' k = A k) ∧ (∀ k, k ∉ ([11] : List Nat) → f' k = f k) ∧ (f 11).toInt ≤ (f' 11).toInt ∧ (f' 11).toInt ≤ (f 11).toInt + 3 ∧ ((f 12).toInt ≠ 0 → (f' 11).toInt = (f 11).toInt) ∧ 0 ≤ r.toInt ∧ r.toInt < (f 16).toInt)) 0 0 (zA K) := by
  refine zin (by decide) (Nat.le_of_ble_eq_true rfl) ?_
  intro p e s m args below meth c ls Q hQ C hr hlk hP hs hl
  have C : CallFix p m c cX12_wins 7 s args zw RX12 := C
  obtain ⟨hx, hb, hml, hown, hts⟩ := id C
  have hO := hM.1
  have hS : va_S (zA K) s.heap s.heap [] := va_S.rf
  have FA : ∀ k, k ∉ ([50] : List Nat) → A k = A k := fun _ _ => rfl
  have FF : ∀ k, k ∉ ([11] : List Nat) → f k = f k := fun _ _ => rfl
  have hl : lv_has ls 7 [(0, .ref a0), (1, .int x1)] := hl
  have hb0 := hp0.lin
  refine lv_aload_n hx hb dX12_wins_0 rfl (lv_at hl 0 rfl) ?_
  refine mg_0 C hs hP ha0 hk0 wf_X12_8 dX12_wins_1 ?_
  have hf_1 := hO.r (j := 0) ha0 hk0 (rfl : zX 11 0 = some (40, 47730))
  refine lv_iload_n hx hb dX12_wins_4 rfl (lv_at hl 1 rfl) ?_
  refine lv_iconst (v := 2) hx hb dX12_wins_5 (by decide) ?_
  refine lv_iadd hx hb dX12_wins_6 ?_
  refine lv_topi (fun x_2 ex_2 => ?_)
  have g_3 := z_rng x1
  obtain ⟨f_2, l_2, u_2⟩ := z_add ex_2 rfl ti_2
  try replace f_2 : x_2.toInt = x1.toInt + 2 := by omega
  have hi_hr_4 : x_2.toInt = x1.toInt + (2) := by omega
  have hr_4 := z_cell (lo := 2) (hi := 8) hp0 hi_hr_4 (by decide) (by decide)
  have hin_5 : vp_in x_2 (zn K (zr K a0 0)) := vp_in_iff.mpr (by rw [(hf_1.2.2 (by decide))]; exact hr_4.in)
  refine mld_40 C hs hP hf_1.1 hf_1.2.1 hin_5 dX12_wins_7 ?_
  have ep_6 : x_2.toNatClampNeg = (x1.toInt + 2).toNat := z_pos (hi_hr_4.trans (by omega))
  rw [ep_6]
  refine lv_iconst (v := 4) hx hb dX12_wins_8 (by decide) ?_
  refine bi_ne (tgt := 18) hx hb rfl ti_4 dX12_wins_9 (by decide) (fun c_7 => ?_) (fun c_7 => ?_)
  · skip
    refine lv_aload_n hx hb dX12_wins_18 rfl (lv_at hl 0 rfl) ?_
    refine mg_0 C hs hP ha0 hk0 wf_X12_8 dX12_wins_19 ?_
    refine lv_iload_n hx hb dX12_wins_22 rfl (lv_at hl 1 rfl) ?_
    refine lv_iconst (v := 3) hx hb dX12_wins_23 (by decide) ?_
    refine lv_iadd hx hb dX12_wins_24 ?_
    refine lv_topi (fun x_8 ex_8 => ?_)
    obtain ⟨f_8, l_8, u_8⟩ := z_add ex_8 rfl ti_3
    try replace f_8 : x_8.toInt = x1.toInt + 3 := by omega
    have hi_hr_9 : x_8.toInt = x1.toInt + (3) := by omega
    have hr_9 := z_cell (lo := 2) (hi := 8) hp0 hi_hr_9 (by decide) (by decide)
    have hin_10 : vp_in x_8 (zn K (zr K a0 0)) := vp_in_iff.mpr (by rw [(hf_1.2.2 (by decide))]; exact hr_9.in)
    refine mld_40 C hs hP hf_1.1 hf_1.2.1 hin_10 dX12_wins_25 ?_
    have ep_11 : x_8.toNatClampNeg = (x1.toInt + 3).toNat := z_pos (hi_hr_9.trans (by omega))
    rw [ep_11]
    refine lv_istore_n (lv' := [(2, .int (A 40 (x1.toInt + 3).toNat)), (0, .ref a0), (1, .int x1)]) hx hb dX12_wins_26 rfl hl (by decide) rfl (fun ls hl => ?_)
    refine lv_aload_n hx hb dX12_wins_27 rfl (lv_at hl 1 rfl) ?_
    refine lv_iload_n hx hb dX12_wins_28 rfl (lv_at hl 2 rfl) ?_
    refine lv_aload_n hx hb dX12_wins_29 rfl (lv_at hl 1 rfl) ?_
    refine mg_15 C hs hP ha0 hk0 wf_X12_39 dX12_wins_30 ?_
    have hf_12 := hO.r (j := 15) ha0 hk0 (rfl : zX 11 15 = some (55, 4))
    refine lv_iconst (v := 0) hx hb dX12_wins_33 (by decide) ?_
    have hin_13 : vp_in 0 (zn K (zr K a0 15)) := vp_in_iff.mpr (by rw [ti_0, (hf_12.2.2 (by decide))]; decide)
    refine mld_55 C hs hP hf_12.1 hf_12.2.1 hin_13 dX12_wins_34 ?_
    have ep_14 : (0 : Int32).toNatClampNeg = 0 := by decide +kernel
    rw [ep_14]
    have tv_15 := ra_55 (i := 0) hT (by rw [ti_0]; decide) (by rw [ti_0]; decide)
    rw [ep_14] at tv_15
    have g_16 := z_rng (A 55 0)
    have hq_17 : 0 ≤ (A 55 0).toInt ∧ (A 55 0).toInt ≤ 59 := by first | assumption | omega | (intros; omega)
    refine zcS (zrV (As := [.int x1, .int (A 55 0)]) (b := a0) (rest := []) C hs hP hS (c_X12_colour l D K hM f A hT a0 ha0 hk0 x1 (A 55 0) hp0 hq_17) m_X12_colour wm_X12_120 (zrecv hs hP ha0 (zF_11 hk0) rfl) ⟨by decide, by decide⟩ hl.1 (Nat.le_of_ble_eq_true rfl) dX12_wins_35) (fun x_18 p_18 => ?_)
    have pp_18 : x_18 = mcol (A 40) x1 (A 55 0) := p_18
    have pq_18 := congrArg Int32.toInt pp_18
    refine lv_istore_n (lv' := [(3, .int x_18), (2, .int (A 40 (x1.toInt + 3).toNat)), (0, .ref a0), (1, .int x1)]) hx hb dX12_wins_38 rfl hl (by decide) rfl (fun ls hl => ?_)
    refine lv_iload_n hx hb dX12_wins_39 rfl (lv_at hl 1 rfl) ?_
    refine lv_iconst (v := 2) hx hb dX12_wins_40 (by decide) ?_
    refine bi_ne (tgt := 67) hx hb rfl ti_2 dX12_wins_41 (by decide) (fun c_19 => ?_) (fun c_19 => ?_)
    · skip
      refine lv_iload_n hx hb dX12_wins_67 rfl (lv_at hl 1 rfl) ?_
      refine lv_iconst (v := 3) hx hb dX12_wins_68 (by decide) ?_
      refine bi_ne (tgt := 141) hx hb rfl ti_3 dX12_wins_69 (by decide) (fun c_20 => ?_) (fun c_20 => ?_)
      · skip
        refine lv_aload_n hx hb dX12_wins_141 rfl (lv_at hl 2 rfl) ?_
        refine lv_iload_n hx hb dX12_wins_142 rfl (lv_at hl 3 rfl) ?_
        have hq_21 : 1 ≤ (f 16).toInt := by first | assumption | omega | (intros; omega)
        have hq_22 : (f 11).toInt ≤ 1990000000 := by first | assumption | omega | (intros; omega)
        refine mcI (zrV (As := [.int x1]) (b := a0) (rest := []) C hs hP hS (c_X12_winsPlainly l D K hM f A hT a0 ha0 hk0 x1 hp0 hq_21 hq_22) m_X12_winsPlainly wm_X12_139 (zrecv hs hP ha0 (zF_11 hk0) rfl) ⟨by decide, by decide⟩ hl.1 (Nat.le_of_ble_eq_true rfl) dX12_wins_143) hS (fun x_23 f_23 A_23 H locs p_23 hP hS => ?_)
        obtain ⟨hT, hA_23, hF_23, pp_23⟩ := p_23
        have pp_23 : (f 11).toInt ≤ (f_23 11).toInt ∧ (f_23 11).toInt ≤ (f 11).toInt + 1 ∧ ((f 12).toInt ≠ 0 → (f_23 11).toInt = (f 11).toInt) ∧ 0 ≤ x_23.toInt ∧ x_23.toInt < (f 16).toInt := pp_23
        have FA := frA FA hA_23 (by decide)
        have FF := frF FF hF_23 (by decide)
        have g_24 := z_rng x_23
        exact maI hQ hx hb hr hlk hP hS ⟨hT, FA, FF, (by (try dsimp only); (first | omega | (intro h9; omega) | (simp; done) | (refine ⟨?_, ?_⟩ <;> intros <;> first | trivial | omega) | (refine ⟨?_, ?_, ?_⟩ <;> intros <;> first | trivial | omega)))⟩ dX12_wins_146
      · skip
        refine lv_aload_n hx hb dX12_wins_72 rfl (lv_at hl 2 rfl) ?_
        refine lv_bipush (v := 33) hx hb dX12_wins_73 (by decide) ?_
        have hq_25 : (f 11).toInt ≤ 2000000000 := by (try simp only [ti_33]); first | assumption | omega | (intros; omega)
        refine mcV (zrV (As := [.int 33]) (b := a0) (rest := []) C hs hP hS (c_X12_body l D K hM f A hT a0 ha0 hk0 33 hq_25) m_X12_body wm_X12_124 (zrecv hs hP ha0 (zF_11 hk0) rfl) ⟨by decide, by decide⟩ hl.1 (Nat.le_of_ble_eq_true rfl) dX12_wins_75) hS (fun f_26 A_26 H locs p_26 hP hS => ?_)
        obtain ⟨hT, hA_26, hF_26, pp_26⟩ := p_26
        have pp_26 : (f 11).toInt ≤ (f_26 11).toInt ∧ (f_26 11).toInt ≤ (f 11).toInt + 1 ∧ ((f 12).toInt ≠ 0 → (f_26 11).toInt = (f 11).toInt) := pp_26
        try simp only [ti_33] at pp_26
        have FA := frA FA hA_26 (by decide)
        have FF := frF FF hF_26 (by decide)
        refine lv_aload_n hx hb dX12_wins_78 rfl (lv_at hl 2 rfl) ?_
        refine mg_0 C hs hP ha0 hk0 wf_X12_8 dX12_wins_79 ?_
        refine lv_iload_n hx hb dX12_wins_82 rfl (lv_at hl 3 rfl) ?_
        refine lv_bipush (v := 11) hx hb dX12_wins_83 (by decide) ?_
        refine lv_iadd hx hb dX12_wins_85 ?_
        refine lv_topi (fun x_27 ex_27 => ?_)
        obtain ⟨f_27, l_27, u_27⟩ := z_add ex_27 rfl ti_11
        try replace f_27 : x_27.toInt = x1.toInt + 11 := by omega
        have hi_hr_28 : x_27.toInt = x1.toInt + (11) := by omega
        have hr_28 := z_cell (lo := 10) (hi := 19) hp0 hi_hr_28 (by decide) (by decide)
        have hin_29 : vp_in x_27 (zn K (zr K a0 0)) := vp_in_iff.mpr (by rw [(hf_1.2.2 (by decide))]; exact hr_28.in)
        refine mld_40 C hs hP hf_1.1 hf_1.2.1 hin_29 dX12_wins_86 ?_
        have ep_30 : x_27.toNatClampNeg = (x1.toInt + 11).toNat := z_pos (hi_hr_28.trans (by omega))
        rw [ep_30]
        have ev_31 : A_26 40 (x1.toInt + 11).toNat = A 40 (x1.toInt + 11).toNat := by rw [hA_26 40 (by decide)]
        rw [ev_31]
        refine lv_istore (lv' := [(4, .int (A 40 (x1.toInt + 11).toNat)), (3, .int x_18), (2, .int (A 40 (x1.toInt + 3).toNat)), (0, .ref a0), (1, .int x1)]) hx hb dX12_wins_87 hl (by decide) rfl (fun ls hl => ?_)
        refine lv_aload_n hx hb dX12_wins_89 rfl (lv_at hl 3 rfl) ?_
        refine lv_iload_n hx hb dX12_wins_90 rfl (lv_at hl 4 rfl) ?_
        refine lv_iconst (v := 5) hx hb dX12_wins_91 (by decide) ?_
        refine lv_iconst (v := 5) hx hb dX12_wins_92 (by decide) ?_
        refine zcS (zrV (As := [.int x1, .int 5, .int 5]) (b := a0) (rest := []) C hs hP hS (c_X12_greatest l D K hM f_26 A_26 hT a0 ha0 hk0 x1 5 5 hp0) m_X12_greatest wm_X12_135 (zrecv hs hP ha0 (zF_11 hk0) rfl) ⟨by decide, by decide⟩ hl.1 (Nat.le_of_ble_eq_true rfl) dX12_wins_93) (fun x_32 p_32 => ?_)
        have pp_32 : (x_32.toInt = -1 ∨ 0 ≤ x_32.toInt ∧ x_32.toInt < (f_26 16).toInt) ∧ (1 ≤ (f_26 16).toInt → (mcol (A_26 40) x1 (A_26 55 0)).toInt = (5 : Int32).toInt → x_32.toInt ≠ -1) := p_32
        have ev_33 : f_26 16 = f 16 := by rw [hF_26 16 (by decide)]
        have ev_34 : A_26 40 = A 40 := by rw [hA_26 40 (by decide)]
        have ev_35 : A_26 55 = A 55 := by rw [hA_26 55 (by decide)]
        rw [ev_33, ev_34, ev_35] at pp_32
        try simp only [ti_5] at pp_32
        refine lv_iconst (v := (-1)) hx hb dX12_wins_96 (by decide) ?_
        refine bi_eq (tgt := 104) hx hb rfl ti_m1 dX12_wins_97 (by decide) (fun c_36 => ?_) (fun c_36 => ?_)
        · skip
          refine lv_iconst (v := 0) hx hb dX12_wins_104 (by decide) ?_
          refine lv_istore (lv' := [(5, .int 0), (4, .int (A 40 (x1.toInt + 11).toNat)), (3, .int x_18), (2, .int (A 40 (x1.toInt + 3).toNat)), (0, .ref a0), (1, .int x1)]) hx hb dX12_wins_105 hl (by decide) rfl (fun ls hl => ?_)
          refine lv_iload hx hb dX12_wins_107 (lv_at hl 1 rfl) ?_
          refine lv_iconst (v := (-1)) hx hb dX12_wins_109 (by decide) ?_
          refine bi_eq (tgt := 118) hx hb rfl ti_m1 dX12_wins_110 (by decide) (fun c_37 => ?_) (fun c_37 => ?_)
          · skip
            refine lv_iconst (v := (-1)) hx hb dX12_wins_118 (by decide) ?_
            refine lv_goto (tgt := 130) hx hb dX12_wins_119 (by decide) ?_
            refine lv_istore (lv' := [(6, .int (-1)), (5, .int 0), (4, .int (A 40 (x1.toInt + 11).toNat)), (3, .int x_18), (2, .int (A 40 (x1.toInt + 3).toNat)), (0, .ref a0), (1, .int x1)]) hx hb dX12_wins_130 hl (by decide) rfl (fun ls hl => ?_)
            refine lv_iload hx hb dX12_wins_132 (lv_at hl 0 rfl) ?_
            refine lv_iconst (v := (-1)) hx hb dX12_wins_134 (by decide) ?_
            refine bi_eq (tgt := 141) hx hb ti_m1 ti_m1 dX12_wins_135 (by decide) (fun c_38 => ?_) (fun c_38 => ?_)
            · clear c_38
              refine lv_aload_n hx hb dX12_wins_141 rfl (lv_at hl 5 rfl) ?_
              refine lv_iload_n hx hb dX12_wins_142 rfl (lv_at hl 6 rfl) ?_
              have ev_40 : f_26 16 = f 16 := by rw [hF_26 16 (by decide)]
              have hq_39 : 1 ≤ (f_26 16).toInt := by rw [ev_40]; first | assumption | omega | (intros; omega)
              have hq_41 : (f_26 11).toInt ≤ 1990000000 := by first | assumption | omega | (intros; omega)
              refine mcI (zrV (As := [.int x1]) (b := a0) (rest := []) C hs hP hS (c_X12_winsPlainly l D K hM f_26 A_26 hT a0 ha0 hk0 x1 hp0 hq_39 hq_41) m_X12_winsPlainly wm_X12_139 (zrecv hs hP ha0 (zF_11 hk0) rfl) ⟨by decide, by decide⟩ hl.1 (Nat.le_of_ble_eq_true rfl) dX12_wins_143) hS (fun x_42 f_42 A_42 H locs p_42 hP hS => ?_)
              obtain ⟨hT, hA_42, hF_42, pp_42⟩ := p_42
              have pp_42 : (f_26 11).toInt ≤ (f_42 11).toInt ∧ (f_42 11).toInt ≤ (f_26 11).toInt + 1 ∧ ((f_26 12).toInt ≠ 0 → (f_42 11).toInt = (f_26 11).toInt) ∧ 0 ≤ x_42.toInt ∧ x_42.toInt < (f_26 16).toInt := pp_42
              have ev_43 : f_26 12 = f 12 := by rw [hF_26 12 (by decide)]
              have ev_44 : f_26 16 = f 16 := by rw [hF_26 16 (by decide)]
              rw [ev_43, ev_44] at pp_42
              have FA := frA FA hA_42 (by decide)
              have FF := frF FF hF_42 (by decide)
              have g_45 := z_rng x_42
              exact maI hQ hx hb hr hlk hP hS ⟨hT, FA, FF, (by (try dsimp only); (first | omega | (intro h9; omega) | (simp; done) | (refine ⟨?_, ?_⟩ <;> intros <;> first | trivial | omega) | (refine ⟨?_, ?_, ?_⟩ <;> intros <;> first | trivial | omega)))⟩ dX12_wins_146
            · exact absurd c_38 (by decide)
          · skip
            refine lv_iload hx hb dX12_wins_113 (lv_at hl 0 rfl) ?_
            refine bz_eq (tgt := 122) hx hb ti_0 dX12_wins_115 (by decide) (fun c_46 => ?_) (fun c_46 => ?_)
            · clear c_46
              refine lv_aload_n hx hb dX12_wins_122 rfl (lv_at hl 4 rfl) ?_
              refine lv_iload_n hx hb dX12_wins_123 rfl (lv_at hl 5 rfl) ?_
              refine lv_iconst (v := 4) hx hb dX12_wins_124 (by decide) ?_
              refine lv_iload hx hb dX12_wins_125 (lv_at hl 1 rfl) ?_
              refine zcS (zrV (As := [.int x1, .int 4, .int (A 40 (x1.toInt + 11).toNat)]) (b := a0) (rest := []) C hs hP hS (c_X12_greatest l D K hM f_26 A_26 hT a0 ha0 hk0 x1 4 (A 40 (x1.toInt + 11).toNat) hp0) m_X12_greatest wm_X12_135 (zrecv hs hP ha0 (zF_11 hk0) rfl) ⟨by decide, by decide⟩ hl.1 (Nat.le_of_ble_eq_true rfl) dX12_wins_127) (fun x_47 p_47 => ?_)
              have pp_47 : (x_47.toInt = -1 ∨ 0 ≤ x_47.toInt ∧ x_47.toInt < (f_26 16).toInt) ∧ (1 ≤ (f_26 16).toInt → (mcol (A_26 40) x1 (A_26 55 0)).toInt = (4 : Int32).toInt → x_47.toInt ≠ -1) := p_47
              have ev_48 : f_26 16 = f 16 := by rw [hF_26 16 (by decide)]
              have ev_49 : A_26 40 = A 40 := by rw [hA_26 40 (by decide)]
              have ev_50 : A_26 55 = A 55 := by rw [hA_26 55 (by decide)]
              rw [ev_48, ev_49, ev_50] at pp_47
              try simp only [ti_4] at pp_47
              have g_51 := z_rng (A 40 (x1.toInt + 11).toNat)
              refine lv_istore (lv' := [(6, .int x_47), (5, .int 0), (4, .int (A 40 (x1.toInt + 11).toNat)), (3, .int x_18), (2, .int (A 40 (x1.toInt + 3).toNat)), (0, .ref a0), (1, .int x1)]) hx hb dX12_wins_130 hl (by decide) rfl (fun ls hl => ?_)
              refine lv_iload hx hb dX12_wins_132 (lv_at hl 0 rfl) ?_
              refine lv_iconst (v := (-1)) hx hb dX12_wins_134 (by decide) ?_
              refine bi_eq (tgt := 141) hx hb rfl ti_m1 dX12_wins_135 (by decide) (fun c_52 => ?_) (fun c_52 => ?_)
              · skip
                refine lv_aload_n hx hb dX12_wins_141 rfl (lv_at hl 5 rfl) ?_
                refine lv_iload_n hx hb dX12_wins_142 rfl (lv_at hl 6 rfl) ?_
                have ev_54 : f_26 16 = f 16 := by rw [hF_26 16 (by decide)]
                have hq_53 : 1 ≤ (f_26 16).toInt := by rw [ev_54]; first | assumption | omega | (intros; omega)
                have hq_55 : (f_26 11).toInt ≤ 1990000000 := by first | assumption | omega | (intros; omega)
                refine mcI (zrV (As := [.int x1]) (b := a0) (rest := []) C hs hP hS (c_X12_winsPlainly l D K hM f_26 A_26 hT a0 ha0 hk0 x1 hp0 hq_53 hq_55) m_X12_winsPlainly wm_X12_139 (zrecv hs hP ha0 (zF_11 hk0) rfl) ⟨by decide, by decide⟩ hl.1 (Nat.le_of_ble_eq_true rfl) dX12_wins_143) hS (fun x_56 f_56 A_56 H locs p_56 hP hS => ?_)
                obtain ⟨hT, hA_56, hF_56, pp_56⟩ := p_56
                have pp_56 : (f_26 11).toInt ≤ (f_56 11).toInt ∧ (f_56 11).toInt ≤ (f_26 11).toInt + 1 ∧ ((f_26 12).toInt ≠ 0 → (f_56 11).toInt = (f_26 11).toInt) ∧ 0 ≤ x_56.toInt ∧ x_56.toInt < (f_26 16).toInt := pp_56
                have ev_57 : f_26 12 = f 12 := by rw [hF_26 12 (by decide)]
                have ev_58 : f_26 16 = f 16 := by rw [hF_26 16 (by decide)]
                rw [ev_57, ev_58] at pp_56
                have FA := frA FA hA_56 (by decide)
                have FF := frF FF hF_56 (by decide)
                have g_59 := z_rng x_56
                exact maI hQ hx hb hr hlk hP hS ⟨hT, FA, FF, (by (try dsimp only); (first | omega | (intro h9; omega) | (simp; done) | (refine ⟨?_, ?_⟩ <;> intros <;> first | trivial | omega) | (refine ⟨?_, ?_, ?_⟩ <;> intros <;> first | trivial | omega)))⟩ dX12_wins_146
              · skip
                refine lv_iload hx hb dX12_wins_138 (lv_at hl 0 rfl) ?_
                have g_60 := z_rng x_47
                exact maI hQ hx hb hr hlk hP hS ⟨hT, FA, FF, (by (try dsimp only); (first | omega | (intro h9; omega) | (simp; done) | (refine ⟨?_, ?_⟩ <;> intros <;> first | trivial | omega) | (refine ⟨?_, ?_, ?_⟩ <;> intros <;> first | trivial | omega)))⟩ dX12_wins_140
            · exact absurd c_46 (by decide)
        · skip
          refine lv_iconst (v := 1) hx hb dX12_wins_100 (by decide) ?_
          refine lv_goto (tgt := 105) hx hb dX12_wins_101 (by decide) ?_
          refine lv_istore (lv' := [(5, .int 1), (4, .int (A 40 (x1.toInt + 11).toNat)), (3, .int x_18), (2, .int (A 40 (x1.toInt + 3).toNat)), (0, .ref a0), (1, .int x1)]) hx hb dX12_wins_105 hl (by decide) rfl (fun ls hl => ?_)
          refine lv_iload hx hb dX12_wins_107 (lv_at hl 1 rfl) ?_
          refine lv_iconst (v := (-1)) hx hb dX12_wins_109 (by decide) ?_
          refine bi_eq (tgt := 118) hx hb rfl ti_m1 dX12_wins_110 (by decide) (fun c_61 => ?_) (fun c_61 => ?_)
          · skip
            refine lv_iconst (v := (-1)) hx hb dX12_wins_118 (by decide) ?_
            refine lv_goto (tgt := 130) hx hb dX12_wins_119 (by decide) ?_
            refine lv_istore (lv' := [(6, .int (-1)), (5, .int 1), (4, .int (A 40 (x1.toInt + 11).toNat)), (3, .int x_18), (2, .int (A 40 (x1.toInt + 3).toNat)), (0, .ref a0), (1, .int x1)]) hx hb dX12_wins_130 hl (by decide) rfl (fun ls hl => ?_)
            refine lv_iload hx hb dX12_wins_132 (lv_at hl 0 rfl) ?_
            refine lv_iconst (v := (-1)) hx hb dX12_wins_134 (by decide) ?_
            refine bi_eq (tgt := 141) hx hb ti_m1 ti_m1 dX12_wins_135 (by decide) (fun c_62 => ?_) (fun c_62 => ?_)
            · clear c_62
              refine lv_aload_n hx hb dX12_wins_141 rfl (lv_at hl 5 rfl) ?_
              refine lv_iload_n hx hb dX12_wins_142 rfl (lv_at hl 6 rfl) ?_
              have ev_64 : f_26 16 = f 16 := by rw [hF_26 16 (by decide)]
              have hq_63 : 1 ≤ (f_26 16).toInt := by rw [ev_64]; first | assumption | omega | (intros; omega)
              have hq_65 : (f_26 11).toInt ≤ 1990000000 := by first | assumption | omega | (intros; omega)
              refine mcI (zrV (As := [.int x1]) (b := a0) (rest := []) C hs hP hS (c_X12_winsPlainly l D K hM f_26 A_26 hT a0 ha0 hk0 x1 hp0 hq_63 hq_65) m_X12_winsPlainly wm_X12_139 (zrecv hs hP ha0 (zF_11 hk0) rfl) ⟨by decide, by decide⟩ hl.1 (Nat.le_of_ble_eq_true rfl) dX12_wins_143) hS (fun x_66 f_66 A_66 H locs p_66 hP hS => ?_)
              obtain ⟨hT, hA_66, hF_66, pp_66⟩ := p_66
              have pp_66 : (f_26 11).toInt ≤ (f_66 11).toInt ∧ (f_66 11).toInt ≤ (f_26 11).toInt + 1 ∧ ((f_26 12).toInt ≠ 0 → (f_66 11).toInt = (f_26 11).toInt) ∧ 0 ≤ x_66.toInt ∧ x_66.toInt < (f_26 16).toInt := pp_66
              have ev_67 : f_26 12 = f 12 := by rw [hF_26 12 (by decide)]
              have ev_68 : f_26 16 = f 16 := by rw [hF_26 16 (by decide)]
              rw [ev_67, ev_68] at pp_66
              have FA := frA FA hA_66 (by decide)
              have FF := frF FF hF_66 (by decide)
              have g_69 := z_rng x_66
              exact maI hQ hx hb hr hlk hP hS ⟨hT, FA, FF, (by (try dsimp only); (first | omega | (intro h9; omega) | (simp; done) | (refine ⟨?_, ?_⟩ <;> intros <;> first | trivial | omega) | (refine ⟨?_, ?_, ?_⟩ <;> intros <;> first | trivial | omega)))⟩ dX12_wins_146
            · exact absurd c_62 (by decide)
          · skip
            refine lv_iload hx hb dX12_wins_113 (lv_at hl 0 rfl) ?_
            refine bz_eq (tgt := 122) hx hb ti_1 dX12_wins_115 (by decide) (fun c_70 => ?_) (fun c_70 => ?_)
            · exact absurd c_70 (by decide)
            · clear c_70
              refine lv_iconst (v := (-1)) hx hb dX12_wins_118 (by decide) ?_
              refine lv_goto (tgt := 130) hx hb dX12_wins_119 (by decide) ?_
              refine lv_istore (lv' := [(6, .int (-1)), (5, .int 1), (4, .int (A 40 (x1.toInt + 11).toNat)), (3, .int x_18), (2, .int (A 40 (x1.toInt + 3).toNat)), (0, .ref a0), (1, .int x1)]) hx hb dX12_wins_130 hl (by decide) rfl (fun ls hl => ?_)
              refine lv_iload hx hb dX12_wins_132 (lv_at hl 0 rfl) ?_
              refine lv_iconst (v := (-1)) hx hb dX12_wins_134 (by decide) ?_
              refine bi_eq (tgt := 141) hx hb ti_m1 ti_m1 dX12_wins_135 (by decide) (fun c_71 => ?_) (fun c_71 => ?_)
              · clear c_71
                refine lv_aload_n hx hb dX12_wins_141 rfl (lv_at hl 5 rfl) ?_
                refine lv_iload_n hx hb dX12_wins_142 rfl (lv_at hl 6 rfl) ?_
                have ev_73 : f_26 16 = f 16 := by rw [hF_26 16 (by decide)]
                have hq_72 : 1 ≤ (f_26 16).toInt := by rw [ev_73]; first | assumption | omega | (intros; omega)
                have hq_74 : (f_26 11).toInt ≤ 1990000000 := by first | assumption | omega | (intros; omega)
                refine mcI (zrV (As := [.int x1]) (b := a0) (rest := []) C hs hP hS (c_X12_winsPlainly l D K hM f_26 A_26 hT a0 ha0 hk0 x1 hp0 hq_72 hq_74) m_X12_winsPlainly wm_X12_139 (zrecv hs hP ha0 (zF_11 hk0) rfl) ⟨by decide, by decide⟩ hl.1 (Nat.le_of_ble_eq_true rfl) dX12_wins_143) hS (fun x_75 f_75 A_75 H locs p_75 hP hS => ?_)
                obtain ⟨hT, hA_75, hF_75, pp_75⟩ := p_75
                have pp_75 : (f_26 11).toInt ≤ (f_75 11).toInt ∧ (f_75 11).toInt ≤ (f_26 11).toInt + 1 ∧ ((f_26 12).toInt ≠ 0 → (f_75 11).toInt = (f_26 11).toInt) ∧ 0 ≤ x_75.toInt ∧ x_75.toInt < (f_26 16).toInt := pp_75
                have ev_76 : f_26 12 = f 12 := by rw [hF_26 12 (by decide)]
                have ev_77 : f_26 16 = f 16 := by rw [hF_26 16 (by decide)]
                rw [ev_76, ev_77] at pp_75
                have FA := frA FA hA_75 (by decide)
                have FF := frF FF hF_75 (by decide)
                have g_78 := z_rng x_75
                exact maI hQ hx hb hr hlk hP hS ⟨hT, FA, FF, (by (try dsimp only); (first | omega | (intro h9; omega) | (simp; done) | (refine ⟨?_, ?_⟩ <;> intros <;> first | trivial | omega) | (refine ⟨?_, ?_, ?_⟩ <;> intros <;> first | trivial | omega)))⟩ dX12_wins_146
              · exact absurd c_71 (by decide)
    · skip
      refine lv_aload_n hx hb dX12_wins_44 rfl (lv_at hl 2 rfl) ?_
      refine lv_bipush (v := 32) hx hb dX12_wins_45 (by decide) ?_
      have hq_79 : (f 11).toInt ≤ 2000000000 := by (try simp only [ti_32]); first | assumption | omega | (intros; omega)
      refine mcV (zrV (As := [.int 32]) (b := a0) (rest := []) C hs hP hS (c_X12_body l D K hM f A hT a0 ha0 hk0 32 hq_79) m_X12_body wm_X12_124 (zrecv hs hP ha0 (zF_11 hk0) rfl) ⟨by decide, by decide⟩ hl.1 (Nat.le_of_ble_eq_true rfl) dX12_wins_47) hS (fun f_80 A_80 H locs p_80 hP hS => ?_)
      obtain ⟨hT, hA_80, hF_80, pp_80⟩ := p_80
      have pp_80 : (f 11).toInt ≤ (f_80 11).toInt ∧ (f_80 11).toInt ≤ (f 11).toInt + 1 ∧ ((f 12).toInt ≠ 0 → (f_80 11).toInt = (f 11).toInt) := pp_80
      try simp only [ti_32] at pp_80
      have FA := frA FA hA_80 (by decide)
      have FF := frF FF hF_80 (by decide)
      refine lv_iload_n hx hb dX12_wins_50 rfl (lv_at hl 0 rfl) ?_
      refine lv_iconst (v := 5) hx hb dX12_wins_51 (by decide) ?_
      refine bi_ne (tgt := 59) hx hb rfl ti_5 dX12_wins_52 (by decide) (fun c_81 => ?_) (fun c_81 => ?_)
      · skip
        refine lv_aload_n hx hb dX12_wins_59 rfl (lv_at hl 2 rfl) ?_
        refine lv_iload_n hx hb dX12_wins_60 rfl (lv_at hl 3 rfl) ?_
        refine lv_iload_n hx hb dX12_wins_61 rfl (lv_at hl 0 rfl) ?_
        refine lv_iload_n hx hb dX12_wins_62 rfl (lv_at hl 0 rfl) ?_
        refine zcS (zrV (As := [.int x1, .int x_18, .int x_18]) (b := a0) (rest := []) C hs hP hS (c_X12_greatest l D K hM f_80 A_80 hT a0 ha0 hk0 x1 x_18 x_18 hp0) m_X12_greatest wm_X12_135 (zrecv hs hP ha0 (zF_11 hk0) rfl) ⟨by decide, by decide⟩ hl.1 (Nat.le_of_ble_eq_true rfl) dX12_wins_63) (fun x_82 p_82 => ?_)
        have pp_82 : (x_82.toInt = -1 ∨ 0 ≤ x_82.toInt ∧ x_82.toInt < (f_80 16).toInt) ∧ (1 ≤ (f_80 16).toInt → (mcol (A_80 40) x1 (A_80 55 0)).toInt = x_18.toInt → x_82.toInt ≠ -1) := p_82
        have ev_83 : f_80 16 = f 16 := by rw [hF_80 16 (by decide)]
        have ev_84 : A_80 40 = A 40 := by rw [hA_80 40 (by decide)]
        have ev_85 : A_80 55 = A 55 := by rw [hA_80 55 (by decide)]
        rw [ev_83, ev_84, ev_85] at pp_82
        have g_86 := z_rng x_18
        have g_87 := z_rng x_82
        exact maI hQ hx hb hr hlk hP hS ⟨hT, FA, FF, (by (try dsimp only); (first | omega | (intro h9; omega) | (simp; done) | (refine ⟨?_, ?_⟩ <;> intros <;> first | trivial | omega) | (refine ⟨?_, ?_, ?_⟩ <;> intros <;> first | trivial | omega)))⟩ dX12_wins_66
      · skip
        refine lv_iconst (v := 0) hx hb dX12_wins_55 (by decide) ?_
        refine lv_goto (tgt := 66) hx hb dX12_wins_56 (by decide) ?_
        exact maI hQ hx hb hr hlk hP hS ⟨hT, FA, FF, (by (try dsimp only); (try simp only [ti_0]); (first | omega | (intro h9; omega) | (simp; done) | (refine ⟨?_, ?_⟩ <;> intros <;> first | trivial | omega) | (refine ⟨?_, ?_, ?_⟩ <;> intros <;> first | trivial | omega)))⟩ dX12_wins_66
  · skip
    refine lv_aload_n hx hb dX12_wins_12 rfl (lv_at hl 0 rfl) ?_
    refine lv_bipush (v := 34) hx hb dX12_wins_13 (by decide) ?_
    have hq_88 : (f 11).toInt ≤ 2000000000 := by (try simp only [ti_34]); first | assumption | omega | (intros; omega)
    refine mcV (zrV (As := [.int 34]) (b := a0) (rest := []) C hs hP hS (c_X12_body l D K hM f A hT a0 ha0 hk0 34 hq_88) m_X12_body wm_X12_124 (zrecv hs hP ha0 (zF_11 hk0) rfl) ⟨by decide, by decide⟩ hl.1 (Nat.le_of_ble_eq_true rfl) dX12_wins_15) hS (fun f_89 A_89 H locs p_89 hP hS => ?_)
    obtain ⟨hT, hA_89, hF_89, pp_89⟩ := p_89
    have pp_89 : (f 11).toInt ≤ (f_89 11).toInt ∧ (f_89 11).toInt ≤ (f 11).toInt + 1 ∧ ((f 12).toInt ≠ 0 → (f_89 11).toInt = (f 11).toInt) := pp_89
    try simp only [ti_34] at pp_89
    have FA := frA FA hA_89 (by decide)
    have FF := frF FF hF_89 (by decide)
    refine lv_aload_n hx hb dX12_wins_18 rfl (lv_at hl 0 rfl) ?_
    refine mg_0 C hs hP ha0 hk0 wf_X12_8 dX12_wins_19 ?_
    refine lv_iload_n hx hb dX12_wins_22 rfl (lv_at hl 1 rfl) ?_
    refine lv_iconst (v := 3) hx hb dX12_wins_23 (by decide) ?_
    refine lv_iadd hx hb dX12_wins_24 ?_
    refine lv_topi (fun x_90 ex_90 => ?_)
    obtain ⟨f_90, l_90, u_90⟩ := z_add ex_90 rfl ti_3
    try replace f_90 : x_90.toInt = x1.toInt + 3 := by omega
    have hi_hr_91 : x_90.toInt = x1.toInt + (3) := by omega
    have hr_91 := z_cell (lo := 2) (hi := 8) hp0 hi_hr_91 (by decide) (by decide)
    have hin_92 : vp_in x_90 (zn K (zr K a0 0)) := vp_in_iff.mpr (by rw [(hf_1.2.2 (by decide))]; exact hr_91.in)
    refine mld_40 C hs hP hf_1.1 hf_1.2.1 hin_92 dX12_wins_25 ?_
    have ep_93 : x_90.toNatClampNeg = (x1.toInt + 3).toNat := z_pos (hi_hr_91.trans (by omega))
    rw [ep_93]
    have ev_94 : A_89 40 (x1.toInt + 3).toNat = A 40 (x1.toInt + 3).toNat := by rw [hA_89 40 (by decide)]
    rw [ev_94]
    refine lv_istore_n (lv' := [(2, .int (A 40 (x1.toInt + 3).toNat)), (0, .ref a0), (1, .int x1)]) hx hb dX12_wins_26 rfl hl (by decide) rfl (fun ls hl => ?_)
    refine lv_aload_n hx hb dX12_wins_27 rfl (lv_at hl 1 rfl) ?_
    refine lv_iload_n hx hb dX12_wins_28 rfl (lv_at hl 2 rfl) ?_
    refine lv_aload_n hx hb dX12_wins_29 rfl (lv_at hl 1 rfl) ?_
    refine mg_15 C hs hP ha0 hk0 wf_X12_39 dX12_wins_30 ?_
    have hf_95 := hO.r (j := 15) ha0 hk0 (rfl : zX 11 15 = some (55, 4))
    refine lv_iconst (v := 0) hx hb dX12_wins_33 (by decide) ?_
    have hin_96 : vp_in 0 (zn K (zr K a0 15)) := vp_in_iff.mpr (by rw [ti_0, (hf_95.2.2 (by decide))]; decide)
    refine mld_55 C hs hP hf_95.1 hf_95.2.1 hin_96 dX12_wins_34 ?_
    have ep_97 : (0 : Int32).toNatClampNeg = 0 := by decide +kernel
    rw [ep_97]
    have ev_98 : A_89 55 0 = A 55 0 := by rw [hA_89 55 (by decide)]
    have tv_99 := ra_55 (i := 0) hT (by rw [ti_0]; decide) (by rw [ti_0]; decide)
    rw [ep_97] at tv_99
    rw [ev_98] at tv_99
    rw [ev_98]
    have g_100 := z_rng (A 55 0)
    have hq_101 : 0 ≤ (A 55 0).toInt ∧ (A 55 0).toInt ≤ 59 := by first | assumption | omega | (intros; omega)
    refine zcS (zrV (As := [.int x1, .int (A 55 0)]) (b := a0) (rest := []) C hs hP hS (c_X12_colour l D K hM f_89 A_89 hT a0 ha0 hk0 x1 (A 55 0) hp0 hq_101) m_X12_colour wm_X12_120 (zrecv hs hP ha0 (zF_11 hk0) rfl) ⟨by decide, by decide⟩ hl.1 (Nat.le_of_ble_eq_true rfl) dX12_wins_35) (fun x_102 p_102 => ?_)
    have pp_102 : x_102 = mcol (A_89 40) x1 (A 55 0) := p_102
    have ev_103 : A_89 40 = A 40 := by rw [hA_89 40 (by decide)]
    rw [ev_103] at pp_102
    have pq_102 := congrArg Int32.toInt pp_102
    refine lv_istore_n (lv' := [(3, .int x_102), (2, .int (A 40 (x1.toInt + 3).toNat)), (0, .ref a0), (1, .int x1)]) hx hb dX12_wins_38 rfl hl (by decide) rfl (fun ls hl => ?_)
    refine lv_iload_n hx hb dX12_wins_39 rfl (lv_at hl 1 rfl) ?_
    refine lv_iconst (v := 2) hx hb dX12_wins_40 (by decide) ?_
    refine bi_ne (tgt := 67) hx hb rfl ti_2 dX12_wins_41 (by decide) (fun c_104 => ?_) (fun c_104 => ?_)
    · skip
      refine lv_iload_n hx hb dX12_wins_67 rfl (lv_at hl 1 rfl) ?_
      refine lv_iconst (v := 3) hx hb dX12_wins_68 (by decide) ?_
      refine bi_ne (tgt := 141) hx hb rfl ti_3 dX12_wins_69 (by decide) (fun c_105 => ?_) (fun c_105 => ?_)
      · skip
        refine lv_aload_n hx hb dX12_wins_141 rfl (lv_at hl 2 rfl) ?_
        refine lv_iload_n hx hb dX12_wins_142 rfl (lv_at hl 3 rfl) ?_
        have ev_107 : f_89 16 = f 16 := by rw [hF_89 16 (by decide)]
        have hq_106 : 1 ≤ (f_89 16).toInt := by rw [ev_107]; first | assumption | omega | (intros; omega)
        have hq_108 : (f_89 11).toInt ≤ 1990000000 := by first | assumption | omega | (intros; omega)
        refine mcI (zrV (As := [.int x1]) (b := a0) (rest := []) C hs hP hS (c_X12_winsPlainly l D K hM f_89 A_89 hT a0 ha0 hk0 x1 hp0 hq_106 hq_108) m_X12_winsPlainly wm_X12_139 (zrecv hs hP ha0 (zF_11 hk0) rfl) ⟨by decide, by decide⟩ hl.1 (Nat.le_of_ble_eq_true rfl) dX12_wins_143) hS (fun x_109 f_109 A_109 H locs p_109 hP hS => ?_)
        obtain ⟨hT, hA_109, hF_109, pp_109⟩ := p_109
        have pp_109 : (f_89 11).toInt ≤ (f_109 11).toInt ∧ (f_109 11).toInt ≤ (f_89 11).toInt + 1 ∧ ((f_89 12).toInt ≠ 0 → (f_109 11).toInt = (f_89 11).toInt) ∧ 0 ≤ x_109.toInt ∧ x_109.toInt < (f_89 16).toInt := pp_109
        have ev_110 : f_89 12 = f 12 := by rw [hF_89 12 (by decide)]
        have ev_111 : f_89 16 = f 16 := by rw [hF_89 16 (by decide)]
        rw [ev_110, ev_111] at pp_109
        have FA := frA FA hA_109 (by decide)
        have FF := frF FF hF_109 (by decide)
        have g_112 := z_rng x_109
        exact maI hQ hx hb hr hlk hP hS ⟨hT, FA, FF, (by (try dsimp only); (first | omega | (intro h9; omega) | (simp; done) | (refine ⟨?_, ?_⟩ <;> intros <;> first | trivial | omega) | (refine ⟨?_, ?_, ?_⟩ <;> intros <;> first | trivial | omega)))⟩ dX12_wins_146
      · skip
        refine lv_aload_n hx hb dX12_wins_72 rfl (lv_at hl 2 rfl) ?_
        refine lv_bipush (v := 33) hx hb dX12_wins_73 (by decide) ?_
        have hq_113 : (f_89 11).toInt ≤ 2000000000 := by (try simp only [ti_33]); first | assumption | omega | (intros; omega)
        refine mcV (zrV (As := [.int 33]) (b := a0) (rest := []) C hs hP hS (c_X12_body l D K hM f_89 A_89 hT a0 ha0 hk0 33 hq_113) m_X12_body wm_X12_124 (zrecv hs hP ha0 (zF_11 hk0) rfl) ⟨by decide, by decide⟩ hl.1 (Nat.le_of_ble_eq_true rfl) dX12_wins_75) hS (fun f_114 A_114 H locs p_114 hP hS => ?_)
        obtain ⟨hT, hA_114, hF_114, pp_114⟩ := p_114
        have pp_114 : (f_89 11).toInt ≤ (f_114 11).toInt ∧ (f_114 11).toInt ≤ (f_89 11).toInt + 1 ∧ ((f_89 12).toInt ≠ 0 → (f_114 11).toInt = (f_89 11).toInt) := pp_114
        have ev_115 : f_89 12 = f 12 := by rw [hF_89 12 (by decide)]
        rw [ev_115] at pp_114
        try simp only [ti_33] at pp_114
        have FA := frA FA hA_114 (by decide)
        have FF := frF FF hF_114 (by decide)
        refine lv_aload_n hx hb dX12_wins_78 rfl (lv_at hl 2 rfl) ?_
        refine mg_0 C hs hP ha0 hk0 wf_X12_8 dX12_wins_79 ?_
        refine lv_iload_n hx hb dX12_wins_82 rfl (lv_at hl 3 rfl) ?_
        refine lv_bipush (v := 11) hx hb dX12_wins_83 (by decide) ?_
        refine lv_iadd hx hb dX12_wins_85 ?_
        refine lv_topi (fun x_116 ex_116 => ?_)
        obtain ⟨f_116, l_116, u_116⟩ := z_add ex_116 rfl ti_11
        try replace f_116 : x_116.toInt = x1.toInt + 11 := by omega
        have hi_hr_117 : x_116.toInt = x1.toInt + (11) := by omega
        have hr_117 := z_cell (lo := 10) (hi := 19) hp0 hi_hr_117 (by decide) (by decide)
        have hin_118 : vp_in x_116 (zn K (zr K a0 0)) := vp_in_iff.mpr (by rw [(hf_1.2.2 (by decide))]; exact hr_117.in)
        refine mld_40 C hs hP hf_1.1 hf_1.2.1 hin_118 dX12_wins_86 ?_
        have ep_119 : x_116.toNatClampNeg = (x1.toInt + 11).toNat := z_pos (hi_hr_117.trans (by omega))
        rw [ep_119]
        have ev_120 : A_114 40 (x1.toInt + 11).toNat = A 40 (x1.toInt + 11).toNat := by rw [hA_114 40 (by decide), hA_89 40 (by decide)]
        rw [ev_120]
        refine lv_istore (lv' := [(4, .int (A 40 (x1.toInt + 11).toNat)), (3, .int x_102), (2, .int (A 40 (x1.toInt + 3).toNat)), (0, .ref a0), (1, .int x1)]) hx hb dX12_wins_87 hl (by decide) rfl (fun ls hl => ?_)
        refine lv_aload_n hx hb dX12_wins_89 rfl (lv_at hl 3 rfl) ?_
        refine lv_iload_n hx hb dX12_wins_90 rfl (lv_at hl 4 rfl) ?_
        refine lv_iconst (v := 5) hx hb dX12_wins_91 (by decide) ?_
        refine lv_iconst (v := 5) hx hb dX12_wins_92 (by decide) ?_
        refine zcS (zrV (As := [.int x1, .int 5, .int 5]) (b := a0) (rest := []) C hs hP hS (c_X12_greatest l D K hM f_114 A_114 hT a0 ha0 hk0 x1 5 5 hp0) m_X12_greatest wm_X12_135 (zrecv hs hP ha0 (zF_11 hk0) rfl) ⟨by decide, by decide⟩ hl.1 (Nat.le_of_ble_eq_true rfl) dX12_wins_93) (fun x_121 p_121 => ?_)
        have pp_121 : (x_121.toInt = -1 ∨ 0 ≤ x_121.toInt ∧ x_121.toInt < (f_114 16).toInt) ∧ (1 ≤ (f_114 16).toInt → (mcol (A_114 40) x1 (A_114 55 0)).toInt = (5 : Int32).toInt → x_121.toInt ≠ -1) := p_121
        have ev_122 : f_114 16 = f 16 := by rw [hF_114 16 (by decide), hF_89 16 (by decide)]
        have ev_123 : A_114 40 = A 40 := by rw [hA_114 40 (by decide), hA_89 40 (by decide)]
        have ev_124 : A_114 55 = A 55 := by rw [hA_114 55 (by decide), hA_89 55 (by decide)]
        rw [ev_122, ev_123, ev_124] at pp_121
        try simp only [ti_5] at pp_121
        refine lv_iconst (v := (-1)) hx hb dX12_wins_96 (by decide) ?_
        refine bi_eq (tgt := 104) hx hb rfl ti_m1 dX12_wins_97 (by decide) (fun c_125 => ?_) (fun c_125 => ?_)
        · skip
          refine lv_iconst (v := 0) hx hb dX12_wins_104 (by decide) ?_
          refine lv_istore (lv' := [(5, .int 0), (4, .int (A 40 (x1.toInt + 11).toNat)), (3, .int x_102), (2, .int (A 40 (x1.toInt + 3).toNat)), (0, .ref a0), (1, .int x1)]) hx hb dX12_wins_105 hl (by decide) rfl (fun ls hl => ?_)
          refine lv_iload hx hb dX12_wins_107 (lv_at hl 1 rfl) ?_
          refine lv_iconst (v := (-1)) hx hb dX12_wins_109 (by decide) ?_
          refine bi_eq (tgt := 118) hx hb rfl ti_m1 dX12_wins_110 (by decide) (fun c_126 => ?_) (fun c_126 => ?_)
          · skip
            refine lv_iconst (v := (-1)) hx hb dX12_wins_118 (by decide) ?_
            refine lv_goto (tgt := 130) hx hb dX12_wins_119 (by decide) ?_
            refine lv_istore (lv' := [(6, .int (-1)), (5, .int 0), (4, .int (A 40 (x1.toInt + 11).toNat)), (3, .int x_102), (2, .int (A 40 (x1.toInt + 3).toNat)), (0, .ref a0), (1, .int x1)]) hx hb dX12_wins_130 hl (by decide) rfl (fun ls hl => ?_)
            refine lv_iload hx hb dX12_wins_132 (lv_at hl 0 rfl) ?_
            refine lv_iconst (v := (-1)) hx hb dX12_wins_134 (by decide) ?_
            refine bi_eq (tgt := 141) hx hb ti_m1 ti_m1 dX12_wins_135 (by decide) (fun c_127 => ?_) (fun c_127 => ?_)
            · clear c_127
              refine lv_aload_n hx hb dX12_wins_141 rfl (lv_at hl 5 rfl) ?_
              refine lv_iload_n hx hb dX12_wins_142 rfl (lv_at hl 6 rfl) ?_
              have ev_129 : f_114 16 = f 16 := by rw [hF_114 16 (by decide), hF_89 16 (by decide)]
              have hq_128 : 1 ≤ (f_114 16).toInt := by rw [ev_129]; first | assumption | omega | (intros; omega)
              have hq_130 : (f_114 11).toInt ≤ 1990000000 := by first | assumption | omega | (intros; omega)
              refine mcI (zrV (As := [.int x1]) (b := a0) (rest := []) C hs hP hS (c_X12_winsPlainly l D K hM f_114 A_114 hT a0 ha0 hk0 x1 hp0 hq_128 hq_130) m_X12_winsPlainly wm_X12_139 (zrecv hs hP ha0 (zF_11 hk0) rfl) ⟨by decide, by decide⟩ hl.1 (Nat.le_of_ble_eq_true rfl) dX12_wins_143) hS (fun x_131 f_131 A_131 H locs p_131 hP hS => ?_)
              obtain ⟨hT, hA_131, hF_131, pp_131⟩ := p_131
              have pp_131 : (f_114 11).toInt ≤ (f_131 11).toInt ∧ (f_131 11).toInt ≤ (f_114 11).toInt + 1 ∧ ((f_114 12).toInt ≠ 0 → (f_131 11).toInt = (f_114 11).toInt) ∧ 0 ≤ x_131.toInt ∧ x_131.toInt < (f_114 16).toInt := pp_131
              have ev_132 : f_114 12 = f 12 := by rw [hF_114 12 (by decide), hF_89 12 (by decide)]
              have ev_133 : f_114 16 = f 16 := by rw [hF_114 16 (by decide), hF_89 16 (by decide)]
              rw [ev_132, ev_133] at pp_131
              have FA := frA FA hA_131 (by decide)
              have FF := frF FF hF_131 (by decide)
              have g_134 := z_rng x_131
              exact maI hQ hx hb hr hlk hP hS ⟨hT, FA, FF, (by (try dsimp only); (first | omega | (intro h9; omega) | (simp; done) | (refine ⟨?_, ?_⟩ <;> intros <;> first | trivial | omega) | (refine ⟨?_, ?_, ?_⟩ <;> intros <;> first | trivial | omega)))⟩ dX12_wins_146
            · exact absurd c_127 (by decide)
          · skip
            refine lv_iload hx hb dX12_wins_113 (lv_at hl 0 rfl) ?_
            refine bz_eq (tgt := 122) hx hb ti_0 dX12_wins_115 (by decide) (fun c_135 => ?_) (fun c_135 => ?_)
            · clear c_135
              refine lv_aload_n hx hb dX12_wins_122 rfl (lv_at hl 4 rfl) ?_
              refine lv_iload_n hx hb dX12_wins_123 rfl (lv_at hl 5 rfl) ?_
              refine lv_iconst (v := 4) hx hb dX12_wins_124 (by decide) ?_
              refine lv_iload hx hb dX12_wins_125 (lv_at hl 1 rfl) ?_
              refine zcS (zrV (As := [.int x1, .int 4, .int (A 40 (x1.toInt + 11).toNat)]) (b := a0) (rest := []) C hs hP hS (c_X12_greatest l D K hM f_114 A_114 hT a0 ha0 hk0 x1 4 (A 40 (x1.toInt + 11).toNat) hp0) m_X12_greatest wm_X12_135 (zrecv hs hP ha0 (zF_11 hk0) rfl) ⟨by decide, by decide⟩ hl.1 (Nat.le_of_ble_eq_true rfl) dX12_wins_127) (fun x_136 p_136 => ?_)
              have pp_136 : (x_136.toInt = -1 ∨ 0 ≤ x_136.toInt ∧ x_136.toInt < (f_114 16).toInt) ∧ (1 ≤ (f_114 16).toInt → (mcol (A_114 40) x1 (A_114 55 0)).toInt = (4 : Int32).toInt → x_136.toInt ≠ -1) := p_136
              have ev_137 : f_114 16 = f 16 := by rw [hF_114 16 (by decide), hF_89 16 (by decide)]
              have ev_138 : A_114 40 = A 40 := by rw [hA_114 40 (by decide), hA_89 40 (by decide)]
              have ev_139 : A_114 55 = A 55 := by rw [hA_114 55 (by decide), hA_89 55 (by decide)]
              rw [ev_137, ev_138, ev_139] at pp_136
              try simp only [ti_4] at pp_136
              have g_140 := z_rng (A 40 (x1.toInt + 11).toNat)
              refine lv_istore (lv' := [(6, .int x_136), (5, .int 0), (4, .int (A 40 (x1.toInt + 11).toNat)), (3, .int x_102), (2, .int (A 40 (x1.toInt + 3).toNat)), (0, .ref a0), (1, .int x1)]) hx hb dX12_wins_130 hl (by decide) rfl (fun ls hl => ?_)
              refine lv_iload hx hb dX12_wins_132 (lv_at hl 0 rfl) ?_
              refine lv_iconst (v := (-1)) hx hb dX12_wins_134 (by decide) ?_
              refine bi_eq (tgt := 141) hx hb rfl ti_m1 dX12_wins_135 (by decide) (fun c_141 => ?_) (fun c_141 => ?_)
              · skip
                refine lv_aload_n hx hb dX12_wins_141 rfl (lv_at hl 5 rfl) ?_
                refine lv_iload_n hx hb dX12_wins_142 rfl (lv_at hl 6 rfl) ?_
                have ev_143 : f_114 16 = f 16 := by rw [hF_114 16 (by decide), hF_89 16 (by decide)]
                have hq_142 : 1 ≤ (f_114 16).toInt := by rw [ev_143]; first | assumption | omega | (intros; omega)
                have hq_144 : (f_114 11).toInt ≤ 1990000000 := by first | assumption | omega | (intros; omega)
                refine mcI (zrV (As := [.int x1]) (b := a0) (rest := []) C hs hP hS (c_X12_winsPlainly l D K hM f_114 A_114 hT a0 ha0 hk0 x1 hp0 hq_142 hq_144) m_X12_winsPlainly wm_X12_139 (zrecv hs hP ha0 (zF_11 hk0) rfl) ⟨by decide, by decide⟩ hl.1 (Nat.le_of_ble_eq_true rfl) dX12_wins_143) hS (fun x_145 f_145 A_145 H locs p_145 hP hS => ?_)
                obtain ⟨hT, hA_145, hF_145, pp_145⟩ := p_145
                have pp_145 : (f_114 11).toInt ≤ (f_145 11).toInt ∧ (f_145 11).toInt ≤ (f_114 11).toInt + 1 ∧ ((f_114 12).toInt ≠ 0 → (f_145 11).toInt = (f_114 11).toInt) ∧ 0 ≤ x_145.toInt ∧ x_145.toInt < (f_114 16).toInt := pp_145
                have ev_146 : f_114 12 = f 12 := by rw [hF_114 12 (by decide), hF_89 12 (by decide)]
                have ev_147 : f_114 16 = f 16 := by rw [hF_114 16 (by decide), hF_89 16 (by decide)]
                rw [ev_146, ev_147] at pp_145
                have FA := frA FA hA_145 (by decide)
                have FF := frF FF hF_145 (by decide)
                have g_148 := z_rng x_145
                exact maI hQ hx hb hr hlk hP hS ⟨hT, FA, FF, (by (try dsimp only); (first | omega | (intro h9; omega) | (simp; done) | (refine ⟨?_, ?_⟩ <;> intros <;> first | trivial | omega) | (refine ⟨?_, ?_, ?_⟩ <;> intros <;> first | trivial | omega)))⟩ dX12_wins_146
              · skip
                refine lv_iload hx hb dX12_wins_138 (lv_at hl 0 rfl) ?_
                have g_149 := z_rng x_136
                exact maI hQ hx hb hr hlk hP hS ⟨hT, FA, FF, (by (try dsimp only); (first | omega | (intro h9; omega) | (simp; done) | (refine ⟨?_, ?_⟩ <;> intros <;> first | trivial | omega) | (refine ⟨?_, ?_, ?_⟩ <;> intros <;> first | trivial | omega)))⟩ dX12_wins_140
            · exact absurd c_135 (by decide)
        · skip
          refine lv_iconst (v := 1) hx hb dX12_wins_100 (by decide) ?_
          refine lv_goto (tgt := 105) hx hb dX12_wins_101 (by decide) ?_
          refine lv_istore (lv' := [(5, .int 1), (4, .int (A 40 (x1.toInt + 11).toNat)), (3, .int x_102), (2, .int (A 40 (x1.toInt + 3).toNat)), (0, .ref a0), (1, .int x1)]) hx hb dX12_wins_105 hl (by decide) rfl (fun ls hl => ?_)
          refine lv_iload hx hb dX12_wins_107 (lv_at hl 1 rfl) ?_
          refine lv_iconst (v := (-1)) hx hb dX12_wins_109 (by decide) ?_
          refine bi_eq (tgt := 118) hx hb rfl ti_m1 dX12_wins_110 (by decide) (fun c_150 => ?_) (fun c_150 => ?_)
          · skip
            refine lv_iconst (v := (-1)) hx hb dX12_wins_118 (by decide) ?_
            refine lv_goto (tgt := 130) hx hb dX12_wins_119 (by decide) ?_
            refine lv_istore (lv' := [(6, .int (-1)), (5, .int 1), (4, .int (A 40 (x1.toInt + 11).toNat)), (3, .int x_102), (2, .int (A 40 (x1.toInt + 3).toNat)), (0, .ref a0), (1, .int x1)]) hx hb dX12_wins_130 hl (by decide) rfl (fun ls hl => ?_)
            refine lv_iload hx hb dX12_wins_132 (lv_at hl 0 rfl) ?_
            refine lv_iconst (v := (-1)) hx hb dX12_wins_134 (by decide) ?_
            refine bi_eq (tgt := 141) hx hb ti_m1 ti_m1 dX12_wins_135 (by decide) (fun c_151 => ?_) (fun c_151 => ?_)
            · clear c_151
              refine lv_aload_n hx hb dX12_wins_141 rfl (lv_at hl 5 rfl) ?_
              refine lv_iload_n hx hb dX12_wins_142 rfl (lv_at hl 6 rfl) ?_
              have ev_153 : f_114 16 = f 16 := by rw [hF_114 16 (by decide), hF_89 16 (by decide)]
              have hq_152 : 1 ≤ (f_114 16).toInt := by rw [ev_153]; first | assumption | omega | (intros; omega)
              have hq_154 : (f_114 11).toInt ≤ 1990000000 := by first | assumption | omega | (intros; omega)
              refine mcI (zrV (As := [.int x1]) (b := a0) (rest := []) C hs hP hS (c_X12_winsPlainly l D K hM f_114 A_114 hT a0 ha0 hk0 x1 hp0 hq_152 hq_154) m_X12_winsPlainly wm_X12_139 (zrecv hs hP ha0 (zF_11 hk0) rfl) ⟨by decide, by decide⟩ hl.1 (Nat.le_of_ble_eq_true rfl) dX12_wins_143) hS (fun x_155 f_155 A_155 H locs p_155 hP hS => ?_)
              obtain ⟨hT, hA_155, hF_155, pp_155⟩ := p_155
              have pp_155 : (f_114 11).toInt ≤ (f_155 11).toInt ∧ (f_155 11).toInt ≤ (f_114 11).toInt + 1 ∧ ((f_114 12).toInt ≠ 0 → (f_155 11).toInt = (f_114 11).toInt) ∧ 0 ≤ x_155.toInt ∧ x_155.toInt < (f_114 16).toInt := pp_155
              have ev_156 : f_114 12 = f 12 := by rw [hF_114 12 (by decide), hF_89 12 (by decide)]
              have ev_157 : f_114 16 = f 16 := by rw [hF_114 16 (by decide), hF_89 16 (by decide)]
              rw [ev_156, ev_157] at pp_155
              have FA := frA FA hA_155 (by decide)
              have FF := frF FF hF_155 (by decide)
              have g_158 := z_rng x_155
              exact maI hQ hx hb hr hlk hP hS ⟨hT, FA, FF, (by (try dsimp only); (first | omega | (intro h9; omega) | (simp; done) | (refine ⟨?_, ?_⟩ <;> intros <;> first | trivial | omega) | (refine ⟨?_, ?_, ?_⟩ <;> intros <;> first | trivial | omega)))⟩ dX12_wins_146
            · exact absurd c_151 (by decide)
          · skip
            refine lv_iload hx hb dX12_wins_113 (lv_at hl 0 rfl) ?_
            refine bz_eq (tgt := 122) hx hb ti_1 dX12_wins_115 (by decide) (fun c_159 => ?_) (fun c_159 => ?_)
            · exact absurd c_159 (by decide)
            · clear c_159
              refine lv_iconst (v := (-1)) hx hb dX12_wins_118 (by decide) ?_
              refine lv_goto (tgt := 130) hx hb dX12_wins_119 (by decide) ?_
              refine lv_istore (lv' := [(6, .int (-1)), (5, .int 1), (4, .int (A 40 (x1.toInt + 11).toNat)), (3, .int x_102), (2, .int (A 40 (x1.toInt + 3).toNat)), (0, .ref a0), (1, .int x1)]) hx hb dX12_wins_130 hl (by decide) rfl (fun ls hl => ?_)
              refine lv_iload hx hb dX12_wins_132 (lv_at hl 0 rfl) ?_
              refine lv_iconst (v := (-1)) hx hb dX12_wins_134 (by decide) ?_
              refine bi_eq (tgt := 141) hx hb ti_m1 ti_m1 dX12_wins_135 (by decide) (fun c_160 => ?_) (fun c_160 => ?_)
              · clear c_160
                refine lv_aload_n hx hb dX12_wins_141 rfl (lv_at hl 5 rfl) ?_
                refine lv_iload_n hx hb dX12_wins_142 rfl (lv_at hl 6 rfl) ?_
                have ev_162 : f_114 16 = f 16 := by rw [hF_114 16 (by decide), hF_89 16 (by decide)]
                have hq_161 : 1 ≤ (f_114 16).toInt := by rw [ev_162]; first | assumption | omega | (intros; omega)
                have hq_163 : (f_114 11).toInt ≤ 1990000000 := by first | assumption | omega | (intros; omega)
                refine mcI (zrV (As := [.int x1]) (b := a0) (rest := []) C hs hP hS (c_X12_winsPlainly l D K hM f_114 A_114 hT a0 ha0 hk0 x1 hp0 hq_161 hq_163) m_X12_winsPlainly wm_X12_139 (zrecv hs hP ha0 (zF_11 hk0) rfl) ⟨by decide, by decide⟩ hl.1 (Nat.le_of_ble_eq_true rfl) dX12_wins_143) hS (fun x_164 f_164 A_164 H locs p_164 hP hS => ?_)
                obtain ⟨hT, hA_164, hF_164, pp_164⟩ := p_164
                have pp_164 : (f_114 11).toInt ≤ (f_164 11).toInt ∧ (f_164 11).toInt ≤ (f_114 11).toInt + 1 ∧ ((f_114 12).toInt ≠ 0 → (f_164 11).toInt = (f_114 11).toInt) ∧ 0 ≤ x_164.toInt ∧ x_164.toInt < (f_114 16).toInt := pp_164
                have ev_165 : f_114 12 = f 12 := by rw [hF_114 12 (by decide), hF_89 12 (by decide)]
                have ev_166 : f_114 16 = f 16 := by rw [hF_114 16 (by decide), hF_89 16 (by decide)]
                rw [ev_165, ev_166] at pp_164
                have FA := frA FA hA_164 (by decide)
                have FF := frF FF hF_164 (by decide)
                have g_167 := z_rng x_164
                exact maI hQ hx hb hr hlk hP hS ⟨hT, FA, FF, (by (try dsimp only); (first | omega | (intro h9; omega) | (simp; done) | (refine ⟨?_, ?_⟩ <;> intros <;> first | trivial | omega) | (refine ⟨?_, ?_, ?_⟩ <;> intros <;> first | trivial | omega)))⟩ dX12_wins_146
              · exact absurd c_160 (by decide)
    · skip
      refine lv_aload_n hx hb dX12_wins_44 rfl (lv_at hl 2 rfl) ?_
      refine lv_bipush (v := 32) hx hb dX12_wins_45 (by decide) ?_
      have hq_168 : (f_89 11).toInt ≤ 2000000000 := by (try simp only [ti_32]); first | assumption | omega | (intros; omega)
      refine mcV (zrV (As := [.int 32]) (b := a0) (rest := []) C hs hP hS (c_X12_body l D K hM f_89 A_89 hT a0 ha0 hk0 32 hq_168) m_X12_body wm_X12_124 (zrecv hs hP ha0 (zF_11 hk0) rfl) ⟨by decide, by decide⟩ hl.1 (Nat.le_of_ble_eq_true rfl) dX12_wins_47) hS (fun f_169 A_169 H locs p_169 hP hS => ?_)
      obtain ⟨hT, hA_169, hF_169, pp_169⟩ := p_169
      have pp_169 : (f_89 11).toInt ≤ (f_169 11).toInt ∧ (f_169 11).toInt ≤ (f_89 11).toInt + 1 ∧ ((f_89 12).toInt ≠ 0 → (f_169 11).toInt = (f_89 11).toInt) := pp_169
      have ev_170 : f_89 12 = f 12 := by rw [hF_89 12 (by decide)]
      rw [ev_170] at pp_169
      try simp only [ti_32] at pp_169
      have FA := frA FA hA_169 (by decide)
      have FF := frF FF hF_169 (by decide)
      refine lv_iload_n hx hb dX12_wins_50 rfl (lv_at hl 0 rfl) ?_
      refine lv_iconst (v := 5) hx hb dX12_wins_51 (by decide) ?_
      refine bi_ne (tgt := 59) hx hb rfl ti_5 dX12_wins_52 (by decide) (fun c_171 => ?_) (fun c_171 => ?_)
      · skip
        refine lv_aload_n hx hb dX12_wins_59 rfl (lv_at hl 2 rfl) ?_
        refine lv_iload_n hx hb dX12_wins_60 rfl (lv_at hl 3 rfl) ?_
        refine lv_iload_n hx hb dX12_wins_61 rfl (lv_at hl 0 rfl) ?_
        refine lv_iload_n hx hb dX12_wins_62 rfl (lv_at hl 0 rfl) ?_
        refine zcS (zrV (As := [.int x1, .int x_102, .int x_102]) (b := a0) (rest := []) C hs hP hS (c_X12_greatest l D K hM f_169 A_169 hT a0 ha0 hk0 x1 x_102 x_102 hp0) m_X12_greatest wm_X12_135 (zrecv hs hP ha0 (zF_11 hk0) rfl) ⟨by decide, by decide⟩ hl.1 (Nat.le_of_ble_eq_true rfl) dX12_wins_63) (fun x_172 p_172 => ?_)
        have pp_172 : (x_172.toInt = -1 ∨ 0 ≤ x_172.toInt ∧ x_172.toInt < (f_169 16).toInt) ∧ (1 ≤ (f_169 16).toInt → (mcol (A_169 40) x1 (A_169 55 0)).toInt = x_102.toInt → x_172.toInt ≠ -1) := p_172
        have ev_173 : f_169 16 = f 16 := by rw [hF_169 16 (by decide), hF_89 16 (by decide)]
        have ev_174 : A_169 40 = A 40 := by rw [hA_169 40 (by decide), hA_89 40 (by decide)]
        have ev_175 : A_169 55 = A 55 := by rw [hA_169 55 (by decide), hA_89 55 (by decide)]
        rw [ev_173, ev_174, ev_175] at pp_172
        have g_176 := z_rng x_102
        have g_177 := z_rng x_172
        exact maI hQ hx hb hr hlk hP hS ⟨hT, FA, FF, (by (try dsimp only); (first | omega | (intro h9; omega) | (simp; done) | (refine ⟨?_, ?_⟩ <;> intros <;> first | trivial | omega) | (refine ⟨?_, ?_, ?_⟩ <;> intros <;> first | trivial | omega)))⟩ dX12_wins_66
      · skip
        refine lv_iconst (v := 0) hx hb dX12_wins_55 (by decide) ?_
        refine lv_goto (tgt := 66) hx hb dX12_wins_56 (by decide) ?_
        exact maI hQ hx hb hr hlk hP hS ⟨hT, FA, FF, (by (try dsimp only); (try simp only [ti_0]); (first | omega | (intro h9; omega) | (simp; done) | (refine ⟨?_, ?_⟩ <;> intros <;> first | trivial | omega) | (refine ⟨?_, ?_, ?_⟩ <;> intros <;> first | trivial | omega)))⟩ dX12_wins_66
