set_option maxHeartbeats 4000000 in
set_option maxRecDepth 100000 in
theorem c_X12_greatest (l : Launch) (D : va_G) (K : zK) (hM : mK K) (f : Nat → Int32) (A : Nat → Nat → Int32) (hT : mT f A) (a0 : Nat) (ha0 : a0 ∈ zl K) (hk0 : zk K a0 = 11) (x1 : Int32) (x2 : Int32) (x3 : Int32) (hp0 : zRow x1.toInt) : Met l yX12_greatest (zc yX12_greatest cX12_greatest 7 (some .int)) (rmd 1) (va_Pc [.ref a0, .int x1, .int x2, .int x3] (zB D K (mV K f A))) (vp_Si (fun r => (r.toInt = -1 ∨ 0 ≤ r.toInt ∧ r.toInt < (f 16).toInt) ∧ (1 ≤ (f 16).toInt → (mcol (A 40) x1 (A 55 0)).toInt = x2.toInt → r.toInt ≠ -1))) 0 0 (fun _ => False) := by
  refine zin (by decide) (Nat.le_of_ble_eq_true rfl) ?_
  intro p e s m args below meth c ls Q hQ C hr hlk hP hs hl
  have C : CallFix p m c cX12_greatest 7 s args zw RX12 := C
  obtain ⟨hx, hb, hml, hown, hts⟩ := id C
  have hO := hM.1
  have hS : va_S (zA K) s.heap s.heap [] := va_S.rf
  have hl : lv_has ls 7 [(0, .ref a0), (1, .int x1), (2, .int x2), (3, .int x3)] := hl
  have hb0 := hp0.lin
  refine lv_iconst (v := (-1)) hx hb dX12_greatest_0 (by decide) ?_
  refine lv_istore (lv' := [(4, .int (-1)), (0, .ref a0), (1, .int x1), (2, .int x2), (3, .int x3)]) hx hb dX12_greatest_1 hl (by decide) rfl (fun ls hl => ?_)
  refine lv_iconst (v := 0) hx hb dX12_greatest_3 (by decide) ?_
  refine lv_istore (lv' := [(5, .int 0), (4, .int (-1)), (0, .ref a0), (1, .int x1), (2, .int x2), (3, .int x3)]) hx hb dX12_greatest_4 hl (by decide) rfl (fun ls hl => ?_)
  have L_6_3 : ∀ (n_3 : Nat) (y_1 : Int32) (y_2 : Int32) (ls : Array Slot), (2147483648 - y_1.toInt).toNat < n_3 → 0 ≤ y_1.toInt → (y_2.toInt = -1 ∨ 0 ≤ y_2.toInt ∧ y_2.toInt < (f 16).toInt) → (1 ≤ y_1.toInt → (mcol (A 40) x1 (A 55 0)).toInt = x2.toInt → y_2.toInt ≠ -1) → lv_has ls 7 [(5, .int y_1), (4, .int y_2), (0, .ref a0), (1, .int x1), (2, .int x2), (3, .int x3)] → W p l e (rmd 1) s m args below meth c s.heap [] 0 0 Q (F0 m 6 ls []) := by
    intro n_3
    induction n_3 with
    | zero => intro y_1 y_2 ls hm_3; exact absurd hm_3 (Nat.not_lt_zero _)
    | succ n_3 ih_3 =>
      intro y_1 y_2 ls hm_3 iv_4_0 iv_4_1 iv_4_2 hl
      refine lv_iload hx hb dX12_greatest_6 (lv_at hl 0 rfl) ?_
      refine lv_aload_n hx hb dX12_greatest_8 rfl (lv_at hl 2 rfl) ?_
      refine mg_16 C hs hP ha0 hk0 wf_X12_127 dX12_greatest_9 ?_
      have tf_5 : 0 ≤ (f 16).toInt ∧ (f 16).toInt ≤ 4 := hT.1 16
      refine bi_ge (tgt := 78) hx hb rfl rfl dX12_greatest_12 (by decide) (fun c_6 => ?_) (fun c_6 => ?_)
      · skip
        refine lv_iload hx hb dX12_greatest_78 (lv_at hl 1 rfl) ?_
        have g_7 := z_rng y_2
        exact zaS hQ hx hb hr hlk (by (try dsimp only); (first | omega | (intro h9; omega) | (simp; done) | (refine ⟨?_, ?_⟩ <;> intros <;> first | trivial | omega) | (refine ⟨?_, ?_, ?_⟩ <;> intros <;> first | trivial | omega))) dX12_greatest_80
      · skip
        refine lv_aload_n hx hb dX12_greatest_15 rfl (lv_at hl 2 rfl) ?_
        refine lv_iload_n hx hb dX12_greatest_16 rfl (lv_at hl 3 rfl) ?_
        refine lv_aload_n hx hb dX12_greatest_17 rfl (lv_at hl 2 rfl) ?_
        refine mg_15 C hs hP ha0 hk0 wf_X12_39 dX12_greatest_18 ?_
        have hf_8 := hO.r (j := 15) ha0 hk0 (rfl : zX 11 15 = some (55, 4))
        refine lv_iload hx hb dX12_greatest_21 (lv_at hl 0 rfl) ?_
        have g_10 := z_rng y_1
        have hin_9 : vp_in y_1 (zn K (zr K a0 15)) := vp_in_iff.mpr (by rw [(hf_8.2.2 (by decide))]; refine ⟨?_, ?_⟩ <;> omega)
        refine mld_55 C hs hP hf_8.1 hf_8.2.1 hin_9 dX12_greatest_23 ?_
        have tv_11 := ra_55 hT (vp_in_iff.mp hin_9).1 (by have h7 := (vp_in_iff.mp hin_9).2; rw [(hf_8.2.2 (by decide))] at h7; exact h7)
        have g_12 := z_rng x1
        have g_13 := z_rng (A 55 y_1.toNatClampNeg)
        have hq_14 : 0 ≤ (A 55 y_1.toNatClampNeg).toInt ∧ (A 55 y_1.toNatClampNeg).toInt ≤ 59 := by (first | assumption | omega | (intros; omega))
        refine zcS (zrV (As := [.int x1, .int (A 55 y_1.toNatClampNeg)]) (b := a0) (rest := []) C hs hP hS (c_X12_colour l D K hM f A hT a0 ha0 hk0 x1 (A 55 y_1.toNatClampNeg) hp0 hq_14) m_X12_colour wm_X12_120 (zrecv hs hP ha0 (zF_11 hk0) rfl) ⟨by decide, by decide⟩ hl.1 (Nat.le_of_ble_eq_true rfl) dX12_greatest_24) (fun x_15 p_15 => ?_)
        have pp_15 : x_15 = mcol (A 40) x1 (A 55 y_1.toNatClampNeg) := p_15
        have pq_15 := congrArg Int32.toInt pp_15
        have hz_15 : y_1.toInt = 0 → x_15.toInt = (mcol (A 40) x1 (A 55 0)).toInt := fun h9 => by rw [pp_15, show y_1.toNatClampNeg = 0 from by show y_1.toInt.toNat = 0; omega]
        refine lv_istore (lv' := [(6, .int x_15), (5, .int y_1), (4, .int y_2), (0, .ref a0), (1, .int x1), (2, .int x2), (3, .int x3)]) hx hb dX12_greatest_27 hl (by decide) rfl (fun ls hl => ?_)
        refine lv_iload hx hb dX12_greatest_29 (lv_at hl 0 rfl) ?_
        refine lv_iload_n hx hb dX12_greatest_31 rfl (lv_at hl 5 rfl) ?_
        refine bi_eq (tgt := 41) hx hb rfl rfl dX12_greatest_32 (by decide) (fun c_16 => ?_) (fun c_16 => ?_)
        · skip
          refine lv_iload hx hb dX12_greatest_41 (lv_at hl 2 rfl) ?_
          refine lv_iconst (v := (-1)) hx hb dX12_greatest_43 (by decide) ?_
          refine bi_eq (tgt := 68) hx hb rfl ti_m1 dX12_greatest_44 (by decide) (fun c_17 => ?_) (fun c_17 => ?_)
          · skip
            refine lv_iload hx hb dX12_greatest_68 (lv_at hl 1 rfl) ?_
            refine lv_istore (lv' := [(4, .int y_1), (6, .int x_15), (5, .int y_1), (0, .ref a0), (1, .int x1), (2, .int x2), (3, .int x3)]) hx hb dX12_greatest_70 hl (by decide) rfl (fun ls hl => ?_)
            obtain ⟨x_18, ex_18⟩ : ∃ y : Int32, y = y_1 + 1 := ⟨_, rfl⟩
            refine lv_iinc (v := x_18) (lv' := [(5, .int x_18), (4, .int y_1), (6, .int x_15), (0, .ref a0), (1, .int x1), (2, .int x2), (3, .int x3)]) hx hb dX12_greatest_72 hl (k := 2) rfl (by rw [ex_18]; rfl) (by decide) rfl (fun ls hl => ?_)
            refine lv_goto (tgt := 6) hx hb dX12_greatest_75 (by decide) ?_
            obtain ⟨f_18, l_18, u_18⟩ := z_add ex_18 rfl ti_1
            try replace f_18 : x_18.toInt = y_1.toInt + 1 := by omega
            clear l_18 u_18
            have g_19 := z_rng (f 16)
            have g_20 := z_rng x2
            have g_21 := z_rng x_15
            have g_22 := z_rng y_2
            exact ih_3 x_18 y_1 _ (by omega) (by omega) (by omega) (by omega) (lv_sub hl [0, 1, 3, 4, 5, 6] rfl)
          · skip
            refine lv_aload_n hx hb dX12_greatest_47 rfl (lv_at hl 3 rfl) ?_
            refine mg_15 C hs hP ha0 hk0 wf_X12_39 dX12_greatest_48 ?_
            refine lv_iload hx hb dX12_greatest_51 (lv_at hl 1 rfl) ?_
            have hin_23 : vp_in y_1 (zn K (zr K a0 15)) := vp_in_iff.mpr (by rw [(hf_8.2.2 (by decide))]; refine ⟨?_, ?_⟩ <;> omega)
            refine mld_55 C hs hP hf_8.1 hf_8.2.1 hin_23 dX12_greatest_53 ?_
            refine lv_iconst (v := 4) hx hb dX12_greatest_54 (by decide) ?_
            refine lv_idiv hx hb dX12_greatest_55 (by decide) ?_
            refine lv_topi (fun x_24 ex_24 => ?_)
            refine lv_aload_n hx hb dX12_greatest_56 rfl (lv_at hl 3 rfl) ?_
            refine mg_15 C hs hP ha0 hk0 wf_X12_39 dX12_greatest_57 ?_
            refine lv_iload hx hb dX12_greatest_60 (lv_at hl 2 rfl) ?_
            have g_26 := z_rng y_2
            have hin_25 : vp_in y_2 (zn K (zr K a0 15)) := vp_in_iff.mpr (by rw [(hf_8.2.2 (by decide))]; refine ⟨?_, ?_⟩ <;> omega)
            refine mld_55 C hs hP hf_8.1 hf_8.2.1 hin_25 dX12_greatest_62 ?_
            have tv_27 := ra_55 hT (vp_in_iff.mp hin_25).1 (by have h7 := (vp_in_iff.mp hin_25).2; rw [(hf_8.2.2 (by decide))] at h7; exact h7)
            refine lv_iconst (v := 4) hx hb dX12_greatest_63 (by decide) ?_
            refine lv_idiv hx hb dX12_greatest_64 (by decide) ?_
            refine lv_topi (fun x_28 ex_28 => ?_)
            refine bi_le (tgt := 72) hx hb rfl rfl dX12_greatest_65 (by decide) (fun c_29 => ?_) (fun c_29 => ?_)
            · skip
              obtain ⟨x_30, ex_30⟩ : ∃ y : Int32, y = y_1 + 1 := ⟨_, rfl⟩
              refine lv_iinc (v := x_30) (lv' := [(5, .int x_30), (6, .int x_15), (4, .int y_2), (0, .ref a0), (1, .int x1), (2, .int x2), (3, .int x3)]) hx hb dX12_greatest_72 hl (k := 1) rfl (by rw [ex_30]; rfl) (by decide) rfl (fun ls hl => ?_)
              refine lv_goto (tgt := 6) hx hb dX12_greatest_75 (by decide) ?_
              obtain ⟨f_30, l_30, u_30⟩ := z_add ex_30 rfl ti_1
              try replace f_30 : x_30.toInt = y_1.toInt + 1 := by omega
              clear l_30 u_30
              have g_31 := z_rng (f 16)
              have g_32 := z_rng x2
              have g_33 := z_rng x_15
              have g_34 := z_rng x_24
              have f_d24 := z_div ex_24 rfl ti_4 (by omega) (by decide)
              have g_35 := z_rng x_28
              have g_36 := z_rng (A 55 y_2.toNatClampNeg)
              have f_d28 := z_div ex_28 rfl ti_4 (by omega) (by decide)
              exact ih_3 x_30 y_2 _ (by omega) (by omega) (by omega) (by omega) (lv_sub hl [0, 2, 3, 4, 5, 6] rfl)
            · skip
              refine lv_iload hx hb dX12_greatest_68 (lv_at hl 1 rfl) ?_
              refine lv_istore (lv' := [(4, .int y_1), (6, .int x_15), (5, .int y_1), (0, .ref a0), (1, .int x1), (2, .int x2), (3, .int x3)]) hx hb dX12_greatest_70 hl (by decide) rfl (fun ls hl => ?_)
              obtain ⟨x_37, ex_37⟩ : ∃ y : Int32, y = y_1 + 1 := ⟨_, rfl⟩
              refine lv_iinc (v := x_37) (lv' := [(5, .int x_37), (4, .int y_1), (6, .int x_15), (0, .ref a0), (1, .int x1), (2, .int x2), (3, .int x3)]) hx hb dX12_greatest_72 hl (k := 2) rfl (by rw [ex_37]; rfl) (by decide) rfl (fun ls hl => ?_)
              refine lv_goto (tgt := 6) hx hb dX12_greatest_75 (by decide) ?_
              obtain ⟨f_37, l_37, u_37⟩ := z_add ex_37 rfl ti_1
              try replace f_37 : x_37.toInt = y_1.toInt + 1 := by omega
              clear l_37 u_37
              have g_38 := z_rng (f 16)
              have g_39 := z_rng x2
              have g_40 := z_rng x_15
              have g_41 := z_rng x_24
              have f_d24 := z_div ex_24 rfl ti_4 (by omega) (by decide)
              have g_42 := z_rng x_28
              have g_43 := z_rng (A 55 y_2.toNatClampNeg)
              have f_d28 := z_div ex_28 rfl ti_4 (by omega) (by decide)
              exact ih_3 x_37 y_1 _ (by omega) (by omega) (by omega) (by omega) (lv_sub hl [0, 1, 3, 4, 5, 6] rfl)
        · skip
          refine lv_iload hx hb dX12_greatest_35 (lv_at hl 0 rfl) ?_
          refine lv_iload_n hx hb dX12_greatest_37 rfl (lv_at hl 6 rfl) ?_
          refine bi_ne (tgt := 72) hx hb rfl rfl dX12_greatest_38 (by decide) (fun c_44 => ?_) (fun c_44 => ?_)
          · skip
            obtain ⟨x_45, ex_45⟩ : ∃ y : Int32, y = y_1 + 1 := ⟨_, rfl⟩
            refine lv_iinc (v := x_45) (lv' := [(5, .int x_45), (6, .int x_15), (4, .int y_2), (0, .ref a0), (1, .int x1), (2, .int x2), (3, .int x3)]) hx hb dX12_greatest_72 hl (k := 1) rfl (by rw [ex_45]; rfl) (by decide) rfl (fun ls hl => ?_)
            refine lv_goto (tgt := 6) hx hb dX12_greatest_75 (by decide) ?_
            obtain ⟨f_45, l_45, u_45⟩ := z_add ex_45 rfl ti_1
            try replace f_45 : x_45.toInt = y_1.toInt + 1 := by omega
            clear l_45 u_45
            have g_46 := z_rng y_2
            have g_47 := z_rng (f 16)
            have g_48 := z_rng x2
            have g_49 := z_rng x3
            have g_50 := z_rng x_15
            exact ih_3 x_45 y_2 _ (by omega) (by omega) (by omega) (by omega) (lv_sub hl [0, 2, 3, 4, 5, 6] rfl)
          · skip
            refine lv_iload hx hb dX12_greatest_41 (lv_at hl 2 rfl) ?_
            refine lv_iconst (v := (-1)) hx hb dX12_greatest_43 (by decide) ?_
            refine bi_eq (tgt := 68) hx hb rfl ti_m1 dX12_greatest_44 (by decide) (fun c_51 => ?_) (fun c_51 => ?_)
            · skip
              refine lv_iload hx hb dX12_greatest_68 (lv_at hl 1 rfl) ?_
              refine lv_istore (lv' := [(4, .int y_1), (6, .int x_15), (5, .int y_1), (0, .ref a0), (1, .int x1), (2, .int x2), (3, .int x3)]) hx hb dX12_greatest_70 hl (by decide) rfl (fun ls hl => ?_)
              obtain ⟨x_52, ex_52⟩ : ∃ y : Int32, y = y_1 + 1 := ⟨_, rfl⟩
              refine lv_iinc (v := x_52) (lv' := [(5, .int x_52), (4, .int y_1), (6, .int x_15), (0, .ref a0), (1, .int x1), (2, .int x2), (3, .int x3)]) hx hb dX12_greatest_72 hl (k := 2) rfl (by rw [ex_52]; rfl) (by decide) rfl (fun ls hl => ?_)
              refine lv_goto (tgt := 6) hx hb dX12_greatest_75 (by decide) ?_
              obtain ⟨f_52, l_52, u_52⟩ := z_add ex_52 rfl ti_1
              try replace f_52 : x_52.toInt = y_1.toInt + 1 := by omega
              clear l_52 u_52
              have g_53 := z_rng (f 16)
              have g_54 := z_rng x2
              have g_55 := z_rng x3
              have g_56 := z_rng x_15
              have g_57 := z_rng y_2
              exact ih_3 x_52 y_1 _ (by omega) (by omega) (by omega) (by omega) (lv_sub hl [0, 1, 3, 4, 5, 6] rfl)
            · skip
              refine lv_aload_n hx hb dX12_greatest_47 rfl (lv_at hl 3 rfl) ?_
              refine mg_15 C hs hP ha0 hk0 wf_X12_39 dX12_greatest_48 ?_
              refine lv_iload hx hb dX12_greatest_51 (lv_at hl 1 rfl) ?_
              have hin_58 : vp_in y_1 (zn K (zr K a0 15)) := vp_in_iff.mpr (by rw [(hf_8.2.2 (by decide))]; refine ⟨?_, ?_⟩ <;> omega)
              refine mld_55 C hs hP hf_8.1 hf_8.2.1 hin_58 dX12_greatest_53 ?_
              refine lv_iconst (v := 4) hx hb dX12_greatest_54 (by decide) ?_
              refine lv_idiv hx hb dX12_greatest_55 (by decide) ?_
              refine lv_topi (fun x_59 ex_59 => ?_)
              refine lv_aload_n hx hb dX12_greatest_56 rfl (lv_at hl 3 rfl) ?_
              refine mg_15 C hs hP ha0 hk0 wf_X12_39 dX12_greatest_57 ?_
              refine lv_iload hx hb dX12_greatest_60 (lv_at hl 2 rfl) ?_
              have g_61 := z_rng y_2
              have hin_60 : vp_in y_2 (zn K (zr K a0 15)) := vp_in_iff.mpr (by rw [(hf_8.2.2 (by decide))]; refine ⟨?_, ?_⟩ <;> omega)
              refine mld_55 C hs hP hf_8.1 hf_8.2.1 hin_60 dX12_greatest_62 ?_
              have tv_62 := ra_55 hT (vp_in_iff.mp hin_60).1 (by have h7 := (vp_in_iff.mp hin_60).2; rw [(hf_8.2.2 (by decide))] at h7; exact h7)
              refine lv_iconst (v := 4) hx hb dX12_greatest_63 (by decide) ?_
              refine lv_idiv hx hb dX12_greatest_64 (by decide) ?_
              refine lv_topi (fun x_63 ex_63 => ?_)
              refine bi_le (tgt := 72) hx hb rfl rfl dX12_greatest_65 (by decide) (fun c_64 => ?_) (fun c_64 => ?_)
              · skip
                obtain ⟨x_65, ex_65⟩ : ∃ y : Int32, y = y_1 + 1 := ⟨_, rfl⟩
                refine lv_iinc (v := x_65) (lv' := [(5, .int x_65), (6, .int x_15), (4, .int y_2), (0, .ref a0), (1, .int x1), (2, .int x2), (3, .int x3)]) hx hb dX12_greatest_72 hl (k := 1) rfl (by rw [ex_65]; rfl) (by decide) rfl (fun ls hl => ?_)
                refine lv_goto (tgt := 6) hx hb dX12_greatest_75 (by decide) ?_
                obtain ⟨f_65, l_65, u_65⟩ := z_add ex_65 rfl ti_1
                try replace f_65 : x_65.toInt = y_1.toInt + 1 := by omega
                clear l_65 u_65
                have g_66 := z_rng (f 16)
                have g_67 := z_rng x2
                have g_68 := z_rng x3
                have g_69 := z_rng x_15
                have g_70 := z_rng x_59
                have f_d59 := z_div ex_59 rfl ti_4 (by omega) (by decide)
                have g_71 := z_rng x_63
                have g_72 := z_rng (A 55 y_2.toNatClampNeg)
                have f_d63 := z_div ex_63 rfl ti_4 (by omega) (by decide)
                exact ih_3 x_65 y_2 _ (by omega) (by omega) (by omega) (by omega) (lv_sub hl [0, 2, 3, 4, 5, 6] rfl)
              · skip
                refine lv_iload hx hb dX12_greatest_68 (lv_at hl 1 rfl) ?_
                refine lv_istore (lv' := [(4, .int y_1), (6, .int x_15), (5, .int y_1), (0, .ref a0), (1, .int x1), (2, .int x2), (3, .int x3)]) hx hb dX12_greatest_70 hl (by decide) rfl (fun ls hl => ?_)
                obtain ⟨x_73, ex_73⟩ : ∃ y : Int32, y = y_1 + 1 := ⟨_, rfl⟩
                refine lv_iinc (v := x_73) (lv' := [(5, .int x_73), (4, .int y_1), (6, .int x_15), (0, .ref a0), (1, .int x1), (2, .int x2), (3, .int x3)]) hx hb dX12_greatest_72 hl (k := 2) rfl (by rw [ex_73]; rfl) (by decide) rfl (fun ls hl => ?_)
                refine lv_goto (tgt := 6) hx hb dX12_greatest_75 (by decide) ?_
                obtain ⟨f_73, l_73, u_73⟩ := z_add ex_73 rfl ti_1
                try replace f_73 : x_73.toInt = y_1.toInt + 1 := by omega
                clear l_73 u_73
                have g_74 := z_rng (f 16)
                have g_75 := z_rng x2
                have g_76 := z_rng x3
                have g_77 := z_rng x_15
                have g_78 := z_rng x_59
                have f_d59 := z_div ex_59 rfl ti_4 (by omega) (by decide)
                have g_79 := z_rng x_63
                have g_80 := z_rng (A 55 y_2.toNatClampNeg)
                have f_d63 := z_div ex_63 rfl ti_4 (by omega) (by decide)
                exact ih_3 x_73 y_1 _ (by omega) (by omega) (by omega) (by omega) (lv_sub hl [0, 1, 3, 4, 5, 6] rfl)
  exact L_6_3 _ 0 (-1) _ (Nat.lt_succ_self _) (by (try simp only [ti_0, ti_m1]); omega) (by rw [ti_m1]; omega) (by rw [ti_0]; omega) (lv_sub hl [0, 1, 2, 3, 4, 5] rfl)
set_option maxHeartbeats 4000000 in
set_option maxRecDepth 100000 in
theorem c_X12_winsPlainly (l : Launch) (D : va_G) (K : zK) (hM : mK K) (f : Nat → Int32) (A : Nat → Nat → Int32) (hT : mT f A) (a0 : Nat) (ha0 : a0 ∈ zl K) (hk0 : zk K a0 = 11) (x1 : Int32) (hp0 : zRow x1.toInt) (hp1 : 1 ≤ (f 16).toInt) (hp2 : (f 11).toInt ≤ 1990000000) : Met l yX12_winsPlainly (zc yX12_winsPlainly cX12_winsPlainly 4 (some .int)) (rmd 2) (va_Pc [.ref a0, .int x1] (zB D K (mV K f A))) (mQi D K (fun r f' A' => mT f' A' ∧ (∀ k, k ∉ ([50] : List Nat) → A' k = A k) ∧ (∀ k, k ∉ ([11] : List Nat) → f' k = f k) ∧ (f 11).toInt ≤ (f' 11).toInt ∧ (f' 11).toInt ≤ (f 11).toInt + 1 ∧ ((f 12).toInt ≠ 0 → (f' 11).toInt = (f 11).toInt) ∧ 0 ≤ r.toInt ∧ r.toInt < (f 16).toInt)) 0 0 (zA K) := by
  refine zin (by decide) (Nat.le_of_ble_eq_true rfl) ?_
  intro p e s m args below meth c ls Q hQ C hr hlk hP hs hl
  have C : CallFix p m c cX12_winsPlainly 4 s args zw RX12 := C
  obtain ⟨hx, hb, hml, hown, hts⟩ := id C
  have hO := hM.1
  have hS : va_S (zA K) s.heap s.heap [] := va_S.rf
  have FA : ∀ k, k ∉ ([50] : List Nat) → A k = A k := fun _ _ => rfl
  have FF : ∀ k, k ∉ ([11] : List Nat) → f k = f k := fun _ _ => rfl
  have hl : lv_has ls 4 [(0, .ref a0), (1, .int x1)] := hl
  have hb0 := hp0.lin
  refine lv_aload_n hx hb dX12_winsPlainly_0 rfl (lv_at hl 0 rfl) ?_
  refine lv_bipush (v := 31) hx hb dX12_winsPlainly_1 (by decide) ?_
  have hq_1 : (f 11).toInt ≤ 2000000000 := by ((try simp only [ti_31]); first | assumption | omega | (intros; omega))
  refine mcV (zrV (As := [.int 31]) (b := a0) (rest := []) C hs hP hS (c_X12_body l D K hM f A hT a0 ha0 hk0 31 hq_1) m_X12_body wm_X12_124 (zrecv hs hP ha0 (zF_11 hk0) rfl) ⟨by decide, by decide⟩ hl.1 (Nat.le_of_ble_eq_true rfl) dX12_winsPlainly_3) hS (fun f_2 A_2 H locs p_2 hP hS => ?_)
  obtain ⟨hT, hA_2, hF_2, pp_2⟩ := p_2
  have pp_2 : (f 11).toInt ≤ (f_2 11).toInt ∧ (f_2 11).toInt ≤ (f 11).toInt + 1 ∧ ((f 12).toInt ≠ 0 → (f_2 11).toInt = (f 11).toInt) := pp_2
  try simp only [ti_31] at pp_2
  have FA := frA FA hA_2 (by decide)
  have FF := frF FF hF_2 (by decide)
  refine lv_iconst (v := 0) hx hb dX12_winsPlainly_6 (by decide) ?_
  refine lv_istore_n (lv' := [(2, .int 0), (0, .ref a0), (1, .int x1)]) hx hb dX12_winsPlainly_7 rfl hl (by decide) rfl (fun ls hl => ?_)
  have L_8_4 : ∀ (n_4 : Nat) (y_3 : Int32) (ls : Array Slot), (2147483648 - y_3.toInt).toNat < n_4 → 0 ≤ y_3.toInt → lv_has ls 4 [(2, .int y_3), (0, .ref a0), (1, .int x1)] → W p l e (rmd 2) s m args below meth c H locs 0 0 Q (F0 m 8 ls []) := by
    intro n_4
    induction n_4 with
    | zero => intro y_3 ls hm_4; exact absurd hm_4 (Nat.not_lt_zero _)
    | succ n_4 ih_4 =>
      intro y_3 ls hm_4 iv_5_0 hl
      refine lv_iload_n hx hb dX12_winsPlainly_8 rfl (lv_at hl 0 rfl) ?_
      refine lv_aload_n hx hb dX12_winsPlainly_9 rfl (lv_at hl 1 rfl) ?_
      refine mg_16 C hs hP ha0 hk0 wf_X12_127 dX12_winsPlainly_10 ?_
      have ev_6 : f_2 16 = f 16 := by rw [hF_2 16 (by decide)]
      rw [ev_6]
      have tf_7 : 0 ≤ (f 16).toInt ∧ (f 16).toInt ≤ 4 := by rw [← ev_6]; exact hT.1 16
      refine bi_ge (tgt := 39) hx hb rfl rfl dX12_winsPlainly_13 (by decide) (fun c_8 => ?_) (fun c_8 => ?_)
      · skip
        refine lv_aload_n hx hb dX12_winsPlainly_39 rfl (lv_at hl 1 rfl) ?_
        refine lv_iload_n hx hb dX12_winsPlainly_40 rfl (lv_at hl 2 rfl) ?_
        refine lv_iconst (v := 4) hx hb dX12_winsPlainly_41 (by decide) ?_
        refine lv_iconst (v := 4) hx hb dX12_winsPlainly_42 (by decide) ?_
        refine zcS (zrV (As := [.int x1, .int 4, .int 4]) (b := a0) (rest := []) C hs hP hS (c_X12_greatest l D K hM f_2 A_2 hT a0 ha0 hk0 x1 4 4 hp0) m_X12_greatest wm_X12_135 (zrecv hs hP ha0 (zF_11 hk0) rfl) ⟨by decide, by decide⟩ hl.1 (Nat.le_of_ble_eq_true rfl) dX12_winsPlainly_43) (fun x_9 p_9 => ?_)
        have pp_9 : (x_9.toInt = -1 ∨ 0 ≤ x_9.toInt ∧ x_9.toInt < (f_2 16).toInt) ∧ (1 ≤ (f_2 16).toInt → (mcol (A_2 40) x1 (A_2 55 0)).toInt = (4 : Int32).toInt → x_9.toInt ≠ -1) := p_9
        have ev_10 : f_2 16 = f 16 := by rw [hF_2 16 (by decide)]
        have ev_11 : A_2 40 = A 40 := by rw [hA_2 40 (by decide)]
        have ev_12 : A_2 55 = A 55 := by rw [hA_2 55 (by decide)]
        rw [ev_10, ev_11, ev_12] at pp_9
        try simp only [ti_4] at pp_9
        have g_13 := z_rng x1
        refine lv_istore_n (lv' := [(2, .int x_9), (0, .ref a0), (1, .int x1)]) hx hb dX12_winsPlainly_46 rfl hl (by decide) rfl (fun ls hl => ?_)
        refine lv_aload_n hx hb dX12_winsPlainly_47 rfl (lv_at hl 1 rfl) ?_
        refine lv_iload_n hx hb dX12_winsPlainly_48 rfl (lv_at hl 2 rfl) ?_
        refine lv_aload_n hx hb dX12_winsPlainly_49 rfl (lv_at hl 1 rfl) ?_
        refine mg_15 C hs hP ha0 hk0 wf_X12_39 dX12_winsPlainly_50 ?_
        have hf_14 := hO.r (j := 15) ha0 hk0 (rfl : zX 11 15 = some (55, 4))
        refine lv_iconst (v := 0) hx hb dX12_winsPlainly_53 (by decide) ?_
        have hin_15 : vp_in 0 (zn K (zr K a0 15)) := vp_in_iff.mpr (by rw [ti_0, (hf_14.2.2 (by decide))]; decide)
        refine mld_55 C hs hP hf_14.1 hf_14.2.1 hin_15 dX12_winsPlainly_54 ?_
        have ep_16 : (0 : Int32).toNatClampNeg = 0 := by decide +kernel
        rw [ep_16]
        have ev_17 : A_2 55 0 = A 55 0 := by rw [hA_2 55 (by decide)]
        have tv_18 := ra_55 (i := 0) hT (by rw [ti_0]; decide) (by rw [ti_0]; decide)
        rw [ep_16] at tv_18
        rw [ev_17] at tv_18
        rw [ev_17]
        have g_19 := z_rng (A 55 0)
        have hq_20 : 0 ≤ (A 55 0).toInt ∧ (A 55 0).toInt ≤ 59 := by (first | assumption | omega | (intros; omega))
        refine zcS (zrV (As := [.int x1, .int (A 55 0)]) (b := a0) (rest := []) C hs hP hS (c_X12_colour l D K hM f_2 A_2 hT a0 ha0 hk0 x1 (A 55 0) hp0 hq_20) m_X12_colour wm_X12_120 (zrecv hs hP ha0 (zF_11 hk0) rfl) ⟨by decide, by decide⟩ hl.1 (Nat.le_of_ble_eq_true rfl) dX12_winsPlainly_55) (fun x_21 p_21 => ?_)
        have pp_21 : x_21 = mcol (A_2 40) x1 (A 55 0) := p_21
        have ev_22 : A_2 40 = A 40 := by rw [hA_2 40 (by decide)]
        rw [ev_22] at pp_21
        have pq_21 := congrArg Int32.toInt pp_21
        refine lv_istore_n (lv' := [(3, .int x_21), (2, .int x_9), (0, .ref a0), (1, .int x1)]) hx hb dX12_winsPlainly_58 rfl hl (by decide) rfl (fun ls hl => ?_)
        refine lv_iload_n hx hb dX12_winsPlainly_59 rfl (lv_at hl 1 rfl) ?_
        refine lv_iconst (v := (-1)) hx hb dX12_winsPlainly_60 (by decide) ?_
        refine bi_eq (tgt := 68) hx hb rfl ti_m1 dX12_winsPlainly_61 (by decide) (fun c_23 => ?_) (fun c_23 => ?_)
        · skip
          refine lv_aload_n hx hb dX12_winsPlainly_68 rfl (lv_at hl 2 rfl) ?_
          refine lv_iload_n hx hb dX12_winsPlainly_69 rfl (lv_at hl 3 rfl) ?_
          refine lv_iload_n hx hb dX12_winsPlainly_70 rfl (lv_at hl 0 rfl) ?_
          refine lv_iload_n hx hb dX12_winsPlainly_71 rfl (lv_at hl 0 rfl) ?_
          refine zcS (zrV (As := [.int x1, .int x_21, .int x_21]) (b := a0) (rest := []) C hs hP hS (c_X12_greatest l D K hM f_2 A_2 hT a0 ha0 hk0 x1 x_21 x_21 hp0) m_X12_greatest wm_X12_135 (zrecv hs hP ha0 (zF_11 hk0) rfl) ⟨by decide, by decide⟩ hl.1 (Nat.le_of_ble_eq_true rfl) dX12_winsPlainly_72) (fun x_24 p_24 => ?_)
          have pp_24 : (x_24.toInt = -1 ∨ 0 ≤ x_24.toInt ∧ x_24.toInt < (f_2 16).toInt) ∧ (1 ≤ (f_2 16).toInt → (mcol (A_2 40) x1 (A_2 55 0)).toInt = x_21.toInt → x_24.toInt ≠ -1) := p_24
          have ev_25 : f_2 16 = f 16 := by rw [hF_2 16 (by decide)]
          have ev_26 : A_2 40 = A 40 := by rw [hA_2 40 (by decide)]
          have ev_27 : A_2 55 = A 55 := by rw [hA_2 55 (by decide)]
          rw [ev_25, ev_26, ev_27] at pp_24
          have g_28 := z_rng x_21
          have g_29 := z_rng x_24
          exact maI hQ hx hb hr hlk hP hS ⟨hT, FA, FF, (by (try dsimp only); (first | omega | (intro h9; omega) | (simp; done) | (refine ⟨?_, ?_⟩ <;> intros <;> first | trivial | omega) | (refine ⟨?_, ?_, ?_⟩ <;> intros <;> first | trivial | omega)))⟩ dX12_winsPlainly_75
        · skip
          refine lv_iload_n hx hb dX12_winsPlainly_64 rfl (lv_at hl 1 rfl) ?_
          refine lv_goto (tgt := 75) hx hb dX12_winsPlainly_65 (by decide) ?_
          have g_30 := z_rng x_9
          exact maI hQ hx hb hr hlk hP hS ⟨hT, FA, FF, (by (try dsimp only); (first | omega | (intro h9; omega) | (simp; done) | (refine ⟨?_, ?_⟩ <;> intros <;> first | trivial | omega) | (refine ⟨?_, ?_, ?_⟩ <;> intros <;> first | trivial | omega)))⟩ dX12_winsPlainly_75
      · skip
        refine lv_aload_n hx hb dX12_winsPlainly_16 rfl (lv_at hl 1 rfl) ?_
        refine lv_iload_n hx hb dX12_winsPlainly_17 rfl (lv_at hl 2 rfl) ?_
        refine lv_aload_n hx hb dX12_winsPlainly_18 rfl (lv_at hl 1 rfl) ?_
        refine mg_15 C hs hP ha0 hk0 wf_X12_39 dX12_winsPlainly_19 ?_
        have hf_31 := hO.r (j := 15) ha0 hk0 (rfl : zX 11 15 = some (55, 4))
        refine lv_iload_n hx hb dX12_winsPlainly_22 rfl (lv_at hl 0 rfl) ?_
        have g_33 := z_rng y_3
        have hin_32 : vp_in y_3 (zn K (zr K a0 15)) := vp_in_iff.mpr (by rw [(hf_31.2.2 (by decide))]; refine ⟨?_, ?_⟩ <;> omega)
        refine mld_55 C hs hP hf_31.1 hf_31.2.1 hin_32 dX12_winsPlainly_23 ?_
        have ev_34 : A_2 55 y_3.toNatClampNeg = A 55 y_3.toNatClampNeg := by rw [hA_2 55 (by decide)]
        have tv_35 := ra_55 hT (vp_in_iff.mp hin_32).1 (by have h7 := (vp_in_iff.mp hin_32).2; rw [(hf_31.2.2 (by decide))] at h7; exact h7)
        rw [ev_34] at tv_35
        rw [ev_34]
        have g_36 := z_rng x1
        have g_37 := z_rng (A 55 y_3.toNatClampNeg)
        have hq_38 : 0 ≤ (A 55 y_3.toNatClampNeg).toInt ∧ (A 55 y_3.toNatClampNeg).toInt ≤ 59 := by (first | assumption | omega | (intros; omega))
        refine zcS (zrV (As := [.int x1, .int (A 55 y_3.toNatClampNeg)]) (b := a0) (rest := []) C hs hP hS (c_X12_colour l D K hM f_2 A_2 hT a0 ha0 hk0 x1 (A 55 y_3.toNatClampNeg) hp0 hq_38) m_X12_colour wm_X12_120 (zrecv hs hP ha0 (zF_11 hk0) rfl) ⟨by decide, by decide⟩ hl.1 (Nat.le_of_ble_eq_true rfl) dX12_winsPlainly_24) (fun x_39 p_39 => ?_)
        have pp_39 : x_39 = mcol (A_2 40) x1 (A 55 y_3.toNatClampNeg) := p_39
        have ev_40 : A_2 40 = A 40 := by rw [hA_2 40 (by decide)]
        rw [ev_40] at pp_39
        have pq_39 := congrArg Int32.toInt pp_39
        refine lv_iconst (v := 5) hx hb dX12_winsPlainly_27 (by decide) ?_
        refine bi_ne (tgt := 33) hx hb rfl ti_5 dX12_winsPlainly_28 (by decide) (fun c_41 => ?_) (fun c_41 => ?_)
        · skip
          obtain ⟨x_42, ex_42⟩ : ∃ y : Int32, y = y_3 + 1 := ⟨_, rfl⟩
          refine lv_iinc (v := x_42) (lv' := [(2, .int x_42), (0, .ref a0), (1, .int x1)]) hx hb dX12_winsPlainly_33 hl (k := 0) rfl (by rw [ex_42]; rfl) (by decide) rfl (fun ls hl => ?_)
          refine lv_goto (tgt := 8) hx hb dX12_winsPlainly_36 (by decide) ?_
          obtain ⟨f_42, l_42, u_42⟩ := z_add ex_42 rfl ti_1
          try replace f_42 : x_42.toInt = y_3.toInt + 1 := by omega
          clear l_42 u_42
          have g_43 := z_rng (f 16)
          have g_44 := z_rng x_39
          exact ih_4 x_42 _ (by omega) (by omega) (lv_sub hl [0, 1, 2] rfl)
        · skip
          refine lv_iload_n hx hb dX12_winsPlainly_31 rfl (lv_at hl 0 rfl) ?_
          exact maI hQ hx hb hr hlk hP hS ⟨hT, FA, FF, (by (try dsimp only); (first | omega | (intro h9; omega) | (simp; done) | (refine ⟨?_, ?_⟩ <;> intros <;> first | trivial | omega) | (refine ⟨?_, ?_, ?_⟩ <;> intros <;> first | trivial | omega)))⟩ dX12_winsPlainly_32
  exact L_8_4 _ 0 _ (Nat.lt_succ_self _) (by (try simp only [ti_0]); omega) (lv_sub hl [0, 1, 2] rfl)
set_option maxHeartbeats 4000000 in
set_option maxRecDepth 100000 in
theorem c_X12_wins (l : Launch) (D : va_G) (K : zK) (hM : mK K) (f : Nat → Int32) (A : Nat → Nat → Int32) (hT : mT f A) (a0 : Nat) (ha0 : a0 ∈ zl K) (hk0 : zk K a0 = 11) (x1 : Int32) (hp0 : zRow x1.toInt) (hp1 : 1 ≤ (f 16).toInt) (hp2 : (f 11).toInt ≤ 1980000000) : Met l yX12_wins (zc yX12_wins cX12_wins 7 (some .int)) (rmd 3) (va_Pc [.ref a0, .int x1] (zB D K (mV K f A))) (mQi D K (fun r f' A' => mT f' A' ∧ (∀ k, k ∉ ([50] : List Nat) → A' k = A k) ∧ (∀ k, k ∉ ([11] : List Nat) → f' k = f k) ∧ (f 11).toInt ≤ (f' 11).toInt ∧ (f' 11).toInt ≤ (f 11).toInt + 3 ∧ ((f 12).toInt ≠ 0 → (f' 11).toInt = (f 11).toInt) ∧ 0 ≤ r.toInt ∧ r.toInt < (f 16).toInt)) 0 0 (zA K) := by
  refine zin (by decide) (Nat.le_of_ble_eq_true rfl) ?_
  intro p e s m args below meth c ls Q hQ C hr hlk hP hs hl
  have C : CallFix p m c cX12_wins 7 s args zw RX12 := C
  obtain ⟨hx, hb, hml, hown, hts⟩ := id C
  have hO := hM.1
  have hS : va_S (zA K) s.heap s.heap [] := va_S.rf
  have FA : ∀ k, k ∉ ([50] : List Nat) → A k = A k := fun _ _ => rfl
  have FF : ∀ k, k ∉ ([11] : List Nat) → f k = f k := fun _ _ => rfl
  have hl : lv_has ls 7 [(0, .ref a0), (1, .int x1)] := hl
  have hb0 := hp0.lin
  refine lv_aload_n hx hb dX12_wins_0 rfl (lv_at hl 0 rfl) ?_
  refine mg_0 C hs hP ha0 hk0 wf_X12_8 dX12_wins_1 ?_
  have hf_1 := hO.r (j := 0) ha0 hk0 (rfl : zX 11 0 = some (40, 47730))
  refine lv_iload_n hx hb dX12_wins_4 rfl (lv_at hl 1 rfl) ?_
  refine lv_iconst (v := 2) hx hb dX12_wins_5 (by decide) ?_
  refine lv_iadd hx hb dX12_wins_6 ?_
  refine lv_topi (fun x_2 ex_2 => ?_)
  have hi_hr_3 : zEq x_2.toInt (x1.toInt + 2) := by
    have g_4 := z_rng x1
    obtain ⟨f_2, l_2, u_2⟩ := z_add ex_2 rfl ti_2
    try replace f_2 : x_2.toInt = x1.toInt + 2 := by omega
    clear l_2 u_2
    show x_2.toInt = (x1.toInt + 2)
    omega
  have hl_hr_3 : (2 : Int) ≤ 2 ∧ 2 ≤ (2 : Int) := by decide
  have hid_hr_3 : (x1.toInt + 2) = x1.toInt + (2) := by simp only [Int.add_assoc, Int.add_sub_assoc]
  have hr_3 := z_cell (lo := 2) (hi := 8) hp0 hi_hr_3 hid_hr_3 hl_hr_3 (by decide)
  replace hid_hr_3 : zEq (x1.toInt + 2) (x1.toInt + (2)) := hid_hr_3
  have hin_5 : vp_in x_2 (zn K (zr K a0 0)) := vp_in_iff.mpr (by rw [(hf_1.2.2 (by decide))]; exact hr_3.in)
  refine mld_40 C hs hP hf_1.1 hf_1.2.1 hin_5 dX12_wins_7 ?_
  have ep_6 : x_2.toNatClampNeg = (x1.toInt + 2).toNat := z_posE hi_hr_3
  rw [ep_6]
  refine lv_iconst (v := 4) hx hb dX12_wins_8 (by decide) ?_
  refine bi_ne (tgt := 18) hx hb rfl ti_4 dX12_wins_9 (by decide) (fun c_7 => ?_) (fun c_7 => ?_)
  · skip
    refine lv_aload_n hx hb dX12_wins_18 rfl (lv_at hl 0 rfl) ?_
    refine mg_0 C hs hP ha0 hk0 wf_X12_8 dX12_wins_19 ?_
    refine lv_iload_n hx hb dX12_wins_22 rfl (lv_at hl 1 rfl) ?_
    refine lv_iconst (v := 3) hx hb dX12_wins_23 (by decide) ?_
    refine lv_iadd hx hb dX12_wins_24 ?_
    refine lv_topi (fun x_8 ex_8 => ?_)
    have hi_hr_9 : zEq x_8.toInt (x1.toInt + 3) := by
      have g_10 := z_rng x1
      obtain ⟨f_8, l_8, u_8⟩ := z_add ex_8 rfl ti_3
      try replace f_8 : x_8.toInt = x1.toInt + 3 := by omega
      clear l_8 u_8
      show x_8.toInt = (x1.toInt + 3)
      omega
    have hl_hr_9 : (3 : Int) ≤ 3 ∧ 3 ≤ (3 : Int) := by decide
    have hid_hr_9 : (x1.toInt + 3) = x1.toInt + (3) := by simp only [Int.add_assoc, Int.add_sub_assoc]
    have hr_9 := z_cell (lo := 2) (hi := 8) hp0 hi_hr_9 hid_hr_9 hl_hr_9 (by decide)
    replace hid_hr_9 : zEq (x1.toInt + 3) (x1.toInt + (3)) := hid_hr_9
    have hin_11 : vp_in x_8 (zn K (zr K a0 0)) := vp_in_iff.mpr (by rw [(hf_1.2.2 (by decide))]; exact hr_9.in)
    refine mld_40 C hs hP hf_1.1 hf_1.2.1 hin_11 dX12_wins_25 ?_
    have ep_12 : x_8.toNatClampNeg = (x1.toInt + 3).toNat := z_posE hi_hr_9
    rw [ep_12]
    refine lv_istore_n (lv' := [(2, .int (A 40 (x1.toInt + 3).toNat)), (0, .ref a0), (1, .int x1)]) hx hb dX12_wins_26 rfl hl (by decide) rfl (fun ls hl => ?_)
    refine lv_aload_n hx hb dX12_wins_27 rfl (lv_at hl 1 rfl) ?_
    refine lv_iload_n hx hb dX12_wins_28 rfl (lv_at hl 2 rfl) ?_
    refine lv_aload_n hx hb dX12_wins_29 rfl (lv_at hl 1 rfl) ?_
    refine mg_15 C hs hP ha0 hk0 wf_X12_39 dX12_wins_30 ?_
    have hf_13 := hO.r (j := 15) ha0 hk0 (rfl : zX 11 15 = some (55, 4))
    refine lv_iconst (v := 0) hx hb dX12_wins_33 (by decide) ?_
    have hin_14 : vp_in 0 (zn K (zr K a0 15)) := vp_in_iff.mpr (by rw [ti_0, (hf_13.2.2 (by decide))]; decide)
    refine mld_55 C hs hP hf_13.1 hf_13.2.1 hin_14 dX12_wins_34 ?_
    have ep_15 : (0 : Int32).toNatClampNeg = 0 := by decide +kernel
    rw [ep_15]
    have tv_16 := ra_55 (i := 0) hT (by rw [ti_0]; decide) (by rw [ti_0]; decide)
    rw [ep_15] at tv_16
    have g_17 := z_rng x1
    have g_18 := z_rng (A 55 0)
    have hq_19 : 0 ≤ (A 55 0).toInt ∧ (A 55 0).toInt ≤ 59 := by (first | assumption | omega | (intros; omega))
    refine zcS (zrV (As := [.int x1, .int (A 55 0)]) (b := a0) (rest := []) C hs hP hS (c_X12_colour l D K hM f A hT a0 ha0 hk0 x1 (A 55 0) hp0 hq_19) m_X12_colour wm_X12_120 (zrecv hs hP ha0 (zF_11 hk0) rfl) ⟨by decide, by decide⟩ hl.1 (Nat.le_of_ble_eq_true rfl) dX12_wins_35) (fun x_20 p_20 => ?_)
    have pp_20 : x_20 = mcol (A 40) x1 (A 55 0) := p_20
    have pq_20 := congrArg Int32.toInt pp_20
    refine lv_istore_n (lv' := [(3, .int x_20), (2, .int (A 40 (x1.toInt + 3).toNat)), (0, .ref a0), (1, .int x1)]) hx hb dX12_wins_38 rfl hl (by decide) rfl (fun ls hl => ?_)
    refine lv_iload_n hx hb dX12_wins_39 rfl (lv_at hl 1 rfl) ?_
    refine lv_iconst (v := 2) hx hb dX12_wins_40 (by decide) ?_
    refine bi_ne (tgt := 67) hx hb rfl ti_2 dX12_wins_41 (by decide) (fun c_21 => ?_) (fun c_21 => ?_)
    · skip
      refine lv_iload_n hx hb dX12_wins_67 rfl (lv_at hl 1 rfl) ?_
      refine lv_iconst (v := 3) hx hb dX12_wins_68 (by decide) ?_
      refine bi_ne (tgt := 141) hx hb rfl ti_3 dX12_wins_69 (by decide) (fun c_22 => ?_) (fun c_22 => ?_)
      · skip
        refine lv_aload_n hx hb dX12_wins_141 rfl (lv_at hl 2 rfl) ?_
        refine lv_iload_n hx hb dX12_wins_142 rfl (lv_at hl 3 rfl) ?_
        have hq_23 : 1 ≤ (f 16).toInt := by (first | assumption | omega | (intros; omega))
        have hq_24 : (f 11).toInt ≤ 1990000000 := by (first | assumption | omega | (intros; omega))
        refine mcI (zrV (As := [.int x1]) (b := a0) (rest := []) C hs hP hS (c_X12_winsPlainly l D K hM f A hT a0 ha0 hk0 x1 hp0 hq_23 hq_24) m_X12_winsPlainly wm_X12_139 (zrecv hs hP ha0 (zF_11 hk0) rfl) ⟨by decide, by decide⟩ hl.1 (Nat.le_of_ble_eq_true rfl) dX12_wins_143) hS (fun x_25 f_25 A_25 H locs p_25 hP hS => ?_)
        obtain ⟨hT, hA_25, hF_25, pp_25⟩ := p_25
        have pp_25 : (f 11).toInt ≤ (f_25 11).toInt ∧ (f_25 11).toInt ≤ (f 11).toInt + 1 ∧ ((f 12).toInt ≠ 0 → (f_25 11).toInt = (f 11).toInt) ∧ 0 ≤ x_25.toInt ∧ x_25.toInt < (f 16).toInt := pp_25
        have FA := frA FA hA_25 (by decide)
        have FF := frF FF hF_25 (by decide)
        have g_26 := z_rng x_25
        exact maI hQ hx hb hr hlk hP hS ⟨hT, FA, FF, (by (try dsimp only); (first | omega | (intro h9; omega) | (simp; done) | (refine ⟨?_, ?_⟩ <;> intros <;> first | trivial | omega) | (refine ⟨?_, ?_, ?_⟩ <;> intros <;> first | trivial | omega)))⟩ dX12_wins_146
      · skip
        refine lv_aload_n hx hb dX12_wins_72 rfl (lv_at hl 2 rfl) ?_
        refine lv_bipush (v := 33) hx hb dX12_wins_73 (by decide) ?_
        have hq_27 : (f 11).toInt ≤ 2000000000 := by ((try simp only [ti_33]); first | assumption | omega | (intros; omega))
        refine mcV (zrV (As := [.int 33]) (b := a0) (rest := []) C hs hP hS (c_X12_body l D K hM f A hT a0 ha0 hk0 33 hq_27) m_X12_body wm_X12_124 (zrecv hs hP ha0 (zF_11 hk0) rfl) ⟨by decide, by decide⟩ hl.1 (Nat.le_of_ble_eq_true rfl) dX12_wins_75) hS (fun f_28 A_28 H locs p_28 hP hS => ?_)
        obtain ⟨hT, hA_28, hF_28, pp_28⟩ := p_28
        have pp_28 : (f 11).toInt ≤ (f_28 11).toInt ∧ (f_28 11).toInt ≤ (f 11).toInt + 1 ∧ ((f 12).toInt ≠ 0 → (f_28 11).toInt = (f 11).toInt) := pp_28
        try simp only [ti_33] at pp_28
        have FA := frA FA hA_28 (by decide)
        have FF := frF FF hF_28 (by decide)
        refine lv_aload_n hx hb dX12_wins_78 rfl (lv_at hl 2 rfl) ?_
        refine mg_0 C hs hP ha0 hk0 wf_X12_8 dX12_wins_79 ?_
        refine lv_iload_n hx hb dX12_wins_82 rfl (lv_at hl 3 rfl) ?_
        refine lv_bipush (v := 11) hx hb dX12_wins_83 (by decide) ?_
        refine lv_iadd hx hb dX12_wins_85 ?_
        refine lv_topi (fun x_29 ex_29 => ?_)
        have hi_hr_30 : zEq x_29.toInt (x1.toInt + 11) := by
          obtain ⟨f_29, l_29, u_29⟩ := z_add ex_29 rfl ti_11
          try replace f_29 : x_29.toInt = x1.toInt + 11 := by omega
          clear l_29 u_29
          show x_29.toInt = (x1.toInt + 11)
          omega
        have hl_hr_30 : (11 : Int) ≤ 11 ∧ 11 ≤ (11 : Int) := by decide
        have hid_hr_30 : (x1.toInt + 11) = x1.toInt + (11) := by simp only [Int.add_assoc, Int.add_sub_assoc]
        have hr_30 := z_cell (lo := 10) (hi := 19) hp0 hi_hr_30 hid_hr_30 hl_hr_30 (by decide)
        replace hid_hr_30 : zEq (x1.toInt + 11) (x1.toInt + (11)) := hid_hr_30
        have hin_31 : vp_in x_29 (zn K (zr K a0 0)) := vp_in_iff.mpr (by rw [(hf_1.2.2 (by decide))]; exact hr_30.in)
        refine mld_40 C hs hP hf_1.1 hf_1.2.1 hin_31 dX12_wins_86 ?_
        have ep_32 : x_29.toNatClampNeg = (x1.toInt + 11).toNat := z_posE hi_hr_30
        rw [ep_32]
        have ev_33 : A_28 40 (x1.toInt + 11).toNat = A 40 (x1.toInt + 11).toNat := by rw [hA_28 40 (by decide)]
        rw [ev_33]
        refine lv_istore (lv' := [(4, .int (A 40 (x1.toInt + 11).toNat)), (3, .int x_20), (2, .int (A 40 (x1.toInt + 3).toNat)), (0, .ref a0), (1, .int x1)]) hx hb dX12_wins_87 hl (by decide) rfl (fun ls hl => ?_)
        refine lv_aload_n hx hb dX12_wins_89 rfl (lv_at hl 3 rfl) ?_
        refine lv_iload_n hx hb dX12_wins_90 rfl (lv_at hl 4 rfl) ?_
        refine lv_iconst (v := 5) hx hb dX12_wins_91 (by decide) ?_
        refine lv_iconst (v := 5) hx hb dX12_wins_92 (by decide) ?_
        refine zcS (zrV (As := [.int x1, .int 5, .int 5]) (b := a0) (rest := []) C hs hP hS (c_X12_greatest l D K hM f_28 A_28 hT a0 ha0 hk0 x1 5 5 hp0) m_X12_greatest wm_X12_135 (zrecv hs hP ha0 (zF_11 hk0) rfl) ⟨by decide, by decide⟩ hl.1 (Nat.le_of_ble_eq_true rfl) dX12_wins_93) (fun x_34 p_34 => ?_)
        have pp_34 : (x_34.toInt = -1 ∨ 0 ≤ x_34.toInt ∧ x_34.toInt < (f_28 16).toInt) ∧ (1 ≤ (f_28 16).toInt → (mcol (A_28 40) x1 (A_28 55 0)).toInt = (5 : Int32).toInt → x_34.toInt ≠ -1) := p_34
        have ev_35 : f_28 16 = f 16 := by rw [hF_28 16 (by decide)]
        have ev_36 : A_28 40 = A 40 := by rw [hA_28 40 (by decide)]
        have ev_37 : A_28 55 = A 55 := by rw [hA_28 55 (by decide)]
        rw [ev_35, ev_36, ev_37] at pp_34
        try simp only [ti_5] at pp_34
        refine lv_iconst (v := (-1)) hx hb dX12_wins_96 (by decide) ?_
        refine bi_eq (tgt := 104) hx hb rfl ti_m1 dX12_wins_97 (by decide) (fun c_38 => ?_) (fun c_38 => ?_)
        · skip
          refine lv_iconst (v := 0) hx hb dX12_wins_104 (by decide) ?_
          refine lv_istore (lv' := [(5, .int 0), (4, .int (A 40 (x1.toInt + 11).toNat)), (3, .int x_20), (2, .int (A 40 (x1.toInt + 3).toNat)), (0, .ref a0), (1, .int x1)]) hx hb dX12_wins_105 hl (by decide) rfl (fun ls hl => ?_)
          refine lv_iload hx hb dX12_wins_107 (lv_at hl 1 rfl) ?_
          refine lv_iconst (v := (-1)) hx hb dX12_wins_109 (by decide) ?_
          refine bi_eq (tgt := 118) hx hb rfl ti_m1 dX12_wins_110 (by decide) (fun c_39 => ?_) (fun c_39 => ?_)
          · skip
            refine lv_iconst (v := (-1)) hx hb dX12_wins_118 (by decide) ?_
            refine lv_goto (tgt := 130) hx hb dX12_wins_119 (by decide) ?_
            refine lv_istore (lv' := [(6, .int (-1)), (5, .int 0), (4, .int (A 40 (x1.toInt + 11).toNat)), (3, .int x_20), (2, .int (A 40 (x1.toInt + 3).toNat)), (0, .ref a0), (1, .int x1)]) hx hb dX12_wins_130 hl (by decide) rfl (fun ls hl => ?_)
            refine lv_iload hx hb dX12_wins_132 (lv_at hl 0 rfl) ?_
            refine lv_iconst (v := (-1)) hx hb dX12_wins_134 (by decide) ?_
            refine bi_eq (tgt := 141) hx hb ti_m1 ti_m1 dX12_wins_135 (by decide) (fun c_40 => ?_) (fun c_40 => ?_)
            · clear c_40
              refine lv_aload_n hx hb dX12_wins_141 rfl (lv_at hl 5 rfl) ?_
              refine lv_iload_n hx hb dX12_wins_142 rfl (lv_at hl 6 rfl) ?_
              have ev_42 : f_28 16 = f 16 := by rw [hF_28 16 (by decide)]
              have hq_41 : 1 ≤ (f_28 16).toInt := by rw [ev_42] <;> (first | assumption | omega | (intros; omega))
              have hq_43 : (f_28 11).toInt ≤ 1990000000 := by (first | assumption | omega | (intros; omega))
              refine mcI (zrV (As := [.int x1]) (b := a0) (rest := []) C hs hP hS (c_X12_winsPlainly l D K hM f_28 A_28 hT a0 ha0 hk0 x1 hp0 hq_41 hq_43) m_X12_winsPlainly wm_X12_139 (zrecv hs hP ha0 (zF_11 hk0) rfl) ⟨by decide, by decide⟩ hl.1 (Nat.le_of_ble_eq_true rfl) dX12_wins_143) hS (fun x_44 f_44 A_44 H locs p_44 hP hS => ?_)
              obtain ⟨hT, hA_44, hF_44, pp_44⟩ := p_44
              have pp_44 : (f_28 11).toInt ≤ (f_44 11).toInt ∧ (f_44 11).toInt ≤ (f_28 11).toInt + 1 ∧ ((f_28 12).toInt ≠ 0 → (f_44 11).toInt = (f_28 11).toInt) ∧ 0 ≤ x_44.toInt ∧ x_44.toInt < (f_28 16).toInt := pp_44
              have ev_45 : f_28 12 = f 12 := by rw [hF_28 12 (by decide)]
              have ev_46 : f_28 16 = f 16 := by rw [hF_28 16 (by decide)]
              rw [ev_45, ev_46] at pp_44
              have FA := frA FA hA_44 (by decide)
              have FF := frF FF hF_44 (by decide)
              have g_47 := z_rng x_44
              exact maI hQ hx hb hr hlk hP hS ⟨hT, FA, FF, (by (try dsimp only); (first | omega | (intro h9; omega) | (simp; done) | (refine ⟨?_, ?_⟩ <;> intros <;> first | trivial | omega) | (refine ⟨?_, ?_, ?_⟩ <;> intros <;> first | trivial | omega)))⟩ dX12_wins_146
            · exact absurd c_40 (by decide)
          · skip
            refine lv_iload hx hb dX12_wins_113 (lv_at hl 0 rfl) ?_
            refine bz_eq (tgt := 122) hx hb ti_0 dX12_wins_115 (by decide) (fun c_48 => ?_) (fun c_48 => ?_)
            · clear c_48
              refine lv_aload_n hx hb dX12_wins_122 rfl (lv_at hl 4 rfl) ?_
              refine lv_iload_n hx hb dX12_wins_123 rfl (lv_at hl 5 rfl) ?_
              refine lv_iconst (v := 4) hx hb dX12_wins_124 (by decide) ?_
              refine lv_iload hx hb dX12_wins_125 (lv_at hl 1 rfl) ?_
              refine zcS (zrV (As := [.int x1, .int 4, .int (A 40 (x1.toInt + 11).toNat)]) (b := a0) (rest := []) C hs hP hS (c_X12_greatest l D K hM f_28 A_28 hT a0 ha0 hk0 x1 4 (A 40 (x1.toInt + 11).toNat) hp0) m_X12_greatest wm_X12_135 (zrecv hs hP ha0 (zF_11 hk0) rfl) ⟨by decide, by decide⟩ hl.1 (Nat.le_of_ble_eq_true rfl) dX12_wins_127) (fun x_49 p_49 => ?_)
              have pp_49 : (x_49.toInt = -1 ∨ 0 ≤ x_49.toInt ∧ x_49.toInt < (f_28 16).toInt) ∧ (1 ≤ (f_28 16).toInt → (mcol (A_28 40) x1 (A_28 55 0)).toInt = (4 : Int32).toInt → x_49.toInt ≠ -1) := p_49
              have ev_50 : f_28 16 = f 16 := by rw [hF_28 16 (by decide)]
              have ev_51 : A_28 40 = A 40 := by rw [hA_28 40 (by decide)]
              have ev_52 : A_28 55 = A 55 := by rw [hA_28 55 (by decide)]
              rw [ev_50, ev_51, ev_52] at pp_49
              try simp only [ti_4] at pp_49
              have g_53 := z_rng (A 40 (x1.toInt + 11).toNat)
              refine lv_istore (lv' := [(6, .int x_49), (5, .int 0), (4, .int (A 40 (x1.toInt + 11).toNat)), (3, .int x_20), (2, .int (A 40 (x1.toInt + 3).toNat)), (0, .ref a0), (1, .int x1)]) hx hb dX12_wins_130 hl (by decide) rfl (fun ls hl => ?_)
              refine lv_iload hx hb dX12_wins_132 (lv_at hl 0 rfl) ?_
              refine lv_iconst (v := (-1)) hx hb dX12_wins_134 (by decide) ?_
              refine bi_eq (tgt := 141) hx hb rfl ti_m1 dX12_wins_135 (by decide) (fun c_54 => ?_) (fun c_54 => ?_)
              · skip
                refine lv_aload_n hx hb dX12_wins_141 rfl (lv_at hl 5 rfl) ?_
                refine lv_iload_n hx hb dX12_wins_142 rfl (lv_at hl 6 rfl) ?_
                have ev_56 : f_28 16 = f 16 := by rw [hF_28 16 (by decide)]
                have hq_55 : 1 ≤ (f_28 16).toInt := by rw [ev_56] <;> (first | assumption | omega | (intros; omega))
                have hq_57 : (f_28 11).toInt ≤ 1990000000 := by (first | assumption | omega | (intros; omega))
                refine mcI (zrV (As := [.int x1]) (b := a0) (rest := []) C hs hP hS (c_X12_winsPlainly l D K hM f_28 A_28 hT a0 ha0 hk0 x1 hp0 hq_55 hq_57) m_X12_winsPlainly wm_X12_139 (zrecv hs hP ha0 (zF_11 hk0) rfl) ⟨by decide, by decide⟩ hl.1 (Nat.le_of_ble_eq_true rfl) dX12_wins_143) hS (fun x_58 f_58 A_58 H locs p_58 hP hS => ?_)
                obtain ⟨hT, hA_58, hF_58, pp_58⟩ := p_58
                have pp_58 : (f_28 11).toInt ≤ (f_58 11).toInt ∧ (f_58 11).toInt ≤ (f_28 11).toInt + 1 ∧ ((f_28 12).toInt ≠ 0 → (f_58 11).toInt = (f_28 11).toInt) ∧ 0 ≤ x_58.toInt ∧ x_58.toInt < (f_28 16).toInt := pp_58
                have ev_59 : f_28 12 = f 12 := by rw [hF_28 12 (by decide)]
                have ev_60 : f_28 16 = f 16 := by rw [hF_28 16 (by decide)]
                rw [ev_59, ev_60] at pp_58
                have FA := frA FA hA_58 (by decide)
                have FF := frF FF hF_58 (by decide)
                have g_61 := z_rng x_58
                exact maI hQ hx hb hr hlk hP hS ⟨hT, FA, FF, (by (try dsimp only); (first | omega | (intro h9; omega) | (simp; done) | (refine ⟨?_, ?_⟩ <;> intros <;> first | trivial | omega) | (refine ⟨?_, ?_, ?_⟩ <;> intros <;> first | trivial | omega)))⟩ dX12_wins_146
              · skip
                refine lv_iload hx hb dX12_wins_138 (lv_at hl 0 rfl) ?_
                have g_62 := z_rng x_49
                exact maI hQ hx hb hr hlk hP hS ⟨hT, FA, FF, (by (try dsimp only); (first | omega | (intro h9; omega) | (simp; done) | (refine ⟨?_, ?_⟩ <;> intros <;> first | trivial | omega) | (refine ⟨?_, ?_, ?_⟩ <;> intros <;> first | trivial | omega)))⟩ dX12_wins_140
            · exact absurd c_48 (by decide)
        · skip
          refine lv_iconst (v := 1) hx hb dX12_wins_100 (by decide) ?_
          refine lv_goto (tgt := 105) hx hb dX12_wins_101 (by decide) ?_
          refine lv_istore (lv' := [(5, .int 1), (4, .int (A 40 (x1.toInt + 11).toNat)), (3, .int x_20), (2, .int (A 40 (x1.toInt + 3).toNat)), (0, .ref a0), (1, .int x1)]) hx hb dX12_wins_105 hl (by decide) rfl (fun ls hl => ?_)
          refine lv_iload hx hb dX12_wins_107 (lv_at hl 1 rfl) ?_
          refine lv_iconst (v := (-1)) hx hb dX12_wins_109 (by decide) ?_
          refine bi_eq (tgt := 118) hx hb rfl ti_m1 dX12_wins_110 (by decide) (fun c_63 => ?_) (fun c_63 => ?_)
          · skip
            refine lv_iconst (v := (-1)) hx hb dX12_wins_118 (by decide) ?_
            refine lv_goto (tgt := 130) hx hb dX12_wins_119 (by decide) ?_
            refine lv_istore (lv' := [(6, .int (-1)), (5, .int 1), (4, .int (A 40 (x1.toInt + 11).toNat)), (3, .int x_20), (2, .int (A 40 (x1.toInt + 3).toNat)), (0, .ref a0), (1, .int x1)]) hx hb dX12_wins_130 hl (by decide) rfl (fun ls hl => ?_)
            refine lv_iload hx hb dX12_wins_132 (lv_at hl 0 rfl) ?_
            refine lv_iconst (v := (-1)) hx hb dX12_wins_134 (by decide) ?_
            refine bi_eq (tgt := 141) hx hb ti_m1 ti_m1 dX12_wins_135 (by decide) (fun c_64 => ?_) (fun c_64 => ?_)
            · clear c_64
              refine lv_aload_n hx hb dX12_wins_141 rfl (lv_at hl 5 rfl) ?_
              refine lv_iload_n hx hb dX12_wins_142 rfl (lv_at hl 6 rfl) ?_
              have ev_66 : f_28 16 = f 16 := by rw [hF_28 16 (by decide)]
              have hq_65 : 1 ≤ (f_28 16).toInt := by rw [ev_66] <;> (first | assumption | omega | (intros; omega))
              have hq_67 : (f_28 11).toInt ≤ 1990000000 := by (first | assumption | omega | (intros; omega))
              refine mcI (zrV (As := [.int x1]) (b := a0) (rest := []) C hs hP hS (c_X12_winsPlainly l D K hM f_28 A_28 hT a0 ha0 hk0 x1 hp0 hq_65 hq_67) m_X12_winsPlainly wm_X12_139 (zrecv hs hP ha0 (zF_11 hk0) rfl) ⟨by decide, by decide⟩ hl.1 (Nat.le_of_ble_eq_true rfl) dX12_wins_143) hS (fun x_68 f_68 A_68 H locs p_68 hP hS => ?_)
              obtain ⟨hT, hA_68, hF_68, pp_68⟩ := p_68
              have pp_68 : (f_28 11).toInt ≤ (f_68 11).toInt ∧ (f_68 11).toInt ≤ (f_28 11).toInt + 1 ∧ ((f_28 12).toInt ≠ 0 → (f_68 11).toInt = (f_28 11).toInt) ∧ 0 ≤ x_68.toInt ∧ x_68.toInt < (f_28 16).toInt := pp_68
              have ev_69 : f_28 12 = f 12 := by rw [hF_28 12 (by decide)]
              have ev_70 : f_28 16 = f 16 := by rw [hF_28 16 (by decide)]
              rw [ev_69, ev_70] at pp_68
              have FA := frA FA hA_68 (by decide)
              have FF := frF FF hF_68 (by decide)
              have g_71 := z_rng x_68
              exact maI hQ hx hb hr hlk hP hS ⟨hT, FA, FF, (by (try dsimp only); (first | omega | (intro h9; omega) | (simp; done) | (refine ⟨?_, ?_⟩ <;> intros <;> first | trivial | omega) | (refine ⟨?_, ?_, ?_⟩ <;> intros <;> first | trivial | omega)))⟩ dX12_wins_146
            · exact absurd c_64 (by decide)
          · skip
            refine lv_iload hx hb dX12_wins_113 (lv_at hl 0 rfl) ?_
            refine bz_eq (tgt := 122) hx hb ti_1 dX12_wins_115 (by decide) (fun c_72 => ?_) (fun c_72 => ?_)
            · exact absurd c_72 (by decide)
            · clear c_72
              refine lv_iconst (v := (-1)) hx hb dX12_wins_118 (by decide) ?_
              refine lv_goto (tgt := 130) hx hb dX12_wins_119 (by decide) ?_
              refine lv_istore (lv' := [(6, .int (-1)), (5, .int 1), (4, .int (A 40 (x1.toInt + 11).toNat)), (3, .int x_20), (2, .int (A 40 (x1.toInt + 3).toNat)), (0, .ref a0), (1, .int x1)]) hx hb dX12_wins_130 hl (by decide) rfl (fun ls hl => ?_)
              refine lv_iload hx hb dX12_wins_132 (lv_at hl 0 rfl) ?_
              refine lv_iconst (v := (-1)) hx hb dX12_wins_134 (by decide) ?_
              refine bi_eq (tgt := 141) hx hb ti_m1 ti_m1 dX12_wins_135 (by decide) (fun c_73 => ?_) (fun c_73 => ?_)
              · clear c_73
                refine lv_aload_n hx hb dX12_wins_141 rfl (lv_at hl 5 rfl) ?_
                refine lv_iload_n hx hb dX12_wins_142 rfl (lv_at hl 6 rfl) ?_
                have ev_75 : f_28 16 = f 16 := by rw [hF_28 16 (by decide)]
                have hq_74 : 1 ≤ (f_28 16).toInt := by rw [ev_75] <;> (first | assumption | omega | (intros; omega))
                have hq_76 : (f_28 11).toInt ≤ 1990000000 := by (first | assumption | omega | (intros; omega))
                refine mcI (zrV (As := [.int x1]) (b := a0) (rest := []) C hs hP hS (c_X12_winsPlainly l D K hM f_28 A_28 hT a0 ha0 hk0 x1 hp0 hq_74 hq_76) m_X12_winsPlainly wm_X12_139 (zrecv hs hP ha0 (zF_11 hk0) rfl) ⟨by decide, by decide⟩ hl.1 (Nat.le_of_ble_eq_true rfl) dX12_wins_143) hS (fun x_77 f_77 A_77 H locs p_77 hP hS => ?_)
                obtain ⟨hT, hA_77, hF_77, pp_77⟩ := p_77
                have pp_77 : (f_28 11).toInt ≤ (f_77 11).toInt ∧ (f_77 11).toInt ≤ (f_28 11).toInt + 1 ∧ ((f_28 12).toInt ≠ 0 → (f_77 11).toInt = (f_28 11).toInt) ∧ 0 ≤ x_77.toInt ∧ x_77.toInt < (f_28 16).toInt := pp_77
                have ev_78 : f_28 12 = f 12 := by rw [hF_28 12 (by decide)]
                have ev_79 : f_28 16 = f 16 := by rw [hF_28 16 (by decide)]
                rw [ev_78, ev_79] at pp_77
                have FA := frA FA hA_77 (by decide)
                have FF := frF FF hF_77 (by decide)
                have g_80 := z_rng x_77
                exact maI hQ hx hb hr hlk hP hS ⟨hT, FA, FF, (by (try dsimp only); (first | omega | (intro h9; omega) | (simp; done) | (refine ⟨?_, ?_⟩ <;> intros <;> first | trivial | omega) | (refine ⟨?_, ?_, ?_⟩ <;> intros <;> first | trivial | omega)))⟩ dX12_wins_146
              · exact absurd c_73 (by decide)
    · skip
      refine lv_aload_n hx hb dX12_wins_44 rfl (lv_at hl 2 rfl) ?_
      refine lv_bipush (v := 32) hx hb dX12_wins_45 (by decide) ?_
      have hq_81 : (f 11).toInt ≤ 2000000000 := by ((try simp only [ti_32]); first | assumption | omega | (intros; omega))
      refine mcV (zrV (As := [.int 32]) (b := a0) (rest := []) C hs hP hS (c_X12_body l D K hM f A hT a0 ha0 hk0 32 hq_81) m_X12_body wm_X12_124 (zrecv hs hP ha0 (zF_11 hk0) rfl) ⟨by decide, by decide⟩ hl.1 (Nat.le_of_ble_eq_true rfl) dX12_wins_47) hS (fun f_82 A_82 H locs p_82 hP hS => ?_)
      obtain ⟨hT, hA_82, hF_82, pp_82⟩ := p_82
      have pp_82 : (f 11).toInt ≤ (f_82 11).toInt ∧ (f_82 11).toInt ≤ (f 11).toInt + 1 ∧ ((f 12).toInt ≠ 0 → (f_82 11).toInt = (f 11).toInt) := pp_82
      try simp only [ti_32] at pp_82
      have FA := frA FA hA_82 (by decide)
      have FF := frF FF hF_82 (by decide)
      refine lv_iload_n hx hb dX12_wins_50 rfl (lv_at hl 0 rfl) ?_
      refine lv_iconst (v := 5) hx hb dX12_wins_51 (by decide) ?_
      refine bi_ne (tgt := 59) hx hb rfl ti_5 dX12_wins_52 (by decide) (fun c_83 => ?_) (fun c_83 => ?_)
      · skip
        refine lv_aload_n hx hb dX12_wins_59 rfl (lv_at hl 2 rfl) ?_
        refine lv_iload_n hx hb dX12_wins_60 rfl (lv_at hl 3 rfl) ?_
        refine lv_iload_n hx hb dX12_wins_61 rfl (lv_at hl 0 rfl) ?_
        refine lv_iload_n hx hb dX12_wins_62 rfl (lv_at hl 0 rfl) ?_
        refine zcS (zrV (As := [.int x1, .int x_20, .int x_20]) (b := a0) (rest := []) C hs hP hS (c_X12_greatest l D K hM f_82 A_82 hT a0 ha0 hk0 x1 x_20 x_20 hp0) m_X12_greatest wm_X12_135 (zrecv hs hP ha0 (zF_11 hk0) rfl) ⟨by decide, by decide⟩ hl.1 (Nat.le_of_ble_eq_true rfl) dX12_wins_63) (fun x_84 p_84 => ?_)
        have pp_84 : (x_84.toInt = -1 ∨ 0 ≤ x_84.toInt ∧ x_84.toInt < (f_82 16).toInt) ∧ (1 ≤ (f_82 16).toInt → (mcol (A_82 40) x1 (A_82 55 0)).toInt = x_20.toInt → x_84.toInt ≠ -1) := p_84
        have ev_85 : f_82 16 = f 16 := by rw [hF_82 16 (by decide)]
        have ev_86 : A_82 40 = A 40 := by rw [hA_82 40 (by decide)]
        have ev_87 : A_82 55 = A 55 := by rw [hA_82 55 (by decide)]
        rw [ev_85, ev_86, ev_87] at pp_84
        have g_88 := z_rng x_20
        have g_89 := z_rng x_84
        exact maI hQ hx hb hr hlk hP hS ⟨hT, FA, FF, (by (try dsimp only); (first | omega | (intro h9; omega) | (simp; done) | (refine ⟨?_, ?_⟩ <;> intros <;> first | trivial | omega) | (refine ⟨?_, ?_, ?_⟩ <;> intros <;> first | trivial | omega)))⟩ dX12_wins_66
      · skip
        refine lv_iconst (v := 0) hx hb dX12_wins_55 (by decide) ?_
        refine lv_goto (tgt := 66) hx hb dX12_wins_56 (by decide) ?_
        exact maI hQ hx hb hr hlk hP hS ⟨hT, FA, FF, (by (try dsimp only); (try simp only [ti_0]); (first | omega | (intro h9; omega) | (simp; done) | (refine ⟨?_, ?_⟩ <;> intros <;> first | trivial | omega) | (refine ⟨?_, ?_, ?_⟩ <;> intros <;> first | trivial | omega)))⟩ dX12_wins_66
  · skip
    refine lv_aload_n hx hb dX12_wins_12 rfl (lv_at hl 0 rfl) ?_
    refine lv_bipush (v := 34) hx hb dX12_wins_13 (by decide) ?_
    have hq_90 : (f 11).toInt ≤ 2000000000 := by ((try simp only [ti_34]); first | assumption | omega | (intros; omega))
    refine mcV (zrV (As := [.int 34]) (b := a0) (rest := []) C hs hP hS (c_X12_body l D K hM f A hT a0 ha0 hk0 34 hq_90) m_X12_body wm_X12_124 (zrecv hs hP ha0 (zF_11 hk0) rfl) ⟨by decide, by decide⟩ hl.1 (Nat.le_of_ble_eq_true rfl) dX12_wins_15) hS (fun f_91 A_91 H locs p_91 hP hS => ?_)
    obtain ⟨hT, hA_91, hF_91, pp_91⟩ := p_91
    have pp_91 : (f 11).toInt ≤ (f_91 11).toInt ∧ (f_91 11).toInt ≤ (f 11).toInt + 1 ∧ ((f 12).toInt ≠ 0 → (f_91 11).toInt = (f 11).toInt) := pp_91
    try simp only [ti_34] at pp_91
    have FA := frA FA hA_91 (by decide)
    have FF := frF FF hF_91 (by decide)
    refine lv_aload_n hx hb dX12_wins_18 rfl (lv_at hl 0 rfl) ?_
    refine mg_0 C hs hP ha0 hk0 wf_X12_8 dX12_wins_19 ?_
    refine lv_iload_n hx hb dX12_wins_22 rfl (lv_at hl 1 rfl) ?_
    refine lv_iconst (v := 3) hx hb dX12_wins_23 (by decide) ?_
    refine lv_iadd hx hb dX12_wins_24 ?_
    refine lv_topi (fun x_92 ex_92 => ?_)
    have hi_hr_93 : zEq x_92.toInt (x1.toInt + 3) := by
      have g_94 := z_rng x1
      obtain ⟨f_92, l_92, u_92⟩ := z_add ex_92 rfl ti_3
      try replace f_92 : x_92.toInt = x1.toInt + 3 := by omega
      clear l_92 u_92
      show x_92.toInt = (x1.toInt + 3)
      omega
    have hl_hr_93 : (3 : Int) ≤ 3 ∧ 3 ≤ (3 : Int) := by decide
    have hid_hr_93 : (x1.toInt + 3) = x1.toInt + (3) := by simp only [Int.add_assoc, Int.add_sub_assoc]
    have hr_93 := z_cell (lo := 2) (hi := 8) hp0 hi_hr_93 hid_hr_93 hl_hr_93 (by decide)
    replace hid_hr_93 : zEq (x1.toInt + 3) (x1.toInt + (3)) := hid_hr_93
    have hin_95 : vp_in x_92 (zn K (zr K a0 0)) := vp_in_iff.mpr (by rw [(hf_1.2.2 (by decide))]; exact hr_93.in)
    refine mld_40 C hs hP hf_1.1 hf_1.2.1 hin_95 dX12_wins_25 ?_
    have ep_96 : x_92.toNatClampNeg = (x1.toInt + 3).toNat := z_posE hi_hr_93
    rw [ep_96]
    have ev_97 : A_91 40 (x1.toInt + 3).toNat = A 40 (x1.toInt + 3).toNat := by rw [hA_91 40 (by decide)]
    rw [ev_97]
    refine lv_istore_n (lv' := [(2, .int (A 40 (x1.toInt + 3).toNat)), (0, .ref a0), (1, .int x1)]) hx hb dX12_wins_26 rfl hl (by decide) rfl (fun ls hl => ?_)
    refine lv_aload_n hx hb dX12_wins_27 rfl (lv_at hl 1 rfl) ?_
    refine lv_iload_n hx hb dX12_wins_28 rfl (lv_at hl 2 rfl) ?_
    refine lv_aload_n hx hb dX12_wins_29 rfl (lv_at hl 1 rfl) ?_
    refine mg_15 C hs hP ha0 hk0 wf_X12_39 dX12_wins_30 ?_
    have hf_98 := hO.r (j := 15) ha0 hk0 (rfl : zX 11 15 = some (55, 4))
    refine lv_iconst (v := 0) hx hb dX12_wins_33 (by decide) ?_
    have hin_99 : vp_in 0 (zn K (zr K a0 15)) := vp_in_iff.mpr (by rw [ti_0, (hf_98.2.2 (by decide))]; decide)
    refine mld_55 C hs hP hf_98.1 hf_98.2.1 hin_99 dX12_wins_34 ?_
    have ep_100 : (0 : Int32).toNatClampNeg = 0 := by decide +kernel
    rw [ep_100]
    have ev_101 : A_91 55 0 = A 55 0 := by rw [hA_91 55 (by decide)]
    have tv_102 := ra_55 (i := 0) hT (by rw [ti_0]; decide) (by rw [ti_0]; decide)
    rw [ep_100] at tv_102
    rw [ev_101] at tv_102
    rw [ev_101]
    have g_103 := z_rng x1
    have g_104 := z_rng (A 55 0)
    have hq_105 : 0 ≤ (A 55 0).toInt ∧ (A 55 0).toInt ≤ 59 := by (first | assumption | omega | (intros; omega))
    refine zcS (zrV (As := [.int x1, .int (A 55 0)]) (b := a0) (rest := []) C hs hP hS (c_X12_colour l D K hM f_91 A_91 hT a0 ha0 hk0 x1 (A 55 0) hp0 hq_105) m_X12_colour wm_X12_120 (zrecv hs hP ha0 (zF_11 hk0) rfl) ⟨by decide, by decide⟩ hl.1 (Nat.le_of_ble_eq_true rfl) dX12_wins_35) (fun x_106 p_106 => ?_)
    have pp_106 : x_106 = mcol (A_91 40) x1 (A 55 0) := p_106
    have ev_107 : A_91 40 = A 40 := by rw [hA_91 40 (by decide)]
    rw [ev_107] at pp_106
    have pq_106 := congrArg Int32.toInt pp_106
    refine lv_istore_n (lv' := [(3, .int x_106), (2, .int (A 40 (x1.toInt + 3).toNat)), (0, .ref a0), (1, .int x1)]) hx hb dX12_wins_38 rfl hl (by decide) rfl (fun ls hl => ?_)
    refine lv_iload_n hx hb dX12_wins_39 rfl (lv_at hl 1 rfl) ?_
    refine lv_iconst (v := 2) hx hb dX12_wins_40 (by decide) ?_
    refine bi_ne (tgt := 67) hx hb rfl ti_2 dX12_wins_41 (by decide) (fun c_108 => ?_) (fun c_108 => ?_)
    · skip
      refine lv_iload_n hx hb dX12_wins_67 rfl (lv_at hl 1 rfl) ?_
      refine lv_iconst (v := 3) hx hb dX12_wins_68 (by decide) ?_
      refine bi_ne (tgt := 141) hx hb rfl ti_3 dX12_wins_69 (by decide) (fun c_109 => ?_) (fun c_109 => ?_)
      · skip
        refine lv_aload_n hx hb dX12_wins_141 rfl (lv_at hl 2 rfl) ?_
        refine lv_iload_n hx hb dX12_wins_142 rfl (lv_at hl 3 rfl) ?_
        have ev_111 : f_91 16 = f 16 := by rw [hF_91 16 (by decide)]
        have hq_110 : 1 ≤ (f_91 16).toInt := by rw [ev_111] <;> (first | assumption | omega | (intros; omega))
        have hq_112 : (f_91 11).toInt ≤ 1990000000 := by (first | assumption | omega | (intros; omega))
        refine mcI (zrV (As := [.int x1]) (b := a0) (rest := []) C hs hP hS (c_X12_winsPlainly l D K hM f_91 A_91 hT a0 ha0 hk0 x1 hp0 hq_110 hq_112) m_X12_winsPlainly wm_X12_139 (zrecv hs hP ha0 (zF_11 hk0) rfl) ⟨by decide, by decide⟩ hl.1 (Nat.le_of_ble_eq_true rfl) dX12_wins_143) hS (fun x_113 f_113 A_113 H locs p_113 hP hS => ?_)
        obtain ⟨hT, hA_113, hF_113, pp_113⟩ := p_113
        have pp_113 : (f_91 11).toInt ≤ (f_113 11).toInt ∧ (f_113 11).toInt ≤ (f_91 11).toInt + 1 ∧ ((f_91 12).toInt ≠ 0 → (f_113 11).toInt = (f_91 11).toInt) ∧ 0 ≤ x_113.toInt ∧ x_113.toInt < (f_91 16).toInt := pp_113
        have ev_114 : f_91 12 = f 12 := by rw [hF_91 12 (by decide)]
        have ev_115 : f_91 16 = f 16 := by rw [hF_91 16 (by decide)]
        rw [ev_114, ev_115] at pp_113
        have FA := frA FA hA_113 (by decide)
        have FF := frF FF hF_113 (by decide)
        have g_116 := z_rng x_113
        exact maI hQ hx hb hr hlk hP hS ⟨hT, FA, FF, (by (try dsimp only); (first | omega | (intro h9; omega) | (simp; done) | (refine ⟨?_, ?_⟩ <;> intros <;> first | trivial | omega) | (refine ⟨?_, ?_, ?_⟩ <;> intros <;> first | trivial | omega)))⟩ dX12_wins_146
      · skip
        refine lv_aload_n hx hb dX12_wins_72 rfl (lv_at hl 2 rfl) ?_
        refine lv_bipush (v := 33) hx hb dX12_wins_73 (by decide) ?_
        have hq_117 : (f_91 11).toInt ≤ 2000000000 := by ((try simp only [ti_33]); first | assumption | omega | (intros; omega))
        refine mcV (zrV (As := [.int 33]) (b := a0) (rest := []) C hs hP hS (c_X12_body l D K hM f_91 A_91 hT a0 ha0 hk0 33 hq_117) m_X12_body wm_X12_124 (zrecv hs hP ha0 (zF_11 hk0) rfl) ⟨by decide, by decide⟩ hl.1 (Nat.le_of_ble_eq_true rfl) dX12_wins_75) hS (fun f_118 A_118 H locs p_118 hP hS => ?_)
        obtain ⟨hT, hA_118, hF_118, pp_118⟩ := p_118
        have pp_118 : (f_91 11).toInt ≤ (f_118 11).toInt ∧ (f_118 11).toInt ≤ (f_91 11).toInt + 1 ∧ ((f_91 12).toInt ≠ 0 → (f_118 11).toInt = (f_91 11).toInt) := pp_118
        have ev_119 : f_91 12 = f 12 := by rw [hF_91 12 (by decide)]
        rw [ev_119] at pp_118
        try simp only [ti_33] at pp_118
        have FA := frA FA hA_118 (by decide)
        have FF := frF FF hF_118 (by decide)
        refine lv_aload_n hx hb dX12_wins_78 rfl (lv_at hl 2 rfl) ?_
        refine mg_0 C hs hP ha0 hk0 wf_X12_8 dX12_wins_79 ?_
        refine lv_iload_n hx hb dX12_wins_82 rfl (lv_at hl 3 rfl) ?_
        refine lv_bipush (v := 11) hx hb dX12_wins_83 (by decide) ?_
        refine lv_iadd hx hb dX12_wins_85 ?_
        refine lv_topi (fun x_120 ex_120 => ?_)
        have hi_hr_121 : zEq x_120.toInt (x1.toInt + 11) := by
          obtain ⟨f_120, l_120, u_120⟩ := z_add ex_120 rfl ti_11
          try replace f_120 : x_120.toInt = x1.toInt + 11 := by omega
          clear l_120 u_120
          show x_120.toInt = (x1.toInt + 11)
          omega
        have hl_hr_121 : (11 : Int) ≤ 11 ∧ 11 ≤ (11 : Int) := by decide
        have hid_hr_121 : (x1.toInt + 11) = x1.toInt + (11) := by simp only [Int.add_assoc, Int.add_sub_assoc]
        have hr_121 := z_cell (lo := 10) (hi := 19) hp0 hi_hr_121 hid_hr_121 hl_hr_121 (by decide)
        replace hid_hr_121 : zEq (x1.toInt + 11) (x1.toInt + (11)) := hid_hr_121
        have hin_122 : vp_in x_120 (zn K (zr K a0 0)) := vp_in_iff.mpr (by rw [(hf_1.2.2 (by decide))]; exact hr_121.in)
        refine mld_40 C hs hP hf_1.1 hf_1.2.1 hin_122 dX12_wins_86 ?_
        have ep_123 : x_120.toNatClampNeg = (x1.toInt + 11).toNat := z_posE hi_hr_121
        rw [ep_123]
        have ev_124 : A_118 40 (x1.toInt + 11).toNat = A 40 (x1.toInt + 11).toNat := by rw [hA_118 40 (by decide), hA_91 40 (by decide)]
        rw [ev_124]
        refine lv_istore (lv' := [(4, .int (A 40 (x1.toInt + 11).toNat)), (3, .int x_106), (2, .int (A 40 (x1.toInt + 3).toNat)), (0, .ref a0), (1, .int x1)]) hx hb dX12_wins_87 hl (by decide) rfl (fun ls hl => ?_)
        refine lv_aload_n hx hb dX12_wins_89 rfl (lv_at hl 3 rfl) ?_
        refine lv_iload_n hx hb dX12_wins_90 rfl (lv_at hl 4 rfl) ?_
        refine lv_iconst (v := 5) hx hb dX12_wins_91 (by decide) ?_
        refine lv_iconst (v := 5) hx hb dX12_wins_92 (by decide) ?_
        refine zcS (zrV (As := [.int x1, .int 5, .int 5]) (b := a0) (rest := []) C hs hP hS (c_X12_greatest l D K hM f_118 A_118 hT a0 ha0 hk0 x1 5 5 hp0) m_X12_greatest wm_X12_135 (zrecv hs hP ha0 (zF_11 hk0) rfl) ⟨by decide, by decide⟩ hl.1 (Nat.le_of_ble_eq_true rfl) dX12_wins_93) (fun x_125 p_125 => ?_)
        have pp_125 : (x_125.toInt = -1 ∨ 0 ≤ x_125.toInt ∧ x_125.toInt < (f_118 16).toInt) ∧ (1 ≤ (f_118 16).toInt → (mcol (A_118 40) x1 (A_118 55 0)).toInt = (5 : Int32).toInt → x_125.toInt ≠ -1) := p_125
        have ev_126 : f_118 16 = f 16 := by rw [hF_118 16 (by decide), hF_91 16 (by decide)]
        have ev_127 : A_118 40 = A 40 := by rw [hA_118 40 (by decide), hA_91 40 (by decide)]
        have ev_128 : A_118 55 = A 55 := by rw [hA_118 55 (by decide), hA_91 55 (by decide)]
        rw [ev_126, ev_127, ev_128] at pp_125
        try simp only [ti_5] at pp_125
        refine lv_iconst (v := (-1)) hx hb dX12_wins_96 (by decide) ?_
        refine bi_eq (tgt := 104) hx hb rfl ti_m1 dX12_wins_97 (by decide) (fun c_129 => ?_) (fun c_129 => ?_)
        · skip
          refine lv_iconst (v := 0) hx hb dX12_wins_104 (by decide) ?_
          refine lv_istore (lv' := [(5, .int 0), (4, .int (A 40 (x1.toInt + 11).toNat)), (3, .int x_106), (2, .int (A 40 (x1.toInt + 3).toNat)), (0, .ref a0), (1, .int x1)]) hx hb dX12_wins_105 hl (by decide) rfl (fun ls hl => ?_)
          refine lv_iload hx hb dX12_wins_107 (lv_at hl 1 rfl) ?_
          refine lv_iconst (v := (-1)) hx hb dX12_wins_109 (by decide) ?_
          refine bi_eq (tgt := 118) hx hb rfl ti_m1 dX12_wins_110 (by decide) (fun c_130 => ?_) (fun c_130 => ?_)
          · skip
            refine lv_iconst (v := (-1)) hx hb dX12_wins_118 (by decide) ?_
            refine lv_goto (tgt := 130) hx hb dX12_wins_119 (by decide) ?_
            refine lv_istore (lv' := [(6, .int (-1)), (5, .int 0), (4, .int (A 40 (x1.toInt + 11).toNat)), (3, .int x_106), (2, .int (A 40 (x1.toInt + 3).toNat)), (0, .ref a0), (1, .int x1)]) hx hb dX12_wins_130 hl (by decide) rfl (fun ls hl => ?_)
            refine lv_iload hx hb dX12_wins_132 (lv_at hl 0 rfl) ?_
            refine lv_iconst (v := (-1)) hx hb dX12_wins_134 (by decide) ?_
            refine bi_eq (tgt := 141) hx hb ti_m1 ti_m1 dX12_wins_135 (by decide) (fun c_131 => ?_) (fun c_131 => ?_)
            · clear c_131
              refine lv_aload_n hx hb dX12_wins_141 rfl (lv_at hl 5 rfl) ?_
              refine lv_iload_n hx hb dX12_wins_142 rfl (lv_at hl 6 rfl) ?_
              have ev_133 : f_118 16 = f 16 := by rw [hF_118 16 (by decide), hF_91 16 (by decide)]
              have hq_132 : 1 ≤ (f_118 16).toInt := by rw [ev_133] <;> (first | assumption | omega | (intros; omega))
              have hq_134 : (f_118 11).toInt ≤ 1990000000 := by (first | assumption | omega | (intros; omega))
              refine mcI (zrV (As := [.int x1]) (b := a0) (rest := []) C hs hP hS (c_X12_winsPlainly l D K hM f_118 A_118 hT a0 ha0 hk0 x1 hp0 hq_132 hq_134) m_X12_winsPlainly wm_X12_139 (zrecv hs hP ha0 (zF_11 hk0) rfl) ⟨by decide, by decide⟩ hl.1 (Nat.le_of_ble_eq_true rfl) dX12_wins_143) hS (fun x_135 f_135 A_135 H locs p_135 hP hS => ?_)
              obtain ⟨hT, hA_135, hF_135, pp_135⟩ := p_135
              have pp_135 : (f_118 11).toInt ≤ (f_135 11).toInt ∧ (f_135 11).toInt ≤ (f_118 11).toInt + 1 ∧ ((f_118 12).toInt ≠ 0 → (f_135 11).toInt = (f_118 11).toInt) ∧ 0 ≤ x_135.toInt ∧ x_135.toInt < (f_118 16).toInt := pp_135
              have ev_136 : f_118 12 = f 12 := by rw [hF_118 12 (by decide), hF_91 12 (by decide)]
              have ev_137 : f_118 16 = f 16 := by rw [hF_118 16 (by decide), hF_91 16 (by decide)]
              rw [ev_136, ev_137] at pp_135
              have FA := frA FA hA_135 (by decide)
              have FF := frF FF hF_135 (by decide)
              have g_138 := z_rng x_135
              exact maI hQ hx hb hr hlk hP hS ⟨hT, FA, FF, (by (try dsimp only); (first | omega | (intro h9; omega) | (simp; done) | (refine ⟨?_, ?_⟩ <;> intros <;> first | trivial | omega) | (refine ⟨?_, ?_, ?_⟩ <;> intros <;> first | trivial | omega)))⟩ dX12_wins_146
            · exact absurd c_131 (by decide)
          · skip
            refine lv_iload hx hb dX12_wins_113 (lv_at hl 0 rfl) ?_
            refine bz_eq (tgt := 122) hx hb ti_0 dX12_wins_115 (by decide) (fun c_139 => ?_) (fun c_139 => ?_)
            · clear c_139
              refine lv_aload_n hx hb dX12_wins_122 rfl (lv_at hl 4 rfl) ?_
              refine lv_iload_n hx hb dX12_wins_123 rfl (lv_at hl 5 rfl) ?_
              refine lv_iconst (v := 4) hx hb dX12_wins_124 (by decide) ?_
              refine lv_iload hx hb dX12_wins_125 (lv_at hl 1 rfl) ?_
              refine zcS (zrV (As := [.int x1, .int 4, .int (A 40 (x1.toInt + 11).toNat)]) (b := a0) (rest := []) C hs hP hS (c_X12_greatest l D K hM f_118 A_118 hT a0 ha0 hk0 x1 4 (A 40 (x1.toInt + 11).toNat) hp0) m_X12_greatest wm_X12_135 (zrecv hs hP ha0 (zF_11 hk0) rfl) ⟨by decide, by decide⟩ hl.1 (Nat.le_of_ble_eq_true rfl) dX12_wins_127) (fun x_140 p_140 => ?_)
              have pp_140 : (x_140.toInt = -1 ∨ 0 ≤ x_140.toInt ∧ x_140.toInt < (f_118 16).toInt) ∧ (1 ≤ (f_118 16).toInt → (mcol (A_118 40) x1 (A_118 55 0)).toInt = (4 : Int32).toInt → x_140.toInt ≠ -1) := p_140
              have ev_141 : f_118 16 = f 16 := by rw [hF_118 16 (by decide), hF_91 16 (by decide)]
              have ev_142 : A_118 40 = A 40 := by rw [hA_118 40 (by decide), hA_91 40 (by decide)]
              have ev_143 : A_118 55 = A 55 := by rw [hA_118 55 (by decide), hA_91 55 (by decide)]
              rw [ev_141, ev_142, ev_143] at pp_140
              try simp only [ti_4] at pp_140
              have g_144 := z_rng (A 40 (x1.toInt + 11).toNat)
              refine lv_istore (lv' := [(6, .int x_140), (5, .int 0), (4, .int (A 40 (x1.toInt + 11).toNat)), (3, .int x_106), (2, .int (A 40 (x1.toInt + 3).toNat)), (0, .ref a0), (1, .int x1)]) hx hb dX12_wins_130 hl (by decide) rfl (fun ls hl => ?_)
              refine lv_iload hx hb dX12_wins_132 (lv_at hl 0 rfl) ?_
              refine lv_iconst (v := (-1)) hx hb dX12_wins_134 (by decide) ?_
              refine bi_eq (tgt := 141) hx hb rfl ti_m1 dX12_wins_135 (by decide) (fun c_145 => ?_) (fun c_145 => ?_)
              · skip
                refine lv_aload_n hx hb dX12_wins_141 rfl (lv_at hl 5 rfl) ?_
                refine lv_iload_n hx hb dX12_wins_142 rfl (lv_at hl 6 rfl) ?_
                have ev_147 : f_118 16 = f 16 := by rw [hF_118 16 (by decide), hF_91 16 (by decide)]
                have hq_146 : 1 ≤ (f_118 16).toInt := by rw [ev_147] <;> (first | assumption | omega | (intros; omega))
                have hq_148 : (f_118 11).toInt ≤ 1990000000 := by (first | assumption | omega | (intros; omega))
                refine mcI (zrV (As := [.int x1]) (b := a0) (rest := []) C hs hP hS (c_X12_winsPlainly l D K hM f_118 A_118 hT a0 ha0 hk0 x1 hp0 hq_146 hq_148) m_X12_winsPlainly wm_X12_139 (zrecv hs hP ha0 (zF_11 hk0) rfl) ⟨by decide, by decide⟩ hl.1 (Nat.le_of_ble_eq_true rfl) dX12_wins_143) hS (fun x_149 f_149 A_149 H locs p_149 hP hS => ?_)
                obtain ⟨hT, hA_149, hF_149, pp_149⟩ := p_149
                have pp_149 : (f_118 11).toInt ≤ (f_149 11).toInt ∧ (f_149 11).toInt ≤ (f_118 11).toInt + 1 ∧ ((f_118 12).toInt ≠ 0 → (f_149 11).toInt = (f_118 11).toInt) ∧ 0 ≤ x_149.toInt ∧ x_149.toInt < (f_118 16).toInt := pp_149
                have ev_150 : f_118 12 = f 12 := by rw [hF_118 12 (by decide), hF_91 12 (by decide)]
                have ev_151 : f_118 16 = f 16 := by rw [hF_118 16 (by decide), hF_91 16 (by decide)]
                rw [ev_150, ev_151] at pp_149
                have FA := frA FA hA_149 (by decide)
                have FF := frF FF hF_149 (by decide)
                have g_152 := z_rng x_149
                exact maI hQ hx hb hr hlk hP hS ⟨hT, FA, FF, (by (try dsimp only); (first | omega | (intro h9; omega) | (simp; done) | (refine ⟨?_, ?_⟩ <;> intros <;> first | trivial | omega) | (refine ⟨?_, ?_, ?_⟩ <;> intros <;> first | trivial | omega)))⟩ dX12_wins_146
              · skip
                refine lv_iload hx hb dX12_wins_138 (lv_at hl 0 rfl) ?_
                have g_153 := z_rng x_140
                exact maI hQ hx hb hr hlk hP hS ⟨hT, FA, FF, (by (try dsimp only); (first | omega | (intro h9; omega) | (simp; done) | (refine ⟨?_, ?_⟩ <;> intros <;> first | trivial | omega) | (refine ⟨?_, ?_, ?_⟩ <;> intros <;> first | trivial | omega)))⟩ dX12_wins_140
            · exact absurd c_139 (by decide)
        · skip
          refine lv_iconst (v := 1) hx hb dX12_wins_100 (by decide) ?_
          refine lv_goto (tgt := 105) hx hb dX12_wins_101 (by decide) ?_
          refine lv_istore (lv' := [(5, .int 1), (4, .int (A 40 (x1.toInt + 11).toNat)), (3, .int x_106), (2, .int (A 40 (x1.toInt + 3).toNat)), (0, .ref a0), (1, .int x1)]) hx hb dX12_wins_105 hl (by decide) rfl (fun ls hl => ?_)
          refine lv_iload hx hb dX12_wins_107 (lv_at hl 1 rfl) ?_
          refine lv_iconst (v := (-1)) hx hb dX12_wins_109 (by decide) ?_
          refine bi_eq (tgt := 118) hx hb rfl ti_m1 dX12_wins_110 (by decide) (fun c_154 => ?_) (fun c_154 => ?_)
          · skip
            refine lv_iconst (v := (-1)) hx hb dX12_wins_118 (by decide) ?_
            refine lv_goto (tgt := 130) hx hb dX12_wins_119 (by decide) ?_
            refine lv_istore (lv' := [(6, .int (-1)), (5, .int 1), (4, .int (A 40 (x1.toInt + 11).toNat)), (3, .int x_106), (2, .int (A 40 (x1.toInt + 3).toNat)), (0, .ref a0), (1, .int x1)]) hx hb dX12_wins_130 hl (by decide) rfl (fun ls hl => ?_)
            refine lv_iload hx hb dX12_wins_132 (lv_at hl 0 rfl) ?_
            refine lv_iconst (v := (-1)) hx hb dX12_wins_134 (by decide) ?_
            refine bi_eq (tgt := 141) hx hb ti_m1 ti_m1 dX12_wins_135 (by decide) (fun c_155 => ?_) (fun c_155 => ?_)
            · clear c_155
              refine lv_aload_n hx hb dX12_wins_141 rfl (lv_at hl 5 rfl) ?_
              refine lv_iload_n hx hb dX12_wins_142 rfl (lv_at hl 6 rfl) ?_
              have ev_157 : f_118 16 = f 16 := by rw [hF_118 16 (by decide), hF_91 16 (by decide)]
              have hq_156 : 1 ≤ (f_118 16).toInt := by rw [ev_157] <;> (first | assumption | omega | (intros; omega))
              have hq_158 : (f_118 11).toInt ≤ 1990000000 := by (first | assumption | omega | (intros; omega))
              refine mcI (zrV (As := [.int x1]) (b := a0) (rest := []) C hs hP hS (c_X12_winsPlainly l D K hM f_118 A_118 hT a0 ha0 hk0 x1 hp0 hq_156 hq_158) m_X12_winsPlainly wm_X12_139 (zrecv hs hP ha0 (zF_11 hk0) rfl) ⟨by decide, by decide⟩ hl.1 (Nat.le_of_ble_eq_true rfl) dX12_wins_143) hS (fun x_159 f_159 A_159 H locs p_159 hP hS => ?_)
              obtain ⟨hT, hA_159, hF_159, pp_159⟩ := p_159
              have pp_159 : (f_118 11).toInt ≤ (f_159 11).toInt ∧ (f_159 11).toInt ≤ (f_118 11).toInt + 1 ∧ ((f_118 12).toInt ≠ 0 → (f_159 11).toInt = (f_118 11).toInt) ∧ 0 ≤ x_159.toInt ∧ x_159.toInt < (f_118 16).toInt := pp_159
              have ev_160 : f_118 12 = f 12 := by rw [hF_118 12 (by decide), hF_91 12 (by decide)]
              have ev_161 : f_118 16 = f 16 := by rw [hF_118 16 (by decide), hF_91 16 (by decide)]
              rw [ev_160, ev_161] at pp_159
              have FA := frA FA hA_159 (by decide)
              have FF := frF FF hF_159 (by decide)
              have g_162 := z_rng x_159
              exact maI hQ hx hb hr hlk hP hS ⟨hT, FA, FF, (by (try dsimp only); (first | omega | (intro h9; omega) | (simp; done) | (refine ⟨?_, ?_⟩ <;> intros <;> first | trivial | omega) | (refine ⟨?_, ?_, ?_⟩ <;> intros <;> first | trivial | omega)))⟩ dX12_wins_146
            · exact absurd c_155 (by decide)
          · skip
            refine lv_iload hx hb dX12_wins_113 (lv_at hl 0 rfl) ?_
            refine bz_eq (tgt := 122) hx hb ti_1 dX12_wins_115 (by decide) (fun c_163 => ?_) (fun c_163 => ?_)
            · exact absurd c_163 (by decide)
            · clear c_163
              refine lv_iconst (v := (-1)) hx hb dX12_wins_118 (by decide) ?_
              refine lv_goto (tgt := 130) hx hb dX12_wins_119 (by decide) ?_
              refine lv_istore (lv' := [(6, .int (-1)), (5, .int 1), (4, .int (A 40 (x1.toInt + 11).toNat)), (3, .int x_106), (2, .int (A 40 (x1.toInt + 3).toNat)), (0, .ref a0), (1, .int x1)]) hx hb dX12_wins_130 hl (by decide) rfl (fun ls hl => ?_)
              refine lv_iload hx hb dX12_wins_132 (lv_at hl 0 rfl) ?_
              refine lv_iconst (v := (-1)) hx hb dX12_wins_134 (by decide) ?_
              refine bi_eq (tgt := 141) hx hb ti_m1 ti_m1 dX12_wins_135 (by decide) (fun c_164 => ?_) (fun c_164 => ?_)
              · clear c_164
                refine lv_aload_n hx hb dX12_wins_141 rfl (lv_at hl 5 rfl) ?_
                refine lv_iload_n hx hb dX12_wins_142 rfl (lv_at hl 6 rfl) ?_
                have ev_166 : f_118 16 = f 16 := by rw [hF_118 16 (by decide), hF_91 16 (by decide)]
                have hq_165 : 1 ≤ (f_118 16).toInt := by rw [ev_166] <;> (first | assumption | omega | (intros; omega))
                have hq_167 : (f_118 11).toInt ≤ 1990000000 := by (first | assumption | omega | (intros; omega))
                refine mcI (zrV (As := [.int x1]) (b := a0) (rest := []) C hs hP hS (c_X12_winsPlainly l D K hM f_118 A_118 hT a0 ha0 hk0 x1 hp0 hq_165 hq_167) m_X12_winsPlainly wm_X12_139 (zrecv hs hP ha0 (zF_11 hk0) rfl) ⟨by decide, by decide⟩ hl.1 (Nat.le_of_ble_eq_true rfl) dX12_wins_143) hS (fun x_168 f_168 A_168 H locs p_168 hP hS => ?_)
                obtain ⟨hT, hA_168, hF_168, pp_168⟩ := p_168
                have pp_168 : (f_118 11).toInt ≤ (f_168 11).toInt ∧ (f_168 11).toInt ≤ (f_118 11).toInt + 1 ∧ ((f_118 12).toInt ≠ 0 → (f_168 11).toInt = (f_118 11).toInt) ∧ 0 ≤ x_168.toInt ∧ x_168.toInt < (f_118 16).toInt := pp_168
                have ev_169 : f_118 12 = f 12 := by rw [hF_118 12 (by decide), hF_91 12 (by decide)]
                have ev_170 : f_118 16 = f 16 := by rw [hF_118 16 (by decide), hF_91 16 (by decide)]
                rw [ev_169, ev_170] at pp_168
                have FA := frA FA hA_168 (by decide)
                have FF := frF FF hF_168 (by decide)
                have g_171 := z_rng x_168
                exact maI hQ hx hb hr hlk hP hS ⟨hT, FA, FF, (by (try dsimp only); (first | omega | (intro h9; omega) | (simp; done) | (refine ⟨?_, ?_⟩ <;> intros <;> first | trivial | omega) | (refine ⟨?_, ?_, ?_⟩ <;> intros <;> first | trivial | omega)))⟩ dX12_wins_146
              · exact absurd c_164 (by decide)
    · skip
      refine lv_aload_n hx hb dX12_wins_44 rfl (lv_at hl 2 rfl) ?_
      refine lv_bipush (v := 32) hx hb dX12_wins_45 (by decide) ?_
      have hq_172 : (f_91 11).toInt ≤ 2000000000 := by ((try simp only [ti_32]); first | assumption | omega | (intros; omega))
      refine mcV (zrV (As := [.int 32]) (b := a0) (rest := []) C hs hP hS (c_X12_body l D K hM f_91 A_91 hT a0 ha0 hk0 32 hq_172) m_X12_body wm_X12_124 (zrecv hs hP ha0 (zF_11 hk0) rfl) ⟨by decide, by decide⟩ hl.1 (Nat.le_of_ble_eq_true rfl) dX12_wins_47) hS (fun f_173 A_173 H locs p_173 hP hS => ?_)
      obtain ⟨hT, hA_173, hF_173, pp_173⟩ := p_173
      have pp_173 : (f_91 11).toInt ≤ (f_173 11).toInt ∧ (f_173 11).toInt ≤ (f_91 11).toInt + 1 ∧ ((f_91 12).toInt ≠ 0 → (f_173 11).toInt = (f_91 11).toInt) := pp_173
      have ev_174 : f_91 12 = f 12 := by rw [hF_91 12 (by decide)]
      rw [ev_174] at pp_173
      try simp only [ti_32] at pp_173
      have FA := frA FA hA_173 (by decide)
      have FF := frF FF hF_173 (by decide)
      refine lv_iload_n hx hb dX12_wins_50 rfl (lv_at hl 0 rfl) ?_
      refine lv_iconst (v := 5) hx hb dX12_wins_51 (by decide) ?_
      refine bi_ne (tgt := 59) hx hb rfl ti_5 dX12_wins_52 (by decide) (fun c_175 => ?_) (fun c_175 => ?_)
      · skip
        refine lv_aload_n hx hb dX12_wins_59 rfl (lv_at hl 2 rfl) ?_
        refine lv_iload_n hx hb dX12_wins_60 rfl (lv_at hl 3 rfl) ?_
        refine lv_iload_n hx hb dX12_wins_61 rfl (lv_at hl 0 rfl) ?_
        refine lv_iload_n hx hb dX12_wins_62 rfl (lv_at hl 0 rfl) ?_
        refine zcS (zrV (As := [.int x1, .int x_106, .int x_106]) (b := a0) (rest := []) C hs hP hS (c_X12_greatest l D K hM f_173 A_173 hT a0 ha0 hk0 x1 x_106 x_106 hp0) m_X12_greatest wm_X12_135 (zrecv hs hP ha0 (zF_11 hk0) rfl) ⟨by decide, by decide⟩ hl.1 (Nat.le_of_ble_eq_true rfl) dX12_wins_63) (fun x_176 p_176 => ?_)
        have pp_176 : (x_176.toInt = -1 ∨ 0 ≤ x_176.toInt ∧ x_176.toInt < (f_173 16).toInt) ∧ (1 ≤ (f_173 16).toInt → (mcol (A_173 40) x1 (A_173 55 0)).toInt = x_106.toInt → x_176.toInt ≠ -1) := p_176
        have ev_177 : f_173 16 = f 16 := by rw [hF_173 16 (by decide), hF_91 16 (by decide)]
        have ev_178 : A_173 40 = A 40 := by rw [hA_173 40 (by decide), hA_91 40 (by decide)]
        have ev_179 : A_173 55 = A 55 := by rw [hA_173 55 (by decide), hA_91 55 (by decide)]
        rw [ev_177, ev_178, ev_179] at pp_176
        have g_180 := z_rng x_106
        have g_181 := z_rng x_176
        exact maI hQ hx hb hr hlk hP hS ⟨hT, FA, FF, (by (try dsimp only); (first | omega | (intro h9; omega) | (simp; done) | (refine ⟨?_, ?_⟩ <;> intros <;> first | trivial | omega) | (refine ⟨?_, ?_, ?_⟩ <;> intros <;> first | trivial | omega)))⟩ dX12_wins_66
      · skip
        refine lv_iconst (v := 0) hx hb dX12_wins_55 (by decide) ?_
        refine lv_goto (tgt := 66) hx hb dX12_wins_56 (by decide) ?_
        exact maI hQ hx hb hr hlk hP hS ⟨hT, FA, FF, (by (try dsimp only); (try simp only [ti_0]); (first | omega | (intro h9; omega) | (simp; done) | (refine ⟨?_, ?_⟩ <;> intros <;> first | trivial | omega) | (refine ⟨?_, ?_, ?_⟩ <;> intros <;> first | trivial | omega)))⟩ dX12_wins_66
